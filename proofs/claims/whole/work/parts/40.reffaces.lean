/-! the reference: next, last, later, is, end, holiday, feed -/
theorem zd_Q_end_0 : decode zc_Q_end 0 = .ok (.aload_n 0, 1) := by decide +kernel
theorem zd_Q_end_1 : decode zc_Q_end 1 = .ok (.iconst 0, 1) := by decide +kernel
theorem zd_Q_end_2 : decode zc_Q_end 2 = .ok (.putfield 93, 3) := by decide +kernel
theorem zd_Q_end_5 : decode zc_Q_end 5 = .ok (.iload_n 1, 1) := by decide +kernel
theorem zd_Q_end_6 : decode zc_Q_end 6 = .ok (.ifCond .lt 11, 3) := by decide +kernel
theorem zd_Q_end_9 : decode zc_Q_end 9 = .ok (.iload_n 1, 1) := by decide +kernel
theorem zd_Q_end_10 : decode zc_Q_end 10 = .ok (.aload_n 0, 1) := by decide +kernel
theorem zd_Q_end_11 : decode zc_Q_end 11 = .ok (.getfield 130, 3) := by decide +kernel
theorem zd_Q_end_14 : decode zc_Q_end 14 = .ok (.if_icmp .le 9, 3) := by decide +kernel
theorem zd_Q_end_17 : decode zc_Q_end 17 = .ok (.aload_n 0, 1) := by decide +kernel
theorem zd_Q_end_18 : decode zc_Q_end 18 = .ok (.iconst 1, 1) := by decide +kernel
theorem zd_Q_end_19 : decode zc_Q_end 19 = .ok (.invokevirtual 203, 3) := by decide +kernel
theorem zd_Q_end_22 : decode zc_Q_end 22 = .ok (.ireturn, 1) := by decide +kernel
theorem zd_Q_end_23 : decode zc_Q_end 23 = .ok (.aload_n 0, 1) := by decide +kernel
theorem zd_Q_end_24 : decode zc_Q_end 24 = .ok (.iload_n 1, 1) := by decide +kernel
theorem zd_Q_end_25 : decode zc_Q_end 25 = .ok (.putfield 130, 3) := by decide +kernel
theorem zd_Q_end_28 : decode zc_Q_end 28 = .ok (.iload_n 1, 1) := by decide +kernel
theorem zd_Q_end_29 : decode zc_Q_end 29 = .ok (.ireturn, 1) := by decide +kernel
theorem zd_Q_holiday_0 : decode zc_Q_holiday 0 = .ok (.aload_n 0, 1) := by decide +kernel
theorem zd_Q_holiday_1 : decode zc_Q_holiday 1 = .ok (.iconst 0, 1) := by decide +kernel
theorem zd_Q_holiday_2 : decode zc_Q_holiday 2 = .ok (.putfield 93, 3) := by decide +kernel
theorem zd_Q_holiday_5 : decode zc_Q_holiday 5 = .ok (.iload_n 1, 1) := by decide +kernel
theorem zd_Q_holiday_6 : decode zc_Q_holiday 6 = .ok (.ifCond .lt 9, 3) := by decide +kernel
theorem zd_Q_holiday_9 : decode zc_Q_holiday 9 = .ok (.iload_n 1, 1) := by decide +kernel
theorem zd_Q_holiday_10 : decode zc_Q_holiday 10 = .ok (.ldc 197, 2) := by decide +kernel
theorem zd_Q_holiday_12 : decode zc_Q_holiday 12 = .ok (.if_icmp .le 9, 3) := by decide +kernel
theorem zd_Q_holiday_15 : decode zc_Q_holiday 15 = .ok (.aload_n 0, 1) := by decide +kernel
theorem zd_Q_holiday_16 : decode zc_Q_holiday 16 = .ok (.iconst 1, 1) := by decide +kernel
theorem zd_Q_holiday_17 : decode zc_Q_holiday 17 = .ok (.invokevirtual 203, 3) := by decide +kernel
theorem zd_Q_holiday_20 : decode zc_Q_holiday 20 = .ok (.ireturn, 1) := by decide +kernel
theorem zd_Q_holiday_21 : decode zc_Q_holiday 21 = .ok (.iload_n 2, 1) := by decide +kernel
theorem zd_Q_holiday_22 : decode zc_Q_holiday 22 = .ok (.ifCond .eq 28, 3) := by decide +kernel
theorem zd_Q_holiday_25 : decode zc_Q_holiday 25 = .ok (.aload_n 0, 1) := by decide +kernel
theorem zd_Q_holiday_26 : decode zc_Q_holiday 26 = .ok (.getfield 90, 3) := by decide +kernel
theorem zd_Q_holiday_29 : decode zc_Q_holiday 29 = .ok (.iload_n 1, 1) := by decide +kernel
theorem zd_Q_holiday_30 : decode zc_Q_holiday 30 = .ok (.baload, 1) := by decide +kernel
theorem zd_Q_holiday_31 : decode zc_Q_holiday 31 = .ok (.ifCond .ne 19, 3) := by decide +kernel
theorem zd_Q_holiday_34 : decode zc_Q_holiday 34 = .ok (.aload_n 0, 1) := by decide +kernel
theorem zd_Q_holiday_35 : decode zc_Q_holiday 35 = .ok (.getfield 206, 3) := by decide +kernel
theorem zd_Q_holiday_38 : decode zc_Q_holiday 38 = .ok (.sipush 200, 3) := by decide +kernel
theorem zd_Q_holiday_41 : decode zc_Q_holiday 41 = .ok (.if_icmp .ne 9, 3) := by decide +kernel
theorem zd_Q_holiday_44 : decode zc_Q_holiday 44 = .ok (.aload_n 0, 1) := by decide +kernel
theorem zd_Q_holiday_45 : decode zc_Q_holiday 45 = .ok (.iconst 2, 1) := by decide +kernel
theorem zd_Q_holiday_46 : decode zc_Q_holiday 46 = .ok (.invokevirtual 203, 3) := by decide +kernel
theorem zd_Q_holiday_49 : decode zc_Q_holiday 49 = .ok (.ireturn, 1) := by decide +kernel
theorem zd_Q_holiday_50 : decode zc_Q_holiday 50 = .ok (.aload_n 0, 1) := by decide +kernel
theorem zd_Q_holiday_51 : decode zc_Q_holiday 51 = .ok (.getfield 90, 3) := by decide +kernel
theorem zd_Q_holiday_54 : decode zc_Q_holiday 54 = .ok (.iload_n 1, 1) := by decide +kernel
theorem zd_Q_holiday_55 : decode zc_Q_holiday 55 = .ok (.baload, 1) := by decide +kernel
theorem zd_Q_holiday_56 : decode zc_Q_holiday 56 = .ok (.iload_n 2, 1) := by decide +kernel
theorem zd_Q_holiday_57 : decode zc_Q_holiday 57 = .ok (.if_icmp .eq 21, 3) := by decide +kernel
theorem zd_Q_holiday_60 : decode zc_Q_holiday 60 = .ok (.aload_n 0, 1) := by decide +kernel
theorem zd_Q_holiday_61 : decode zc_Q_holiday 61 = .ok (.dup, 1) := by decide +kernel
theorem zd_Q_holiday_62 : decode zc_Q_holiday 62 = .ok (.getfield 206, 3) := by decide +kernel
theorem zd_Q_holiday_65 : decode zc_Q_holiday 65 = .ok (.iload_n 2, 1) := by decide +kernel
theorem zd_Q_holiday_66 : decode zc_Q_holiday 66 = .ok (.ifCond .eq 7, 3) := by decide +kernel
theorem zd_Q_holiday_69 : decode zc_Q_holiday 69 = .ok (.iconst 1, 1) := by decide +kernel
theorem zd_Q_holiday_70 : decode zc_Q_holiday 70 = .ok (.goto 4, 3) := by decide +kernel
theorem zd_Q_holiday_73 : decode zc_Q_holiday 73 = .ok (.iconst (-1), 1) := by decide +kernel
theorem zd_Q_holiday_74 : decode zc_Q_holiday 74 = .ok (.iadd, 1) := by decide +kernel
theorem zd_Q_holiday_75 : decode zc_Q_holiday 75 = .ok (.putfield 206, 3) := by decide +kernel
theorem zd_Q_holiday_78 : decode zc_Q_holiday 78 = .ok (.aload_n 0, 1) := by decide +kernel
theorem zd_Q_holiday_79 : decode zc_Q_holiday 79 = .ok (.getfield 90, 3) := by decide +kernel
theorem zd_Q_holiday_82 : decode zc_Q_holiday 82 = .ok (.iload_n 1, 1) := by decide +kernel
theorem zd_Q_holiday_83 : decode zc_Q_holiday 83 = .ok (.iload_n 2, 1) := by decide +kernel
theorem zd_Q_holiday_84 : decode zc_Q_holiday 84 = .ok (.bastore, 1) := by decide +kernel
theorem zd_Q_holiday_85 : decode zc_Q_holiday 85 = .ok (.aload_n 0, 1) := by decide +kernel
theorem zd_Q_holiday_86 : decode zc_Q_holiday 86 = .ok (.getfield 206, 3) := by decide +kernel
theorem zd_Q_holiday_89 : decode zc_Q_holiday 89 = .ok (.ireturn, 1) := by decide +kernel
theorem zd_Q_feed_0 : decode zc_Q_feed 0 = .ok (.aload_n 0, 1) := by decide +kernel
theorem zd_Q_feed_1 : decode zc_Q_feed 1 = .ok (.iconst 0, 1) := by decide +kernel
theorem zd_Q_feed_2 : decode zc_Q_feed 2 = .ok (.putfield 93, 3) := by decide +kernel
theorem zd_Q_feed_5 : decode zc_Q_feed 5 = .ok (.aload_n 0, 1) := by decide +kernel
theorem zd_Q_feed_6 : decode zc_Q_feed 6 = .ok (.getfield 130, 3) := by decide +kernel
theorem zd_Q_feed_9 : decode zc_Q_feed 9 = .ok (.bipush 20, 2) := by decide +kernel
theorem zd_Q_feed_11 : decode zc_Q_feed 11 = .ok (.iadd, 1) := by decide +kernel
theorem zd_Q_feed_12 : decode zc_Q_feed 12 = .ok (.sipush 400, 3) := by decide +kernel
theorem zd_Q_feed_15 : decode zc_Q_feed 15 = .ok (.if_icmp .le 9, 3) := by decide +kernel
theorem zd_Q_feed_18 : decode zc_Q_feed 18 = .ok (.aload_n 0, 1) := by decide +kernel
theorem zd_Q_feed_19 : decode zc_Q_feed 19 = .ok (.iconst 1, 1) := by decide +kernel
theorem zd_Q_feed_20 : decode zc_Q_feed 20 = .ok (.invokevirtual 203, 3) := by decide +kernel
theorem zd_Q_feed_23 : decode zc_Q_feed 23 = .ok (.ireturn, 1) := by decide +kernel
theorem zd_Q_feed_24 : decode zc_Q_feed 24 = .ok (.iconst 0, 1) := by decide +kernel
theorem zd_Q_feed_25 : decode zc_Q_feed 25 = .ok (.istore 6, 2) := by decide +kernel
theorem zd_Q_feed_27 : decode zc_Q_feed 27 = .ok (.iload 6, 2) := by decide +kernel
theorem zd_Q_feed_29 : decode zc_Q_feed 29 = .ok (.bipush 20, 2) := by decide +kernel
theorem zd_Q_feed_31 : decode zc_Q_feed 31 = .ok (.if_icmp .ge 90, 3) := by decide +kernel
theorem zd_Q_feed_34 : decode zc_Q_feed 34 = .ok (.iload 6, 2) := by decide +kernel
theorem zd_Q_feed_36 : decode zc_Q_feed 36 = .ok (.iconst 4, 1) := by decide +kernel
theorem zd_Q_feed_37 : decode zc_Q_feed 37 = .ok (.if_icmp .ge 7, 3) := by decide +kernel
theorem zd_Q_feed_40 : decode zc_Q_feed 40 = .ok (.iload_n 1, 1) := by decide +kernel
theorem zd_Q_feed_41 : decode zc_Q_feed 41 = .ok (.goto 39, 3) := by decide +kernel
theorem zd_Q_feed_44 : decode zc_Q_feed 44 = .ok (.iload 6, 2) := by decide +kernel
theorem zd_Q_feed_46 : decode zc_Q_feed 46 = .ok (.bipush 8, 2) := by decide +kernel
theorem zd_Q_feed_48 : decode zc_Q_feed 48 = .ok (.if_icmp .ge 7, 3) := by decide +kernel
theorem zd_Q_feed_51 : decode zc_Q_feed 51 = .ok (.iload_n 2, 1) := by decide +kernel
theorem zd_Q_feed_52 : decode zc_Q_feed 52 = .ok (.goto 28, 3) := by decide +kernel
theorem zd_Q_feed_55 : decode zc_Q_feed 55 = .ok (.iload 6, 2) := by decide +kernel
theorem zd_Q_feed_57 : decode zc_Q_feed 57 = .ok (.bipush 12, 2) := by decide +kernel
theorem zd_Q_feed_59 : decode zc_Q_feed 59 = .ok (.if_icmp .ge 7, 3) := by decide +kernel
theorem zd_Q_feed_62 : decode zc_Q_feed 62 = .ok (.iload_n 3, 1) := by decide +kernel
theorem zd_Q_feed_63 : decode zc_Q_feed 63 = .ok (.goto 17, 3) := by decide +kernel
theorem zd_Q_feed_66 : decode zc_Q_feed 66 = .ok (.iload 6, 2) := by decide +kernel
theorem zd_Q_feed_68 : decode zc_Q_feed 68 = .ok (.bipush 16, 2) := by decide +kernel
theorem zd_Q_feed_70 : decode zc_Q_feed 70 = .ok (.if_icmp .ge 8, 3) := by decide +kernel
theorem zd_Q_feed_73 : decode zc_Q_feed 73 = .ok (.iload 4, 2) := by decide +kernel
theorem zd_Q_feed_75 : decode zc_Q_feed 75 = .ok (.goto 5, 3) := by decide +kernel
theorem zd_Q_feed_78 : decode zc_Q_feed 78 = .ok (.iload 5, 2) := by decide +kernel
theorem zd_Q_feed_80 : decode zc_Q_feed 80 = .ok (.istore 7, 2) := by decide +kernel
theorem zd_Q_feed_82 : decode zc_Q_feed 82 = .ok (.aload_n 0, 1) := by decide +kernel
theorem zd_Q_feed_83 : decode zc_Q_feed 83 = .ok (.getfield 7, 3) := by decide +kernel
theorem zd_Q_feed_86 : decode zc_Q_feed 86 = .ok (.aload_n 0, 1) := by decide +kernel
theorem zd_Q_feed_87 : decode zc_Q_feed 87 = .ok (.getfield 130, 3) := by decide +kernel
theorem zd_Q_feed_90 : decode zc_Q_feed 90 = .ok (.iload 7, 2) := by decide +kernel
theorem zd_Q_feed_92 : decode zc_Q_feed 92 = .ok (.bipush 24, 2) := by decide +kernel
theorem zd_Q_feed_94 : decode zc_Q_feed 94 = .ok (.bipush 8, 2) := by decide +kernel
theorem zd_Q_feed_96 : decode zc_Q_feed 96 = .ok (.iload 6, 2) := by decide +kernel
theorem zd_Q_feed_98 : decode zc_Q_feed 98 = .ok (.iconst 4, 1) := by decide +kernel
theorem zd_Q_feed_99 : decode zc_Q_feed 99 = .ok (.irem, 1) := by decide +kernel
theorem zd_Q_feed_100 : decode zc_Q_feed 100 = .ok (.imul, 1) := by decide +kernel
theorem zd_Q_feed_101 : decode zc_Q_feed 101 = .ok (.isub, 1) := by decide +kernel
theorem zd_Q_feed_102 : decode zc_Q_feed 102 = .ok (.ishr, 1) := by decide +kernel
theorem zd_Q_feed_103 : decode zc_Q_feed 103 = .ok (.i2b, 1) := by decide +kernel
theorem zd_Q_feed_104 : decode zc_Q_feed 104 = .ok (.bastore, 1) := by decide +kernel
theorem zd_Q_feed_105 : decode zc_Q_feed 105 = .ok (.aload_n 0, 1) := by decide +kernel
theorem zd_Q_feed_106 : decode zc_Q_feed 106 = .ok (.dup, 1) := by decide +kernel
theorem zd_Q_feed_107 : decode zc_Q_feed 107 = .ok (.getfield 130, 3) := by decide +kernel
theorem zd_Q_feed_110 : decode zc_Q_feed 110 = .ok (.iconst 1, 1) := by decide +kernel
theorem zd_Q_feed_111 : decode zc_Q_feed 111 = .ok (.iadd, 1) := by decide +kernel
theorem zd_Q_feed_112 : decode zc_Q_feed 112 = .ok (.putfield 130, 3) := by decide +kernel
theorem zd_Q_feed_115 : decode zc_Q_feed 115 = .ok (.iinc 6 1, 3) := by decide +kernel
theorem zd_Q_feed_118 : decode zc_Q_feed 118 = .ok (.goto (-91), 3) := by decide +kernel
theorem zd_Q_feed_121 : decode zc_Q_feed 121 = .ok (.aload_n 0, 1) := by decide +kernel
theorem zd_Q_feed_122 : decode zc_Q_feed 122 = .ok (.getfield 130, 3) := by decide +kernel
theorem zd_Q_feed_125 : decode zc_Q_feed 125 = .ok (.ireturn, 1) := by decide +kernel
theorem qOut_f {t : Int} (h : qOut t = false) : ¬ (t < 0 ∨ 10413791999 < t) := fun q => b2f h ((qOut_i t).mpr q)
set_option maxHeartbeats 4000000 in
set_option maxRecDepth 100000 in
theorem c_Q_next_x (l : Launch) (g : zGl) (qq : Nat) (rf : Nat → Nat) (fl ln pl yy mm dd at0 wa on tw hc : Int) (tm : Int) (hi : -9223372036854775808 ≤ tm ∧ tm < 9223372036854775808) (hn : tm < 0 ∨ 10413791999 < tm) : zWi l zy_Q_next zc_Q_next 3 (some .long) ({ frames := 6, cells := 0, slots := 0, locals := 139 }) g (fun _ => zN) [.ref (qq), .long (lI (tm))] [(qq, .inr (5, [.int (iI (fl)), .ref (rf 0), .int (iI (ln)), .int (iI (pl)), .int (iI (yy)), .int (iI (mm)), .int (iI (dd)), .int (iI (at0)), .ref (rf 1), .ref (rf 2), .ref (rf 3), .ref (rf 4), .ref (rf 5), .ref (rf 6), .int (iI (wa)), .int (iI (on)), .int (iI (tw)), .ref (rf 7), .ref (rf 8), .ref (rf 9), .int (iI (hc))]))] (some (.long (lI (0)))) [(qq, .inr (5, [.int (iI (1)), .ref (rf 0), .int (iI (ln)), .int (iI (pl)), .int (iI (yy)), .int (iI (mm)), .int (iI (dd)), .int (iI (at0)), .ref (rf 1), .ref (rf 2), .ref (rf 3), .ref (rf 4), .ref (rf 5), .ref (rf 6), .int (iI (wa)), .int (iI (on)), .int (iI (tw)), .ref (rf 7), .ref (rf 8), .ref (rf 9), .int (iI (hc))]))] 0 0 := by
  refine zw_open (by decide +kernel) (Nat.le_of_ble_eq_true rfl) ?_
  intro p e s m below meth c ls A hx hb hml hr hlk hown hin hw hK hT hP hD hS hA hl
  have hown : s.vm.findClass "CronFinderModel" = some m.cls := hown
  have hl : lv_has ls 3 [(0, .ref (qq)), (1, .long (lI (tm)))] := hl
  refine lv_aload_n hx hb zd_Q_next_0 rfl (lv_at hl 0 rfl) ?_
  refine zi_iconst hx hb zd_Q_next_1 ?_
  refine va_put (D := g.1) (ci := 5) (v := .int (iI (0))) (ty := .int) (C := zR_Q) (T := zT_Q) (N := 21) hx hb hw zin_Q zt_Q zto_Q zn_Q hown hK hP hD hS 0 rfl rfl 0 (by decide) (hw _ zw_3_198) (fun _ h9 => h9) rfl  (by decide +kernel) rfl rfl (Nat.le_of_ble_eq_true rfl) zd_Q_next_2 (fun H locs hP hD hS => ?_)
  have hP : va_P g.1 zCl [(qq, .inr (5, [.int (iI (0)), .ref (rf 0), .int (iI (ln)), .int (iI (pl)), .int (iI (yy)), .int (iI (mm)), .int (iI (dd)), .int (iI (at0)), .ref (rf 1), .ref (rf 2), .ref (rf 3), .ref (rf 4), .ref (rf 5), .ref (rf 6), .int (iI (wa)), .int (iI (on)), .int (iI (tw)), .ref (rf 7), .ref (rf 8), .ref (rf 9), .int (iI (hc))]))] H := hP
  have hD : va_D A [(qq, .inr (5, [.int (iI (0)), .ref (rf 0), .int (iI (ln)), .int (iI (pl)), .int (iI (yy)), .int (iI (mm)), .int (iI (dd)), .int (iI (at0)), .ref (rf 1), .ref (rf 2), .ref (rf 3), .ref (rf 4), .ref (rf 5), .ref (rf 6), .int (iI (wa)), .int (iI (on)), .int (iI (tw)), .ref (rf 7), .ref (rf 8), .ref (rf 9), .int (iI (hc))]))] := hD
  refine lv_aload_n hx hb zd_Q_next_5 rfl (lv_at hl 0 rfl) ?_
  refine lv_lload_n hx hb zd_Q_next_6 rfl (lv_at hl 1 rfl) ?_
  refine zk_V (As := [.long (lI (tm))]) (b := qq) (own := "CronFinderModel") (nL := 3) (rest := []) hx hb hml hown hw (c_Q_out l g qq (tm) (by omega)) zw_4_104 zw_4_106 zw_0_38 zw_1_7 zw_4_107 (np := 1) (by decide +kernel) rfl (by decide) zN_mv hK trivial (hP.sub (ws' := []) [] rfl) (va_recv hK hP (ci := 5) (q0 := 0) rfl rfl) hl.1 rfl (Nat.le_of_ble_eq_true rfl) (by decide) zd_Q_next_7 ?_
  refine zb_if_eq (tgt := 22) hx hb zd_Q_next_10 (by decide) (fun c10 => ?_) (fun c10 => ?_)
  · exact absurd ((qOut_i _).mpr hn) (by rw [c10]; decide)
  · refine lv_aload_n hx hb zd_Q_next_13 rfl (lv_at hl 0 rfl) ?_
    refine zi_iconst hx hb zd_Q_next_14 ?_
    refine zk_W (As := [.int (iI (1))]) (b := qq) (own := "CronFinderModel") (nL := 3) (rest := []) hx hb hml hown hw (c_Q_fail l g qq rf (0) (ln) (pl) (yy) (mm) (dd) (at0) (wa) (on) (tw) (hc) (1)) zw_4_96 zw_4_98 zw_0_37 zw_1_7 zw_4_99 (np := 1) (by decide +kernel) rfl (by decide) (fun _ => zN_mv) hK trivial hP hD hS hA [0] rfl (by decide) rfl (va_recv hK hP (ci := 5) (q0 := 0) rfl rfl) hl.1 rfl (Nat.le_of_ble_eq_true rfl) (by decide) zd_Q_next_15 (fun H locs hP hD hS => ?_)
    have hP : va_P g.1 zCl [(qq, .inr (5, [.int (iI (1)), .ref (rf 0), .int (iI (ln)), .int (iI (pl)), .int (iI (yy)), .int (iI (mm)), .int (iI (dd)), .int (iI (at0)), .ref (rf 1), .ref (rf 2), .ref (rf 3), .ref (rf 4), .ref (rf 5), .ref (rf 6), .int (iI (wa)), .int (iI (on)), .int (iI (tw)), .ref (rf 7), .ref (rf 8), .ref (rf 9), .int (iI (hc))]))] H := hP
    have hD : va_D A [(qq, .inr (5, [.int (iI (1)), .ref (rf 0), .int (iI (ln)), .int (iI (pl)), .int (iI (yy)), .int (iI (mm)), .int (iI (dd)), .int (iI (at0)), .ref (rf 1), .ref (rf 2), .ref (rf 3), .ref (rf 4), .ref (rf 5), .ref (rf 6), .int (iI (wa)), .int (iI (on)), .int (iI (tw)), .ref (rf 7), .ref (rf 8), .ref (rf 9), .int (iI (hc))]))] := hD
    refine zi_i2l hx hb zd_Q_next_18 (by omega) ?_
    refine lv_goto (tgt := 27) hx hb zd_Q_next_19 (by decide) ?_
    exact zw_lret hx hb hr hlk (ws := [(qq, .inr (5, [.int (iI (1)), .ref (rf 0), .int (iI (ln)), .int (iI (pl)), .int (iI (yy)), .int (iI (mm)), .int (iI (dd)), .int (iI (at0)), .ref (rf 1), .ref (rf 2), .ref (rf 3), .ref (rf 4), .ref (rf 5), .ref (rf 6), .int (iI (wa)), .int (iI (on)), .int (iI (tw)), .ref (rf 7), .ref (rf 8), .ref (rf 9), .int (iI (hc))]))]) hP hS zd_Q_next_27
set_option maxHeartbeats 4000000 in
set_option maxRecDepth 100000 in
theorem c_Q_next (l : Launch) (g : zGl) (hl0 : l.stackTraces = false) (qq : Nat) (rf : Nat → Nat) (fl ln pl yy mm dd at0 wa on tw hc : Int) (sa sr : Nat → Nat) (st : Nat → Nat → Bool) (fa wya sea : Nat → Nat) (fi wf sf : Nat → Int) (hdf : Nat → Bool) (to : Nat → Bool) (tm rr : Int) (hx0 : 0 ≤ tm ∧ tm ≤ 10413791999) (hfi : 0 ≤ fi 0 ∧ fi 0 ≤ 31) (hwf : 0 ≤ wf 0 ∧ wf 0 ≤ 4 ∧ (wf 0 = 4 → 1 ≤ fi 0)) (hf1 : 0 ≤ fi 1 ∧ fi 1 ≤ 31 ∧ 0 ≤ wf 1 ∧ wf 1 ≤ 6 ∧ 0 ≤ sf 1 ∧ sf 1 ≤ 5) (hj : tNF (qFt to st wf fi sf hdf) (sOk (st 0) (st 1) (st 2)) tm rr) (mc ms : Nat) (hmc : zHm (True) mc ms) : zEi l zy_Q_next zc_Q_next 3 (some .long) ({ frames := 6, cells := mc, slots := ms, locals := 139 }) g (fun _ => zN) [.ref (qq), .long (lI (tm))] [(qq, .inr (5, [.int (iI (fl)), .ref (rf 0), .int (iI (ln)), .int (iI (pl)), .int (iI (yy)), .int (iI (mm)), .int (iI (dd)), .int (iI (at0)), .ref (rf 1), .ref (rf 2), .ref (rf 3), .ref (rf 4), .ref (rf 5), .ref (rf 6), .int (iI (wa)), .int (iI (on)), .int (iI (tw)), .ref (rf 7), .ref (rf 8), .ref (rf 9), .int (iI (hc))])), (rf 1, .inl (g.2 6, 1, .inr (.inr (.inr (.inr (zaR sa)))))), (sa 0, .inl (g.2 5, 7, .inr (.inr (.inr (.inr (zaR sr)))))), (sr 0, .inl (g.2 1, 330, .inl (zaB (st 0)))), (sr 1, .inl (g.2 1, 330, .inl (zaB (st 1)))), (sr 2, .inl (g.2 1, 330, .inl (zaB (st 2)))), (sr 3, .inl (g.2 1, 330, .inl (zaB (st 3)))), (sr 4, .inl (g.2 1, 330, .inl (zaB (st 4)))), (sr 5, .inl (g.2 1, 330, .inl (zaB (st 5)))), (sr 6, .inl (g.2 1, 330, .inl (zaB (st 6)))), (rf 4, .inl (g.2 7, 1, .inr (.inr (.inr (.inr (zaR wya)))))), (wya 0, .inl (g.2 0, 2, .inl (zaI wf))), (rf 5, .inl (g.2 7, 1, .inr (.inr (.inr (.inr (zaR fa)))))), (fa 0, .inl (g.2 0, 2, .inl (zaI fi))), (rf 6, .inl (g.2 7, 1, .inr (.inr (.inr (.inr (zaR sea)))))), (sea 0, .inl (g.2 0, 2, .inl (zaI sf))), (rf 9, .inl (g.2 1, 120530, .inl (zaB hdf))), (rf 3, .inl (g.2 1, 1, .inl (zaB to)))] (True) (some (.long (lI (rr)))) (fun u => [(qq, .inr (5, [.int (iI (0)), .ref (rf 0), .int (iI (ln)), .int (iI (pl)), .int (iI (u.1 0)), .int (iI (u.1 1)), .int (iI (u.1 2)), .int (iI (at0)), .ref (rf 1), .ref (rf 2), .ref (rf 3), .ref (rf 4), .ref (rf 5), .ref (rf 6), .int (iI (wa)), .int (iI (on)), .int (iI (tw)), .ref (rf 7), .ref (rf 8), .ref (rf 9), .int (iI (hc))])), (rf 1, .inl (g.2 6, 1, .inr (.inr (.inr (.inr (zaR sa)))))), (sa 0, .inl (g.2 5, 7, .inr (.inr (.inr (.inr (zaR sr)))))), (sr 0, .inl (g.2 1, 330, .inl (zaB (st 0)))), (sr 1, .inl (g.2 1, 330, .inl (zaB (st 1)))), (sr 2, .inl (g.2 1, 330, .inl (zaB (st 2)))), (sr 3, .inl (g.2 1, 330, .inl (zaB (st 3)))), (sr 4, .inl (g.2 1, 330, .inl (zaB (st 4)))), (sr 5, .inl (g.2 1, 330, .inl (zaB (st 5)))), (sr 6, .inl (g.2 1, 330, .inl (zaB (st 6)))), (rf 4, .inl (g.2 7, 1, .inr (.inr (.inr (.inr (zaR wya)))))), (wya 0, .inl (g.2 0, 2, .inl (zaI wf))), (rf 5, .inl (g.2 7, 1, .inr (.inr (.inr (.inr (zaR fa)))))), (fa 0, .inl (g.2 0, 2, .inl (zaI fi))), (rf 6, .inl (g.2 7, 1, .inr (.inr (.inr (.inr (zaR sea)))))), (sea 0, .inl (g.2 0, 2, .inl (zaI sf))), (rf 9, .inl (g.2 1, 120530, .inl (zaB hdf))), (rf 3, .inl (g.2 1, 1, .inl (zaB to)))]) "java/lang/UnsupportedOperationException" (fun u => [(qq, .inr (5, [.int (iI (0)), .ref (rf 0), .int (iI (ln)), .int (iI (pl)), .int (iI (u.1 0)), .int (iI (u.1 1)), .int (iI (u.1 2)), .int (iI (at0)), .ref (rf 1), .ref (rf 2), .ref (rf 3), .ref (rf 4), .ref (rf 5), .ref (rf 6), .int (iI (wa)), .int (iI (on)), .int (iI (tw)), .ref (rf 7), .ref (rf 8), .ref (rf 9), .int (iI (hc))])), (rf 1, .inl (g.2 6, 1, .inr (.inr (.inr (.inr (zaR sa)))))), (sa 0, .inl (g.2 5, 7, .inr (.inr (.inr (.inr (zaR sr)))))), (sr 0, .inl (g.2 1, 330, .inl (zaB (st 0)))), (sr 1, .inl (g.2 1, 330, .inl (zaB (st 1)))), (sr 2, .inl (g.2 1, 330, .inl (zaB (st 2)))), (sr 3, .inl (g.2 1, 330, .inl (zaB (st 3)))), (sr 4, .inl (g.2 1, 330, .inl (zaB (st 4)))), (sr 5, .inl (g.2 1, 330, .inl (zaB (st 5)))), (sr 6, .inl (g.2 1, 330, .inl (zaB (st 6)))), (rf 4, .inl (g.2 7, 1, .inr (.inr (.inr (.inr (zaR wya)))))), (wya 0, .inl (g.2 0, 2, .inl (zaI wf))), (rf 5, .inl (g.2 7, 1, .inr (.inr (.inr (.inr (zaR fa)))))), (fa 0, .inl (g.2 0, 2, .inl (zaI fi))), (rf 6, .inl (g.2 7, 1, .inr (.inr (.inr (.inr (zaR sea)))))), (sea 0, .inl (g.2 0, 2, .inl (zaI sf))), (rf 9, .inl (g.2 1, 120530, .inl (zaB hdf))), (rf 3, .inl (g.2 1, 1, .inl (zaB to)))]) mc ms := by
  refine ze_open (by decide +kernel) (Nat.le_of_ble_eq_true rfl) ?_
  intro p e s m below meth c ls A hx hb hml hr hno hlk hown hw hK hT hP hD hS hA hl
  have hown : s.vm.findClass "CronFinderModel" = some m.cls := hown
  have hl : lv_has ls 3 [(0, .ref (qq)), (1, .long (lI (tm)))] := hl
  refine lv_aload_n hx hb zd_Q_next_0 rfl (lv_at hl 0 rfl) ?_
  refine zi_iconst hx hb zd_Q_next_1 ?_
  refine va_put (D := g.1) (ci := 5) (v := .int (iI (0))) (ty := .int) (C := zR_Q) (T := zT_Q) (N := 21) hx hb hw zin_Q zt_Q zto_Q zn_Q hown hK hP hD hS 0 rfl rfl 0 (by decide) (hw _ zw_3_198) (fun _ h9 => h9) rfl  (by decide +kernel) rfl rfl (Nat.le_of_ble_eq_true rfl) zd_Q_next_2 (fun H locs hP hD hS => ?_)
  have hP : va_P g.1 zCl [(qq, .inr (5, [.int (iI (0)), .ref (rf 0), .int (iI (ln)), .int (iI (pl)), .int (iI (yy)), .int (iI (mm)), .int (iI (dd)), .int (iI (at0)), .ref (rf 1), .ref (rf 2), .ref (rf 3), .ref (rf 4), .ref (rf 5), .ref (rf 6), .int (iI (wa)), .int (iI (on)), .int (iI (tw)), .ref (rf 7), .ref (rf 8), .ref (rf 9), .int (iI (hc))])), (rf 1, .inl (g.2 6, 1, .inr (.inr (.inr (.inr (zaR sa)))))), (sa 0, .inl (g.2 5, 7, .inr (.inr (.inr (.inr (zaR sr)))))), (sr 0, .inl (g.2 1, 330, .inl (zaB (st 0)))), (sr 1, .inl (g.2 1, 330, .inl (zaB (st 1)))), (sr 2, .inl (g.2 1, 330, .inl (zaB (st 2)))), (sr 3, .inl (g.2 1, 330, .inl (zaB (st 3)))), (sr 4, .inl (g.2 1, 330, .inl (zaB (st 4)))), (sr 5, .inl (g.2 1, 330, .inl (zaB (st 5)))), (sr 6, .inl (g.2 1, 330, .inl (zaB (st 6)))), (rf 4, .inl (g.2 7, 1, .inr (.inr (.inr (.inr (zaR wya)))))), (wya 0, .inl (g.2 0, 2, .inl (zaI wf))), (rf 5, .inl (g.2 7, 1, .inr (.inr (.inr (.inr (zaR fa)))))), (fa 0, .inl (g.2 0, 2, .inl (zaI fi))), (rf 6, .inl (g.2 7, 1, .inr (.inr (.inr (.inr (zaR sea)))))), (sea 0, .inl (g.2 0, 2, .inl (zaI sf))), (rf 9, .inl (g.2 1, 120530, .inl (zaB hdf))), (rf 3, .inl (g.2 1, 1, .inl (zaB to)))] H := hP
  have hD : va_D A [(qq, .inr (5, [.int (iI (0)), .ref (rf 0), .int (iI (ln)), .int (iI (pl)), .int (iI (yy)), .int (iI (mm)), .int (iI (dd)), .int (iI (at0)), .ref (rf 1), .ref (rf 2), .ref (rf 3), .ref (rf 4), .ref (rf 5), .ref (rf 6), .int (iI (wa)), .int (iI (on)), .int (iI (tw)), .ref (rf 7), .ref (rf 8), .ref (rf 9), .int (iI (hc))])), (rf 1, .inl (g.2 6, 1, .inr (.inr (.inr (.inr (zaR sa)))))), (sa 0, .inl (g.2 5, 7, .inr (.inr (.inr (.inr (zaR sr)))))), (sr 0, .inl (g.2 1, 330, .inl (zaB (st 0)))), (sr 1, .inl (g.2 1, 330, .inl (zaB (st 1)))), (sr 2, .inl (g.2 1, 330, .inl (zaB (st 2)))), (sr 3, .inl (g.2 1, 330, .inl (zaB (st 3)))), (sr 4, .inl (g.2 1, 330, .inl (zaB (st 4)))), (sr 5, .inl (g.2 1, 330, .inl (zaB (st 5)))), (sr 6, .inl (g.2 1, 330, .inl (zaB (st 6)))), (rf 4, .inl (g.2 7, 1, .inr (.inr (.inr (.inr (zaR wya)))))), (wya 0, .inl (g.2 0, 2, .inl (zaI wf))), (rf 5, .inl (g.2 7, 1, .inr (.inr (.inr (.inr (zaR fa)))))), (fa 0, .inl (g.2 0, 2, .inl (zaI fi))), (rf 6, .inl (g.2 7, 1, .inr (.inr (.inr (.inr (zaR sea)))))), (sea 0, .inl (g.2 0, 2, .inl (zaI sf))), (rf 9, .inl (g.2 1, 120530, .inl (zaB hdf))), (rf 3, .inl (g.2 1, 1, .inl (zaB to)))] := hD
  refine lv_aload_n hx hb zd_Q_next_5 rfl (lv_at hl 0 rfl) ?_
  refine lv_lload_n hx hb zd_Q_next_6 rfl (lv_at hl 1 rfl) ?_
  refine zk_V (As := [.long (lI (tm))]) (b := qq) (own := "CronFinderModel") (nL := 3) (rest := []) hx hb hml hown hw (c_Q_out l g qq (tm) (by omega)) zw_4_104 zw_4_106 zw_0_38 zw_1_7 zw_4_107 (np := 1) (by decide +kernel) rfl ⟨rfl, rfl, Nat.le_of_ble_eq_true rfl, Nat.le_of_ble_eq_true rfl⟩ zN_mv hK trivial (hP.sub (ws' := []) [] rfl) (va_recv hK hP (ci := 5) (q0 := 0) rfl rfl) hl.1 rfl (Nat.le_of_ble_eq_true rfl) ⟨Nat.zero_le _, Nat.zero_le _⟩ zd_Q_next_7 ?_
  refine zb_if_eq (tgt := 22) hx hb zd_Q_next_10 (by decide) (fun c10 => ?_) (fun c10 => ?_)
  · refine lv_aload_n hx hb zd_Q_next_22 rfl (lv_at hl 0 rfl) ?_
    refine lv_lload_n hx hb zd_Q_next_23 rfl (lv_at hl 1 rfl) ?_
    refine zk_J (As := [.long (lI (tm))]) (b := qq) (own := "CronFinderModel") (nL := 3) (rest := []) hx hb hml hown hw (zE_j (c_Q_after_t l g hl0 qq rf (0) (ln) (pl) (yy) (mm) (dd) (at0) (wa) (on) (tw) (hc) sa sr st fa wya sea fi wf sf hdf to (tm) rr (by omega) hfi hwf hf1 hj 0 0 (Or.inl ⟨trivial, rfl, rfl⟩)) trivial) zw_4_109 zw_4_111 zw_0_39 zw_1_7 zw_4_112 (np := 1) (by decide +kernel) rfl ⟨rfl, rfl, Nat.le_of_ble_eq_true rfl, Nat.le_of_ble_eq_true rfl⟩ (fun _ => zN_mv) hK trivial hP hD hS hA [0, 1, 2, 3, 4, 5, 6, 7, 8, 9, 10, 11, 12, 13, 14, 15, 16, 17] (zC_c rfl (zC_c rfl (zC_c rfl (zC_c rfl (zC_c rfl (zC_c rfl (zC_c rfl (zC_c rfl (zC_c rfl (zC_c rfl (zC_c rfl (zC_c rfl (zC_c rfl (zC_c rfl (zC_c rfl (zC_c rfl (zC_c rfl (zC_c rfl rfl)))))))))))))))))) (by decide) (fun _ => rfl) (va_recv hK hP (ci := 5) (q0 := 0) rfl rfl) hl.1 rfl (Nat.le_of_ble_eq_true rfl) ⟨Nat.zero_le _, Nat.zero_le _⟩ zd_Q_next_24 (fun u24 H locs hP hD hS => ?_)
    have e9 : zPut [(qq, .inr (5, [.int (iI (0)), .ref (rf 0), .int (iI (ln)), .int (iI (pl)), .int (iI (yy)), .int (iI (mm)), .int (iI (dd)), .int (iI (at0)), .ref (rf 1), .ref (rf 2), .ref (rf 3), .ref (rf 4), .ref (rf 5), .ref (rf 6), .int (iI (wa)), .int (iI (on)), .int (iI (tw)), .ref (rf 7), .ref (rf 8), .ref (rf 9), .int (iI (hc))])), (rf 1, .inl (g.2 6, 1, .inr (.inr (.inr (.inr (zaR sa)))))), (sa 0, .inl (g.2 5, 7, .inr (.inr (.inr (.inr (zaR sr)))))), (sr 0, .inl (g.2 1, 330, .inl (zaB (st 0)))), (sr 1, .inl (g.2 1, 330, .inl (zaB (st 1)))), (sr 2, .inl (g.2 1, 330, .inl (zaB (st 2)))), (sr 3, .inl (g.2 1, 330, .inl (zaB (st 3)))), (sr 4, .inl (g.2 1, 330, .inl (zaB (st 4)))), (sr 5, .inl (g.2 1, 330, .inl (zaB (st 5)))), (sr 6, .inl (g.2 1, 330, .inl (zaB (st 6)))), (rf 4, .inl (g.2 7, 1, .inr (.inr (.inr (.inr (zaR wya)))))), (wya 0, .inl (g.2 0, 2, .inl (zaI wf))), (rf 5, .inl (g.2 7, 1, .inr (.inr (.inr (.inr (zaR fa)))))), (fa 0, .inl (g.2 0, 2, .inl (zaI fi))), (rf 6, .inl (g.2 7, 1, .inr (.inr (.inr (.inr (zaR sea)))))), (sea 0, .inl (g.2 0, 2, .inl (zaI sf))), (rf 9, .inl (g.2 1, 120530, .inl (zaB hdf))), (rf 3, .inl (g.2 1, 1, .inl (zaB to)))] [0, 1, 2, 3, 4, 5, 6, 7, 8, 9, 10, 11, 12, 13, 14, 15, 16, 17] [(qq, .inr (5, [.int (iI (0)), .ref (rf 0), .int (iI (ln)), .int (iI (pl)), .int (iI (u24.1 0)), .int (iI (u24.1 1)), .int (iI (u24.1 2)), .int (iI (at0)), .ref (rf 1), .ref (rf 2), .ref (rf 3), .ref (rf 4), .ref (rf 5), .ref (rf 6), .int (iI (wa)), .int (iI (on)), .int (iI (tw)), .ref (rf 7), .ref (rf 8), .ref (rf 9), .int (iI (hc))])), (rf 1, .inl (g.2 6, 1, .inr (.inr (.inr (.inr (zaR sa)))))), (sa 0, .inl (g.2 5, 7, .inr (.inr (.inr (.inr (zaR sr)))))), (sr 0, .inl (g.2 1, 330, .inl (zaB (st 0)))), (sr 1, .inl (g.2 1, 330, .inl (zaB (st 1)))), (sr 2, .inl (g.2 1, 330, .inl (zaB (st 2)))), (sr 3, .inl (g.2 1, 330, .inl (zaB (st 3)))), (sr 4, .inl (g.2 1, 330, .inl (zaB (st 4)))), (sr 5, .inl (g.2 1, 330, .inl (zaB (st 5)))), (sr 6, .inl (g.2 1, 330, .inl (zaB (st 6)))), (rf 4, .inl (g.2 7, 1, .inr (.inr (.inr (.inr (zaR wya)))))), (wya 0, .inl (g.2 0, 2, .inl (zaI wf))), (rf 5, .inl (g.2 7, 1, .inr (.inr (.inr (.inr (zaR fa)))))), (fa 0, .inl (g.2 0, 2, .inl (zaI fi))), (rf 6, .inl (g.2 7, 1, .inr (.inr (.inr (.inr (zaR sea)))))), (sea 0, .inl (g.2 0, 2, .inl (zaI sf))), (rf 9, .inl (g.2 1, 120530, .inl (zaB hdf))), (rf 3, .inl (g.2 1, 1, .inl (zaB to)))] = [(qq, .inr (5, [.int (iI (0)), .ref (rf 0), .int (iI (ln)), .int (iI (pl)), .int (iI (u24.1 0)), .int (iI (u24.1 1)), .int (iI (u24.1 2)), .int (iI (at0)), .ref (rf 1), .ref (rf 2), .ref (rf 3), .ref (rf 4), .ref (rf 5), .ref (rf 6), .int (iI (wa)), .int (iI (on)), .int (iI (tw)), .ref (rf 7), .ref (rf 8), .ref (rf 9), .int (iI (hc))])), (rf 1, .inl (g.2 6, 1, .inr (.inr (.inr (.inr (zaR sa)))))), (sa 0, .inl (g.2 5, 7, .inr (.inr (.inr (.inr (zaR sr)))))), (sr 0, .inl (g.2 1, 330, .inl (zaB (st 0)))), (sr 1, .inl (g.2 1, 330, .inl (zaB (st 1)))), (sr 2, .inl (g.2 1, 330, .inl (zaB (st 2)))), (sr 3, .inl (g.2 1, 330, .inl (zaB (st 3)))), (sr 4, .inl (g.2 1, 330, .inl (zaB (st 4)))), (sr 5, .inl (g.2 1, 330, .inl (zaB (st 5)))), (sr 6, .inl (g.2 1, 330, .inl (zaB (st 6)))), (rf 4, .inl (g.2 7, 1, .inr (.inr (.inr (.inr (zaR wya)))))), (wya 0, .inl (g.2 0, 2, .inl (zaI wf))), (rf 5, .inl (g.2 7, 1, .inr (.inr (.inr (.inr (zaR fa)))))), (fa 0, .inl (g.2 0, 2, .inl (zaI fi))), (rf 6, .inl (g.2 7, 1, .inr (.inr (.inr (.inr (zaR sea)))))), (sea 0, .inl (g.2 0, 2, .inl (zaI sf))), (rf 9, .inl (g.2 1, 120530, .inl (zaB hdf))), (rf 3, .inl (g.2 1, 1, .inl (zaB to)))] := zPut_one [(qq, .inr (5, [.int (iI (0)), .ref (rf 0), .int (iI (ln)), .int (iI (pl)), .int (iI (yy)), .int (iI (mm)), .int (iI (dd)), .int (iI (at0)), .ref (rf 1), .ref (rf 2), .ref (rf 3), .ref (rf 4), .ref (rf 5), .ref (rf 6), .int (iI (wa)), .int (iI (on)), .int (iI (tw)), .ref (rf 7), .ref (rf 8), .ref (rf 9), .int (iI (hc))])), (rf 1, .inl (g.2 6, 1, .inr (.inr (.inr (.inr (zaR sa)))))), (sa 0, .inl (g.2 5, 7, .inr (.inr (.inr (.inr (zaR sr)))))), (sr 0, .inl (g.2 1, 330, .inl (zaB (st 0)))), (sr 1, .inl (g.2 1, 330, .inl (zaB (st 1)))), (sr 2, .inl (g.2 1, 330, .inl (zaB (st 2)))), (sr 3, .inl (g.2 1, 330, .inl (zaB (st 3)))), (sr 4, .inl (g.2 1, 330, .inl (zaB (st 4)))), (sr 5, .inl (g.2 1, 330, .inl (zaB (st 5)))), (sr 6, .inl (g.2 1, 330, .inl (zaB (st 6)))), (rf 4, .inl (g.2 7, 1, .inr (.inr (.inr (.inr (zaR wya)))))), (wya 0, .inl (g.2 0, 2, .inl (zaI wf))), (rf 5, .inl (g.2 7, 1, .inr (.inr (.inr (.inr (zaR fa)))))), (fa 0, .inl (g.2 0, 2, .inl (zaI fi))), (rf 6, .inl (g.2 7, 1, .inr (.inr (.inr (.inr (zaR sea)))))), (sea 0, .inl (g.2 0, 2, .inl (zaI sf))), (rf 9, .inl (g.2 1, 120530, .inl (zaB hdf))), (rf 3, .inl (g.2 1, 1, .inl (zaB to)))] [] [1, 2, 3, 4, 5, 6, 7, 8, 9, 10, 11, 12, 13, 14, 15, 16, 17] [] [(rf 1, .inl (g.2 6, 1, .inr (.inr (.inr (.inr (zaR sa)))))), (sa 0, .inl (g.2 5, 7, .inr (.inr (.inr (.inr (zaR sr)))))), (sr 0, .inl (g.2 1, 330, .inl (zaB (st 0)))), (sr 1, .inl (g.2 1, 330, .inl (zaB (st 1)))), (sr 2, .inl (g.2 1, 330, .inl (zaB (st 2)))), (sr 3, .inl (g.2 1, 330, .inl (zaB (st 3)))), (sr 4, .inl (g.2 1, 330, .inl (zaB (st 4)))), (sr 5, .inl (g.2 1, 330, .inl (zaB (st 5)))), (sr 6, .inl (g.2 1, 330, .inl (zaB (st 6)))), (rf 4, .inl (g.2 7, 1, .inr (.inr (.inr (.inr (zaR wya)))))), (wya 0, .inl (g.2 0, 2, .inl (zaI wf))), (rf 5, .inl (g.2 7, 1, .inr (.inr (.inr (.inr (zaR fa)))))), (fa 0, .inl (g.2 0, 2, .inl (zaI fi))), (rf 6, .inl (g.2 7, 1, .inr (.inr (.inr (.inr (zaR sea)))))), (sea 0, .inl (g.2 0, 2, .inl (zaI sf))), (rf 9, .inl (g.2 1, 120530, .inl (zaB hdf))), (rf 3, .inl (g.2 1, 1, .inl (zaB to)))] 0 (qq, .inr (5, [.int (iI (0)), .ref (rf 0), .int (iI (ln)), .int (iI (pl)), .int (iI (u24.1 0)), .int (iI (u24.1 1)), .int (iI (u24.1 2)), .int (iI (at0)), .ref (rf 1), .ref (rf 2), .ref (rf 3), .ref (rf 4), .ref (rf 5), .ref (rf 6), .int (iI (wa)), .int (iI (on)), .int (iI (tw)), .ref (rf 7), .ref (rf 8), .ref (rf 9), .int (iI (hc))])) (rfl) (zC_c rfl (zC_c rfl (zC_c rfl (zC_c rfl (zC_c rfl (zC_c rfl (zC_c rfl (zC_c rfl (zC_c rfl (zC_c rfl (zC_c rfl (zC_c rfl (zC_c rfl (zC_c rfl (zC_c rfl (zC_c rfl (zC_c rfl rfl)))))))))))))))))
    have hP : va_P g.1 zCl [(qq, .inr (5, [.int (iI (0)), .ref (rf 0), .int (iI (ln)), .int (iI (pl)), .int (iI (u24.1 0)), .int (iI (u24.1 1)), .int (iI (u24.1 2)), .int (iI (at0)), .ref (rf 1), .ref (rf 2), .ref (rf 3), .ref (rf 4), .ref (rf 5), .ref (rf 6), .int (iI (wa)), .int (iI (on)), .int (iI (tw)), .ref (rf 7), .ref (rf 8), .ref (rf 9), .int (iI (hc))])), (rf 1, .inl (g.2 6, 1, .inr (.inr (.inr (.inr (zaR sa)))))), (sa 0, .inl (g.2 5, 7, .inr (.inr (.inr (.inr (zaR sr)))))), (sr 0, .inl (g.2 1, 330, .inl (zaB (st 0)))), (sr 1, .inl (g.2 1, 330, .inl (zaB (st 1)))), (sr 2, .inl (g.2 1, 330, .inl (zaB (st 2)))), (sr 3, .inl (g.2 1, 330, .inl (zaB (st 3)))), (sr 4, .inl (g.2 1, 330, .inl (zaB (st 4)))), (sr 5, .inl (g.2 1, 330, .inl (zaB (st 5)))), (sr 6, .inl (g.2 1, 330, .inl (zaB (st 6)))), (rf 4, .inl (g.2 7, 1, .inr (.inr (.inr (.inr (zaR wya)))))), (wya 0, .inl (g.2 0, 2, .inl (zaI wf))), (rf 5, .inl (g.2 7, 1, .inr (.inr (.inr (.inr (zaR fa)))))), (fa 0, .inl (g.2 0, 2, .inl (zaI fi))), (rf 6, .inl (g.2 7, 1, .inr (.inr (.inr (.inr (zaR sea)))))), (sea 0, .inl (g.2 0, 2, .inl (zaI sf))), (rf 9, .inl (g.2 1, 120530, .inl (zaB hdf))), (rf 3, .inl (g.2 1, 1, .inl (zaB to)))] H := Eq.mp (congrArg (fun w => va_P g.1 zCl w H) e9) hP
    have hD : va_D A [(qq, .inr (5, [.int (iI (0)), .ref (rf 0), .int (iI (ln)), .int (iI (pl)), .int (iI (u24.1 0)), .int (iI (u24.1 1)), .int (iI (u24.1 2)), .int (iI (at0)), .ref (rf 1), .ref (rf 2), .ref (rf 3), .ref (rf 4), .ref (rf 5), .ref (rf 6), .int (iI (wa)), .int (iI (on)), .int (iI (tw)), .ref (rf 7), .ref (rf 8), .ref (rf 9), .int (iI (hc))])), (rf 1, .inl (g.2 6, 1, .inr (.inr (.inr (.inr (zaR sa)))))), (sa 0, .inl (g.2 5, 7, .inr (.inr (.inr (.inr (zaR sr)))))), (sr 0, .inl (g.2 1, 330, .inl (zaB (st 0)))), (sr 1, .inl (g.2 1, 330, .inl (zaB (st 1)))), (sr 2, .inl (g.2 1, 330, .inl (zaB (st 2)))), (sr 3, .inl (g.2 1, 330, .inl (zaB (st 3)))), (sr 4, .inl (g.2 1, 330, .inl (zaB (st 4)))), (sr 5, .inl (g.2 1, 330, .inl (zaB (st 5)))), (sr 6, .inl (g.2 1, 330, .inl (zaB (st 6)))), (rf 4, .inl (g.2 7, 1, .inr (.inr (.inr (.inr (zaR wya)))))), (wya 0, .inl (g.2 0, 2, .inl (zaI wf))), (rf 5, .inl (g.2 7, 1, .inr (.inr (.inr (.inr (zaR fa)))))), (fa 0, .inl (g.2 0, 2, .inl (zaI fi))), (rf 6, .inl (g.2 7, 1, .inr (.inr (.inr (.inr (zaR sea)))))), (sea 0, .inl (g.2 0, 2, .inl (zaI sf))), (rf 9, .inl (g.2 1, 120530, .inl (zaB hdf))), (rf 3, .inl (g.2 1, 1, .inl (zaB to)))] := Eq.mp (congrArg (fun w => va_D A w) e9) hD
    have hok9 := trivial
    exact zq_lret hx hb hr hlk (zj [u24.1 0, u24.1 1, u24.1 2], fun _ _ => false) hP hS hok9 (zHm_y hmc hok9) zd_Q_next_27
  · exact absurd ((qOut_i _).mp c10) (by omega)
set_option maxHeartbeats 4000000 in
set_option maxRecDepth 100000 in
theorem c_Q_last_x (l : Launch) (g : zGl) (qq : Nat) (rf : Nat → Nat) (fl ln pl yy mm dd at0 wa on tw hc : Int) (tm : Int) (hi : -9223372036854775808 ≤ tm ∧ tm < 9223372036854775808) (hn : tm < 0 ∨ 10413791999 < tm) : zWi l zy_Q_last zc_Q_last 3 (some .long) ({ frames := 6, cells := 0, slots := 0, locals := 139 }) g (fun _ => zN) [.ref (qq), .long (lI (tm))] [(qq, .inr (5, [.int (iI (fl)), .ref (rf 0), .int (iI (ln)), .int (iI (pl)), .int (iI (yy)), .int (iI (mm)), .int (iI (dd)), .int (iI (at0)), .ref (rf 1), .ref (rf 2), .ref (rf 3), .ref (rf 4), .ref (rf 5), .ref (rf 6), .int (iI (wa)), .int (iI (on)), .int (iI (tw)), .ref (rf 7), .ref (rf 8), .ref (rf 9), .int (iI (hc))]))] (some (.long (lI (0)))) [(qq, .inr (5, [.int (iI (1)), .ref (rf 0), .int (iI (ln)), .int (iI (pl)), .int (iI (yy)), .int (iI (mm)), .int (iI (dd)), .int (iI (at0)), .ref (rf 1), .ref (rf 2), .ref (rf 3), .ref (rf 4), .ref (rf 5), .ref (rf 6), .int (iI (wa)), .int (iI (on)), .int (iI (tw)), .ref (rf 7), .ref (rf 8), .ref (rf 9), .int (iI (hc))]))] 0 0 := by
  refine zw_open (by decide +kernel) (Nat.le_of_ble_eq_true rfl) ?_
  intro p e s m below meth c ls A hx hb hml hr hlk hown hin hw hK hT hP hD hS hA hl
  have hown : s.vm.findClass "CronFinderModel" = some m.cls := hown
  have hl : lv_has ls 3 [(0, .ref (qq)), (1, .long (lI (tm)))] := hl
  refine lv_aload_n hx hb zd_Q_last_0 rfl (lv_at hl 0 rfl) ?_
  refine zi_iconst hx hb zd_Q_last_1 ?_
  refine va_put (D := g.1) (ci := 5) (v := .int (iI (0))) (ty := .int) (C := zR_Q) (T := zT_Q) (N := 21) hx hb hw zin_Q zt_Q zto_Q zn_Q hown hK hP hD hS 0 rfl rfl 0 (by decide) (hw _ zw_3_198) (fun _ h9 => h9) rfl  (by decide +kernel) rfl rfl (Nat.le_of_ble_eq_true rfl) zd_Q_last_2 (fun H locs hP hD hS => ?_)
  have hP : va_P g.1 zCl [(qq, .inr (5, [.int (iI (0)), .ref (rf 0), .int (iI (ln)), .int (iI (pl)), .int (iI (yy)), .int (iI (mm)), .int (iI (dd)), .int (iI (at0)), .ref (rf 1), .ref (rf 2), .ref (rf 3), .ref (rf 4), .ref (rf 5), .ref (rf 6), .int (iI (wa)), .int (iI (on)), .int (iI (tw)), .ref (rf 7), .ref (rf 8), .ref (rf 9), .int (iI (hc))]))] H := hP
  have hD : va_D A [(qq, .inr (5, [.int (iI (0)), .ref (rf 0), .int (iI (ln)), .int (iI (pl)), .int (iI (yy)), .int (iI (mm)), .int (iI (dd)), .int (iI (at0)), .ref (rf 1), .ref (rf 2), .ref (rf 3), .ref (rf 4), .ref (rf 5), .ref (rf 6), .int (iI (wa)), .int (iI (on)), .int (iI (tw)), .ref (rf 7), .ref (rf 8), .ref (rf 9), .int (iI (hc))]))] := hD
  refine lv_aload_n hx hb zd_Q_last_5 rfl (lv_at hl 0 rfl) ?_
  refine lv_lload_n hx hb zd_Q_last_6 rfl (lv_at hl 1 rfl) ?_
  refine zk_V (As := [.long (lI (tm))]) (b := qq) (own := "CronFinderModel") (nL := 3) (rest := []) hx hb hml hown hw (c_Q_out l g qq (tm) (by omega)) zw_4_104 zw_4_106 zw_0_38 zw_1_7 zw_4_107 (np := 1) (by decide +kernel) rfl (by decide) zN_mv hK trivial (hP.sub (ws' := []) [] rfl) (va_recv hK hP (ci := 5) (q0 := 0) rfl rfl) hl.1 rfl (Nat.le_of_ble_eq_true rfl) (by decide) zd_Q_last_7 ?_
  refine zb_if_eq (tgt := 22) hx hb zd_Q_last_10 (by decide) (fun c10 => ?_) (fun c10 => ?_)
  · exact absurd ((qOut_i _).mpr hn) (by rw [c10]; decide)
  · refine lv_aload_n hx hb zd_Q_last_13 rfl (lv_at hl 0 rfl) ?_
    refine zi_iconst hx hb zd_Q_last_14 ?_
    refine zk_W (As := [.int (iI (1))]) (b := qq) (own := "CronFinderModel") (nL := 3) (rest := []) hx hb hml hown hw (c_Q_fail l g qq rf (0) (ln) (pl) (yy) (mm) (dd) (at0) (wa) (on) (tw) (hc) (1)) zw_4_96 zw_4_98 zw_0_37 zw_1_7 zw_4_99 (np := 1) (by decide +kernel) rfl (by decide) (fun _ => zN_mv) hK trivial hP hD hS hA [0] rfl (by decide) rfl (va_recv hK hP (ci := 5) (q0 := 0) rfl rfl) hl.1 rfl (Nat.le_of_ble_eq_true rfl) (by decide) zd_Q_last_15 (fun H locs hP hD hS => ?_)
    have hP : va_P g.1 zCl [(qq, .inr (5, [.int (iI (1)), .ref (rf 0), .int (iI (ln)), .int (iI (pl)), .int (iI (yy)), .int (iI (mm)), .int (iI (dd)), .int (iI (at0)), .ref (rf 1), .ref (rf 2), .ref (rf 3), .ref (rf 4), .ref (rf 5), .ref (rf 6), .int (iI (wa)), .int (iI (on)), .int (iI (tw)), .ref (rf 7), .ref (rf 8), .ref (rf 9), .int (iI (hc))]))] H := hP
    have hD : va_D A [(qq, .inr (5, [.int (iI (1)), .ref (rf 0), .int (iI (ln)), .int (iI (pl)), .int (iI (yy)), .int (iI (mm)), .int (iI (dd)), .int (iI (at0)), .ref (rf 1), .ref (rf 2), .ref (rf 3), .ref (rf 4), .ref (rf 5), .ref (rf 6), .int (iI (wa)), .int (iI (on)), .int (iI (tw)), .ref (rf 7), .ref (rf 8), .ref (rf 9), .int (iI (hc))]))] := hD
    refine zi_i2l hx hb zd_Q_last_18 (by omega) ?_
    refine lv_goto (tgt := 27) hx hb zd_Q_last_19 (by decide) ?_
    exact zw_lret hx hb hr hlk (ws := [(qq, .inr (5, [.int (iI (1)), .ref (rf 0), .int (iI (ln)), .int (iI (pl)), .int (iI (yy)), .int (iI (mm)), .int (iI (dd)), .int (iI (at0)), .ref (rf 1), .ref (rf 2), .ref (rf 3), .ref (rf 4), .ref (rf 5), .ref (rf 6), .int (iI (wa)), .int (iI (on)), .int (iI (tw)), .ref (rf 7), .ref (rf 8), .ref (rf 9), .int (iI (hc))]))]) hP hS zd_Q_last_27
set_option maxHeartbeats 4000000 in
set_option maxRecDepth 100000 in
theorem c_Q_last (l : Launch) (g : zGl) (hl0 : l.stackTraces = false) (qq : Nat) (rf : Nat → Nat) (fl ln pl yy mm dd at0 wa on tw hc : Int) (sa sr : Nat → Nat) (st : Nat → Nat → Bool) (fa wya sea : Nat → Nat) (fi wf sf : Nat → Int) (hdf : Nat → Bool) (to : Nat → Bool) (tm rr : Int) (hx0 : 0 ≤ tm ∧ tm ≤ 10413791999) (hfi : 0 ≤ fi 0 ∧ fi 0 ≤ 31) (hwf : 0 ≤ wf 0 ∧ wf 0 ≤ 4 ∧ (wf 0 = 4 → 1 ≤ fi 0)) (hf1 : 0 ≤ fi 1 ∧ fi 1 ≤ 31 ∧ 0 ≤ wf 1 ∧ wf 1 ≤ 6 ∧ 0 ≤ sf 1 ∧ sf 1 ≤ 5) (hj : tNB (qFt to st wf fi sf hdf) (sOk (st 0) (st 1) (st 2)) tm rr) (mc ms : Nat) (hmc : zHm (True) mc ms) : zEi l zy_Q_last zc_Q_last 3 (some .long) ({ frames := 6, cells := mc, slots := ms, locals := 139 }) g (fun _ => zN) [.ref (qq), .long (lI (tm))] [(qq, .inr (5, [.int (iI (fl)), .ref (rf 0), .int (iI (ln)), .int (iI (pl)), .int (iI (yy)), .int (iI (mm)), .int (iI (dd)), .int (iI (at0)), .ref (rf 1), .ref (rf 2), .ref (rf 3), .ref (rf 4), .ref (rf 5), .ref (rf 6), .int (iI (wa)), .int (iI (on)), .int (iI (tw)), .ref (rf 7), .ref (rf 8), .ref (rf 9), .int (iI (hc))])), (rf 1, .inl (g.2 6, 1, .inr (.inr (.inr (.inr (zaR sa)))))), (sa 0, .inl (g.2 5, 7, .inr (.inr (.inr (.inr (zaR sr)))))), (sr 0, .inl (g.2 1, 330, .inl (zaB (st 0)))), (sr 1, .inl (g.2 1, 330, .inl (zaB (st 1)))), (sr 2, .inl (g.2 1, 330, .inl (zaB (st 2)))), (sr 3, .inl (g.2 1, 330, .inl (zaB (st 3)))), (sr 4, .inl (g.2 1, 330, .inl (zaB (st 4)))), (sr 5, .inl (g.2 1, 330, .inl (zaB (st 5)))), (sr 6, .inl (g.2 1, 330, .inl (zaB (st 6)))), (rf 4, .inl (g.2 7, 1, .inr (.inr (.inr (.inr (zaR wya)))))), (wya 0, .inl (g.2 0, 2, .inl (zaI wf))), (rf 5, .inl (g.2 7, 1, .inr (.inr (.inr (.inr (zaR fa)))))), (fa 0, .inl (g.2 0, 2, .inl (zaI fi))), (rf 6, .inl (g.2 7, 1, .inr (.inr (.inr (.inr (zaR sea)))))), (sea 0, .inl (g.2 0, 2, .inl (zaI sf))), (rf 9, .inl (g.2 1, 120530, .inl (zaB hdf))), (rf 3, .inl (g.2 1, 1, .inl (zaB to)))] (True) (some (.long (lI (rr)))) (fun u => [(qq, .inr (5, [.int (iI (0)), .ref (rf 0), .int (iI (ln)), .int (iI (pl)), .int (iI (u.1 0)), .int (iI (u.1 1)), .int (iI (u.1 2)), .int (iI (at0)), .ref (rf 1), .ref (rf 2), .ref (rf 3), .ref (rf 4), .ref (rf 5), .ref (rf 6), .int (iI (wa)), .int (iI (on)), .int (iI (tw)), .ref (rf 7), .ref (rf 8), .ref (rf 9), .int (iI (hc))])), (rf 1, .inl (g.2 6, 1, .inr (.inr (.inr (.inr (zaR sa)))))), (sa 0, .inl (g.2 5, 7, .inr (.inr (.inr (.inr (zaR sr)))))), (sr 0, .inl (g.2 1, 330, .inl (zaB (st 0)))), (sr 1, .inl (g.2 1, 330, .inl (zaB (st 1)))), (sr 2, .inl (g.2 1, 330, .inl (zaB (st 2)))), (sr 3, .inl (g.2 1, 330, .inl (zaB (st 3)))), (sr 4, .inl (g.2 1, 330, .inl (zaB (st 4)))), (sr 5, .inl (g.2 1, 330, .inl (zaB (st 5)))), (sr 6, .inl (g.2 1, 330, .inl (zaB (st 6)))), (rf 4, .inl (g.2 7, 1, .inr (.inr (.inr (.inr (zaR wya)))))), (wya 0, .inl (g.2 0, 2, .inl (zaI wf))), (rf 5, .inl (g.2 7, 1, .inr (.inr (.inr (.inr (zaR fa)))))), (fa 0, .inl (g.2 0, 2, .inl (zaI fi))), (rf 6, .inl (g.2 7, 1, .inr (.inr (.inr (.inr (zaR sea)))))), (sea 0, .inl (g.2 0, 2, .inl (zaI sf))), (rf 9, .inl (g.2 1, 120530, .inl (zaB hdf))), (rf 3, .inl (g.2 1, 1, .inl (zaB to)))]) "java/lang/UnsupportedOperationException" (fun u => [(qq, .inr (5, [.int (iI (0)), .ref (rf 0), .int (iI (ln)), .int (iI (pl)), .int (iI (u.1 0)), .int (iI (u.1 1)), .int (iI (u.1 2)), .int (iI (at0)), .ref (rf 1), .ref (rf 2), .ref (rf 3), .ref (rf 4), .ref (rf 5), .ref (rf 6), .int (iI (wa)), .int (iI (on)), .int (iI (tw)), .ref (rf 7), .ref (rf 8), .ref (rf 9), .int (iI (hc))])), (rf 1, .inl (g.2 6, 1, .inr (.inr (.inr (.inr (zaR sa)))))), (sa 0, .inl (g.2 5, 7, .inr (.inr (.inr (.inr (zaR sr)))))), (sr 0, .inl (g.2 1, 330, .inl (zaB (st 0)))), (sr 1, .inl (g.2 1, 330, .inl (zaB (st 1)))), (sr 2, .inl (g.2 1, 330, .inl (zaB (st 2)))), (sr 3, .inl (g.2 1, 330, .inl (zaB (st 3)))), (sr 4, .inl (g.2 1, 330, .inl (zaB (st 4)))), (sr 5, .inl (g.2 1, 330, .inl (zaB (st 5)))), (sr 6, .inl (g.2 1, 330, .inl (zaB (st 6)))), (rf 4, .inl (g.2 7, 1, .inr (.inr (.inr (.inr (zaR wya)))))), (wya 0, .inl (g.2 0, 2, .inl (zaI wf))), (rf 5, .inl (g.2 7, 1, .inr (.inr (.inr (.inr (zaR fa)))))), (fa 0, .inl (g.2 0, 2, .inl (zaI fi))), (rf 6, .inl (g.2 7, 1, .inr (.inr (.inr (.inr (zaR sea)))))), (sea 0, .inl (g.2 0, 2, .inl (zaI sf))), (rf 9, .inl (g.2 1, 120530, .inl (zaB hdf))), (rf 3, .inl (g.2 1, 1, .inl (zaB to)))]) mc ms := by
  refine ze_open (by decide +kernel) (Nat.le_of_ble_eq_true rfl) ?_
  intro p e s m below meth c ls A hx hb hml hr hno hlk hown hw hK hT hP hD hS hA hl
  have hown : s.vm.findClass "CronFinderModel" = some m.cls := hown
  have hl : lv_has ls 3 [(0, .ref (qq)), (1, .long (lI (tm)))] := hl
  refine lv_aload_n hx hb zd_Q_last_0 rfl (lv_at hl 0 rfl) ?_
  refine zi_iconst hx hb zd_Q_last_1 ?_
  refine va_put (D := g.1) (ci := 5) (v := .int (iI (0))) (ty := .int) (C := zR_Q) (T := zT_Q) (N := 21) hx hb hw zin_Q zt_Q zto_Q zn_Q hown hK hP hD hS 0 rfl rfl 0 (by decide) (hw _ zw_3_198) (fun _ h9 => h9) rfl  (by decide +kernel) rfl rfl (Nat.le_of_ble_eq_true rfl) zd_Q_last_2 (fun H locs hP hD hS => ?_)
  have hP : va_P g.1 zCl [(qq, .inr (5, [.int (iI (0)), .ref (rf 0), .int (iI (ln)), .int (iI (pl)), .int (iI (yy)), .int (iI (mm)), .int (iI (dd)), .int (iI (at0)), .ref (rf 1), .ref (rf 2), .ref (rf 3), .ref (rf 4), .ref (rf 5), .ref (rf 6), .int (iI (wa)), .int (iI (on)), .int (iI (tw)), .ref (rf 7), .ref (rf 8), .ref (rf 9), .int (iI (hc))])), (rf 1, .inl (g.2 6, 1, .inr (.inr (.inr (.inr (zaR sa)))))), (sa 0, .inl (g.2 5, 7, .inr (.inr (.inr (.inr (zaR sr)))))), (sr 0, .inl (g.2 1, 330, .inl (zaB (st 0)))), (sr 1, .inl (g.2 1, 330, .inl (zaB (st 1)))), (sr 2, .inl (g.2 1, 330, .inl (zaB (st 2)))), (sr 3, .inl (g.2 1, 330, .inl (zaB (st 3)))), (sr 4, .inl (g.2 1, 330, .inl (zaB (st 4)))), (sr 5, .inl (g.2 1, 330, .inl (zaB (st 5)))), (sr 6, .inl (g.2 1, 330, .inl (zaB (st 6)))), (rf 4, .inl (g.2 7, 1, .inr (.inr (.inr (.inr (zaR wya)))))), (wya 0, .inl (g.2 0, 2, .inl (zaI wf))), (rf 5, .inl (g.2 7, 1, .inr (.inr (.inr (.inr (zaR fa)))))), (fa 0, .inl (g.2 0, 2, .inl (zaI fi))), (rf 6, .inl (g.2 7, 1, .inr (.inr (.inr (.inr (zaR sea)))))), (sea 0, .inl (g.2 0, 2, .inl (zaI sf))), (rf 9, .inl (g.2 1, 120530, .inl (zaB hdf))), (rf 3, .inl (g.2 1, 1, .inl (zaB to)))] H := hP
  have hD : va_D A [(qq, .inr (5, [.int (iI (0)), .ref (rf 0), .int (iI (ln)), .int (iI (pl)), .int (iI (yy)), .int (iI (mm)), .int (iI (dd)), .int (iI (at0)), .ref (rf 1), .ref (rf 2), .ref (rf 3), .ref (rf 4), .ref (rf 5), .ref (rf 6), .int (iI (wa)), .int (iI (on)), .int (iI (tw)), .ref (rf 7), .ref (rf 8), .ref (rf 9), .int (iI (hc))])), (rf 1, .inl (g.2 6, 1, .inr (.inr (.inr (.inr (zaR sa)))))), (sa 0, .inl (g.2 5, 7, .inr (.inr (.inr (.inr (zaR sr)))))), (sr 0, .inl (g.2 1, 330, .inl (zaB (st 0)))), (sr 1, .inl (g.2 1, 330, .inl (zaB (st 1)))), (sr 2, .inl (g.2 1, 330, .inl (zaB (st 2)))), (sr 3, .inl (g.2 1, 330, .inl (zaB (st 3)))), (sr 4, .inl (g.2 1, 330, .inl (zaB (st 4)))), (sr 5, .inl (g.2 1, 330, .inl (zaB (st 5)))), (sr 6, .inl (g.2 1, 330, .inl (zaB (st 6)))), (rf 4, .inl (g.2 7, 1, .inr (.inr (.inr (.inr (zaR wya)))))), (wya 0, .inl (g.2 0, 2, .inl (zaI wf))), (rf 5, .inl (g.2 7, 1, .inr (.inr (.inr (.inr (zaR fa)))))), (fa 0, .inl (g.2 0, 2, .inl (zaI fi))), (rf 6, .inl (g.2 7, 1, .inr (.inr (.inr (.inr (zaR sea)))))), (sea 0, .inl (g.2 0, 2, .inl (zaI sf))), (rf 9, .inl (g.2 1, 120530, .inl (zaB hdf))), (rf 3, .inl (g.2 1, 1, .inl (zaB to)))] := hD
  refine lv_aload_n hx hb zd_Q_last_5 rfl (lv_at hl 0 rfl) ?_
  refine lv_lload_n hx hb zd_Q_last_6 rfl (lv_at hl 1 rfl) ?_
  refine zk_V (As := [.long (lI (tm))]) (b := qq) (own := "CronFinderModel") (nL := 3) (rest := []) hx hb hml hown hw (c_Q_out l g qq (tm) (by omega)) zw_4_104 zw_4_106 zw_0_38 zw_1_7 zw_4_107 (np := 1) (by decide +kernel) rfl ⟨rfl, rfl, Nat.le_of_ble_eq_true rfl, Nat.le_of_ble_eq_true rfl⟩ zN_mv hK trivial (hP.sub (ws' := []) [] rfl) (va_recv hK hP (ci := 5) (q0 := 0) rfl rfl) hl.1 rfl (Nat.le_of_ble_eq_true rfl) ⟨Nat.zero_le _, Nat.zero_le _⟩ zd_Q_last_7 ?_
  refine zb_if_eq (tgt := 22) hx hb zd_Q_last_10 (by decide) (fun c10 => ?_) (fun c10 => ?_)
  · refine lv_aload_n hx hb zd_Q_last_22 rfl (lv_at hl 0 rfl) ?_
    refine lv_lload_n hx hb zd_Q_last_23 rfl (lv_at hl 1 rfl) ?_
    refine zk_J (As := [.long (lI (tm))]) (b := qq) (own := "CronFinderModel") (nL := 3) (rest := []) hx hb hml hown hw (zE_j (c_Q_upTo_t l g hl0 qq rf (0) (ln) (pl) (yy) (mm) (dd) (at0) (wa) (on) (tw) (hc) sa sr st fa wya sea fi wf sf hdf to (tm) rr (by omega) hfi hwf hf1 hj 0 0 (Or.inl ⟨trivial, rfl, rfl⟩)) trivial) zw_4_150 zw_4_152 zw_0_44 zw_1_7 zw_4_153 (np := 1) (by decide +kernel) rfl ⟨rfl, rfl, Nat.le_of_ble_eq_true rfl, Nat.le_of_ble_eq_true rfl⟩ (fun _ => zN_mv) hK trivial hP hD hS hA [0, 1, 2, 3, 4, 5, 6, 7, 8, 9, 10, 11, 12, 13, 14, 15, 16, 17] (zC_c rfl (zC_c rfl (zC_c rfl (zC_c rfl (zC_c rfl (zC_c rfl (zC_c rfl (zC_c rfl (zC_c rfl (zC_c rfl (zC_c rfl (zC_c rfl (zC_c rfl (zC_c rfl (zC_c rfl (zC_c rfl (zC_c rfl (zC_c rfl rfl)))))))))))))))))) (by decide) (fun _ => rfl) (va_recv hK hP (ci := 5) (q0 := 0) rfl rfl) hl.1 rfl (Nat.le_of_ble_eq_true rfl) ⟨Nat.zero_le _, Nat.zero_le _⟩ zd_Q_last_24 (fun u24 H locs hP hD hS => ?_)
    have e9 : zPut [(qq, .inr (5, [.int (iI (0)), .ref (rf 0), .int (iI (ln)), .int (iI (pl)), .int (iI (yy)), .int (iI (mm)), .int (iI (dd)), .int (iI (at0)), .ref (rf 1), .ref (rf 2), .ref (rf 3), .ref (rf 4), .ref (rf 5), .ref (rf 6), .int (iI (wa)), .int (iI (on)), .int (iI (tw)), .ref (rf 7), .ref (rf 8), .ref (rf 9), .int (iI (hc))])), (rf 1, .inl (g.2 6, 1, .inr (.inr (.inr (.inr (zaR sa)))))), (sa 0, .inl (g.2 5, 7, .inr (.inr (.inr (.inr (zaR sr)))))), (sr 0, .inl (g.2 1, 330, .inl (zaB (st 0)))), (sr 1, .inl (g.2 1, 330, .inl (zaB (st 1)))), (sr 2, .inl (g.2 1, 330, .inl (zaB (st 2)))), (sr 3, .inl (g.2 1, 330, .inl (zaB (st 3)))), (sr 4, .inl (g.2 1, 330, .inl (zaB (st 4)))), (sr 5, .inl (g.2 1, 330, .inl (zaB (st 5)))), (sr 6, .inl (g.2 1, 330, .inl (zaB (st 6)))), (rf 4, .inl (g.2 7, 1, .inr (.inr (.inr (.inr (zaR wya)))))), (wya 0, .inl (g.2 0, 2, .inl (zaI wf))), (rf 5, .inl (g.2 7, 1, .inr (.inr (.inr (.inr (zaR fa)))))), (fa 0, .inl (g.2 0, 2, .inl (zaI fi))), (rf 6, .inl (g.2 7, 1, .inr (.inr (.inr (.inr (zaR sea)))))), (sea 0, .inl (g.2 0, 2, .inl (zaI sf))), (rf 9, .inl (g.2 1, 120530, .inl (zaB hdf))), (rf 3, .inl (g.2 1, 1, .inl (zaB to)))] [0, 1, 2, 3, 4, 5, 6, 7, 8, 9, 10, 11, 12, 13, 14, 15, 16, 17] [(qq, .inr (5, [.int (iI (0)), .ref (rf 0), .int (iI (ln)), .int (iI (pl)), .int (iI (u24.1 0)), .int (iI (u24.1 1)), .int (iI (u24.1 2)), .int (iI (at0)), .ref (rf 1), .ref (rf 2), .ref (rf 3), .ref (rf 4), .ref (rf 5), .ref (rf 6), .int (iI (wa)), .int (iI (on)), .int (iI (tw)), .ref (rf 7), .ref (rf 8), .ref (rf 9), .int (iI (hc))])), (rf 1, .inl (g.2 6, 1, .inr (.inr (.inr (.inr (zaR sa)))))), (sa 0, .inl (g.2 5, 7, .inr (.inr (.inr (.inr (zaR sr)))))), (sr 0, .inl (g.2 1, 330, .inl (zaB (st 0)))), (sr 1, .inl (g.2 1, 330, .inl (zaB (st 1)))), (sr 2, .inl (g.2 1, 330, .inl (zaB (st 2)))), (sr 3, .inl (g.2 1, 330, .inl (zaB (st 3)))), (sr 4, .inl (g.2 1, 330, .inl (zaB (st 4)))), (sr 5, .inl (g.2 1, 330, .inl (zaB (st 5)))), (sr 6, .inl (g.2 1, 330, .inl (zaB (st 6)))), (rf 4, .inl (g.2 7, 1, .inr (.inr (.inr (.inr (zaR wya)))))), (wya 0, .inl (g.2 0, 2, .inl (zaI wf))), (rf 5, .inl (g.2 7, 1, .inr (.inr (.inr (.inr (zaR fa)))))), (fa 0, .inl (g.2 0, 2, .inl (zaI fi))), (rf 6, .inl (g.2 7, 1, .inr (.inr (.inr (.inr (zaR sea)))))), (sea 0, .inl (g.2 0, 2, .inl (zaI sf))), (rf 9, .inl (g.2 1, 120530, .inl (zaB hdf))), (rf 3, .inl (g.2 1, 1, .inl (zaB to)))] = [(qq, .inr (5, [.int (iI (0)), .ref (rf 0), .int (iI (ln)), .int (iI (pl)), .int (iI (u24.1 0)), .int (iI (u24.1 1)), .int (iI (u24.1 2)), .int (iI (at0)), .ref (rf 1), .ref (rf 2), .ref (rf 3), .ref (rf 4), .ref (rf 5), .ref (rf 6), .int (iI (wa)), .int (iI (on)), .int (iI (tw)), .ref (rf 7), .ref (rf 8), .ref (rf 9), .int (iI (hc))])), (rf 1, .inl (g.2 6, 1, .inr (.inr (.inr (.inr (zaR sa)))))), (sa 0, .inl (g.2 5, 7, .inr (.inr (.inr (.inr (zaR sr)))))), (sr 0, .inl (g.2 1, 330, .inl (zaB (st 0)))), (sr 1, .inl (g.2 1, 330, .inl (zaB (st 1)))), (sr 2, .inl (g.2 1, 330, .inl (zaB (st 2)))), (sr 3, .inl (g.2 1, 330, .inl (zaB (st 3)))), (sr 4, .inl (g.2 1, 330, .inl (zaB (st 4)))), (sr 5, .inl (g.2 1, 330, .inl (zaB (st 5)))), (sr 6, .inl (g.2 1, 330, .inl (zaB (st 6)))), (rf 4, .inl (g.2 7, 1, .inr (.inr (.inr (.inr (zaR wya)))))), (wya 0, .inl (g.2 0, 2, .inl (zaI wf))), (rf 5, .inl (g.2 7, 1, .inr (.inr (.inr (.inr (zaR fa)))))), (fa 0, .inl (g.2 0, 2, .inl (zaI fi))), (rf 6, .inl (g.2 7, 1, .inr (.inr (.inr (.inr (zaR sea)))))), (sea 0, .inl (g.2 0, 2, .inl (zaI sf))), (rf 9, .inl (g.2 1, 120530, .inl (zaB hdf))), (rf 3, .inl (g.2 1, 1, .inl (zaB to)))] := zPut_one [(qq, .inr (5, [.int (iI (0)), .ref (rf 0), .int (iI (ln)), .int (iI (pl)), .int (iI (yy)), .int (iI (mm)), .int (iI (dd)), .int (iI (at0)), .ref (rf 1), .ref (rf 2), .ref (rf 3), .ref (rf 4), .ref (rf 5), .ref (rf 6), .int (iI (wa)), .int (iI (on)), .int (iI (tw)), .ref (rf 7), .ref (rf 8), .ref (rf 9), .int (iI (hc))])), (rf 1, .inl (g.2 6, 1, .inr (.inr (.inr (.inr (zaR sa)))))), (sa 0, .inl (g.2 5, 7, .inr (.inr (.inr (.inr (zaR sr)))))), (sr 0, .inl (g.2 1, 330, .inl (zaB (st 0)))), (sr 1, .inl (g.2 1, 330, .inl (zaB (st 1)))), (sr 2, .inl (g.2 1, 330, .inl (zaB (st 2)))), (sr 3, .inl (g.2 1, 330, .inl (zaB (st 3)))), (sr 4, .inl (g.2 1, 330, .inl (zaB (st 4)))), (sr 5, .inl (g.2 1, 330, .inl (zaB (st 5)))), (sr 6, .inl (g.2 1, 330, .inl (zaB (st 6)))), (rf 4, .inl (g.2 7, 1, .inr (.inr (.inr (.inr (zaR wya)))))), (wya 0, .inl (g.2 0, 2, .inl (zaI wf))), (rf 5, .inl (g.2 7, 1, .inr (.inr (.inr (.inr (zaR fa)))))), (fa 0, .inl (g.2 0, 2, .inl (zaI fi))), (rf 6, .inl (g.2 7, 1, .inr (.inr (.inr (.inr (zaR sea)))))), (sea 0, .inl (g.2 0, 2, .inl (zaI sf))), (rf 9, .inl (g.2 1, 120530, .inl (zaB hdf))), (rf 3, .inl (g.2 1, 1, .inl (zaB to)))] [] [1, 2, 3, 4, 5, 6, 7, 8, 9, 10, 11, 12, 13, 14, 15, 16, 17] [] [(rf 1, .inl (g.2 6, 1, .inr (.inr (.inr (.inr (zaR sa)))))), (sa 0, .inl (g.2 5, 7, .inr (.inr (.inr (.inr (zaR sr)))))), (sr 0, .inl (g.2 1, 330, .inl (zaB (st 0)))), (sr 1, .inl (g.2 1, 330, .inl (zaB (st 1)))), (sr 2, .inl (g.2 1, 330, .inl (zaB (st 2)))), (sr 3, .inl (g.2 1, 330, .inl (zaB (st 3)))), (sr 4, .inl (g.2 1, 330, .inl (zaB (st 4)))), (sr 5, .inl (g.2 1, 330, .inl (zaB (st 5)))), (sr 6, .inl (g.2 1, 330, .inl (zaB (st 6)))), (rf 4, .inl (g.2 7, 1, .inr (.inr (.inr (.inr (zaR wya)))))), (wya 0, .inl (g.2 0, 2, .inl (zaI wf))), (rf 5, .inl (g.2 7, 1, .inr (.inr (.inr (.inr (zaR fa)))))), (fa 0, .inl (g.2 0, 2, .inl (zaI fi))), (rf 6, .inl (g.2 7, 1, .inr (.inr (.inr (.inr (zaR sea)))))), (sea 0, .inl (g.2 0, 2, .inl (zaI sf))), (rf 9, .inl (g.2 1, 120530, .inl (zaB hdf))), (rf 3, .inl (g.2 1, 1, .inl (zaB to)))] 0 (qq, .inr (5, [.int (iI (0)), .ref (rf 0), .int (iI (ln)), .int (iI (pl)), .int (iI (u24.1 0)), .int (iI (u24.1 1)), .int (iI (u24.1 2)), .int (iI (at0)), .ref (rf 1), .ref (rf 2), .ref (rf 3), .ref (rf 4), .ref (rf 5), .ref (rf 6), .int (iI (wa)), .int (iI (on)), .int (iI (tw)), .ref (rf 7), .ref (rf 8), .ref (rf 9), .int (iI (hc))])) (rfl) (zC_c rfl (zC_c rfl (zC_c rfl (zC_c rfl (zC_c rfl (zC_c rfl (zC_c rfl (zC_c rfl (zC_c rfl (zC_c rfl (zC_c rfl (zC_c rfl (zC_c rfl (zC_c rfl (zC_c rfl (zC_c rfl (zC_c rfl rfl)))))))))))))))))
    have hP : va_P g.1 zCl [(qq, .inr (5, [.int (iI (0)), .ref (rf 0), .int (iI (ln)), .int (iI (pl)), .int (iI (u24.1 0)), .int (iI (u24.1 1)), .int (iI (u24.1 2)), .int (iI (at0)), .ref (rf 1), .ref (rf 2), .ref (rf 3), .ref (rf 4), .ref (rf 5), .ref (rf 6), .int (iI (wa)), .int (iI (on)), .int (iI (tw)), .ref (rf 7), .ref (rf 8), .ref (rf 9), .int (iI (hc))])), (rf 1, .inl (g.2 6, 1, .inr (.inr (.inr (.inr (zaR sa)))))), (sa 0, .inl (g.2 5, 7, .inr (.inr (.inr (.inr (zaR sr)))))), (sr 0, .inl (g.2 1, 330, .inl (zaB (st 0)))), (sr 1, .inl (g.2 1, 330, .inl (zaB (st 1)))), (sr 2, .inl (g.2 1, 330, .inl (zaB (st 2)))), (sr 3, .inl (g.2 1, 330, .inl (zaB (st 3)))), (sr 4, .inl (g.2 1, 330, .inl (zaB (st 4)))), (sr 5, .inl (g.2 1, 330, .inl (zaB (st 5)))), (sr 6, .inl (g.2 1, 330, .inl (zaB (st 6)))), (rf 4, .inl (g.2 7, 1, .inr (.inr (.inr (.inr (zaR wya)))))), (wya 0, .inl (g.2 0, 2, .inl (zaI wf))), (rf 5, .inl (g.2 7, 1, .inr (.inr (.inr (.inr (zaR fa)))))), (fa 0, .inl (g.2 0, 2, .inl (zaI fi))), (rf 6, .inl (g.2 7, 1, .inr (.inr (.inr (.inr (zaR sea)))))), (sea 0, .inl (g.2 0, 2, .inl (zaI sf))), (rf 9, .inl (g.2 1, 120530, .inl (zaB hdf))), (rf 3, .inl (g.2 1, 1, .inl (zaB to)))] H := Eq.mp (congrArg (fun w => va_P g.1 zCl w H) e9) hP
    have hD : va_D A [(qq, .inr (5, [.int (iI (0)), .ref (rf 0), .int (iI (ln)), .int (iI (pl)), .int (iI (u24.1 0)), .int (iI (u24.1 1)), .int (iI (u24.1 2)), .int (iI (at0)), .ref (rf 1), .ref (rf 2), .ref (rf 3), .ref (rf 4), .ref (rf 5), .ref (rf 6), .int (iI (wa)), .int (iI (on)), .int (iI (tw)), .ref (rf 7), .ref (rf 8), .ref (rf 9), .int (iI (hc))])), (rf 1, .inl (g.2 6, 1, .inr (.inr (.inr (.inr (zaR sa)))))), (sa 0, .inl (g.2 5, 7, .inr (.inr (.inr (.inr (zaR sr)))))), (sr 0, .inl (g.2 1, 330, .inl (zaB (st 0)))), (sr 1, .inl (g.2 1, 330, .inl (zaB (st 1)))), (sr 2, .inl (g.2 1, 330, .inl (zaB (st 2)))), (sr 3, .inl (g.2 1, 330, .inl (zaB (st 3)))), (sr 4, .inl (g.2 1, 330, .inl (zaB (st 4)))), (sr 5, .inl (g.2 1, 330, .inl (zaB (st 5)))), (sr 6, .inl (g.2 1, 330, .inl (zaB (st 6)))), (rf 4, .inl (g.2 7, 1, .inr (.inr (.inr (.inr (zaR wya)))))), (wya 0, .inl (g.2 0, 2, .inl (zaI wf))), (rf 5, .inl (g.2 7, 1, .inr (.inr (.inr (.inr (zaR fa)))))), (fa 0, .inl (g.2 0, 2, .inl (zaI fi))), (rf 6, .inl (g.2 7, 1, .inr (.inr (.inr (.inr (zaR sea)))))), (sea 0, .inl (g.2 0, 2, .inl (zaI sf))), (rf 9, .inl (g.2 1, 120530, .inl (zaB hdf))), (rf 3, .inl (g.2 1, 1, .inl (zaB to)))] := Eq.mp (congrArg (fun w => va_D A w) e9) hD
    have hok9 := trivial
    exact zq_lret hx hb hr hlk (zj [u24.1 0, u24.1 1, u24.1 2], fun _ _ => false) hP hS hok9 (zHm_y hmc hok9) zd_Q_last_27
  · exact absurd ((qOut_i _).mp c10) (by omega)
set_option maxHeartbeats 4000000 in
set_option maxRecDepth 100000 in
theorem c_Q_is_x (l : Launch) (g : zGl) (qq : Nat) (rf : Nat → Nat) (fl ln pl yy mm dd at0 wa on tw hc : Int) (tm : Int) (hi : -9223372036854775808 ≤ tm ∧ tm < 9223372036854775808) (hn : tm < 0 ∨ 10413791999 < tm) : zWi l zy_Q_is zc_Q_is 3 (some .boolean) ({ frames := 6, cells := 0, slots := 0, locals := 139 }) g (fun _ => zN) [.ref (qq), .long (lI (tm))] [(qq, .inr (5, [.int (iI (fl)), .ref (rf 0), .int (iI (ln)), .int (iI (pl)), .int (iI (yy)), .int (iI (mm)), .int (iI (dd)), .int (iI (at0)), .ref (rf 1), .ref (rf 2), .ref (rf 3), .ref (rf 4), .ref (rf 5), .ref (rf 6), .int (iI (wa)), .int (iI (on)), .int (iI (tw)), .ref (rf 7), .ref (rf 8), .ref (rf 9), .int (iI (hc))]))] (some (.int (iI (bI (false))))) [(qq, .inr (5, [.int (iI (1)), .ref (rf 0), .int (iI (ln)), .int (iI (pl)), .int (iI (yy)), .int (iI (mm)), .int (iI (dd)), .int (iI (at0)), .ref (rf 1), .ref (rf 2), .ref (rf 3), .ref (rf 4), .ref (rf 5), .ref (rf 6), .int (iI (wa)), .int (iI (on)), .int (iI (tw)), .ref (rf 7), .ref (rf 8), .ref (rf 9), .int (iI (hc))]))] 0 0 := by
  refine zw_open (by decide +kernel) (Nat.le_of_ble_eq_true rfl) ?_
  intro p e s m below meth c ls A hx hb hml hr hlk hown hin hw hK hT hP hD hS hA hl
  have hown : s.vm.findClass "CronFinderModel" = some m.cls := hown
  have hl : lv_has ls 3 [(0, .ref (qq)), (1, .long (lI (tm)))] := hl
  refine lv_aload_n hx hb zd_Q_is_0 rfl (lv_at hl 0 rfl) ?_
  refine zi_iconst hx hb zd_Q_is_1 ?_
  refine va_put (D := g.1) (ci := 5) (v := .int (iI (0))) (ty := .int) (C := zR_Q) (T := zT_Q) (N := 21) hx hb hw zin_Q zt_Q zto_Q zn_Q hown hK hP hD hS 0 rfl rfl 0 (by decide) (hw _ zw_3_198) (fun _ h9 => h9) rfl  (by decide +kernel) rfl rfl (Nat.le_of_ble_eq_true rfl) zd_Q_is_2 (fun H locs hP hD hS => ?_)
  have hP : va_P g.1 zCl [(qq, .inr (5, [.int (iI (0)), .ref (rf 0), .int (iI (ln)), .int (iI (pl)), .int (iI (yy)), .int (iI (mm)), .int (iI (dd)), .int (iI (at0)), .ref (rf 1), .ref (rf 2), .ref (rf 3), .ref (rf 4), .ref (rf 5), .ref (rf 6), .int (iI (wa)), .int (iI (on)), .int (iI (tw)), .ref (rf 7), .ref (rf 8), .ref (rf 9), .int (iI (hc))]))] H := hP
  have hD : va_D A [(qq, .inr (5, [.int (iI (0)), .ref (rf 0), .int (iI (ln)), .int (iI (pl)), .int (iI (yy)), .int (iI (mm)), .int (iI (dd)), .int (iI (at0)), .ref (rf 1), .ref (rf 2), .ref (rf 3), .ref (rf 4), .ref (rf 5), .ref (rf 6), .int (iI (wa)), .int (iI (on)), .int (iI (tw)), .ref (rf 7), .ref (rf 8), .ref (rf 9), .int (iI (hc))]))] := hD
  refine lv_aload_n hx hb zd_Q_is_5 rfl (lv_at hl 0 rfl) ?_
  refine lv_lload_n hx hb zd_Q_is_6 rfl (lv_at hl 1 rfl) ?_
  refine zk_V (As := [.long (lI (tm))]) (b := qq) (own := "CronFinderModel") (nL := 3) (rest := []) hx hb hml hown hw (c_Q_out l g qq (tm) (by omega)) zw_4_104 zw_4_106 zw_0_38 zw_1_7 zw_4_107 (np := 1) (by decide +kernel) rfl (by decide) zN_mv hK trivial (hP.sub (ws' := []) [] rfl) (va_recv hK hP (ci := 5) (q0 := 0) rfl rfl) hl.1 rfl (Nat.le_of_ble_eq_true rfl) (by decide) zd_Q_is_7 ?_
  refine zb_if_eq (tgt := 29) hx hb zd_Q_is_10 (by decide) (fun c10 => ?_) (fun c10 => ?_)
  · exact absurd ((qOut_i _).mpr hn) (by rw [c10]; decide)
  · refine lv_aload_n hx hb zd_Q_is_13 rfl (lv_at hl 0 rfl) ?_
    refine zi_iconst hx hb zd_Q_is_14 ?_
    refine zk_W (As := [.int (iI (1))]) (b := qq) (own := "CronFinderModel") (nL := 3) (rest := []) hx hb hml hown hw (c_Q_fail l g qq rf (0) (ln) (pl) (yy) (mm) (dd) (at0) (wa) (on) (tw) (hc) (1)) zw_4_96 zw_4_98 zw_0_37 zw_1_7 zw_4_99 (np := 1) (by decide +kernel) rfl (by decide) (fun _ => zN_mv) hK trivial hP hD hS hA [0] rfl (by decide) rfl (va_recv hK hP (ci := 5) (q0 := 0) rfl rfl) hl.1 rfl (Nat.le_of_ble_eq_true rfl) (by decide) zd_Q_is_15 (fun H locs hP hD hS => ?_)
    have hP : va_P g.1 zCl [(qq, .inr (5, [.int (iI (1)), .ref (rf 0), .int (iI (ln)), .int (iI (pl)), .int (iI (yy)), .int (iI (mm)), .int (iI (dd)), .int (iI (at0)), .ref (rf 1), .ref (rf 2), .ref (rf 3), .ref (rf 4), .ref (rf 5), .ref (rf 6), .int (iI (wa)), .int (iI (on)), .int (iI (tw)), .ref (rf 7), .ref (rf 8), .ref (rf 9), .int (iI (hc))]))] H := hP
    have hD : va_D A [(qq, .inr (5, [.int (iI (1)), .ref (rf 0), .int (iI (ln)), .int (iI (pl)), .int (iI (yy)), .int (iI (mm)), .int (iI (dd)), .int (iI (at0)), .ref (rf 1), .ref (rf 2), .ref (rf 3), .ref (rf 4), .ref (rf 5), .ref (rf 6), .int (iI (wa)), .int (iI (on)), .int (iI (tw)), .ref (rf 7), .ref (rf 8), .ref (rf 9), .int (iI (hc))]))] := hD
    refine zi_if_le (tgt := 25) hx hb zd_Q_is_18 (by decide) (by omega) (fun _ => ?_) (fun c18 => absurd c18 (by decide))
    refine zi_iconst hx hb zd_Q_is_25 ?_
    refine lv_goto (tgt := 44) hx hb zd_Q_is_26 (by decide) ?_
    refine zb_as (x := false) (rfl) ?_
    exact zw_zret hx hb hr hlk (ws := [(qq, .inr (5, [.int (iI (1)), .ref (rf 0), .int (iI (ln)), .int (iI (pl)), .int (iI (yy)), .int (iI (mm)), .int (iI (dd)), .int (iI (at0)), .ref (rf 1), .ref (rf 2), .ref (rf 3), .ref (rf 4), .ref (rf 5), .ref (rf 6), .int (iI (wa)), .int (iI (on)), .int (iI (tw)), .ref (rf 7), .ref (rf 8), .ref (rf 9), .int (iI (hc))]))]) hP hS zd_Q_is_44
theorem tNB_at {F G : Int → Bool} {tm r : Int} (h0 : 0 ≤ tm) (h : tNB F G tm r) : r = tm ↔ tOk F G tm = true := by
  rcases h with ⟨h1, h2⟩ | ⟨h1, h2, h3, h4⟩
  · constructor
    · intro e; omega
    · intro e; rw [h2 tm h0 (Int.le_refl _)] at e; cases e
  · constructor
    · intro e; rw [← e]; exact h3
    · intro e
      by_cases q : r < tm
      · rw [h4 tm q (Int.le_refl _)] at e; cases e
      · omega
theorem tNB_bd {F G : Int → Bool} {tm r : Int} (h : tNB F G tm r) : -1 ≤ r ∧ r ≤ max tm (-1) := by
  rcases h with ⟨h1, h2⟩ | ⟨h1, h2, h3, h4⟩ <;> omega
set_option maxHeartbeats 4000000 in
set_option maxRecDepth 100000 in
theorem c_Q_is (l : Launch) (g : zGl) (hl0 : l.stackTraces = false) (qq : Nat) (rf : Nat → Nat) (fl ln pl yy mm dd at0 wa on tw hc : Int) (sa sr : Nat → Nat) (st : Nat → Nat → Bool) (fa wya sea : Nat → Nat) (fi wf sf : Nat → Int) (hdf : Nat → Bool) (to : Nat → Bool) (tm rr : Int) (hx0 : 0 ≤ tm ∧ tm ≤ 10413791999) (hfi : 0 ≤ fi 0 ∧ fi 0 ≤ 31) (hwf : 0 ≤ wf 0 ∧ wf 0 ≤ 4 ∧ (wf 0 = 4 → 1 ≤ fi 0)) (hf1 : 0 ≤ fi 1 ∧ fi 1 ≤ 31 ∧ 0 ≤ wf 1 ∧ wf 1 ≤ 6 ∧ 0 ≤ sf 1 ∧ sf 1 ≤ 5) (hj : tNB (qFt to st wf fi sf hdf) (sOk (st 0) (st 1) (st 2)) tm rr) (mc ms : Nat) (hmc : zHm (True) mc ms) : zEi l zy_Q_is zc_Q_is 3 (some .boolean) ({ frames := 6, cells := mc, slots := ms, locals := 139 }) g (fun _ => zN) [.ref (qq), .long (lI (tm))] [(qq, .inr (5, [.int (iI (fl)), .ref (rf 0), .int (iI (ln)), .int (iI (pl)), .int (iI (yy)), .int (iI (mm)), .int (iI (dd)), .int (iI (at0)), .ref (rf 1), .ref (rf 2), .ref (rf 3), .ref (rf 4), .ref (rf 5), .ref (rf 6), .int (iI (wa)), .int (iI (on)), .int (iI (tw)), .ref (rf 7), .ref (rf 8), .ref (rf 9), .int (iI (hc))])), (rf 1, .inl (g.2 6, 1, .inr (.inr (.inr (.inr (zaR sa)))))), (sa 0, .inl (g.2 5, 7, .inr (.inr (.inr (.inr (zaR sr)))))), (sr 0, .inl (g.2 1, 330, .inl (zaB (st 0)))), (sr 1, .inl (g.2 1, 330, .inl (zaB (st 1)))), (sr 2, .inl (g.2 1, 330, .inl (zaB (st 2)))), (sr 3, .inl (g.2 1, 330, .inl (zaB (st 3)))), (sr 4, .inl (g.2 1, 330, .inl (zaB (st 4)))), (sr 5, .inl (g.2 1, 330, .inl (zaB (st 5)))), (sr 6, .inl (g.2 1, 330, .inl (zaB (st 6)))), (rf 4, .inl (g.2 7, 1, .inr (.inr (.inr (.inr (zaR wya)))))), (wya 0, .inl (g.2 0, 2, .inl (zaI wf))), (rf 5, .inl (g.2 7, 1, .inr (.inr (.inr (.inr (zaR fa)))))), (fa 0, .inl (g.2 0, 2, .inl (zaI fi))), (rf 6, .inl (g.2 7, 1, .inr (.inr (.inr (.inr (zaR sea)))))), (sea 0, .inl (g.2 0, 2, .inl (zaI sf))), (rf 9, .inl (g.2 1, 120530, .inl (zaB hdf))), (rf 3, .inl (g.2 1, 1, .inl (zaB to)))] (True) (some (.int (iI (bI (tOk (qFt to st wf fi sf hdf) (sOk (st 0) (st 1) (st 2)) tm))))) (fun u => [(qq, .inr (5, [.int (iI (0)), .ref (rf 0), .int (iI (ln)), .int (iI (pl)), .int (iI (u.1 0)), .int (iI (u.1 1)), .int (iI (u.1 2)), .int (iI (at0)), .ref (rf 1), .ref (rf 2), .ref (rf 3), .ref (rf 4), .ref (rf 5), .ref (rf 6), .int (iI (wa)), .int (iI (on)), .int (iI (tw)), .ref (rf 7), .ref (rf 8), .ref (rf 9), .int (iI (hc))])), (rf 1, .inl (g.2 6, 1, .inr (.inr (.inr (.inr (zaR sa)))))), (sa 0, .inl (g.2 5, 7, .inr (.inr (.inr (.inr (zaR sr)))))), (sr 0, .inl (g.2 1, 330, .inl (zaB (st 0)))), (sr 1, .inl (g.2 1, 330, .inl (zaB (st 1)))), (sr 2, .inl (g.2 1, 330, .inl (zaB (st 2)))), (sr 3, .inl (g.2 1, 330, .inl (zaB (st 3)))), (sr 4, .inl (g.2 1, 330, .inl (zaB (st 4)))), (sr 5, .inl (g.2 1, 330, .inl (zaB (st 5)))), (sr 6, .inl (g.2 1, 330, .inl (zaB (st 6)))), (rf 4, .inl (g.2 7, 1, .inr (.inr (.inr (.inr (zaR wya)))))), (wya 0, .inl (g.2 0, 2, .inl (zaI wf))), (rf 5, .inl (g.2 7, 1, .inr (.inr (.inr (.inr (zaR fa)))))), (fa 0, .inl (g.2 0, 2, .inl (zaI fi))), (rf 6, .inl (g.2 7, 1, .inr (.inr (.inr (.inr (zaR sea)))))), (sea 0, .inl (g.2 0, 2, .inl (zaI sf))), (rf 9, .inl (g.2 1, 120530, .inl (zaB hdf))), (rf 3, .inl (g.2 1, 1, .inl (zaB to)))]) "java/lang/UnsupportedOperationException" (fun u => [(qq, .inr (5, [.int (iI (0)), .ref (rf 0), .int (iI (ln)), .int (iI (pl)), .int (iI (u.1 0)), .int (iI (u.1 1)), .int (iI (u.1 2)), .int (iI (at0)), .ref (rf 1), .ref (rf 2), .ref (rf 3), .ref (rf 4), .ref (rf 5), .ref (rf 6), .int (iI (wa)), .int (iI (on)), .int (iI (tw)), .ref (rf 7), .ref (rf 8), .ref (rf 9), .int (iI (hc))])), (rf 1, .inl (g.2 6, 1, .inr (.inr (.inr (.inr (zaR sa)))))), (sa 0, .inl (g.2 5, 7, .inr (.inr (.inr (.inr (zaR sr)))))), (sr 0, .inl (g.2 1, 330, .inl (zaB (st 0)))), (sr 1, .inl (g.2 1, 330, .inl (zaB (st 1)))), (sr 2, .inl (g.2 1, 330, .inl (zaB (st 2)))), (sr 3, .inl (g.2 1, 330, .inl (zaB (st 3)))), (sr 4, .inl (g.2 1, 330, .inl (zaB (st 4)))), (sr 5, .inl (g.2 1, 330, .inl (zaB (st 5)))), (sr 6, .inl (g.2 1, 330, .inl (zaB (st 6)))), (rf 4, .inl (g.2 7, 1, .inr (.inr (.inr (.inr (zaR wya)))))), (wya 0, .inl (g.2 0, 2, .inl (zaI wf))), (rf 5, .inl (g.2 7, 1, .inr (.inr (.inr (.inr (zaR fa)))))), (fa 0, .inl (g.2 0, 2, .inl (zaI fi))), (rf 6, .inl (g.2 7, 1, .inr (.inr (.inr (.inr (zaR sea)))))), (sea 0, .inl (g.2 0, 2, .inl (zaI sf))), (rf 9, .inl (g.2 1, 120530, .inl (zaB hdf))), (rf 3, .inl (g.2 1, 1, .inl (zaB to)))]) mc ms := by
  refine ze_open (by decide +kernel) (Nat.le_of_ble_eq_true rfl) ?_
  intro p e s m below meth c ls A hx hb hml hr hno hlk hown hw hK hT hP hD hS hA hl
  have hown : s.vm.findClass "CronFinderModel" = some m.cls := hown
  have hl : lv_has ls 3 [(0, .ref (qq)), (1, .long (lI (tm)))] := hl
  have hrg := tNB_bd hj
  refine lv_aload_n hx hb zd_Q_is_0 rfl (lv_at hl 0 rfl) ?_
  refine zi_iconst hx hb zd_Q_is_1 ?_
  refine va_put (D := g.1) (ci := 5) (v := .int (iI (0))) (ty := .int) (C := zR_Q) (T := zT_Q) (N := 21) hx hb hw zin_Q zt_Q zto_Q zn_Q hown hK hP hD hS 0 rfl rfl 0 (by decide) (hw _ zw_3_198) (fun _ h9 => h9) rfl  (by decide +kernel) rfl rfl (Nat.le_of_ble_eq_true rfl) zd_Q_is_2 (fun H locs hP hD hS => ?_)
  have hP : va_P g.1 zCl [(qq, .inr (5, [.int (iI (0)), .ref (rf 0), .int (iI (ln)), .int (iI (pl)), .int (iI (yy)), .int (iI (mm)), .int (iI (dd)), .int (iI (at0)), .ref (rf 1), .ref (rf 2), .ref (rf 3), .ref (rf 4), .ref (rf 5), .ref (rf 6), .int (iI (wa)), .int (iI (on)), .int (iI (tw)), .ref (rf 7), .ref (rf 8), .ref (rf 9), .int (iI (hc))])), (rf 1, .inl (g.2 6, 1, .inr (.inr (.inr (.inr (zaR sa)))))), (sa 0, .inl (g.2 5, 7, .inr (.inr (.inr (.inr (zaR sr)))))), (sr 0, .inl (g.2 1, 330, .inl (zaB (st 0)))), (sr 1, .inl (g.2 1, 330, .inl (zaB (st 1)))), (sr 2, .inl (g.2 1, 330, .inl (zaB (st 2)))), (sr 3, .inl (g.2 1, 330, .inl (zaB (st 3)))), (sr 4, .inl (g.2 1, 330, .inl (zaB (st 4)))), (sr 5, .inl (g.2 1, 330, .inl (zaB (st 5)))), (sr 6, .inl (g.2 1, 330, .inl (zaB (st 6)))), (rf 4, .inl (g.2 7, 1, .inr (.inr (.inr (.inr (zaR wya)))))), (wya 0, .inl (g.2 0, 2, .inl (zaI wf))), (rf 5, .inl (g.2 7, 1, .inr (.inr (.inr (.inr (zaR fa)))))), (fa 0, .inl (g.2 0, 2, .inl (zaI fi))), (rf 6, .inl (g.2 7, 1, .inr (.inr (.inr (.inr (zaR sea)))))), (sea 0, .inl (g.2 0, 2, .inl (zaI sf))), (rf 9, .inl (g.2 1, 120530, .inl (zaB hdf))), (rf 3, .inl (g.2 1, 1, .inl (zaB to)))] H := hP
  have hD : va_D A [(qq, .inr (5, [.int (iI (0)), .ref (rf 0), .int (iI (ln)), .int (iI (pl)), .int (iI (yy)), .int (iI (mm)), .int (iI (dd)), .int (iI (at0)), .ref (rf 1), .ref (rf 2), .ref (rf 3), .ref (rf 4), .ref (rf 5), .ref (rf 6), .int (iI (wa)), .int (iI (on)), .int (iI (tw)), .ref (rf 7), .ref (rf 8), .ref (rf 9), .int (iI (hc))])), (rf 1, .inl (g.2 6, 1, .inr (.inr (.inr (.inr (zaR sa)))))), (sa 0, .inl (g.2 5, 7, .inr (.inr (.inr (.inr (zaR sr)))))), (sr 0, .inl (g.2 1, 330, .inl (zaB (st 0)))), (sr 1, .inl (g.2 1, 330, .inl (zaB (st 1)))), (sr 2, .inl (g.2 1, 330, .inl (zaB (st 2)))), (sr 3, .inl (g.2 1, 330, .inl (zaB (st 3)))), (sr 4, .inl (g.2 1, 330, .inl (zaB (st 4)))), (sr 5, .inl (g.2 1, 330, .inl (zaB (st 5)))), (sr 6, .inl (g.2 1, 330, .inl (zaB (st 6)))), (rf 4, .inl (g.2 7, 1, .inr (.inr (.inr (.inr (zaR wya)))))), (wya 0, .inl (g.2 0, 2, .inl (zaI wf))), (rf 5, .inl (g.2 7, 1, .inr (.inr (.inr (.inr (zaR fa)))))), (fa 0, .inl (g.2 0, 2, .inl (zaI fi))), (rf 6, .inl (g.2 7, 1, .inr (.inr (.inr (.inr (zaR sea)))))), (sea 0, .inl (g.2 0, 2, .inl (zaI sf))), (rf 9, .inl (g.2 1, 120530, .inl (zaB hdf))), (rf 3, .inl (g.2 1, 1, .inl (zaB to)))] := hD
  refine lv_aload_n hx hb zd_Q_is_5 rfl (lv_at hl 0 rfl) ?_
  refine lv_lload_n hx hb zd_Q_is_6 rfl (lv_at hl 1 rfl) ?_
  refine zk_V (As := [.long (lI (tm))]) (b := qq) (own := "CronFinderModel") (nL := 3) (rest := []) hx hb hml hown hw (c_Q_out l g qq (tm) (by omega)) zw_4_104 zw_4_106 zw_0_38 zw_1_7 zw_4_107 (np := 1) (by decide +kernel) rfl ⟨rfl, rfl, Nat.le_of_ble_eq_true rfl, Nat.le_of_ble_eq_true rfl⟩ zN_mv hK trivial (hP.sub (ws' := []) [] rfl) (va_recv hK hP (ci := 5) (q0 := 0) rfl rfl) hl.1 rfl (Nat.le_of_ble_eq_true rfl) ⟨Nat.zero_le _, Nat.zero_le _⟩ zd_Q_is_7 ?_
  refine zb_if_eq (tgt := 29) hx hb zd_Q_is_10 (by decide) (fun c10 => ?_) (fun c10 => ?_)
  · refine lv_aload_n hx hb zd_Q_is_29 rfl (lv_at hl 0 rfl) ?_
    refine lv_lload_n hx hb zd_Q_is_30 rfl (lv_at hl 1 rfl) ?_
    refine zk_J (As := [.long (lI (tm))]) (b := qq) (own := "CronFinderModel") (nL := 3) (rest := []) hx hb hml hown hw (zE_j (c_Q_upTo_t l g hl0 qq rf (0) (ln) (pl) (yy) (mm) (dd) (at0) (wa) (on) (tw) (hc) sa sr st fa wya sea fi wf sf hdf to (tm) rr (by omega) hfi hwf hf1 hj 0 0 (Or.inl ⟨trivial, rfl, rfl⟩)) trivial) zw_4_150 zw_4_152 zw_0_44 zw_1_7 zw_4_153 (np := 1) (by decide +kernel) rfl ⟨rfl, rfl, Nat.le_of_ble_eq_true rfl, Nat.le_of_ble_eq_true rfl⟩ (fun _ => zN_mv) hK trivial hP hD hS hA [0, 1, 2, 3, 4, 5, 6, 7, 8, 9, 10, 11, 12, 13, 14, 15, 16, 17] (zC_c rfl (zC_c rfl (zC_c rfl (zC_c rfl (zC_c rfl (zC_c rfl (zC_c rfl (zC_c rfl (zC_c rfl (zC_c rfl (zC_c rfl (zC_c rfl (zC_c rfl (zC_c rfl (zC_c rfl (zC_c rfl (zC_c rfl (zC_c rfl rfl)))))))))))))))))) (by decide) (fun _ => rfl) (va_recv hK hP (ci := 5) (q0 := 0) rfl rfl) hl.1 rfl (Nat.le_of_ble_eq_true rfl) ⟨Nat.zero_le _, Nat.zero_le _⟩ zd_Q_is_31 (fun u31 H locs hP hD hS => ?_)
    have e9 : zPut [(qq, .inr (5, [.int (iI (0)), .ref (rf 0), .int (iI (ln)), .int (iI (pl)), .int (iI (yy)), .int (iI (mm)), .int (iI (dd)), .int (iI (at0)), .ref (rf 1), .ref (rf 2), .ref (rf 3), .ref (rf 4), .ref (rf 5), .ref (rf 6), .int (iI (wa)), .int (iI (on)), .int (iI (tw)), .ref (rf 7), .ref (rf 8), .ref (rf 9), .int (iI (hc))])), (rf 1, .inl (g.2 6, 1, .inr (.inr (.inr (.inr (zaR sa)))))), (sa 0, .inl (g.2 5, 7, .inr (.inr (.inr (.inr (zaR sr)))))), (sr 0, .inl (g.2 1, 330, .inl (zaB (st 0)))), (sr 1, .inl (g.2 1, 330, .inl (zaB (st 1)))), (sr 2, .inl (g.2 1, 330, .inl (zaB (st 2)))), (sr 3, .inl (g.2 1, 330, .inl (zaB (st 3)))), (sr 4, .inl (g.2 1, 330, .inl (zaB (st 4)))), (sr 5, .inl (g.2 1, 330, .inl (zaB (st 5)))), (sr 6, .inl (g.2 1, 330, .inl (zaB (st 6)))), (rf 4, .inl (g.2 7, 1, .inr (.inr (.inr (.inr (zaR wya)))))), (wya 0, .inl (g.2 0, 2, .inl (zaI wf))), (rf 5, .inl (g.2 7, 1, .inr (.inr (.inr (.inr (zaR fa)))))), (fa 0, .inl (g.2 0, 2, .inl (zaI fi))), (rf 6, .inl (g.2 7, 1, .inr (.inr (.inr (.inr (zaR sea)))))), (sea 0, .inl (g.2 0, 2, .inl (zaI sf))), (rf 9, .inl (g.2 1, 120530, .inl (zaB hdf))), (rf 3, .inl (g.2 1, 1, .inl (zaB to)))] [0, 1, 2, 3, 4, 5, 6, 7, 8, 9, 10, 11, 12, 13, 14, 15, 16, 17] [(qq, .inr (5, [.int (iI (0)), .ref (rf 0), .int (iI (ln)), .int (iI (pl)), .int (iI (u31.1 0)), .int (iI (u31.1 1)), .int (iI (u31.1 2)), .int (iI (at0)), .ref (rf 1), .ref (rf 2), .ref (rf 3), .ref (rf 4), .ref (rf 5), .ref (rf 6), .int (iI (wa)), .int (iI (on)), .int (iI (tw)), .ref (rf 7), .ref (rf 8), .ref (rf 9), .int (iI (hc))])), (rf 1, .inl (g.2 6, 1, .inr (.inr (.inr (.inr (zaR sa)))))), (sa 0, .inl (g.2 5, 7, .inr (.inr (.inr (.inr (zaR sr)))))), (sr 0, .inl (g.2 1, 330, .inl (zaB (st 0)))), (sr 1, .inl (g.2 1, 330, .inl (zaB (st 1)))), (sr 2, .inl (g.2 1, 330, .inl (zaB (st 2)))), (sr 3, .inl (g.2 1, 330, .inl (zaB (st 3)))), (sr 4, .inl (g.2 1, 330, .inl (zaB (st 4)))), (sr 5, .inl (g.2 1, 330, .inl (zaB (st 5)))), (sr 6, .inl (g.2 1, 330, .inl (zaB (st 6)))), (rf 4, .inl (g.2 7, 1, .inr (.inr (.inr (.inr (zaR wya)))))), (wya 0, .inl (g.2 0, 2, .inl (zaI wf))), (rf 5, .inl (g.2 7, 1, .inr (.inr (.inr (.inr (zaR fa)))))), (fa 0, .inl (g.2 0, 2, .inl (zaI fi))), (rf 6, .inl (g.2 7, 1, .inr (.inr (.inr (.inr (zaR sea)))))), (sea 0, .inl (g.2 0, 2, .inl (zaI sf))), (rf 9, .inl (g.2 1, 120530, .inl (zaB hdf))), (rf 3, .inl (g.2 1, 1, .inl (zaB to)))] = [(qq, .inr (5, [.int (iI (0)), .ref (rf 0), .int (iI (ln)), .int (iI (pl)), .int (iI (u31.1 0)), .int (iI (u31.1 1)), .int (iI (u31.1 2)), .int (iI (at0)), .ref (rf 1), .ref (rf 2), .ref (rf 3), .ref (rf 4), .ref (rf 5), .ref (rf 6), .int (iI (wa)), .int (iI (on)), .int (iI (tw)), .ref (rf 7), .ref (rf 8), .ref (rf 9), .int (iI (hc))])), (rf 1, .inl (g.2 6, 1, .inr (.inr (.inr (.inr (zaR sa)))))), (sa 0, .inl (g.2 5, 7, .inr (.inr (.inr (.inr (zaR sr)))))), (sr 0, .inl (g.2 1, 330, .inl (zaB (st 0)))), (sr 1, .inl (g.2 1, 330, .inl (zaB (st 1)))), (sr 2, .inl (g.2 1, 330, .inl (zaB (st 2)))), (sr 3, .inl (g.2 1, 330, .inl (zaB (st 3)))), (sr 4, .inl (g.2 1, 330, .inl (zaB (st 4)))), (sr 5, .inl (g.2 1, 330, .inl (zaB (st 5)))), (sr 6, .inl (g.2 1, 330, .inl (zaB (st 6)))), (rf 4, .inl (g.2 7, 1, .inr (.inr (.inr (.inr (zaR wya)))))), (wya 0, .inl (g.2 0, 2, .inl (zaI wf))), (rf 5, .inl (g.2 7, 1, .inr (.inr (.inr (.inr (zaR fa)))))), (fa 0, .inl (g.2 0, 2, .inl (zaI fi))), (rf 6, .inl (g.2 7, 1, .inr (.inr (.inr (.inr (zaR sea)))))), (sea 0, .inl (g.2 0, 2, .inl (zaI sf))), (rf 9, .inl (g.2 1, 120530, .inl (zaB hdf))), (rf 3, .inl (g.2 1, 1, .inl (zaB to)))] := zPut_one [(qq, .inr (5, [.int (iI (0)), .ref (rf 0), .int (iI (ln)), .int (iI (pl)), .int (iI (yy)), .int (iI (mm)), .int (iI (dd)), .int (iI (at0)), .ref (rf 1), .ref (rf 2), .ref (rf 3), .ref (rf 4), .ref (rf 5), .ref (rf 6), .int (iI (wa)), .int (iI (on)), .int (iI (tw)), .ref (rf 7), .ref (rf 8), .ref (rf 9), .int (iI (hc))])), (rf 1, .inl (g.2 6, 1, .inr (.inr (.inr (.inr (zaR sa)))))), (sa 0, .inl (g.2 5, 7, .inr (.inr (.inr (.inr (zaR sr)))))), (sr 0, .inl (g.2 1, 330, .inl (zaB (st 0)))), (sr 1, .inl (g.2 1, 330, .inl (zaB (st 1)))), (sr 2, .inl (g.2 1, 330, .inl (zaB (st 2)))), (sr 3, .inl (g.2 1, 330, .inl (zaB (st 3)))), (sr 4, .inl (g.2 1, 330, .inl (zaB (st 4)))), (sr 5, .inl (g.2 1, 330, .inl (zaB (st 5)))), (sr 6, .inl (g.2 1, 330, .inl (zaB (st 6)))), (rf 4, .inl (g.2 7, 1, .inr (.inr (.inr (.inr (zaR wya)))))), (wya 0, .inl (g.2 0, 2, .inl (zaI wf))), (rf 5, .inl (g.2 7, 1, .inr (.inr (.inr (.inr (zaR fa)))))), (fa 0, .inl (g.2 0, 2, .inl (zaI fi))), (rf 6, .inl (g.2 7, 1, .inr (.inr (.inr (.inr (zaR sea)))))), (sea 0, .inl (g.2 0, 2, .inl (zaI sf))), (rf 9, .inl (g.2 1, 120530, .inl (zaB hdf))), (rf 3, .inl (g.2 1, 1, .inl (zaB to)))] [] [1, 2, 3, 4, 5, 6, 7, 8, 9, 10, 11, 12, 13, 14, 15, 16, 17] [] [(rf 1, .inl (g.2 6, 1, .inr (.inr (.inr (.inr (zaR sa)))))), (sa 0, .inl (g.2 5, 7, .inr (.inr (.inr (.inr (zaR sr)))))), (sr 0, .inl (g.2 1, 330, .inl (zaB (st 0)))), (sr 1, .inl (g.2 1, 330, .inl (zaB (st 1)))), (sr 2, .inl (g.2 1, 330, .inl (zaB (st 2)))), (sr 3, .inl (g.2 1, 330, .inl (zaB (st 3)))), (sr 4, .inl (g.2 1, 330, .inl (zaB (st 4)))), (sr 5, .inl (g.2 1, 330, .inl (zaB (st 5)))), (sr 6, .inl (g.2 1, 330, .inl (zaB (st 6)))), (rf 4, .inl (g.2 7, 1, .inr (.inr (.inr (.inr (zaR wya)))))), (wya 0, .inl (g.2 0, 2, .inl (zaI wf))), (rf 5, .inl (g.2 7, 1, .inr (.inr (.inr (.inr (zaR fa)))))), (fa 0, .inl (g.2 0, 2, .inl (zaI fi))), (rf 6, .inl (g.2 7, 1, .inr (.inr (.inr (.inr (zaR sea)))))), (sea 0, .inl (g.2 0, 2, .inl (zaI sf))), (rf 9, .inl (g.2 1, 120530, .inl (zaB hdf))), (rf 3, .inl (g.2 1, 1, .inl (zaB to)))] 0 (qq, .inr (5, [.int (iI (0)), .ref (rf 0), .int (iI (ln)), .int (iI (pl)), .int (iI (u31.1 0)), .int (iI (u31.1 1)), .int (iI (u31.1 2)), .int (iI (at0)), .ref (rf 1), .ref (rf 2), .ref (rf 3), .ref (rf 4), .ref (rf 5), .ref (rf 6), .int (iI (wa)), .int (iI (on)), .int (iI (tw)), .ref (rf 7), .ref (rf 8), .ref (rf 9), .int (iI (hc))])) (rfl) (zC_c rfl (zC_c rfl (zC_c rfl (zC_c rfl (zC_c rfl (zC_c rfl (zC_c rfl (zC_c rfl (zC_c rfl (zC_c rfl (zC_c rfl (zC_c rfl (zC_c rfl (zC_c rfl (zC_c rfl (zC_c rfl (zC_c rfl rfl)))))))))))))))))
    have hP : va_P g.1 zCl [(qq, .inr (5, [.int (iI (0)), .ref (rf 0), .int (iI (ln)), .int (iI (pl)), .int (iI (u31.1 0)), .int (iI (u31.1 1)), .int (iI (u31.1 2)), .int (iI (at0)), .ref (rf 1), .ref (rf 2), .ref (rf 3), .ref (rf 4), .ref (rf 5), .ref (rf 6), .int (iI (wa)), .int (iI (on)), .int (iI (tw)), .ref (rf 7), .ref (rf 8), .ref (rf 9), .int (iI (hc))])), (rf 1, .inl (g.2 6, 1, .inr (.inr (.inr (.inr (zaR sa)))))), (sa 0, .inl (g.2 5, 7, .inr (.inr (.inr (.inr (zaR sr)))))), (sr 0, .inl (g.2 1, 330, .inl (zaB (st 0)))), (sr 1, .inl (g.2 1, 330, .inl (zaB (st 1)))), (sr 2, .inl (g.2 1, 330, .inl (zaB (st 2)))), (sr 3, .inl (g.2 1, 330, .inl (zaB (st 3)))), (sr 4, .inl (g.2 1, 330, .inl (zaB (st 4)))), (sr 5, .inl (g.2 1, 330, .inl (zaB (st 5)))), (sr 6, .inl (g.2 1, 330, .inl (zaB (st 6)))), (rf 4, .inl (g.2 7, 1, .inr (.inr (.inr (.inr (zaR wya)))))), (wya 0, .inl (g.2 0, 2, .inl (zaI wf))), (rf 5, .inl (g.2 7, 1, .inr (.inr (.inr (.inr (zaR fa)))))), (fa 0, .inl (g.2 0, 2, .inl (zaI fi))), (rf 6, .inl (g.2 7, 1, .inr (.inr (.inr (.inr (zaR sea)))))), (sea 0, .inl (g.2 0, 2, .inl (zaI sf))), (rf 9, .inl (g.2 1, 120530, .inl (zaB hdf))), (rf 3, .inl (g.2 1, 1, .inl (zaB to)))] H := Eq.mp (congrArg (fun w => va_P g.1 zCl w H) e9) hP
    have hD : va_D A [(qq, .inr (5, [.int (iI (0)), .ref (rf 0), .int (iI (ln)), .int (iI (pl)), .int (iI (u31.1 0)), .int (iI (u31.1 1)), .int (iI (u31.1 2)), .int (iI (at0)), .ref (rf 1), .ref (rf 2), .ref (rf 3), .ref (rf 4), .ref (rf 5), .ref (rf 6), .int (iI (wa)), .int (iI (on)), .int (iI (tw)), .ref (rf 7), .ref (rf 8), .ref (rf 9), .int (iI (hc))])), (rf 1, .inl (g.2 6, 1, .inr (.inr (.inr (.inr (zaR sa)))))), (sa 0, .inl (g.2 5, 7, .inr (.inr (.inr (.inr (zaR sr)))))), (sr 0, .inl (g.2 1, 330, .inl (zaB (st 0)))), (sr 1, .inl (g.2 1, 330, .inl (zaB (st 1)))), (sr 2, .inl (g.2 1, 330, .inl (zaB (st 2)))), (sr 3, .inl (g.2 1, 330, .inl (zaB (st 3)))), (sr 4, .inl (g.2 1, 330, .inl (zaB (st 4)))), (sr 5, .inl (g.2 1, 330, .inl (zaB (st 5)))), (sr 6, .inl (g.2 1, 330, .inl (zaB (st 6)))), (rf 4, .inl (g.2 7, 1, .inr (.inr (.inr (.inr (zaR wya)))))), (wya 0, .inl (g.2 0, 2, .inl (zaI wf))), (rf 5, .inl (g.2 7, 1, .inr (.inr (.inr (.inr (zaR fa)))))), (fa 0, .inl (g.2 0, 2, .inl (zaI fi))), (rf 6, .inl (g.2 7, 1, .inr (.inr (.inr (.inr (zaR sea)))))), (sea 0, .inl (g.2 0, 2, .inl (zaI sf))), (rf 9, .inl (g.2 1, 120530, .inl (zaB hdf))), (rf 3, .inl (g.2 1, 1, .inl (zaB to)))] := Eq.mp (congrArg (fun w => va_D A w) e9) hD
    refine lv_lload_n hx hb zd_Q_is_34 rfl (lv_at hl 1 rfl) ?_
    refine zl_cmp_ne (tgt := 43) hx hb zd_Q_is_35 zd_Q_is_36 (by decide) (by omega) (fun c35 => ?_) (fun c35 => ?_)
    · refine zi_iconst hx hb zd_Q_is_43 ?_
      refine zb_as (x := tOk (qFt to st wf fi sf hdf) (sOk (st 0) (st 1) (st 2)) tm) (by first | exact bI_t ((tNB_at hx0.1 hj).mp c35) | exact bI_f (bN (tNB_at hx0.1 hj).symm c35)) ?_
      have hok9 := trivial
      exact zq_zret hx hb hr hlk (zj [u31.1 0, u31.1 1, u31.1 2], fun _ _ => false) hP hS hok9 (zHm_y hmc hok9) zd_Q_is_44
    · refine zi_iconst hx hb zd_Q_is_39 ?_
      refine lv_goto (tgt := 44) hx hb zd_Q_is_40 (by decide) ?_
      refine zb_as (x := tOk (qFt to st wf fi sf hdf) (sOk (st 0) (st 1) (st 2)) tm) (by first | exact bI_t ((tNB_at hx0.1 hj).mp c35) | exact bI_f (bN (tNB_at hx0.1 hj).symm c35)) ?_
      have hok9 := trivial
      exact zq_zret hx hb hr hlk (zj [u31.1 0, u31.1 1, u31.1 2], fun _ _ => false) hP hS hok9 (zHm_y hmc hok9) zd_Q_is_44
  · exact absurd ((qOut_i _).mp c10) (by omega)
set_option maxHeartbeats 4000000 in
set_option maxRecDepth 100000 in
theorem c_Q_later_x (l : Launch) (g : zGl) (qq : Nat) (rf : Nat → Nat) (fl ln pl yy mm dd at0 wa on tw hc : Int) (tm n : Int) (hi : -9223372036854775808 ≤ tm ∧ tm < 9223372036854775808) (hi2 : -2147483648 ≤ n ∧ n < 2147483648) (hn : (tm < 0 ∨ 10413791999 < tm) ∨ n < 1 ∨ 100 < n) : zWi l zy_Q_later zc_Q_later 7 (some .long) ({ frames := 6, cells := 0, slots := 0, locals := 139 }) g (fun _ => zN) [.ref (qq), .long (lI (tm)), .int (iI (n))] [(qq, .inr (5, [.int (iI (fl)), .ref (rf 0), .int (iI (ln)), .int (iI (pl)), .int (iI (yy)), .int (iI (mm)), .int (iI (dd)), .int (iI (at0)), .ref (rf 1), .ref (rf 2), .ref (rf 3), .ref (rf 4), .ref (rf 5), .ref (rf 6), .int (iI (wa)), .int (iI (on)), .int (iI (tw)), .ref (rf 7), .ref (rf 8), .ref (rf 9), .int (iI (hc))]))] (some (.long (lI (0)))) [(qq, .inr (5, [.int (iI (1)), .ref (rf 0), .int (iI (ln)), .int (iI (pl)), .int (iI (yy)), .int (iI (mm)), .int (iI (dd)), .int (iI (at0)), .ref (rf 1), .ref (rf 2), .ref (rf 3), .ref (rf 4), .ref (rf 5), .ref (rf 6), .int (iI (wa)), .int (iI (on)), .int (iI (tw)), .ref (rf 7), .ref (rf 8), .ref (rf 9), .int (iI (hc))]))] 0 0 := by
  refine zw_open (by decide +kernel) (Nat.le_of_ble_eq_true rfl) ?_
  intro p e s m below meth c ls A hx hb hml hr hlk hown hin hw hK hT hP hD hS hA hl
  have hown : s.vm.findClass "CronFinderModel" = some m.cls := hown
  have hl : lv_has ls 7 [(0, .ref (qq)), (1, .long (lI (tm))), (3, .int (iI (n)))] := hl
  refine lv_aload_n hx hb zd_Q_later_0 rfl (lv_at hl 0 rfl) ?_
  refine zi_iconst hx hb zd_Q_later_1 ?_
  refine va_put (D := g.1) (ci := 5) (v := .int (iI (0))) (ty := .int) (C := zR_Q) (T := zT_Q) (N := 21) hx hb hw zin_Q zt_Q zto_Q zn_Q hown hK hP hD hS 0 rfl rfl 0 (by decide) (hw _ zw_3_198) (fun _ h9 => h9) rfl  (by decide +kernel) rfl rfl (Nat.le_of_ble_eq_true rfl) zd_Q_later_2 (fun H locs hP hD hS => ?_)
  have hP : va_P g.1 zCl [(qq, .inr (5, [.int (iI (0)), .ref (rf 0), .int (iI (ln)), .int (iI (pl)), .int (iI (yy)), .int (iI (mm)), .int (iI (dd)), .int (iI (at0)), .ref (rf 1), .ref (rf 2), .ref (rf 3), .ref (rf 4), .ref (rf 5), .ref (rf 6), .int (iI (wa)), .int (iI (on)), .int (iI (tw)), .ref (rf 7), .ref (rf 8), .ref (rf 9), .int (iI (hc))]))] H := hP
  have hD : va_D A [(qq, .inr (5, [.int (iI (0)), .ref (rf 0), .int (iI (ln)), .int (iI (pl)), .int (iI (yy)), .int (iI (mm)), .int (iI (dd)), .int (iI (at0)), .ref (rf 1), .ref (rf 2), .ref (rf 3), .ref (rf 4), .ref (rf 5), .ref (rf 6), .int (iI (wa)), .int (iI (on)), .int (iI (tw)), .ref (rf 7), .ref (rf 8), .ref (rf 9), .int (iI (hc))]))] := hD
  refine lv_aload_n hx hb zd_Q_later_5 rfl (lv_at hl 0 rfl) ?_
  refine lv_lload_n hx hb zd_Q_later_6 rfl (lv_at hl 1 rfl) ?_
  refine zk_V (As := [.long (lI (tm))]) (b := qq) (own := "CronFinderModel") (nL := 7) (rest := []) hx hb hml hown hw (c_Q_out l g qq (tm) (by omega)) zw_4_104 zw_4_106 zw_0_38 zw_1_7 zw_4_107 (np := 1) (by decide +kernel) rfl (by decide) zN_mv hK trivial (hP.sub (ws' := []) [] rfl) (va_recv hK hP (ci := 5) (q0 := 0) rfl rfl) hl.1 rfl (Nat.le_of_ble_eq_true rfl) (by decide) zd_Q_later_7 ?_
  refine zb_if_ne (tgt := 24) hx hb zd_Q_later_10 (by decide) (fun c10 => ?_) (fun c10 => ?_)
  · refine lv_aload_n hx hb zd_Q_later_24 rfl (lv_at hl 0 rfl) ?_
    refine zi_iconst hx hb zd_Q_later_25 ?_
    refine zk_W (As := [.int (iI (1))]) (b := qq) (own := "CronFinderModel") (nL := 7) (rest := []) hx hb hml hown hw (c_Q_fail l g qq rf (0) (ln) (pl) (yy) (mm) (dd) (at0) (wa) (on) (tw) (hc) (1)) zw_4_96 zw_4_98 zw_0_37 zw_1_7 zw_4_99 (np := 1) (by decide +kernel) rfl (by decide) (fun _ => zN_mv) hK trivial hP hD hS hA [0] rfl (by decide) rfl (va_recv hK hP (ci := 5) (q0 := 0) rfl rfl) hl.1 rfl (Nat.le_of_ble_eq_true rfl) (by decide) zd_Q_later_26 (fun H locs hP hD hS => ?_)
    have hP : va_P g.1 zCl [(qq, .inr (5, [.int (iI (1)), .ref (rf 0), .int (iI (ln)), .int (iI (pl)), .int (iI (yy)), .int (iI (mm)), .int (iI (dd)), .int (iI (at0)), .ref (rf 1), .ref (rf 2), .ref (rf 3), .ref (rf 4), .ref (rf 5), .ref (rf 6), .int (iI (wa)), .int (iI (on)), .int (iI (tw)), .ref (rf 7), .ref (rf 8), .ref (rf 9), .int (iI (hc))]))] H := hP
    have hD : va_D A [(qq, .inr (5, [.int (iI (1)), .ref (rf 0), .int (iI (ln)), .int (iI (pl)), .int (iI (yy)), .int (iI (mm)), .int (iI (dd)), .int (iI (at0)), .ref (rf 1), .ref (rf 2), .ref (rf 3), .ref (rf 4), .ref (rf 5), .ref (rf 6), .int (iI (wa)), .int (iI (on)), .int (iI (tw)), .ref (rf 7), .ref (rf 8), .ref (rf 9), .int (iI (hc))]))] := hD
    refine zi_i2l hx hb zd_Q_later_29 (by omega) ?_
    exact zw_lret hx hb hr hlk (ws := [(qq, .inr (5, [.int (iI (1)), .ref (rf 0), .int (iI (ln)), .int (iI (pl)), .int (iI (yy)), .int (iI (mm)), .int (iI (dd)), .int (iI (at0)), .ref (rf 1), .ref (rf 2), .ref (rf 3), .ref (rf 4), .ref (rf 5), .ref (rf 6), .int (iI (wa)), .int (iI (on)), .int (iI (tw)), .ref (rf 7), .ref (rf 8), .ref (rf 9), .int (iI (hc))]))]) hP hS zd_Q_later_30
  · refine lv_iload_n hx hb zd_Q_later_13 rfl (lv_at hl 2 rfl) ?_
    refine zi_iconst hx hb zd_Q_later_14 ?_
    refine zi_icmp_lt (tgt := 24) hx hb zd_Q_later_15 (by decide) (by omega) (fun c15 => ?_) (fun c15 => ?_)
    · refine lv_aload_n hx hb zd_Q_later_24 rfl (lv_at hl 0 rfl) ?_
      refine zi_iconst hx hb zd_Q_later_25 ?_
      refine zk_W (As := [.int (iI (1))]) (b := qq) (own := "CronFinderModel") (nL := 7) (rest := []) hx hb hml hown hw (c_Q_fail l g qq rf (0) (ln) (pl) (yy) (mm) (dd) (at0) (wa) (on) (tw) (hc) (1)) zw_4_96 zw_4_98 zw_0_37 zw_1_7 zw_4_99 (np := 1) (by decide +kernel) rfl (by decide) (fun _ => zN_mv) hK trivial hP hD hS hA [0] rfl (by decide) rfl (va_recv hK hP (ci := 5) (q0 := 0) rfl rfl) hl.1 rfl (Nat.le_of_ble_eq_true rfl) (by decide) zd_Q_later_26 (fun H locs hP hD hS => ?_)
      have hP : va_P g.1 zCl [(qq, .inr (5, [.int (iI (1)), .ref (rf 0), .int (iI (ln)), .int (iI (pl)), .int (iI (yy)), .int (iI (mm)), .int (iI (dd)), .int (iI (at0)), .ref (rf 1), .ref (rf 2), .ref (rf 3), .ref (rf 4), .ref (rf 5), .ref (rf 6), .int (iI (wa)), .int (iI (on)), .int (iI (tw)), .ref (rf 7), .ref (rf 8), .ref (rf 9), .int (iI (hc))]))] H := hP
      have hD : va_D A [(qq, .inr (5, [.int (iI (1)), .ref (rf 0), .int (iI (ln)), .int (iI (pl)), .int (iI (yy)), .int (iI (mm)), .int (iI (dd)), .int (iI (at0)), .ref (rf 1), .ref (rf 2), .ref (rf 3), .ref (rf 4), .ref (rf 5), .ref (rf 6), .int (iI (wa)), .int (iI (on)), .int (iI (tw)), .ref (rf 7), .ref (rf 8), .ref (rf 9), .int (iI (hc))]))] := hD
      refine zi_i2l hx hb zd_Q_later_29 (by omega) ?_
      exact zw_lret hx hb hr hlk (ws := [(qq, .inr (5, [.int (iI (1)), .ref (rf 0), .int (iI (ln)), .int (iI (pl)), .int (iI (yy)), .int (iI (mm)), .int (iI (dd)), .int (iI (at0)), .ref (rf 1), .ref (rf 2), .ref (rf 3), .ref (rf 4), .ref (rf 5), .ref (rf 6), .int (iI (wa)), .int (iI (on)), .int (iI (tw)), .ref (rf 7), .ref (rf 8), .ref (rf 9), .int (iI (hc))]))]) hP hS zd_Q_later_30
    · refine lv_iload_n hx hb zd_Q_later_18 rfl (lv_at hl 2 rfl) ?_
      refine zi_bipush hx hb zd_Q_later_19 (by decide) ?_
      refine zi_icmp_le (tgt := 31) hx hb zd_Q_later_21 (by decide) (by omega) (fun c21 => ?_) (fun c21 => ?_)
      · exact absurd hn (fun q => q.elim (qOut_f c10) (by omega))
      · refine lv_aload_n hx hb zd_Q_later_24 rfl (lv_at hl 0 rfl) ?_
        refine zi_iconst hx hb zd_Q_later_25 ?_
        refine zk_W (As := [.int (iI (1))]) (b := qq) (own := "CronFinderModel") (nL := 7) (rest := []) hx hb hml hown hw (c_Q_fail l g qq rf (0) (ln) (pl) (yy) (mm) (dd) (at0) (wa) (on) (tw) (hc) (1)) zw_4_96 zw_4_98 zw_0_37 zw_1_7 zw_4_99 (np := 1) (by decide +kernel) rfl (by decide) (fun _ => zN_mv) hK trivial hP hD hS hA [0] rfl (by decide) rfl (va_recv hK hP (ci := 5) (q0 := 0) rfl rfl) hl.1 rfl (Nat.le_of_ble_eq_true rfl) (by decide) zd_Q_later_26 (fun H locs hP hD hS => ?_)
        have hP : va_P g.1 zCl [(qq, .inr (5, [.int (iI (1)), .ref (rf 0), .int (iI (ln)), .int (iI (pl)), .int (iI (yy)), .int (iI (mm)), .int (iI (dd)), .int (iI (at0)), .ref (rf 1), .ref (rf 2), .ref (rf 3), .ref (rf 4), .ref (rf 5), .ref (rf 6), .int (iI (wa)), .int (iI (on)), .int (iI (tw)), .ref (rf 7), .ref (rf 8), .ref (rf 9), .int (iI (hc))]))] H := hP
        have hD : va_D A [(qq, .inr (5, [.int (iI (1)), .ref (rf 0), .int (iI (ln)), .int (iI (pl)), .int (iI (yy)), .int (iI (mm)), .int (iI (dd)), .int (iI (at0)), .ref (rf 1), .ref (rf 2), .ref (rf 3), .ref (rf 4), .ref (rf 5), .ref (rf 6), .int (iI (wa)), .int (iI (on)), .int (iI (tw)), .ref (rf 7), .ref (rf 8), .ref (rf 9), .int (iI (hc))]))] := hD
        refine zi_i2l hx hb zd_Q_later_29 (by omega) ?_
        exact zw_lret hx hb hr hlk (ws := [(qq, .inr (5, [.int (iI (1)), .ref (rf 0), .int (iI (ln)), .int (iI (pl)), .int (iI (yy)), .int (iI (mm)), .int (iI (dd)), .int (iI (at0)), .ref (rf 1), .ref (rf 2), .ref (rf 3), .ref (rf 4), .ref (rf 5), .ref (rf 6), .int (iI (wa)), .int (iI (on)), .int (iI (tw)), .ref (rf 7), .ref (rf 8), .ref (rf 9), .int (iI (hc))]))]) hP hS zd_Q_later_30
set_option maxHeartbeats 4000000 in
set_option maxRecDepth 100000 in
theorem c_Q_later (l : Launch) (g : zGl) (hl0 : l.stackTraces = false) (qq : Nat) (rf : Nat → Nat) (fl ln pl yy mm dd at0 wa on tw hc : Int) (sa sr : Nat → Nat) (st : Nat → Nat → Bool) (fa wya sea : Nat → Nat) (fi wf sf : Nat → Int) (hdf : Nat → Bool) (to : Nat → Bool) (tm n rr : Int) (hx0 : 0 ≤ tm ∧ tm ≤ 10413791999) (hn : 1 ≤ n ∧ n ≤ 100) (hfi : 0 ≤ fi 0 ∧ fi 0 ≤ 31) (hwf : 0 ≤ wf 0 ∧ wf 0 ≤ 4 ∧ (wf 0 = 4 → 1 ≤ fi 0)) (hf1 : 0 ≤ fi 1 ∧ fi 1 ≤ 31 ∧ 0 ≤ wf 1 ∧ wf 1 ≤ 6 ∧ 0 ≤ sf 1 ∧ sf 1 ≤ 5) (hj : tLt (qFt to st wf fi sf hdf) (sOk (st 0) (st 1) (st 2)) n.toNat tm rr) (mc ms : Nat) (hmc : zHm (True) mc ms) : zEi l zy_Q_later zc_Q_later 7 (some .long) ({ frames := 6, cells := mc, slots := ms, locals := 139 }) g (fun _ => zN) [.ref (qq), .long (lI (tm)), .int (iI (n))] [(qq, .inr (5, [.int (iI (fl)), .ref (rf 0), .int (iI (ln)), .int (iI (pl)), .int (iI (yy)), .int (iI (mm)), .int (iI (dd)), .int (iI (at0)), .ref (rf 1), .ref (rf 2), .ref (rf 3), .ref (rf 4), .ref (rf 5), .ref (rf 6), .int (iI (wa)), .int (iI (on)), .int (iI (tw)), .ref (rf 7), .ref (rf 8), .ref (rf 9), .int (iI (hc))])), (rf 1, .inl (g.2 6, 1, .inr (.inr (.inr (.inr (zaR sa)))))), (sa 0, .inl (g.2 5, 7, .inr (.inr (.inr (.inr (zaR sr)))))), (sr 0, .inl (g.2 1, 330, .inl (zaB (st 0)))), (sr 1, .inl (g.2 1, 330, .inl (zaB (st 1)))), (sr 2, .inl (g.2 1, 330, .inl (zaB (st 2)))), (sr 3, .inl (g.2 1, 330, .inl (zaB (st 3)))), (sr 4, .inl (g.2 1, 330, .inl (zaB (st 4)))), (sr 5, .inl (g.2 1, 330, .inl (zaB (st 5)))), (sr 6, .inl (g.2 1, 330, .inl (zaB (st 6)))), (rf 4, .inl (g.2 7, 1, .inr (.inr (.inr (.inr (zaR wya)))))), (wya 0, .inl (g.2 0, 2, .inl (zaI wf))), (rf 5, .inl (g.2 7, 1, .inr (.inr (.inr (.inr (zaR fa)))))), (fa 0, .inl (g.2 0, 2, .inl (zaI fi))), (rf 6, .inl (g.2 7, 1, .inr (.inr (.inr (.inr (zaR sea)))))), (sea 0, .inl (g.2 0, 2, .inl (zaI sf))), (rf 9, .inl (g.2 1, 120530, .inl (zaB hdf))), (rf 3, .inl (g.2 1, 1, .inl (zaB to)))] (True) (some (.long (lI (rr)))) (fun u => [(qq, .inr (5, [.int (iI (0)), .ref (rf 0), .int (iI (ln)), .int (iI (pl)), .int (iI (u.1 0)), .int (iI (u.1 1)), .int (iI (u.1 2)), .int (iI (at0)), .ref (rf 1), .ref (rf 2), .ref (rf 3), .ref (rf 4), .ref (rf 5), .ref (rf 6), .int (iI (wa)), .int (iI (on)), .int (iI (tw)), .ref (rf 7), .ref (rf 8), .ref (rf 9), .int (iI (hc))])), (rf 1, .inl (g.2 6, 1, .inr (.inr (.inr (.inr (zaR sa)))))), (sa 0, .inl (g.2 5, 7, .inr (.inr (.inr (.inr (zaR sr)))))), (sr 0, .inl (g.2 1, 330, .inl (zaB (st 0)))), (sr 1, .inl (g.2 1, 330, .inl (zaB (st 1)))), (sr 2, .inl (g.2 1, 330, .inl (zaB (st 2)))), (sr 3, .inl (g.2 1, 330, .inl (zaB (st 3)))), (sr 4, .inl (g.2 1, 330, .inl (zaB (st 4)))), (sr 5, .inl (g.2 1, 330, .inl (zaB (st 5)))), (sr 6, .inl (g.2 1, 330, .inl (zaB (st 6)))), (rf 4, .inl (g.2 7, 1, .inr (.inr (.inr (.inr (zaR wya)))))), (wya 0, .inl (g.2 0, 2, .inl (zaI wf))), (rf 5, .inl (g.2 7, 1, .inr (.inr (.inr (.inr (zaR fa)))))), (fa 0, .inl (g.2 0, 2, .inl (zaI fi))), (rf 6, .inl (g.2 7, 1, .inr (.inr (.inr (.inr (zaR sea)))))), (sea 0, .inl (g.2 0, 2, .inl (zaI sf))), (rf 9, .inl (g.2 1, 120530, .inl (zaB hdf))), (rf 3, .inl (g.2 1, 1, .inl (zaB to)))]) "java/lang/UnsupportedOperationException" (fun u => [(qq, .inr (5, [.int (iI (0)), .ref (rf 0), .int (iI (ln)), .int (iI (pl)), .int (iI (u.1 0)), .int (iI (u.1 1)), .int (iI (u.1 2)), .int (iI (at0)), .ref (rf 1), .ref (rf 2), .ref (rf 3), .ref (rf 4), .ref (rf 5), .ref (rf 6), .int (iI (wa)), .int (iI (on)), .int (iI (tw)), .ref (rf 7), .ref (rf 8), .ref (rf 9), .int (iI (hc))])), (rf 1, .inl (g.2 6, 1, .inr (.inr (.inr (.inr (zaR sa)))))), (sa 0, .inl (g.2 5, 7, .inr (.inr (.inr (.inr (zaR sr)))))), (sr 0, .inl (g.2 1, 330, .inl (zaB (st 0)))), (sr 1, .inl (g.2 1, 330, .inl (zaB (st 1)))), (sr 2, .inl (g.2 1, 330, .inl (zaB (st 2)))), (sr 3, .inl (g.2 1, 330, .inl (zaB (st 3)))), (sr 4, .inl (g.2 1, 330, .inl (zaB (st 4)))), (sr 5, .inl (g.2 1, 330, .inl (zaB (st 5)))), (sr 6, .inl (g.2 1, 330, .inl (zaB (st 6)))), (rf 4, .inl (g.2 7, 1, .inr (.inr (.inr (.inr (zaR wya)))))), (wya 0, .inl (g.2 0, 2, .inl (zaI wf))), (rf 5, .inl (g.2 7, 1, .inr (.inr (.inr (.inr (zaR fa)))))), (fa 0, .inl (g.2 0, 2, .inl (zaI fi))), (rf 6, .inl (g.2 7, 1, .inr (.inr (.inr (.inr (zaR sea)))))), (sea 0, .inl (g.2 0, 2, .inl (zaI sf))), (rf 9, .inl (g.2 1, 120530, .inl (zaB hdf))), (rf 3, .inl (g.2 1, 1, .inl (zaB to)))]) mc ms := by
  refine ze_open (by decide +kernel) (Nat.le_of_ble_eq_true rfl) ?_
  intro p e s m below meth c ls A hx hb hml hr hno hlk hown hw hK hT hP hD hS hA hl
  have hown : s.vm.findClass "CronFinderModel" = some m.cls := hown
  have hl : lv_has ls 7 [(0, .ref (qq)), (1, .long (lI (tm))), (3, .int (iI (n)))] := hl
  refine lv_aload_n hx hb zd_Q_later_0 rfl (lv_at hl 0 rfl) ?_
  refine zi_iconst hx hb zd_Q_later_1 ?_
  refine va_put (D := g.1) (ci := 5) (v := .int (iI (0))) (ty := .int) (C := zR_Q) (T := zT_Q) (N := 21) hx hb hw zin_Q zt_Q zto_Q zn_Q hown hK hP hD hS 0 rfl rfl 0 (by decide) (hw _ zw_3_198) (fun _ h9 => h9) rfl  (by decide +kernel) rfl rfl (Nat.le_of_ble_eq_true rfl) zd_Q_later_2 (fun H locs hP hD hS => ?_)
  have hP : va_P g.1 zCl [(qq, .inr (5, [.int (iI (0)), .ref (rf 0), .int (iI (ln)), .int (iI (pl)), .int (iI (yy)), .int (iI (mm)), .int (iI (dd)), .int (iI (at0)), .ref (rf 1), .ref (rf 2), .ref (rf 3), .ref (rf 4), .ref (rf 5), .ref (rf 6), .int (iI (wa)), .int (iI (on)), .int (iI (tw)), .ref (rf 7), .ref (rf 8), .ref (rf 9), .int (iI (hc))])), (rf 1, .inl (g.2 6, 1, .inr (.inr (.inr (.inr (zaR sa)))))), (sa 0, .inl (g.2 5, 7, .inr (.inr (.inr (.inr (zaR sr)))))), (sr 0, .inl (g.2 1, 330, .inl (zaB (st 0)))), (sr 1, .inl (g.2 1, 330, .inl (zaB (st 1)))), (sr 2, .inl (g.2 1, 330, .inl (zaB (st 2)))), (sr 3, .inl (g.2 1, 330, .inl (zaB (st 3)))), (sr 4, .inl (g.2 1, 330, .inl (zaB (st 4)))), (sr 5, .inl (g.2 1, 330, .inl (zaB (st 5)))), (sr 6, .inl (g.2 1, 330, .inl (zaB (st 6)))), (rf 4, .inl (g.2 7, 1, .inr (.inr (.inr (.inr (zaR wya)))))), (wya 0, .inl (g.2 0, 2, .inl (zaI wf))), (rf 5, .inl (g.2 7, 1, .inr (.inr (.inr (.inr (zaR fa)))))), (fa 0, .inl (g.2 0, 2, .inl (zaI fi))), (rf 6, .inl (g.2 7, 1, .inr (.inr (.inr (.inr (zaR sea)))))), (sea 0, .inl (g.2 0, 2, .inl (zaI sf))), (rf 9, .inl (g.2 1, 120530, .inl (zaB hdf))), (rf 3, .inl (g.2 1, 1, .inl (zaB to)))] H := hP
  have hD : va_D A [(qq, .inr (5, [.int (iI (0)), .ref (rf 0), .int (iI (ln)), .int (iI (pl)), .int (iI (yy)), .int (iI (mm)), .int (iI (dd)), .int (iI (at0)), .ref (rf 1), .ref (rf 2), .ref (rf 3), .ref (rf 4), .ref (rf 5), .ref (rf 6), .int (iI (wa)), .int (iI (on)), .int (iI (tw)), .ref (rf 7), .ref (rf 8), .ref (rf 9), .int (iI (hc))])), (rf 1, .inl (g.2 6, 1, .inr (.inr (.inr (.inr (zaR sa)))))), (sa 0, .inl (g.2 5, 7, .inr (.inr (.inr (.inr (zaR sr)))))), (sr 0, .inl (g.2 1, 330, .inl (zaB (st 0)))), (sr 1, .inl (g.2 1, 330, .inl (zaB (st 1)))), (sr 2, .inl (g.2 1, 330, .inl (zaB (st 2)))), (sr 3, .inl (g.2 1, 330, .inl (zaB (st 3)))), (sr 4, .inl (g.2 1, 330, .inl (zaB (st 4)))), (sr 5, .inl (g.2 1, 330, .inl (zaB (st 5)))), (sr 6, .inl (g.2 1, 330, .inl (zaB (st 6)))), (rf 4, .inl (g.2 7, 1, .inr (.inr (.inr (.inr (zaR wya)))))), (wya 0, .inl (g.2 0, 2, .inl (zaI wf))), (rf 5, .inl (g.2 7, 1, .inr (.inr (.inr (.inr (zaR fa)))))), (fa 0, .inl (g.2 0, 2, .inl (zaI fi))), (rf 6, .inl (g.2 7, 1, .inr (.inr (.inr (.inr (zaR sea)))))), (sea 0, .inl (g.2 0, 2, .inl (zaI sf))), (rf 9, .inl (g.2 1, 120530, .inl (zaB hdf))), (rf 3, .inl (g.2 1, 1, .inl (zaB to)))] := hD
  refine lv_aload_n hx hb zd_Q_later_5 rfl (lv_at hl 0 rfl) ?_
  refine lv_lload_n hx hb zd_Q_later_6 rfl (lv_at hl 1 rfl) ?_
  refine zk_V (As := [.long (lI (tm))]) (b := qq) (own := "CronFinderModel") (nL := 7) (rest := []) hx hb hml hown hw (c_Q_out l g qq (tm) (by omega)) zw_4_104 zw_4_106 zw_0_38 zw_1_7 zw_4_107 (np := 1) (by decide +kernel) rfl ⟨rfl, rfl, Nat.le_of_ble_eq_true rfl, Nat.le_of_ble_eq_true rfl⟩ zN_mv hK trivial (hP.sub (ws' := []) [] rfl) (va_recv hK hP (ci := 5) (q0 := 0) rfl rfl) hl.1 rfl (Nat.le_of_ble_eq_true rfl) ⟨Nat.zero_le _, Nat.zero_le _⟩ zd_Q_later_7 ?_
  refine zb_if_ne (tgt := 24) hx hb zd_Q_later_10 (by decide) (fun c10 => ?_) (fun c10 => ?_)
  · exact absurd ((qOut_i _).mp c10) (by omega)
  · refine lv_iload_n hx hb zd_Q_later_13 rfl (lv_at hl 2 rfl) ?_
    refine zi_iconst hx hb zd_Q_later_14 ?_
    refine zi_icmp_lt (tgt := 24) hx hb zd_Q_later_15 (by decide) (by omega) (fun c15 => ?_) (fun c15 => ?_)
    · omega
    · refine lv_iload_n hx hb zd_Q_later_18 rfl (lv_at hl 2 rfl) ?_
      refine zi_bipush hx hb zd_Q_later_19 (by decide) ?_
      refine zi_icmp_le (tgt := 31) hx hb zd_Q_later_21 (by decide) (by omega) (fun c21 => ?_) (fun c21 => ?_)
      · refine lv_lload_n hx hb zd_Q_later_31 rfl (lv_at hl 1 rfl) ?_
        refine lv_lstore (lv' := [(4, .long (lI (tm))), (0, .ref (qq)), (1, .long (lI (tm))), (3, .int (iI (n)))]) hx hb zd_Q_later_32 hl (by decide) rfl (fun ls hl => ?_)
        refine zi_iconst hx hb zd_Q_later_34 ?_
        refine lv_istore (lv' := [(6, .int (iI (0))), (4, .long (lI (tm))), (0, .ref (qq)), (1, .long (lI (tm))), (3, .int (iI (n)))]) hx hb zd_Q_later_35 hl (by decide) rfl (fun ls hl => ?_)
        have loop : ∀ (n9 : Nat) (x k yy mm dd : Int) (H : Heap) (locs : List Loc) (ls : Array Slot), (-1 ≤ x ∧ x ≤ 10413791999) → (0 ≤ k ∧ k ≤ n) → (tLt (qFt to st wf fi sf hdf) (sOk (st 0) (st 1) (st 2)) (n - k).toNat x rr) → ((n - k).toNat < n9) → va_P g.1 zCl [(qq, .inr (5, [.int (iI (0)), .ref (rf 0), .int (iI (ln)), .int (iI (pl)), .int (iI (yy)), .int (iI (mm)), .int (iI (dd)), .int (iI (at0)), .ref (rf 1), .ref (rf 2), .ref (rf 3), .ref (rf 4), .ref (rf 5), .ref (rf 6), .int (iI (wa)), .int (iI (on)), .int (iI (tw)), .ref (rf 7), .ref (rf 8), .ref (rf 9), .int (iI (hc))])), (rf 1, .inl (g.2 6, 1, .inr (.inr (.inr (.inr (zaR sa)))))), (sa 0, .inl (g.2 5, 7, .inr (.inr (.inr (.inr (zaR sr)))))), (sr 0, .inl (g.2 1, 330, .inl (zaB (st 0)))), (sr 1, .inl (g.2 1, 330, .inl (zaB (st 1)))), (sr 2, .inl (g.2 1, 330, .inl (zaB (st 2)))), (sr 3, .inl (g.2 1, 330, .inl (zaB (st 3)))), (sr 4, .inl (g.2 1, 330, .inl (zaB (st 4)))), (sr 5, .inl (g.2 1, 330, .inl (zaB (st 5)))), (sr 6, .inl (g.2 1, 330, .inl (zaB (st 6)))), (rf 4, .inl (g.2 7, 1, .inr (.inr (.inr (.inr (zaR wya)))))), (wya 0, .inl (g.2 0, 2, .inl (zaI wf))), (rf 5, .inl (g.2 7, 1, .inr (.inr (.inr (.inr (zaR fa)))))), (fa 0, .inl (g.2 0, 2, .inl (zaI fi))), (rf 6, .inl (g.2 7, 1, .inr (.inr (.inr (.inr (zaR sea)))))), (sea 0, .inl (g.2 0, 2, .inl (zaI sf))), (rf 9, .inl (g.2 1, 120530, .inl (zaB hdf))), (rf 3, .inl (g.2 1, 1, .inl (zaB to)))] H → va_D A [(qq, .inr (5, [.int (iI (0)), .ref (rf 0), .int (iI (ln)), .int (iI (pl)), .int (iI (yy)), .int (iI (mm)), .int (iI (dd)), .int (iI (at0)), .ref (rf 1), .ref (rf 2), .ref (rf 3), .ref (rf 4), .ref (rf 5), .ref (rf 6), .int (iI (wa)), .int (iI (on)), .int (iI (tw)), .ref (rf 7), .ref (rf 8), .ref (rf 9), .int (iI (hc))])), (rf 1, .inl (g.2 6, 1, .inr (.inr (.inr (.inr (zaR sa)))))), (sa 0, .inl (g.2 5, 7, .inr (.inr (.inr (.inr (zaR sr)))))), (sr 0, .inl (g.2 1, 330, .inl (zaB (st 0)))), (sr 1, .inl (g.2 1, 330, .inl (zaB (st 1)))), (sr 2, .inl (g.2 1, 330, .inl (zaB (st 2)))), (sr 3, .inl (g.2 1, 330, .inl (zaB (st 3)))), (sr 4, .inl (g.2 1, 330, .inl (zaB (st 4)))), (sr 5, .inl (g.2 1, 330, .inl (zaB (st 5)))), (sr 6, .inl (g.2 1, 330, .inl (zaB (st 6)))), (rf 4, .inl (g.2 7, 1, .inr (.inr (.inr (.inr (zaR wya)))))), (wya 0, .inl (g.2 0, 2, .inl (zaI wf))), (rf 5, .inl (g.2 7, 1, .inr (.inr (.inr (.inr (zaR fa)))))), (fa 0, .inl (g.2 0, 2, .inl (zaI fi))), (rf 6, .inl (g.2 7, 1, .inr (.inr (.inr (.inr (zaR sea)))))), (sea 0, .inl (g.2 0, 2, .inl (zaI sf))), (rf 9, .inl (g.2 1, 120530, .inl (zaB hdf))), (rf 3, .inl (g.2 1, 1, .inl (zaB to)))] → va_S A s.heap H locs → lv_has ls 7 [(6, .int (iI (k))), (4, .long (lI (x))), (0, .ref (qq)), (1, .long (lI (tm))), (3, .int (iI (n)))] → W p l e ({ frames := 6, cells := mc, slots := ms, locals := 139 }) s m [.ref (qq), .long (lI (tm)), .int (iI (n))].toArray below meth c H locs 0 0 (vx_MQ below (zQC g (True) (some (.long (lI (rr)))) (fun u => [(qq, .inr (5, [.int (iI (0)), .ref (rf 0), .int (iI (ln)), .int (iI (pl)), .int (iI (u.1 0)), .int (iI (u.1 1)), .int (iI (u.1 2)), .int (iI (at0)), .ref (rf 1), .ref (rf 2), .ref (rf 3), .ref (rf 4), .ref (rf 5), .ref (rf 6), .int (iI (wa)), .int (iI (on)), .int (iI (tw)), .ref (rf 7), .ref (rf 8), .ref (rf 9), .int (iI (hc))])), (rf 1, .inl (g.2 6, 1, .inr (.inr (.inr (.inr (zaR sa)))))), (sa 0, .inl (g.2 5, 7, .inr (.inr (.inr (.inr (zaR sr)))))), (sr 0, .inl (g.2 1, 330, .inl (zaB (st 0)))), (sr 1, .inl (g.2 1, 330, .inl (zaB (st 1)))), (sr 2, .inl (g.2 1, 330, .inl (zaB (st 2)))), (sr 3, .inl (g.2 1, 330, .inl (zaB (st 3)))), (sr 4, .inl (g.2 1, 330, .inl (zaB (st 4)))), (sr 5, .inl (g.2 1, 330, .inl (zaB (st 5)))), (sr 6, .inl (g.2 1, 330, .inl (zaB (st 6)))), (rf 4, .inl (g.2 7, 1, .inr (.inr (.inr (.inr (zaR wya)))))), (wya 0, .inl (g.2 0, 2, .inl (zaI wf))), (rf 5, .inl (g.2 7, 1, .inr (.inr (.inr (.inr (zaR fa)))))), (fa 0, .inl (g.2 0, 2, .inl (zaI fi))), (rf 6, .inl (g.2 7, 1, .inr (.inr (.inr (.inr (zaR sea)))))), (sea 0, .inl (g.2 0, 2, .inl (zaI sf))), (rf 9, .inl (g.2 1, 120530, .inl (zaB hdf))), (rf 3, .inl (g.2 1, 1, .inl (zaB to)))]) A) (zXC g (True) "java/lang/UnsupportedOperationException" (fun u => [(qq, .inr (5, [.int (iI (0)), .ref (rf 0), .int (iI (ln)), .int (iI (pl)), .int (iI (u.1 0)), .int (iI (u.1 1)), .int (iI (u.1 2)), .int (iI (at0)), .ref (rf 1), .ref (rf 2), .ref (rf 3), .ref (rf 4), .ref (rf 5), .ref (rf 6), .int (iI (wa)), .int (iI (on)), .int (iI (tw)), .ref (rf 7), .ref (rf 8), .ref (rf 9), .int (iI (hc))])), (rf 1, .inl (g.2 6, 1, .inr (.inr (.inr (.inr (zaR sa)))))), (sa 0, .inl (g.2 5, 7, .inr (.inr (.inr (.inr (zaR sr)))))), (sr 0, .inl (g.2 1, 330, .inl (zaB (st 0)))), (sr 1, .inl (g.2 1, 330, .inl (zaB (st 1)))), (sr 2, .inl (g.2 1, 330, .inl (zaB (st 2)))), (sr 3, .inl (g.2 1, 330, .inl (zaB (st 3)))), (sr 4, .inl (g.2 1, 330, .inl (zaB (st 4)))), (sr 5, .inl (g.2 1, 330, .inl (zaB (st 5)))), (sr 6, .inl (g.2 1, 330, .inl (zaB (st 6)))), (rf 4, .inl (g.2 7, 1, .inr (.inr (.inr (.inr (zaR wya)))))), (wya 0, .inl (g.2 0, 2, .inl (zaI wf))), (rf 5, .inl (g.2 7, 1, .inr (.inr (.inr (.inr (zaR fa)))))), (fa 0, .inl (g.2 0, 2, .inl (zaI fi))), (rf 6, .inl (g.2 7, 1, .inr (.inr (.inr (.inr (zaR sea)))))), (sea 0, .inl (g.2 0, 2, .inl (zaI sf))), (rf 9, .inl (g.2 1, 120530, .inl (zaB hdf))), (rf 3, .inl (g.2 1, 1, .inl (zaB to)))]) A) [.ref (qq), .long (lI (tm)), .int (iI (n))].toArray s mc ms A) (F0 m 37 ls []) := by
          intro n9
          induction n9 with
          | zero =>
            intro x k yy mm dd H locs ls h1 hk hF h2 hP hD hS hl
            exact absurd h2 (by omega)
          | succ n9 ih =>
            intro x k yy mm dd H locs ls h1 hk hF h2 hP hD hS hl
            refine lv_iload hx hb zd_Q_later_37 (lv_at hl 0 rfl) ?_
            refine lv_iload_n hx hb zd_Q_later_39 rfl (lv_at hl 4 rfl) ?_
            refine zi_icmp_ge (tgt := 64) hx hb zd_Q_later_40 (by decide) (by omega) (fun c40 => ?_) (fun c40 => ?_)
            · refine lv_lload hx hb zd_Q_later_64 (lv_at hl 1 rfl) ?_
              refine zl_as (rr) (by first | exact tLt_m hF (by omega) | exact tLt_0 hF (by omega)) ?_
              have hok9 := trivial
              exact zq_lret hx hb hr hlk (zj [yy, mm, dd], fun _ _ => false) hP hS hok9 (zHm_y hmc hok9) zd_Q_later_66
            · refine lv_lload hx hb zd_Q_later_43 (lv_at hl 1 rfl) ?_
              refine zi_lconst (z := 0) hx hb zd_Q_later_45 (by decide) ?_
              refine zl_cmp_lt (tgt := 64) hx hb zd_Q_later_46 zd_Q_later_47 (by decide) (by omega) (fun c46 => ?_) (fun c46 => ?_)
              · refine lv_lload hx hb zd_Q_later_64 (lv_at hl 1 rfl) ?_
                refine zl_as (rr) (by first | exact tLt_m hF (by omega) | exact tLt_0 hF (by omega)) ?_
                have hok9 := trivial
                exact zq_lret hx hb hr hlk (zj [yy, mm, dd], fun _ _ => false) hP hS hok9 (zHm_y hmc hok9) zd_Q_later_66
              · rw [show (n - k).toNat = (n - (k + 1)).toNat + 1 by omega] at hF
                obtain ⟨u, hu, hF2⟩ := tLt_s hF (by omega)
                have hub := tNF_bd (by omega) hu
                refine lv_aload_n hx hb zd_Q_later_50 rfl (lv_at hl 2 rfl) ?_
                refine lv_lload hx hb zd_Q_later_51 (lv_at hl 1 rfl) ?_
                refine zk_J (As := [.long (lI (x))]) (b := qq) (own := "CronFinderModel") (nL := 7) (rest := []) hx hb hml hown hw (zE_j (c_Q_after_t l g hl0 qq rf (0) (ln) (pl) (yy) (mm) (dd) (at0) (wa) (on) (tw) (hc) sa sr st fa wya sea fi wf sf hdf to (x) u (by omega) hfi hwf hf1 hu 0 0 (Or.inl ⟨trivial, rfl, rfl⟩)) trivial) zw_4_109 zw_4_111 zw_0_39 zw_1_7 zw_4_112 (np := 1) (by decide +kernel) rfl ⟨rfl, rfl, Nat.le_of_ble_eq_true rfl, Nat.le_of_ble_eq_true rfl⟩ (fun _ => zN_mv) hK trivial hP hD hS hA [0, 1, 2, 3, 4, 5, 6, 7, 8, 9, 10, 11, 12, 13, 14, 15, 16, 17] (zC_c rfl (zC_c rfl (zC_c rfl (zC_c rfl (zC_c rfl (zC_c rfl (zC_c rfl (zC_c rfl (zC_c rfl (zC_c rfl (zC_c rfl (zC_c rfl (zC_c rfl (zC_c rfl (zC_c rfl (zC_c rfl (zC_c rfl (zC_c rfl rfl)))))))))))))))))) (by decide) (fun _ => rfl) (va_recv hK hP (ci := 5) (q0 := 0) rfl rfl) hl.1 rfl (Nat.le_of_ble_eq_true rfl) ⟨Nat.zero_le _, Nat.zero_le _⟩ zd_Q_later_53 (fun u53 H locs hP hD hS => ?_)
                have e9 : zPut [(qq, .inr (5, [.int (iI (0)), .ref (rf 0), .int (iI (ln)), .int (iI (pl)), .int (iI (yy)), .int (iI (mm)), .int (iI (dd)), .int (iI (at0)), .ref (rf 1), .ref (rf 2), .ref (rf 3), .ref (rf 4), .ref (rf 5), .ref (rf 6), .int (iI (wa)), .int (iI (on)), .int (iI (tw)), .ref (rf 7), .ref (rf 8), .ref (rf 9), .int (iI (hc))])), (rf 1, .inl (g.2 6, 1, .inr (.inr (.inr (.inr (zaR sa)))))), (sa 0, .inl (g.2 5, 7, .inr (.inr (.inr (.inr (zaR sr)))))), (sr 0, .inl (g.2 1, 330, .inl (zaB (st 0)))), (sr 1, .inl (g.2 1, 330, .inl (zaB (st 1)))), (sr 2, .inl (g.2 1, 330, .inl (zaB (st 2)))), (sr 3, .inl (g.2 1, 330, .inl (zaB (st 3)))), (sr 4, .inl (g.2 1, 330, .inl (zaB (st 4)))), (sr 5, .inl (g.2 1, 330, .inl (zaB (st 5)))), (sr 6, .inl (g.2 1, 330, .inl (zaB (st 6)))), (rf 4, .inl (g.2 7, 1, .inr (.inr (.inr (.inr (zaR wya)))))), (wya 0, .inl (g.2 0, 2, .inl (zaI wf))), (rf 5, .inl (g.2 7, 1, .inr (.inr (.inr (.inr (zaR fa)))))), (fa 0, .inl (g.2 0, 2, .inl (zaI fi))), (rf 6, .inl (g.2 7, 1, .inr (.inr (.inr (.inr (zaR sea)))))), (sea 0, .inl (g.2 0, 2, .inl (zaI sf))), (rf 9, .inl (g.2 1, 120530, .inl (zaB hdf))), (rf 3, .inl (g.2 1, 1, .inl (zaB to)))] [0, 1, 2, 3, 4, 5, 6, 7, 8, 9, 10, 11, 12, 13, 14, 15, 16, 17] [(qq, .inr (5, [.int (iI (0)), .ref (rf 0), .int (iI (ln)), .int (iI (pl)), .int (iI (u53.1 0)), .int (iI (u53.1 1)), .int (iI (u53.1 2)), .int (iI (at0)), .ref (rf 1), .ref (rf 2), .ref (rf 3), .ref (rf 4), .ref (rf 5), .ref (rf 6), .int (iI (wa)), .int (iI (on)), .int (iI (tw)), .ref (rf 7), .ref (rf 8), .ref (rf 9), .int (iI (hc))])), (rf 1, .inl (g.2 6, 1, .inr (.inr (.inr (.inr (zaR sa)))))), (sa 0, .inl (g.2 5, 7, .inr (.inr (.inr (.inr (zaR sr)))))), (sr 0, .inl (g.2 1, 330, .inl (zaB (st 0)))), (sr 1, .inl (g.2 1, 330, .inl (zaB (st 1)))), (sr 2, .inl (g.2 1, 330, .inl (zaB (st 2)))), (sr 3, .inl (g.2 1, 330, .inl (zaB (st 3)))), (sr 4, .inl (g.2 1, 330, .inl (zaB (st 4)))), (sr 5, .inl (g.2 1, 330, .inl (zaB (st 5)))), (sr 6, .inl (g.2 1, 330, .inl (zaB (st 6)))), (rf 4, .inl (g.2 7, 1, .inr (.inr (.inr (.inr (zaR wya)))))), (wya 0, .inl (g.2 0, 2, .inl (zaI wf))), (rf 5, .inl (g.2 7, 1, .inr (.inr (.inr (.inr (zaR fa)))))), (fa 0, .inl (g.2 0, 2, .inl (zaI fi))), (rf 6, .inl (g.2 7, 1, .inr (.inr (.inr (.inr (zaR sea)))))), (sea 0, .inl (g.2 0, 2, .inl (zaI sf))), (rf 9, .inl (g.2 1, 120530, .inl (zaB hdf))), (rf 3, .inl (g.2 1, 1, .inl (zaB to)))] = [(qq, .inr (5, [.int (iI (0)), .ref (rf 0), .int (iI (ln)), .int (iI (pl)), .int (iI (u53.1 0)), .int (iI (u53.1 1)), .int (iI (u53.1 2)), .int (iI (at0)), .ref (rf 1), .ref (rf 2), .ref (rf 3), .ref (rf 4), .ref (rf 5), .ref (rf 6), .int (iI (wa)), .int (iI (on)), .int (iI (tw)), .ref (rf 7), .ref (rf 8), .ref (rf 9), .int (iI (hc))])), (rf 1, .inl (g.2 6, 1, .inr (.inr (.inr (.inr (zaR sa)))))), (sa 0, .inl (g.2 5, 7, .inr (.inr (.inr (.inr (zaR sr)))))), (sr 0, .inl (g.2 1, 330, .inl (zaB (st 0)))), (sr 1, .inl (g.2 1, 330, .inl (zaB (st 1)))), (sr 2, .inl (g.2 1, 330, .inl (zaB (st 2)))), (sr 3, .inl (g.2 1, 330, .inl (zaB (st 3)))), (sr 4, .inl (g.2 1, 330, .inl (zaB (st 4)))), (sr 5, .inl (g.2 1, 330, .inl (zaB (st 5)))), (sr 6, .inl (g.2 1, 330, .inl (zaB (st 6)))), (rf 4, .inl (g.2 7, 1, .inr (.inr (.inr (.inr (zaR wya)))))), (wya 0, .inl (g.2 0, 2, .inl (zaI wf))), (rf 5, .inl (g.2 7, 1, .inr (.inr (.inr (.inr (zaR fa)))))), (fa 0, .inl (g.2 0, 2, .inl (zaI fi))), (rf 6, .inl (g.2 7, 1, .inr (.inr (.inr (.inr (zaR sea)))))), (sea 0, .inl (g.2 0, 2, .inl (zaI sf))), (rf 9, .inl (g.2 1, 120530, .inl (zaB hdf))), (rf 3, .inl (g.2 1, 1, .inl (zaB to)))] := zPut_one [(qq, .inr (5, [.int (iI (0)), .ref (rf 0), .int (iI (ln)), .int (iI (pl)), .int (iI (yy)), .int (iI (mm)), .int (iI (dd)), .int (iI (at0)), .ref (rf 1), .ref (rf 2), .ref (rf 3), .ref (rf 4), .ref (rf 5), .ref (rf 6), .int (iI (wa)), .int (iI (on)), .int (iI (tw)), .ref (rf 7), .ref (rf 8), .ref (rf 9), .int (iI (hc))])), (rf 1, .inl (g.2 6, 1, .inr (.inr (.inr (.inr (zaR sa)))))), (sa 0, .inl (g.2 5, 7, .inr (.inr (.inr (.inr (zaR sr)))))), (sr 0, .inl (g.2 1, 330, .inl (zaB (st 0)))), (sr 1, .inl (g.2 1, 330, .inl (zaB (st 1)))), (sr 2, .inl (g.2 1, 330, .inl (zaB (st 2)))), (sr 3, .inl (g.2 1, 330, .inl (zaB (st 3)))), (sr 4, .inl (g.2 1, 330, .inl (zaB (st 4)))), (sr 5, .inl (g.2 1, 330, .inl (zaB (st 5)))), (sr 6, .inl (g.2 1, 330, .inl (zaB (st 6)))), (rf 4, .inl (g.2 7, 1, .inr (.inr (.inr (.inr (zaR wya)))))), (wya 0, .inl (g.2 0, 2, .inl (zaI wf))), (rf 5, .inl (g.2 7, 1, .inr (.inr (.inr (.inr (zaR fa)))))), (fa 0, .inl (g.2 0, 2, .inl (zaI fi))), (rf 6, .inl (g.2 7, 1, .inr (.inr (.inr (.inr (zaR sea)))))), (sea 0, .inl (g.2 0, 2, .inl (zaI sf))), (rf 9, .inl (g.2 1, 120530, .inl (zaB hdf))), (rf 3, .inl (g.2 1, 1, .inl (zaB to)))] [] [1, 2, 3, 4, 5, 6, 7, 8, 9, 10, 11, 12, 13, 14, 15, 16, 17] [] [(rf 1, .inl (g.2 6, 1, .inr (.inr (.inr (.inr (zaR sa)))))), (sa 0, .inl (g.2 5, 7, .inr (.inr (.inr (.inr (zaR sr)))))), (sr 0, .inl (g.2 1, 330, .inl (zaB (st 0)))), (sr 1, .inl (g.2 1, 330, .inl (zaB (st 1)))), (sr 2, .inl (g.2 1, 330, .inl (zaB (st 2)))), (sr 3, .inl (g.2 1, 330, .inl (zaB (st 3)))), (sr 4, .inl (g.2 1, 330, .inl (zaB (st 4)))), (sr 5, .inl (g.2 1, 330, .inl (zaB (st 5)))), (sr 6, .inl (g.2 1, 330, .inl (zaB (st 6)))), (rf 4, .inl (g.2 7, 1, .inr (.inr (.inr (.inr (zaR wya)))))), (wya 0, .inl (g.2 0, 2, .inl (zaI wf))), (rf 5, .inl (g.2 7, 1, .inr (.inr (.inr (.inr (zaR fa)))))), (fa 0, .inl (g.2 0, 2, .inl (zaI fi))), (rf 6, .inl (g.2 7, 1, .inr (.inr (.inr (.inr (zaR sea)))))), (sea 0, .inl (g.2 0, 2, .inl (zaI sf))), (rf 9, .inl (g.2 1, 120530, .inl (zaB hdf))), (rf 3, .inl (g.2 1, 1, .inl (zaB to)))] 0 (qq, .inr (5, [.int (iI (0)), .ref (rf 0), .int (iI (ln)), .int (iI (pl)), .int (iI (u53.1 0)), .int (iI (u53.1 1)), .int (iI (u53.1 2)), .int (iI (at0)), .ref (rf 1), .ref (rf 2), .ref (rf 3), .ref (rf 4), .ref (rf 5), .ref (rf 6), .int (iI (wa)), .int (iI (on)), .int (iI (tw)), .ref (rf 7), .ref (rf 8), .ref (rf 9), .int (iI (hc))])) (rfl) (zC_c rfl (zC_c rfl (zC_c rfl (zC_c rfl (zC_c rfl (zC_c rfl (zC_c rfl (zC_c rfl (zC_c rfl (zC_c rfl (zC_c rfl (zC_c rfl (zC_c rfl (zC_c rfl (zC_c rfl (zC_c rfl (zC_c rfl rfl)))))))))))))))))
                have hP : va_P g.1 zCl [(qq, .inr (5, [.int (iI (0)), .ref (rf 0), .int (iI (ln)), .int (iI (pl)), .int (iI (u53.1 0)), .int (iI (u53.1 1)), .int (iI (u53.1 2)), .int (iI (at0)), .ref (rf 1), .ref (rf 2), .ref (rf 3), .ref (rf 4), .ref (rf 5), .ref (rf 6), .int (iI (wa)), .int (iI (on)), .int (iI (tw)), .ref (rf 7), .ref (rf 8), .ref (rf 9), .int (iI (hc))])), (rf 1, .inl (g.2 6, 1, .inr (.inr (.inr (.inr (zaR sa)))))), (sa 0, .inl (g.2 5, 7, .inr (.inr (.inr (.inr (zaR sr)))))), (sr 0, .inl (g.2 1, 330, .inl (zaB (st 0)))), (sr 1, .inl (g.2 1, 330, .inl (zaB (st 1)))), (sr 2, .inl (g.2 1, 330, .inl (zaB (st 2)))), (sr 3, .inl (g.2 1, 330, .inl (zaB (st 3)))), (sr 4, .inl (g.2 1, 330, .inl (zaB (st 4)))), (sr 5, .inl (g.2 1, 330, .inl (zaB (st 5)))), (sr 6, .inl (g.2 1, 330, .inl (zaB (st 6)))), (rf 4, .inl (g.2 7, 1, .inr (.inr (.inr (.inr (zaR wya)))))), (wya 0, .inl (g.2 0, 2, .inl (zaI wf))), (rf 5, .inl (g.2 7, 1, .inr (.inr (.inr (.inr (zaR fa)))))), (fa 0, .inl (g.2 0, 2, .inl (zaI fi))), (rf 6, .inl (g.2 7, 1, .inr (.inr (.inr (.inr (zaR sea)))))), (sea 0, .inl (g.2 0, 2, .inl (zaI sf))), (rf 9, .inl (g.2 1, 120530, .inl (zaB hdf))), (rf 3, .inl (g.2 1, 1, .inl (zaB to)))] H := Eq.mp (congrArg (fun w => va_P g.1 zCl w H) e9) hP
                have hD : va_D A [(qq, .inr (5, [.int (iI (0)), .ref (rf 0), .int (iI (ln)), .int (iI (pl)), .int (iI (u53.1 0)), .int (iI (u53.1 1)), .int (iI (u53.1 2)), .int (iI (at0)), .ref (rf 1), .ref (rf 2), .ref (rf 3), .ref (rf 4), .ref (rf 5), .ref (rf 6), .int (iI (wa)), .int (iI (on)), .int (iI (tw)), .ref (rf 7), .ref (rf 8), .ref (rf 9), .int (iI (hc))])), (rf 1, .inl (g.2 6, 1, .inr (.inr (.inr (.inr (zaR sa)))))), (sa 0, .inl (g.2 5, 7, .inr (.inr (.inr (.inr (zaR sr)))))), (sr 0, .inl (g.2 1, 330, .inl (zaB (st 0)))), (sr 1, .inl (g.2 1, 330, .inl (zaB (st 1)))), (sr 2, .inl (g.2 1, 330, .inl (zaB (st 2)))), (sr 3, .inl (g.2 1, 330, .inl (zaB (st 3)))), (sr 4, .inl (g.2 1, 330, .inl (zaB (st 4)))), (sr 5, .inl (g.2 1, 330, .inl (zaB (st 5)))), (sr 6, .inl (g.2 1, 330, .inl (zaB (st 6)))), (rf 4, .inl (g.2 7, 1, .inr (.inr (.inr (.inr (zaR wya)))))), (wya 0, .inl (g.2 0, 2, .inl (zaI wf))), (rf 5, .inl (g.2 7, 1, .inr (.inr (.inr (.inr (zaR fa)))))), (fa 0, .inl (g.2 0, 2, .inl (zaI fi))), (rf 6, .inl (g.2 7, 1, .inr (.inr (.inr (.inr (zaR sea)))))), (sea 0, .inl (g.2 0, 2, .inl (zaI sf))), (rf 9, .inl (g.2 1, 120530, .inl (zaB hdf))), (rf 3, .inl (g.2 1, 1, .inl (zaB to)))] := Eq.mp (congrArg (fun w => va_D A w) e9) hD
                refine lv_lstore (lv' := [(4, .long (lI (u))), (6, .int (iI (k))), (0, .ref (qq)), (1, .long (lI (tm))), (3, .int (iI (n)))]) hx hb zd_Q_later_56 hl (by decide) rfl (fun ls hl => ?_)
                refine lv_iinc (v := iI (k + 1)) (lv' := [(6, .int (iI (k + 1))), (4, .long (lI (u))), (0, .ref (qq)), (1, .long (lI (tm))), (3, .int (iI (n)))]) hx hb zd_Q_later_58 hl (k := 1) rfl (iI_add _ _) (by decide) rfl (fun ls hl => ?_)
                refine lv_goto (tgt := 37) hx hb zd_Q_later_61 (by decide) ?_
                exact ih u (k + 1) _ _ _ H locs ls (by omega) (by omega) hF2 (by omega) hP hD hS (lv_sub hl [0, 1, 2, 3, 4] rfl)
        exact loop 101 tm 0 yy mm dd H locs ls (by omega) (by omega) (by rw [show n - 0 = n by omega]; exact hj) (by omega) hP hD hS (lv_sub hl [0, 1, 2, 3, 4] rfl)
      · omega
set_option maxHeartbeats 4000000 in
set_option maxRecDepth 100000 in
theorem c_Q_end_x (l : Launch) (g : zGl) (qq : Nat) (rf : Nat → Nat) (fl ln pl yy mm dd at0 wa on tw hc : Int) (n : Int) (hi : -2147483648 ≤ n ∧ n < 2147483648) (hn : n < 0 ∨ ln < n) (hln : 0 ≤ ln ∧ ln ≤ 400) : zWi l zy_Q_end zc_Q_end 2 (some .int) ({ frames := 1, cells := 0, slots := 0, locals := 21 }) g (fun _ => zN) [.ref (qq), .int (iI (n))] [(qq, .inr (5, [.int (iI (fl)), .ref (rf 0), .int (iI (ln)), .int (iI (pl)), .int (iI (yy)), .int (iI (mm)), .int (iI (dd)), .int (iI (at0)), .ref (rf 1), .ref (rf 2), .ref (rf 3), .ref (rf 4), .ref (rf 5), .ref (rf 6), .int (iI (wa)), .int (iI (on)), .int (iI (tw)), .ref (rf 7), .ref (rf 8), .ref (rf 9), .int (iI (hc))]))] (some (.int (iI (0)))) [(qq, .inr (5, [.int (iI (1)), .ref (rf 0), .int (iI (ln)), .int (iI (pl)), .int (iI (yy)), .int (iI (mm)), .int (iI (dd)), .int (iI (at0)), .ref (rf 1), .ref (rf 2), .ref (rf 3), .ref (rf 4), .ref (rf 5), .ref (rf 6), .int (iI (wa)), .int (iI (on)), .int (iI (tw)), .ref (rf 7), .ref (rf 8), .ref (rf 9), .int (iI (hc))]))] 0 0 := by
  refine zw_open (by decide +kernel) (Nat.le_of_ble_eq_true rfl) ?_
  intro p e s m below meth c ls A hx hb hml hr hlk hown hin hw hK hT hP hD hS hA hl
  have hown : s.vm.findClass "CronFinderModel" = some m.cls := hown
  have hl : lv_has ls 2 [(0, .ref (qq)), (1, .int (iI (n)))] := hl
  refine lv_aload_n hx hb zd_Q_end_0 rfl (lv_at hl 0 rfl) ?_
  refine zi_iconst hx hb zd_Q_end_1 ?_
  refine va_put (D := g.1) (ci := 5) (v := .int (iI (0))) (ty := .int) (C := zR_Q) (T := zT_Q) (N := 21) hx hb hw zin_Q zt_Q zto_Q zn_Q hown hK hP hD hS 0 rfl rfl 0 (by decide) (hw _ zw_3_198) (fun _ h9 => h9) rfl  (by decide +kernel) rfl rfl (Nat.le_of_ble_eq_true rfl) zd_Q_end_2 (fun H locs hP hD hS => ?_)
  have hP : va_P g.1 zCl [(qq, .inr (5, [.int (iI (0)), .ref (rf 0), .int (iI (ln)), .int (iI (pl)), .int (iI (yy)), .int (iI (mm)), .int (iI (dd)), .int (iI (at0)), .ref (rf 1), .ref (rf 2), .ref (rf 3), .ref (rf 4), .ref (rf 5), .ref (rf 6), .int (iI (wa)), .int (iI (on)), .int (iI (tw)), .ref (rf 7), .ref (rf 8), .ref (rf 9), .int (iI (hc))]))] H := hP
  have hD : va_D A [(qq, .inr (5, [.int (iI (0)), .ref (rf 0), .int (iI (ln)), .int (iI (pl)), .int (iI (yy)), .int (iI (mm)), .int (iI (dd)), .int (iI (at0)), .ref (rf 1), .ref (rf 2), .ref (rf 3), .ref (rf 4), .ref (rf 5), .ref (rf 6), .int (iI (wa)), .int (iI (on)), .int (iI (tw)), .ref (rf 7), .ref (rf 8), .ref (rf 9), .int (iI (hc))]))] := hD
  refine lv_iload_n hx hb zd_Q_end_5 rfl (lv_at hl 1 rfl) ?_
  refine zi_if_lt (tgt := 17) hx hb zd_Q_end_6 (by decide) (by omega) (fun c6 => ?_) (fun c6 => ?_)
  · refine lv_aload_n hx hb zd_Q_end_17 rfl (lv_at hl 0 rfl) ?_
    refine zi_iconst hx hb zd_Q_end_18 ?_
    refine zk_W (As := [.int (iI (1))]) (b := qq) (own := "CronFinderModel") (nL := 2) (rest := []) hx hb hml hown hw (c_Q_fail l g qq rf (0) (ln) (pl) (yy) (mm) (dd) (at0) (wa) (on) (tw) (hc) (1)) zw_4_96 zw_4_98 zw_0_37 zw_1_7 zw_4_99 (np := 1) (by decide +kernel) rfl (by decide) (fun _ => zN_mv) hK trivial hP hD hS hA [0] rfl (by decide) rfl (va_recv hK hP (ci := 5) (q0 := 0) rfl rfl) hl.1 rfl (Nat.le_of_ble_eq_true rfl) (by decide) zd_Q_end_19 (fun H locs hP hD hS => ?_)
    have hP : va_P g.1 zCl [(qq, .inr (5, [.int (iI (1)), .ref (rf 0), .int (iI (ln)), .int (iI (pl)), .int (iI (yy)), .int (iI (mm)), .int (iI (dd)), .int (iI (at0)), .ref (rf 1), .ref (rf 2), .ref (rf 3), .ref (rf 4), .ref (rf 5), .ref (rf 6), .int (iI (wa)), .int (iI (on)), .int (iI (tw)), .ref (rf 7), .ref (rf 8), .ref (rf 9), .int (iI (hc))]))] H := hP
    have hD : va_D A [(qq, .inr (5, [.int (iI (1)), .ref (rf 0), .int (iI (ln)), .int (iI (pl)), .int (iI (yy)), .int (iI (mm)), .int (iI (dd)), .int (iI (at0)), .ref (rf 1), .ref (rf 2), .ref (rf 3), .ref (rf 4), .ref (rf 5), .ref (rf 6), .int (iI (wa)), .int (iI (on)), .int (iI (tw)), .ref (rf 7), .ref (rf 8), .ref (rf 9), .int (iI (hc))]))] := hD
    exact zw_iret hx hb hr hlk (ws := [(qq, .inr (5, [.int (iI (1)), .ref (rf 0), .int (iI (ln)), .int (iI (pl)), .int (iI (yy)), .int (iI (mm)), .int (iI (dd)), .int (iI (at0)), .ref (rf 1), .ref (rf 2), .ref (rf 3), .ref (rf 4), .ref (rf 5), .ref (rf 6), .int (iI (wa)), .int (iI (on)), .int (iI (tw)), .ref (rf 7), .ref (rf 8), .ref (rf 9), .int (iI (hc))]))]) hP hS zd_Q_end_22
  · refine lv_iload_n hx hb zd_Q_end_9 rfl (lv_at hl 1 rfl) ?_
    refine lv_aload_n hx hb zd_Q_end_10 rfl (lv_at hl 0 rfl) ?_
    refine va_get (D := g.1) (ci := 5) (v := .int (iI (ln))) (C := zR_Q) (T := zT_Q) (N := 21) hx hb hw zin_Q hown hK hP 0 rfl rfl 2 (by decide) (hw _ zw_3_200) (fun _ h9 => h9) rfl zd_Q_end_11 ?_
    refine zi_icmp_le (tgt := 23) hx hb zd_Q_end_14 (by decide) (by omega) (fun c14 => ?_) (fun c14 => ?_)
    · omega
    · refine lv_aload_n hx hb zd_Q_end_17 rfl (lv_at hl 0 rfl) ?_
      refine zi_iconst hx hb zd_Q_end_18 ?_
      refine zk_W (As := [.int (iI (1))]) (b := qq) (own := "CronFinderModel") (nL := 2) (rest := []) hx hb hml hown hw (c_Q_fail l g qq rf (0) (ln) (pl) (yy) (mm) (dd) (at0) (wa) (on) (tw) (hc) (1)) zw_4_96 zw_4_98 zw_0_37 zw_1_7 zw_4_99 (np := 1) (by decide +kernel) rfl (by decide) (fun _ => zN_mv) hK trivial hP hD hS hA [0] rfl (by decide) rfl (va_recv hK hP (ci := 5) (q0 := 0) rfl rfl) hl.1 rfl (Nat.le_of_ble_eq_true rfl) (by decide) zd_Q_end_19 (fun H locs hP hD hS => ?_)
      have hP : va_P g.1 zCl [(qq, .inr (5, [.int (iI (1)), .ref (rf 0), .int (iI (ln)), .int (iI (pl)), .int (iI (yy)), .int (iI (mm)), .int (iI (dd)), .int (iI (at0)), .ref (rf 1), .ref (rf 2), .ref (rf 3), .ref (rf 4), .ref (rf 5), .ref (rf 6), .int (iI (wa)), .int (iI (on)), .int (iI (tw)), .ref (rf 7), .ref (rf 8), .ref (rf 9), .int (iI (hc))]))] H := hP
      have hD : va_D A [(qq, .inr (5, [.int (iI (1)), .ref (rf 0), .int (iI (ln)), .int (iI (pl)), .int (iI (yy)), .int (iI (mm)), .int (iI (dd)), .int (iI (at0)), .ref (rf 1), .ref (rf 2), .ref (rf 3), .ref (rf 4), .ref (rf 5), .ref (rf 6), .int (iI (wa)), .int (iI (on)), .int (iI (tw)), .ref (rf 7), .ref (rf 8), .ref (rf 9), .int (iI (hc))]))] := hD
      exact zw_iret hx hb hr hlk (ws := [(qq, .inr (5, [.int (iI (1)), .ref (rf 0), .int (iI (ln)), .int (iI (pl)), .int (iI (yy)), .int (iI (mm)), .int (iI (dd)), .int (iI (at0)), .ref (rf 1), .ref (rf 2), .ref (rf 3), .ref (rf 4), .ref (rf 5), .ref (rf 6), .int (iI (wa)), .int (iI (on)), .int (iI (tw)), .ref (rf 7), .ref (rf 8), .ref (rf 9), .int (iI (hc))]))]) hP hS zd_Q_end_22
set_option maxHeartbeats 4000000 in
set_option maxRecDepth 100000 in
theorem c_Q_end (l : Launch) (g : zGl) (qq : Nat) (rf : Nat → Nat) (fl ln pl yy mm dd at0 wa on tw hc : Int) (n : Int) (hn : 0 ≤ n ∧ n ≤ ln) (hln : 0 ≤ ln ∧ ln ≤ 400) : zWi l zy_Q_end zc_Q_end 2 (some .int) ({ frames := 1, cells := 0, slots := 0, locals := 21 }) g (fun _ => zN) [.ref (qq), .int (iI (n))] [(qq, .inr (5, [.int (iI (fl)), .ref (rf 0), .int (iI (ln)), .int (iI (pl)), .int (iI (yy)), .int (iI (mm)), .int (iI (dd)), .int (iI (at0)), .ref (rf 1), .ref (rf 2), .ref (rf 3), .ref (rf 4), .ref (rf 5), .ref (rf 6), .int (iI (wa)), .int (iI (on)), .int (iI (tw)), .ref (rf 7), .ref (rf 8), .ref (rf 9), .int (iI (hc))]))] (some (.int (iI (n)))) [(qq, .inr (5, [.int (iI (0)), .ref (rf 0), .int (iI (n)), .int (iI (pl)), .int (iI (yy)), .int (iI (mm)), .int (iI (dd)), .int (iI (at0)), .ref (rf 1), .ref (rf 2), .ref (rf 3), .ref (rf 4), .ref (rf 5), .ref (rf 6), .int (iI (wa)), .int (iI (on)), .int (iI (tw)), .ref (rf 7), .ref (rf 8), .ref (rf 9), .int (iI (hc))]))] 0 0 := by
  refine zw_open (by decide +kernel) (Nat.le_of_ble_eq_true rfl) ?_
  intro p e s m below meth c ls A hx hb hml hr hlk hown hin hw hK hT hP hD hS hA hl
  have hown : s.vm.findClass "CronFinderModel" = some m.cls := hown
  have hl : lv_has ls 2 [(0, .ref (qq)), (1, .int (iI (n)))] := hl
  refine lv_aload_n hx hb zd_Q_end_0 rfl (lv_at hl 0 rfl) ?_
  refine zi_iconst hx hb zd_Q_end_1 ?_
  refine va_put (D := g.1) (ci := 5) (v := .int (iI (0))) (ty := .int) (C := zR_Q) (T := zT_Q) (N := 21) hx hb hw zin_Q zt_Q zto_Q zn_Q hown hK hP hD hS 0 rfl rfl 0 (by decide) (hw _ zw_3_198) (fun _ h9 => h9) rfl  (by decide +kernel) rfl rfl (Nat.le_of_ble_eq_true rfl) zd_Q_end_2 (fun H locs hP hD hS => ?_)
  have hP : va_P g.1 zCl [(qq, .inr (5, [.int (iI (0)), .ref (rf 0), .int (iI (ln)), .int (iI (pl)), .int (iI (yy)), .int (iI (mm)), .int (iI (dd)), .int (iI (at0)), .ref (rf 1), .ref (rf 2), .ref (rf 3), .ref (rf 4), .ref (rf 5), .ref (rf 6), .int (iI (wa)), .int (iI (on)), .int (iI (tw)), .ref (rf 7), .ref (rf 8), .ref (rf 9), .int (iI (hc))]))] H := hP
  have hD : va_D A [(qq, .inr (5, [.int (iI (0)), .ref (rf 0), .int (iI (ln)), .int (iI (pl)), .int (iI (yy)), .int (iI (mm)), .int (iI (dd)), .int (iI (at0)), .ref (rf 1), .ref (rf 2), .ref (rf 3), .ref (rf 4), .ref (rf 5), .ref (rf 6), .int (iI (wa)), .int (iI (on)), .int (iI (tw)), .ref (rf 7), .ref (rf 8), .ref (rf 9), .int (iI (hc))]))] := hD
  refine lv_iload_n hx hb zd_Q_end_5 rfl (lv_at hl 1 rfl) ?_
  refine zi_if_lt (tgt := 17) hx hb zd_Q_end_6 (by decide) (by omega) (fun c6 => ?_) (fun c6 => ?_)
  · omega
  · refine lv_iload_n hx hb zd_Q_end_9 rfl (lv_at hl 1 rfl) ?_
    refine lv_aload_n hx hb zd_Q_end_10 rfl (lv_at hl 0 rfl) ?_
    refine va_get (D := g.1) (ci := 5) (v := .int (iI (ln))) (C := zR_Q) (T := zT_Q) (N := 21) hx hb hw zin_Q hown hK hP 0 rfl rfl 2 (by decide) (hw _ zw_3_200) (fun _ h9 => h9) rfl zd_Q_end_11 ?_
    refine zi_icmp_le (tgt := 23) hx hb zd_Q_end_14 (by decide) (by omega) (fun c14 => ?_) (fun c14 => ?_)
    · refine lv_aload_n hx hb zd_Q_end_23 rfl (lv_at hl 0 rfl) ?_
      refine lv_iload_n hx hb zd_Q_end_24 rfl (lv_at hl 1 rfl) ?_
      refine va_put (D := g.1) (ci := 5) (v := .int (iI (n))) (ty := .int) (C := zR_Q) (T := zT_Q) (N := 21) hx hb hw zin_Q zt_Q zto_Q zn_Q hown hK hP hD hS 0 rfl rfl 2 (by decide) (hw _ zw_3_200) (fun _ h9 => h9) rfl  (by decide +kernel) rfl rfl (Nat.le_of_ble_eq_true rfl) zd_Q_end_25 (fun H locs hP hD hS => ?_)
      have hP : va_P g.1 zCl [(qq, .inr (5, [.int (iI (0)), .ref (rf 0), .int (iI (n)), .int (iI (pl)), .int (iI (yy)), .int (iI (mm)), .int (iI (dd)), .int (iI (at0)), .ref (rf 1), .ref (rf 2), .ref (rf 3), .ref (rf 4), .ref (rf 5), .ref (rf 6), .int (iI (wa)), .int (iI (on)), .int (iI (tw)), .ref (rf 7), .ref (rf 8), .ref (rf 9), .int (iI (hc))]))] H := hP
      have hD : va_D A [(qq, .inr (5, [.int (iI (0)), .ref (rf 0), .int (iI (n)), .int (iI (pl)), .int (iI (yy)), .int (iI (mm)), .int (iI (dd)), .int (iI (at0)), .ref (rf 1), .ref (rf 2), .ref (rf 3), .ref (rf 4), .ref (rf 5), .ref (rf 6), .int (iI (wa)), .int (iI (on)), .int (iI (tw)), .ref (rf 7), .ref (rf 8), .ref (rf 9), .int (iI (hc))]))] := hD
      refine lv_iload_n hx hb zd_Q_end_28 rfl (lv_at hl 1 rfl) ?_
      exact zw_iret hx hb hr hlk (ws := [(qq, .inr (5, [.int (iI (0)), .ref (rf 0), .int (iI (n)), .int (iI (pl)), .int (iI (yy)), .int (iI (mm)), .int (iI (dd)), .int (iI (at0)), .ref (rf 1), .ref (rf 2), .ref (rf 3), .ref (rf 4), .ref (rf 5), .ref (rf 6), .int (iI (wa)), .int (iI (on)), .int (iI (tw)), .ref (rf 7), .ref (rf 8), .ref (rf 9), .int (iI (hc))]))]) hP hS zd_Q_end_29
    · omega
set_option maxHeartbeats 4000000 in
set_option maxRecDepth 100000 in
theorem c_Q_hol_x (l : Launch) (g : zGl) (qq : Nat) (rf : Nat → Nat) (fl ln pl yy mm dd at0 wa on tw hc : Int) (d : Int) (yes : Bool) (hi : -2147483648 ≤ d ∧ d < 2147483648) (hn : d < 0 ∨ 120529 < d) : zWi l zy_Q_holiday zc_Q_holiday 3 (some .int) ({ frames := 1, cells := 0, slots := 0, locals := 21 }) g (fun _ => zN) [.ref (qq), .int (iI (d)), .int (iI (bI (yes)))] [(qq, .inr (5, [.int (iI (fl)), .ref (rf 0), .int (iI (ln)), .int (iI (pl)), .int (iI (yy)), .int (iI (mm)), .int (iI (dd)), .int (iI (at0)), .ref (rf 1), .ref (rf 2), .ref (rf 3), .ref (rf 4), .ref (rf 5), .ref (rf 6), .int (iI (wa)), .int (iI (on)), .int (iI (tw)), .ref (rf 7), .ref (rf 8), .ref (rf 9), .int (iI (hc))]))] (some (.int (iI (0)))) [(qq, .inr (5, [.int (iI (1)), .ref (rf 0), .int (iI (ln)), .int (iI (pl)), .int (iI (yy)), .int (iI (mm)), .int (iI (dd)), .int (iI (at0)), .ref (rf 1), .ref (rf 2), .ref (rf 3), .ref (rf 4), .ref (rf 5), .ref (rf 6), .int (iI (wa)), .int (iI (on)), .int (iI (tw)), .ref (rf 7), .ref (rf 8), .ref (rf 9), .int (iI (hc))]))] 0 0 := by
  refine zw_open (by decide +kernel) (Nat.le_of_ble_eq_true rfl) ?_
  intro p e s m below meth c ls A hx hb hml hr hlk hown hin hw hK hT hP hD hS hA hl
  have hown : s.vm.findClass "CronFinderModel" = some m.cls := hown
  have hl : lv_has ls 3 [(0, .ref (qq)), (1, .int (iI (d))), (2, .int (iI (bI (yes))))] := hl
  refine lv_aload_n hx hb zd_Q_holiday_0 rfl (lv_at hl 0 rfl) ?_
  refine zi_iconst hx hb zd_Q_holiday_1 ?_
  refine va_put (D := g.1) (ci := 5) (v := .int (iI (0))) (ty := .int) (C := zR_Q) (T := zT_Q) (N := 21) hx hb hw zin_Q zt_Q zto_Q zn_Q hown hK hP hD hS 0 rfl rfl 0 (by decide) (hw _ zw_3_198) (fun _ h9 => h9) rfl  (by decide +kernel) rfl rfl (Nat.le_of_ble_eq_true rfl) zd_Q_holiday_2 (fun H locs hP hD hS => ?_)
  have hP : va_P g.1 zCl [(qq, .inr (5, [.int (iI (0)), .ref (rf 0), .int (iI (ln)), .int (iI (pl)), .int (iI (yy)), .int (iI (mm)), .int (iI (dd)), .int (iI (at0)), .ref (rf 1), .ref (rf 2), .ref (rf 3), .ref (rf 4), .ref (rf 5), .ref (rf 6), .int (iI (wa)), .int (iI (on)), .int (iI (tw)), .ref (rf 7), .ref (rf 8), .ref (rf 9), .int (iI (hc))]))] H := hP
  have hD : va_D A [(qq, .inr (5, [.int (iI (0)), .ref (rf 0), .int (iI (ln)), .int (iI (pl)), .int (iI (yy)), .int (iI (mm)), .int (iI (dd)), .int (iI (at0)), .ref (rf 1), .ref (rf 2), .ref (rf 3), .ref (rf 4), .ref (rf 5), .ref (rf 6), .int (iI (wa)), .int (iI (on)), .int (iI (tw)), .ref (rf 7), .ref (rf 8), .ref (rf 9), .int (iI (hc))]))] := hD
  refine lv_iload_n hx hb zd_Q_holiday_5 rfl (lv_at hl 1 rfl) ?_
  refine zi_if_lt (tgt := 15) hx hb zd_Q_holiday_6 (by decide) (by omega) (fun c6 => ?_) (fun c6 => ?_)
  · refine lv_aload_n hx hb zd_Q_holiday_15 rfl (lv_at hl 0 rfl) ?_
    refine zi_iconst hx hb zd_Q_holiday_16 ?_
    refine zk_W (As := [.int (iI (1))]) (b := qq) (own := "CronFinderModel") (nL := 3) (rest := []) hx hb hml hown hw (c_Q_fail l g qq rf (0) (ln) (pl) (yy) (mm) (dd) (at0) (wa) (on) (tw) (hc) (1)) zw_4_96 zw_4_98 zw_0_37 zw_1_7 zw_4_99 (np := 1) (by decide +kernel) rfl (by decide) (fun _ => zN_mv) hK trivial hP hD hS hA [0] rfl (by decide) rfl (va_recv hK hP (ci := 5) (q0 := 0) rfl rfl) hl.1 rfl (Nat.le_of_ble_eq_true rfl) (by decide) zd_Q_holiday_17 (fun H locs hP hD hS => ?_)
    have hP : va_P g.1 zCl [(qq, .inr (5, [.int (iI (1)), .ref (rf 0), .int (iI (ln)), .int (iI (pl)), .int (iI (yy)), .int (iI (mm)), .int (iI (dd)), .int (iI (at0)), .ref (rf 1), .ref (rf 2), .ref (rf 3), .ref (rf 4), .ref (rf 5), .ref (rf 6), .int (iI (wa)), .int (iI (on)), .int (iI (tw)), .ref (rf 7), .ref (rf 8), .ref (rf 9), .int (iI (hc))]))] H := hP
    have hD : va_D A [(qq, .inr (5, [.int (iI (1)), .ref (rf 0), .int (iI (ln)), .int (iI (pl)), .int (iI (yy)), .int (iI (mm)), .int (iI (dd)), .int (iI (at0)), .ref (rf 1), .ref (rf 2), .ref (rf 3), .ref (rf 4), .ref (rf 5), .ref (rf 6), .int (iI (wa)), .int (iI (on)), .int (iI (tw)), .ref (rf 7), .ref (rf 8), .ref (rf 9), .int (iI (hc))]))] := hD
    exact zw_iret hx hb hr hlk (ws := [(qq, .inr (5, [.int (iI (1)), .ref (rf 0), .int (iI (ln)), .int (iI (pl)), .int (iI (yy)), .int (iI (mm)), .int (iI (dd)), .int (iI (at0)), .ref (rf 1), .ref (rf 2), .ref (rf 3), .ref (rf 4), .ref (rf 5), .ref (rf 6), .int (iI (wa)), .int (iI (on)), .int (iI (tw)), .ref (rf 7), .ref (rf 8), .ref (rf 9), .int (iI (hc))]))]) hP hS zd_Q_holiday_20
  · refine lv_iload_n hx hb zd_Q_holiday_9 rfl (lv_at hl 1 rfl) ?_
    refine lv_ldc hx hb hown (hw _ zw_4_95) zd_Q_holiday_10 ?_
    refine zi_asx _ 120529 (by decide) ?_
    refine zi_icmp_le (tgt := 21) hx hb zd_Q_holiday_12 (by decide) (by omega) (fun c12 => ?_) (fun c12 => ?_)
    · omega
    · refine lv_aload_n hx hb zd_Q_holiday_15 rfl (lv_at hl 0 rfl) ?_
      refine zi_iconst hx hb zd_Q_holiday_16 ?_
      refine zk_W (As := [.int (iI (1))]) (b := qq) (own := "CronFinderModel") (nL := 3) (rest := []) hx hb hml hown hw (c_Q_fail l g qq rf (0) (ln) (pl) (yy) (mm) (dd) (at0) (wa) (on) (tw) (hc) (1)) zw_4_96 zw_4_98 zw_0_37 zw_1_7 zw_4_99 (np := 1) (by decide +kernel) rfl (by decide) (fun _ => zN_mv) hK trivial hP hD hS hA [0] rfl (by decide) rfl (va_recv hK hP (ci := 5) (q0 := 0) rfl rfl) hl.1 rfl (Nat.le_of_ble_eq_true rfl) (by decide) zd_Q_holiday_17 (fun H locs hP hD hS => ?_)
      have hP : va_P g.1 zCl [(qq, .inr (5, [.int (iI (1)), .ref (rf 0), .int (iI (ln)), .int (iI (pl)), .int (iI (yy)), .int (iI (mm)), .int (iI (dd)), .int (iI (at0)), .ref (rf 1), .ref (rf 2), .ref (rf 3), .ref (rf 4), .ref (rf 5), .ref (rf 6), .int (iI (wa)), .int (iI (on)), .int (iI (tw)), .ref (rf 7), .ref (rf 8), .ref (rf 9), .int (iI (hc))]))] H := hP
      have hD : va_D A [(qq, .inr (5, [.int (iI (1)), .ref (rf 0), .int (iI (ln)), .int (iI (pl)), .int (iI (yy)), .int (iI (mm)), .int (iI (dd)), .int (iI (at0)), .ref (rf 1), .ref (rf 2), .ref (rf 3), .ref (rf 4), .ref (rf 5), .ref (rf 6), .int (iI (wa)), .int (iI (on)), .int (iI (tw)), .ref (rf 7), .ref (rf 8), .ref (rf 9), .int (iI (hc))]))] := hD
      exact zw_iret hx hb hr hlk (ws := [(qq, .inr (5, [.int (iI (1)), .ref (rf 0), .int (iI (ln)), .int (iI (pl)), .int (iI (yy)), .int (iI (mm)), .int (iI (dd)), .int (iI (at0)), .ref (rf 1), .ref (rf 2), .ref (rf 3), .ref (rf 4), .ref (rf 5), .ref (rf 6), .int (iI (wa)), .int (iI (on)), .int (iI (tw)), .ref (rf 7), .ref (rf 8), .ref (rf 9), .int (iI (hc))]))]) hP hS zd_Q_holiday_20
set_option maxHeartbeats 4000000 in
set_option maxRecDepth 100000 in
theorem c_Q_hol_full (l : Launch) (g : zGl) (qq : Nat) (rf : Nat → Nat) (fl ln pl yy mm dd at0 wa on tw hc : Int) (hdf : Nat → Bool) (d : Int) (hd0 : 0 ≤ d ∧ d ≤ 120529) (hhc : 0 ≤ hc ∧ hc ≤ 200) (hh : hdf d.toNat = false) (hf : hc = 200) : zWi l zy_Q_holiday zc_Q_holiday 3 (some .int) ({ frames := 1, cells := 0, slots := 0, locals := 21 }) g (fun _ => zN) [.ref (qq), .int (iI (d)), .int (iI (bI (true)))] [(qq, .inr (5, [.int (iI (fl)), .ref (rf 0), .int (iI (ln)), .int (iI (pl)), .int (iI (yy)), .int (iI (mm)), .int (iI (dd)), .int (iI (at0)), .ref (rf 1), .ref (rf 2), .ref (rf 3), .ref (rf 4), .ref (rf 5), .ref (rf 6), .int (iI (wa)), .int (iI (on)), .int (iI (tw)), .ref (rf 7), .ref (rf 8), .ref (rf 9), .int (iI (hc))])), (rf 9, .inl (g.2 1, 120530, .inl (zaB hdf)))] (some (.int (iI (0)))) [(qq, .inr (5, [.int (iI (2)), .ref (rf 0), .int (iI (ln)), .int (iI (pl)), .int (iI (yy)), .int (iI (mm)), .int (iI (dd)), .int (iI (at0)), .ref (rf 1), .ref (rf 2), .ref (rf 3), .ref (rf 4), .ref (rf 5), .ref (rf 6), .int (iI (wa)), .int (iI (on)), .int (iI (tw)), .ref (rf 7), .ref (rf 8), .ref (rf 9), .int (iI (hc))])), (rf 9, .inl (g.2 1, 120530, .inl (zaB hdf)))] 0 0 := by
  refine zw_open (by decide +kernel) (Nat.le_of_ble_eq_true rfl) ?_
  intro p e s m below meth c ls A hx hb hml hr hlk hown hin hw hK hT hP hD hS hA hl
  have hown : s.vm.findClass "CronFinderModel" = some m.cls := hown
  have hl : lv_has ls 3 [(0, .ref (qq)), (1, .int (iI (d))), (2, .int (iI (bI (true))))] := hl
  refine lv_aload_n hx hb zd_Q_holiday_0 rfl (lv_at hl 0 rfl) ?_
  refine zi_iconst hx hb zd_Q_holiday_1 ?_
  refine va_put (D := g.1) (ci := 5) (v := .int (iI (0))) (ty := .int) (C := zR_Q) (T := zT_Q) (N := 21) hx hb hw zin_Q zt_Q zto_Q zn_Q hown hK hP hD hS 0 rfl rfl 0 (by decide) (hw _ zw_3_198) (fun _ h9 => h9) rfl  (by decide +kernel) rfl rfl (Nat.le_of_ble_eq_true rfl) zd_Q_holiday_2 (fun H locs hP hD hS => ?_)
  have hP : va_P g.1 zCl [(qq, .inr (5, [.int (iI (0)), .ref (rf 0), .int (iI (ln)), .int (iI (pl)), .int (iI (yy)), .int (iI (mm)), .int (iI (dd)), .int (iI (at0)), .ref (rf 1), .ref (rf 2), .ref (rf 3), .ref (rf 4), .ref (rf 5), .ref (rf 6), .int (iI (wa)), .int (iI (on)), .int (iI (tw)), .ref (rf 7), .ref (rf 8), .ref (rf 9), .int (iI (hc))])), (rf 9, .inl (g.2 1, 120530, .inl (zaB hdf)))] H := hP
  have hD : va_D A [(qq, .inr (5, [.int (iI (0)), .ref (rf 0), .int (iI (ln)), .int (iI (pl)), .int (iI (yy)), .int (iI (mm)), .int (iI (dd)), .int (iI (at0)), .ref (rf 1), .ref (rf 2), .ref (rf 3), .ref (rf 4), .ref (rf 5), .ref (rf 6), .int (iI (wa)), .int (iI (on)), .int (iI (tw)), .ref (rf 7), .ref (rf 8), .ref (rf 9), .int (iI (hc))])), (rf 9, .inl (g.2 1, 120530, .inl (zaB hdf)))] := hD
  refine lv_iload_n hx hb zd_Q_holiday_5 rfl (lv_at hl 1 rfl) ?_
  refine zi_if_lt (tgt := 15) hx hb zd_Q_holiday_6 (by decide) (by omega) (fun c6 => ?_) (fun c6 => ?_)
  · omega
  · refine lv_iload_n hx hb zd_Q_holiday_9 rfl (lv_at hl 1 rfl) ?_
    refine lv_ldc hx hb hown (hw _ zw_4_95) zd_Q_holiday_10 ?_
    refine zi_asx _ 120529 (by decide) ?_
    refine zi_icmp_le (tgt := 21) hx hb zd_Q_holiday_12 (by decide) (by omega) (fun c12 => ?_) (fun c12 => ?_)
    · refine lv_iload_n hx hb zd_Q_holiday_21 rfl (lv_at hl 2 rfl) ?_
      refine zb_if_eq (tgt := 50) hx hb zd_Q_holiday_22 (by decide) (fun c22 => by cases c22) (fun _ => ?_)
      refine lv_aload_n hx hb zd_Q_holiday_25 rfl (lv_at hl 0 rfl) ?_
      refine va_get (D := g.1) (ci := 5) (v := .ref (rf 9)) (C := zR_Q) (T := zT_Q) (N := 21) hx hb hw zin_Q hown hK hP 0 rfl rfl 19 (by decide) (hw _ zw_3_217) (fun _ h9 => h9) rfl zd_Q_holiday_26 ?_
      refine lv_iload_n hx hb zd_Q_holiday_29 rfl (lv_at hl 1 rfl) ?_
      refine zi_zald hx hb hK hP 1 1 rfl rfl (by omega) zd_Q_holiday_30 ?_
      refine zb_eq false hh ?_
      refine zb_if_ne (tgt := 50) hx hb zd_Q_holiday_31 (by decide) (fun c31 => by cases c31) (fun _ => ?_)
      refine lv_aload_n hx hb zd_Q_holiday_34 rfl (lv_at hl 0 rfl) ?_
      refine va_get (D := g.1) (ci := 5) (v := .int (iI (hc))) (C := zR_Q) (T := zT_Q) (N := 21) hx hb hw zin_Q hown hK hP 0 rfl rfl 20 (by decide) (hw _ zw_3_218) (fun _ h9 => h9) rfl zd_Q_holiday_35 ?_
      refine zi_sipush hx hb zd_Q_holiday_38 (by decide) ?_
      refine zi_icmp_ne (tgt := 50) hx hb zd_Q_holiday_41 (by decide) (by omega) (fun c41 => ?_) (fun c41 => ?_)
      · omega
      · refine lv_aload_n hx hb zd_Q_holiday_44 rfl (lv_at hl 0 rfl) ?_
        refine zi_iconst hx hb zd_Q_holiday_45 ?_
        refine zk_W (As := [.int (iI (2))]) (b := qq) (own := "CronFinderModel") (nL := 3) (rest := []) hx hb hml hown hw (c_Q_fail l g qq rf (0) (ln) (pl) (yy) (mm) (dd) (at0) (wa) (on) (tw) (hc) (2)) zw_4_96 zw_4_98 zw_0_37 zw_1_7 zw_4_99 (np := 1) (by decide +kernel) rfl (by decide) (fun _ => zN_mv) hK trivial hP hD hS hA [0] rfl (by decide) rfl (va_recv hK hP (ci := 5) (q0 := 0) rfl rfl) hl.1 rfl (Nat.le_of_ble_eq_true rfl) (by decide) zd_Q_holiday_46 (fun H locs hP hD hS => ?_)
        have hP : va_P g.1 zCl [(qq, .inr (5, [.int (iI (2)), .ref (rf 0), .int (iI (ln)), .int (iI (pl)), .int (iI (yy)), .int (iI (mm)), .int (iI (dd)), .int (iI (at0)), .ref (rf 1), .ref (rf 2), .ref (rf 3), .ref (rf 4), .ref (rf 5), .ref (rf 6), .int (iI (wa)), .int (iI (on)), .int (iI (tw)), .ref (rf 7), .ref (rf 8), .ref (rf 9), .int (iI (hc))])), (rf 9, .inl (g.2 1, 120530, .inl (zaB hdf)))] H := hP
        have hD : va_D A [(qq, .inr (5, [.int (iI (2)), .ref (rf 0), .int (iI (ln)), .int (iI (pl)), .int (iI (yy)), .int (iI (mm)), .int (iI (dd)), .int (iI (at0)), .ref (rf 1), .ref (rf 2), .ref (rf 3), .ref (rf 4), .ref (rf 5), .ref (rf 6), .int (iI (wa)), .int (iI (on)), .int (iI (tw)), .ref (rf 7), .ref (rf 8), .ref (rf 9), .int (iI (hc))])), (rf 9, .inl (g.2 1, 120530, .inl (zaB hdf)))] := hD
        exact zw_iret hx hb hr hlk (ws := [(qq, .inr (5, [.int (iI (2)), .ref (rf 0), .int (iI (ln)), .int (iI (pl)), .int (iI (yy)), .int (iI (mm)), .int (iI (dd)), .int (iI (at0)), .ref (rf 1), .ref (rf 2), .ref (rf 3), .ref (rf 4), .ref (rf 5), .ref (rf 6), .int (iI (wa)), .int (iI (on)), .int (iI (tw)), .ref (rf 7), .ref (rf 8), .ref (rf 9), .int (iI (hc))])), (rf 9, .inl (g.2 1, 120530, .inl (zaB hdf)))]) hP hS zd_Q_holiday_49
    · omega
set_option maxHeartbeats 4000000 in
set_option maxRecDepth 100000 in
theorem c_Q_hol_add (l : Launch) (g : zGl) (qq : Nat) (rf : Nat → Nat) (fl ln pl yy mm dd at0 wa on tw hc : Int) (hdf : Nat → Bool) (d : Int) (hd0 : 0 ≤ d ∧ d ≤ 120529) (hhc : 0 ≤ hc ∧ hc ≤ 200) (hh : hdf d.toNat = false) (hf : hc < 200) : zWi l zy_Q_holiday zc_Q_holiday 3 (some .int) ({ frames := 1, cells := 0, slots := 0, locals := 21 }) g (fun _ => zN) [.ref (qq), .int (iI (d)), .int (iI (bI (true)))] [(qq, .inr (5, [.int (iI (fl)), .ref (rf 0), .int (iI (ln)), .int (iI (pl)), .int (iI (yy)), .int (iI (mm)), .int (iI (dd)), .int (iI (at0)), .ref (rf 1), .ref (rf 2), .ref (rf 3), .ref (rf 4), .ref (rf 5), .ref (rf 6), .int (iI (wa)), .int (iI (on)), .int (iI (tw)), .ref (rf 7), .ref (rf 8), .ref (rf 9), .int (iI (hc))])), (rf 9, .inl (g.2 1, 120530, .inl (zaB hdf)))] (some (.int (iI (hc + 1)))) [(qq, .inr (5, [.int (iI (0)), .ref (rf 0), .int (iI (ln)), .int (iI (pl)), .int (iI (yy)), .int (iI (mm)), .int (iI (dd)), .int (iI (at0)), .ref (rf 1), .ref (rf 2), .ref (rf 3), .ref (rf 4), .ref (rf 5), .ref (rf 6), .int (iI (wa)), .int (iI (on)), .int (iI (tw)), .ref (rf 7), .ref (rf 8), .ref (rf 9), .int (iI (hc + 1))])), (rf 9, .inl (g.2 1, 120530, .inl (zaB (zu hdf d.toNat true))))] 0 0 := by
  refine zw_open (by decide +kernel) (Nat.le_of_ble_eq_true rfl) ?_
  intro p e s m below meth c ls A hx hb hml hr hlk hown hin hw hK hT hP hD hS hA hl
  have hown : s.vm.findClass "CronFinderModel" = some m.cls := hown
  have hl : lv_has ls 3 [(0, .ref (qq)), (1, .int (iI (d))), (2, .int (iI (bI (true))))] := hl
  refine lv_aload_n hx hb zd_Q_holiday_0 rfl (lv_at hl 0 rfl) ?_
  refine zi_iconst hx hb zd_Q_holiday_1 ?_
  refine va_put (D := g.1) (ci := 5) (v := .int (iI (0))) (ty := .int) (C := zR_Q) (T := zT_Q) (N := 21) hx hb hw zin_Q zt_Q zto_Q zn_Q hown hK hP hD hS 0 rfl rfl 0 (by decide) (hw _ zw_3_198) (fun _ h9 => h9) rfl  (by decide +kernel) rfl rfl (Nat.le_of_ble_eq_true rfl) zd_Q_holiday_2 (fun H locs hP hD hS => ?_)
  have hP : va_P g.1 zCl [(qq, .inr (5, [.int (iI (0)), .ref (rf 0), .int (iI (ln)), .int (iI (pl)), .int (iI (yy)), .int (iI (mm)), .int (iI (dd)), .int (iI (at0)), .ref (rf 1), .ref (rf 2), .ref (rf 3), .ref (rf 4), .ref (rf 5), .ref (rf 6), .int (iI (wa)), .int (iI (on)), .int (iI (tw)), .ref (rf 7), .ref (rf 8), .ref (rf 9), .int (iI (hc))])), (rf 9, .inl (g.2 1, 120530, .inl (zaB hdf)))] H := hP
  have hD : va_D A [(qq, .inr (5, [.int (iI (0)), .ref (rf 0), .int (iI (ln)), .int (iI (pl)), .int (iI (yy)), .int (iI (mm)), .int (iI (dd)), .int (iI (at0)), .ref (rf 1), .ref (rf 2), .ref (rf 3), .ref (rf 4), .ref (rf 5), .ref (rf 6), .int (iI (wa)), .int (iI (on)), .int (iI (tw)), .ref (rf 7), .ref (rf 8), .ref (rf 9), .int (iI (hc))])), (rf 9, .inl (g.2 1, 120530, .inl (zaB hdf)))] := hD
  refine lv_iload_n hx hb zd_Q_holiday_5 rfl (lv_at hl 1 rfl) ?_
  refine zi_if_lt (tgt := 15) hx hb zd_Q_holiday_6 (by decide) (by omega) (fun c6 => ?_) (fun c6 => ?_)
  · omega
  · refine lv_iload_n hx hb zd_Q_holiday_9 rfl (lv_at hl 1 rfl) ?_
    refine lv_ldc hx hb hown (hw _ zw_4_95) zd_Q_holiday_10 ?_
    refine zi_asx _ 120529 (by decide) ?_
    refine zi_icmp_le (tgt := 21) hx hb zd_Q_holiday_12 (by decide) (by omega) (fun c12 => ?_) (fun c12 => ?_)
    · refine lv_iload_n hx hb zd_Q_holiday_21 rfl (lv_at hl 2 rfl) ?_
      refine zb_if_eq (tgt := 50) hx hb zd_Q_holiday_22 (by decide) (fun c22 => by cases c22) (fun _ => ?_)
      refine lv_aload_n hx hb zd_Q_holiday_25 rfl (lv_at hl 0 rfl) ?_
      refine va_get (D := g.1) (ci := 5) (v := .ref (rf 9)) (C := zR_Q) (T := zT_Q) (N := 21) hx hb hw zin_Q hown hK hP 0 rfl rfl 19 (by decide) (hw _ zw_3_217) (fun _ h9 => h9) rfl zd_Q_holiday_26 ?_
      refine lv_iload_n hx hb zd_Q_holiday_29 rfl (lv_at hl 1 rfl) ?_
      refine zi_zald hx hb hK hP 1 1 rfl rfl (by omega) zd_Q_holiday_30 ?_
      refine zb_eq false hh ?_
      refine zb_if_ne (tgt := 50) hx hb zd_Q_holiday_31 (by decide) (fun c31 => by cases c31) (fun _ => ?_)
      refine lv_aload_n hx hb zd_Q_holiday_34 rfl (lv_at hl 0 rfl) ?_
      refine va_get (D := g.1) (ci := 5) (v := .int (iI (hc))) (C := zR_Q) (T := zT_Q) (N := 21) hx hb hw zin_Q hown hK hP 0 rfl rfl 20 (by decide) (hw _ zw_3_218) (fun _ h9 => h9) rfl zd_Q_holiday_35 ?_
      refine zi_sipush hx hb zd_Q_holiday_38 (by decide) ?_
      refine zi_icmp_ne (tgt := 50) hx hb zd_Q_holiday_41 (by decide) (by omega) (fun c41 => ?_) (fun c41 => ?_)
      · refine lv_aload_n hx hb zd_Q_holiday_50 rfl (lv_at hl 0 rfl) ?_
        refine va_get (D := g.1) (ci := 5) (v := .ref (rf 9)) (C := zR_Q) (T := zT_Q) (N := 21) hx hb hw zin_Q hown hK hP 0 rfl rfl 19 (by decide) (hw _ zw_3_217) (fun _ h9 => h9) rfl zd_Q_holiday_51 ?_
        refine lv_iload_n hx hb zd_Q_holiday_54 rfl (lv_at hl 1 rfl) ?_
        refine zi_zald hx hb hK hP 1 1 rfl rfl (by omega) zd_Q_holiday_55 ?_
        refine zb_eq false hh ?_
        refine zi_as 0 rfl ?_
        refine lv_iload_n hx hb zd_Q_holiday_56 rfl (lv_at hl 2 rfl) ?_
        refine zi_as 1 rfl ?_
        refine zi_icmp_eq (tgt := 78) hx hb zd_Q_holiday_57 (by decide) (by omega) (fun c57 => absurd c57 (by decide)) (fun _ => ?_)
        refine lv_aload_n hx hb zd_Q_holiday_60 rfl (lv_at hl 0 rfl) ?_
        refine lv_dup hx hb zd_Q_holiday_61 rfl ?_
        refine va_get (D := g.1) (ci := 5) (v := .int (iI (hc))) (C := zR_Q) (T := zT_Q) (N := 21) hx hb hw zin_Q hown hK hP 0 rfl rfl 20 (by decide) (hw _ zw_3_218) (fun _ h9 => h9) rfl zd_Q_holiday_62 ?_
        refine lv_iload_n hx hb zd_Q_holiday_65 rfl (lv_at hl 2 rfl) ?_
        refine zb_if_eq (tgt := 73) hx hb zd_Q_holiday_66 (by decide) (fun c66 => by cases c66) (fun _ => ?_)
        refine zi_iconst hx hb zd_Q_holiday_69 ?_
        refine lv_goto (tgt := 74) hx hb zd_Q_holiday_70 (by decide) ?_
        refine zi_iadd hx hb zd_Q_holiday_74 ?_
        refine va_put (D := g.1) (ci := 5) (v := .int (iI (hc + 1))) (ty := .int) (C := zR_Q) (T := zT_Q) (N := 21) hx hb hw zin_Q zt_Q zto_Q zn_Q hown hK hP hD hS 0 rfl rfl 20 (by decide) (hw _ zw_3_218) (fun _ h9 => h9) rfl  (by decide +kernel) rfl rfl (Nat.le_of_ble_eq_true rfl) zd_Q_holiday_75 (fun H locs hP hD hS => ?_)
        have hP : va_P g.1 zCl [(qq, .inr (5, [.int (iI (0)), .ref (rf 0), .int (iI (ln)), .int (iI (pl)), .int (iI (yy)), .int (iI (mm)), .int (iI (dd)), .int (iI (at0)), .ref (rf 1), .ref (rf 2), .ref (rf 3), .ref (rf 4), .ref (rf 5), .ref (rf 6), .int (iI (wa)), .int (iI (on)), .int (iI (tw)), .ref (rf 7), .ref (rf 8), .ref (rf 9), .int (iI (hc + 1))])), (rf 9, .inl (g.2 1, 120530, .inl (zaB hdf)))] H := hP
        have hD : va_D A [(qq, .inr (5, [.int (iI (0)), .ref (rf 0), .int (iI (ln)), .int (iI (pl)), .int (iI (yy)), .int (iI (mm)), .int (iI (dd)), .int (iI (at0)), .ref (rf 1), .ref (rf 2), .ref (rf 3), .ref (rf 4), .ref (rf 5), .ref (rf 6), .int (iI (wa)), .int (iI (on)), .int (iI (tw)), .ref (rf 7), .ref (rf 8), .ref (rf 9), .int (iI (hc + 1))])), (rf 9, .inl (g.2 1, 120530, .inl (zaB hdf)))] := hD
        refine lv_aload_n hx hb zd_Q_holiday_78 rfl (lv_at hl 0 rfl) ?_
        refine va_get (D := g.1) (ci := 5) (v := .ref (rf 9)) (C := zR_Q) (T := zT_Q) (N := 21) hx hb hw zin_Q hown hK hP 0 rfl rfl 19 (by decide) (hw _ zw_3_217) (fun _ h9 => h9) rfl zd_Q_holiday_79 ?_
        refine lv_iload_n hx hb zd_Q_holiday_82 rfl (lv_at hl 1 rfl) ?_
        refine lv_iload_n hx hb zd_Q_holiday_83 rfl (lv_at hl 2 rfl) ?_
        refine zi_zast hx hb hK hP hD hS 1 1 rfl rfl (by omega) zd_Q_holiday_84 (fun H locs hP hD hS => ?_)
        have hP : va_P g.1 zCl [(qq, .inr (5, [.int (iI (0)), .ref (rf 0), .int (iI (ln)), .int (iI (pl)), .int (iI (yy)), .int (iI (mm)), .int (iI (dd)), .int (iI (at0)), .ref (rf 1), .ref (rf 2), .ref (rf 3), .ref (rf 4), .ref (rf 5), .ref (rf 6), .int (iI (wa)), .int (iI (on)), .int (iI (tw)), .ref (rf 7), .ref (rf 8), .ref (rf 9), .int (iI (hc + 1))])), (rf 9, .inl (g.2 1, 120530, .inl (zaB (zu hdf (d).toNat (true)))))] H := hP
        have hD : va_D A [(qq, .inr (5, [.int (iI (0)), .ref (rf 0), .int (iI (ln)), .int (iI (pl)), .int (iI (yy)), .int (iI (mm)), .int (iI (dd)), .int (iI (at0)), .ref (rf 1), .ref (rf 2), .ref (rf 3), .ref (rf 4), .ref (rf 5), .ref (rf 6), .int (iI (wa)), .int (iI (on)), .int (iI (tw)), .ref (rf 7), .ref (rf 8), .ref (rf 9), .int (iI (hc + 1))])), (rf 9, .inl (g.2 1, 120530, .inl (zaB (zu hdf (d).toNat (true)))))] := hD
        refine lv_aload_n hx hb zd_Q_holiday_85 rfl (lv_at hl 0 rfl) ?_
        refine va_get (D := g.1) (ci := 5) (v := .int (iI (hc + 1))) (C := zR_Q) (T := zT_Q) (N := 21) hx hb hw zin_Q hown hK hP 0 rfl rfl 20 (by decide) (hw _ zw_3_218) (fun _ h9 => h9) rfl zd_Q_holiday_86 ?_
        exact zw_iret hx hb hr hlk (ws := [(qq, .inr (5, [.int (iI (0)), .ref (rf 0), .int (iI (ln)), .int (iI (pl)), .int (iI (yy)), .int (iI (mm)), .int (iI (dd)), .int (iI (at0)), .ref (rf 1), .ref (rf 2), .ref (rf 3), .ref (rf 4), .ref (rf 5), .ref (rf 6), .int (iI (wa)), .int (iI (on)), .int (iI (tw)), .ref (rf 7), .ref (rf 8), .ref (rf 9), .int (iI (hc + 1))])), (rf 9, .inl (g.2 1, 120530, .inl (zaB (zu hdf d.toNat true))))]) hP hS zd_Q_holiday_89
      · omega
    · omega
set_option maxHeartbeats 4000000 in
set_option maxRecDepth 100000 in
theorem c_Q_hol_in (l : Launch) (g : zGl) (qq : Nat) (rf : Nat → Nat) (fl ln pl yy mm dd at0 wa on tw hc : Int) (hdf : Nat → Bool) (d : Int) (hd0 : 0 ≤ d ∧ d ≤ 120529) (hhc : 0 ≤ hc ∧ hc ≤ 200) (hh : hdf d.toNat = true) : zWi l zy_Q_holiday zc_Q_holiday 3 (some .int) ({ frames := 1, cells := 0, slots := 0, locals := 21 }) g (fun _ => zN) [.ref (qq), .int (iI (d)), .int (iI (bI (true)))] [(qq, .inr (5, [.int (iI (fl)), .ref (rf 0), .int (iI (ln)), .int (iI (pl)), .int (iI (yy)), .int (iI (mm)), .int (iI (dd)), .int (iI (at0)), .ref (rf 1), .ref (rf 2), .ref (rf 3), .ref (rf 4), .ref (rf 5), .ref (rf 6), .int (iI (wa)), .int (iI (on)), .int (iI (tw)), .ref (rf 7), .ref (rf 8), .ref (rf 9), .int (iI (hc))])), (rf 9, .inl (g.2 1, 120530, .inl (zaB hdf)))] (some (.int (iI (hc)))) [(qq, .inr (5, [.int (iI (0)), .ref (rf 0), .int (iI (ln)), .int (iI (pl)), .int (iI (yy)), .int (iI (mm)), .int (iI (dd)), .int (iI (at0)), .ref (rf 1), .ref (rf 2), .ref (rf 3), .ref (rf 4), .ref (rf 5), .ref (rf 6), .int (iI (wa)), .int (iI (on)), .int (iI (tw)), .ref (rf 7), .ref (rf 8), .ref (rf 9), .int (iI (hc))])), (rf 9, .inl (g.2 1, 120530, .inl (zaB (zu hdf d.toNat true))))] 0 0 := by
  refine zw_open (by decide +kernel) (Nat.le_of_ble_eq_true rfl) ?_
  intro p e s m below meth c ls A hx hb hml hr hlk hown hin hw hK hT hP hD hS hA hl
  have hown : s.vm.findClass "CronFinderModel" = some m.cls := hown
  have hl : lv_has ls 3 [(0, .ref (qq)), (1, .int (iI (d))), (2, .int (iI (bI (true))))] := hl
  refine lv_aload_n hx hb zd_Q_holiday_0 rfl (lv_at hl 0 rfl) ?_
  refine zi_iconst hx hb zd_Q_holiday_1 ?_
  refine va_put (D := g.1) (ci := 5) (v := .int (iI (0))) (ty := .int) (C := zR_Q) (T := zT_Q) (N := 21) hx hb hw zin_Q zt_Q zto_Q zn_Q hown hK hP hD hS 0 rfl rfl 0 (by decide) (hw _ zw_3_198) (fun _ h9 => h9) rfl  (by decide +kernel) rfl rfl (Nat.le_of_ble_eq_true rfl) zd_Q_holiday_2 (fun H locs hP hD hS => ?_)
  have hP : va_P g.1 zCl [(qq, .inr (5, [.int (iI (0)), .ref (rf 0), .int (iI (ln)), .int (iI (pl)), .int (iI (yy)), .int (iI (mm)), .int (iI (dd)), .int (iI (at0)), .ref (rf 1), .ref (rf 2), .ref (rf 3), .ref (rf 4), .ref (rf 5), .ref (rf 6), .int (iI (wa)), .int (iI (on)), .int (iI (tw)), .ref (rf 7), .ref (rf 8), .ref (rf 9), .int (iI (hc))])), (rf 9, .inl (g.2 1, 120530, .inl (zaB hdf)))] H := hP
  have hD : va_D A [(qq, .inr (5, [.int (iI (0)), .ref (rf 0), .int (iI (ln)), .int (iI (pl)), .int (iI (yy)), .int (iI (mm)), .int (iI (dd)), .int (iI (at0)), .ref (rf 1), .ref (rf 2), .ref (rf 3), .ref (rf 4), .ref (rf 5), .ref (rf 6), .int (iI (wa)), .int (iI (on)), .int (iI (tw)), .ref (rf 7), .ref (rf 8), .ref (rf 9), .int (iI (hc))])), (rf 9, .inl (g.2 1, 120530, .inl (zaB hdf)))] := hD
  refine lv_iload_n hx hb zd_Q_holiday_5 rfl (lv_at hl 1 rfl) ?_
  refine zi_if_lt (tgt := 15) hx hb zd_Q_holiday_6 (by decide) (by omega) (fun c6 => ?_) (fun c6 => ?_)
  · omega
  · refine lv_iload_n hx hb zd_Q_holiday_9 rfl (lv_at hl 1 rfl) ?_
    refine lv_ldc hx hb hown (hw _ zw_4_95) zd_Q_holiday_10 ?_
    refine zi_asx _ 120529 (by decide) ?_
    refine zi_icmp_le (tgt := 21) hx hb zd_Q_holiday_12 (by decide) (by omega) (fun c12 => ?_) (fun c12 => ?_)
    · refine lv_iload_n hx hb zd_Q_holiday_21 rfl (lv_at hl 2 rfl) ?_
      refine zb_if_eq (tgt := 50) hx hb zd_Q_holiday_22 (by decide) (fun c22 => by cases c22) (fun _ => ?_)
      refine lv_aload_n hx hb zd_Q_holiday_25 rfl (lv_at hl 0 rfl) ?_
      refine va_get (D := g.1) (ci := 5) (v := .ref (rf 9)) (C := zR_Q) (T := zT_Q) (N := 21) hx hb hw zin_Q hown hK hP 0 rfl rfl 19 (by decide) (hw _ zw_3_217) (fun _ h9 => h9) rfl zd_Q_holiday_26 ?_
      refine lv_iload_n hx hb zd_Q_holiday_29 rfl (lv_at hl 1 rfl) ?_
      refine zi_zald hx hb hK hP 1 1 rfl rfl (by omega) zd_Q_holiday_30 ?_
      refine zb_eq true hh ?_
      refine zb_if_ne (tgt := 50) hx hb zd_Q_holiday_31 (by decide) (fun _ => ?_) (fun c31 => by cases c31)
      refine lv_aload_n hx hb zd_Q_holiday_50 rfl (lv_at hl 0 rfl) ?_
      refine va_get (D := g.1) (ci := 5) (v := .ref (rf 9)) (C := zR_Q) (T := zT_Q) (N := 21) hx hb hw zin_Q hown hK hP 0 rfl rfl 19 (by decide) (hw _ zw_3_217) (fun _ h9 => h9) rfl zd_Q_holiday_51 ?_
      refine lv_iload_n hx hb zd_Q_holiday_54 rfl (lv_at hl 1 rfl) ?_
      refine zi_zald hx hb hK hP 1 1 rfl rfl (by omega) zd_Q_holiday_55 ?_
      refine zb_eq true hh ?_
      refine zi_as 1 rfl ?_
      refine lv_iload_n hx hb zd_Q_holiday_56 rfl (lv_at hl 2 rfl) ?_
      refine zi_as 1 rfl ?_
      refine zi_icmp_eq (tgt := 78) hx hb zd_Q_holiday_57 (by decide) (by omega) (fun _ => ?_) (fun c57 => absurd c57 (by decide))
      refine lv_aload_n hx hb zd_Q_holiday_78 rfl (lv_at hl 0 rfl) ?_
      refine va_get (D := g.1) (ci := 5) (v := .ref (rf 9)) (C := zR_Q) (T := zT_Q) (N := 21) hx hb hw zin_Q hown hK hP 0 rfl rfl 19 (by decide) (hw _ zw_3_217) (fun _ h9 => h9) rfl zd_Q_holiday_79 ?_
      refine lv_iload_n hx hb zd_Q_holiday_82 rfl (lv_at hl 1 rfl) ?_
      refine lv_iload_n hx hb zd_Q_holiday_83 rfl (lv_at hl 2 rfl) ?_
      refine zi_zast hx hb hK hP hD hS 1 1 rfl rfl (by omega) zd_Q_holiday_84 (fun H locs hP hD hS => ?_)
      have hP : va_P g.1 zCl [(qq, .inr (5, [.int (iI (0)), .ref (rf 0), .int (iI (ln)), .int (iI (pl)), .int (iI (yy)), .int (iI (mm)), .int (iI (dd)), .int (iI (at0)), .ref (rf 1), .ref (rf 2), .ref (rf 3), .ref (rf 4), .ref (rf 5), .ref (rf 6), .int (iI (wa)), .int (iI (on)), .int (iI (tw)), .ref (rf 7), .ref (rf 8), .ref (rf 9), .int (iI (hc))])), (rf 9, .inl (g.2 1, 120530, .inl (zaB (zu hdf (d).toNat (true)))))] H := hP
      have hD : va_D A [(qq, .inr (5, [.int (iI (0)), .ref (rf 0), .int (iI (ln)), .int (iI (pl)), .int (iI (yy)), .int (iI (mm)), .int (iI (dd)), .int (iI (at0)), .ref (rf 1), .ref (rf 2), .ref (rf 3), .ref (rf 4), .ref (rf 5), .ref (rf 6), .int (iI (wa)), .int (iI (on)), .int (iI (tw)), .ref (rf 7), .ref (rf 8), .ref (rf 9), .int (iI (hc))])), (rf 9, .inl (g.2 1, 120530, .inl (zaB (zu hdf (d).toNat (true)))))] := hD
      refine lv_aload_n hx hb zd_Q_holiday_85 rfl (lv_at hl 0 rfl) ?_
      refine va_get (D := g.1) (ci := 5) (v := .int (iI (hc))) (C := zR_Q) (T := zT_Q) (N := 21) hx hb hw zin_Q hown hK hP 0 rfl rfl 20 (by decide) (hw _ zw_3_218) (fun _ h9 => h9) rfl zd_Q_holiday_86 ?_
      exact zw_iret hx hb hr hlk (ws := [(qq, .inr (5, [.int (iI (0)), .ref (rf 0), .int (iI (ln)), .int (iI (pl)), .int (iI (yy)), .int (iI (mm)), .int (iI (dd)), .int (iI (at0)), .ref (rf 1), .ref (rf 2), .ref (rf 3), .ref (rf 4), .ref (rf 5), .ref (rf 6), .int (iI (wa)), .int (iI (on)), .int (iI (tw)), .ref (rf 7), .ref (rf 8), .ref (rf 9), .int (iI (hc))])), (rf 9, .inl (g.2 1, 120530, .inl (zaB (zu hdf d.toNat true))))]) hP hS zd_Q_holiday_89
    · omega
set_option maxHeartbeats 4000000 in
set_option maxRecDepth 100000 in
theorem c_Q_hol_rem (l : Launch) (g : zGl) (qq : Nat) (rf : Nat → Nat) (fl ln pl yy mm dd at0 wa on tw hc : Int) (hdf : Nat → Bool) (d : Int) (hd0 : 0 ≤ d ∧ d ≤ 120529) (hhc : 0 ≤ hc ∧ hc ≤ 200) (hh : hdf d.toNat = true) : zWi l zy_Q_holiday zc_Q_holiday 3 (some .int) ({ frames := 1, cells := 0, slots := 0, locals := 21 }) g (fun _ => zN) [.ref (qq), .int (iI (d)), .int (iI (bI (false)))] [(qq, .inr (5, [.int (iI (fl)), .ref (rf 0), .int (iI (ln)), .int (iI (pl)), .int (iI (yy)), .int (iI (mm)), .int (iI (dd)), .int (iI (at0)), .ref (rf 1), .ref (rf 2), .ref (rf 3), .ref (rf 4), .ref (rf 5), .ref (rf 6), .int (iI (wa)), .int (iI (on)), .int (iI (tw)), .ref (rf 7), .ref (rf 8), .ref (rf 9), .int (iI (hc))])), (rf 9, .inl (g.2 1, 120530, .inl (zaB hdf)))] (some (.int (iI (hc + (-1))))) [(qq, .inr (5, [.int (iI (0)), .ref (rf 0), .int (iI (ln)), .int (iI (pl)), .int (iI (yy)), .int (iI (mm)), .int (iI (dd)), .int (iI (at0)), .ref (rf 1), .ref (rf 2), .ref (rf 3), .ref (rf 4), .ref (rf 5), .ref (rf 6), .int (iI (wa)), .int (iI (on)), .int (iI (tw)), .ref (rf 7), .ref (rf 8), .ref (rf 9), .int (iI (hc + (-1)))])), (rf 9, .inl (g.2 1, 120530, .inl (zaB (zu hdf d.toNat false))))] 0 0 := by
  refine zw_open (by decide +kernel) (Nat.le_of_ble_eq_true rfl) ?_
  intro p e s m below meth c ls A hx hb hml hr hlk hown hin hw hK hT hP hD hS hA hl
  have hown : s.vm.findClass "CronFinderModel" = some m.cls := hown
  have hl : lv_has ls 3 [(0, .ref (qq)), (1, .int (iI (d))), (2, .int (iI (bI (false))))] := hl
  refine lv_aload_n hx hb zd_Q_holiday_0 rfl (lv_at hl 0 rfl) ?_
  refine zi_iconst hx hb zd_Q_holiday_1 ?_
  refine va_put (D := g.1) (ci := 5) (v := .int (iI (0))) (ty := .int) (C := zR_Q) (T := zT_Q) (N := 21) hx hb hw zin_Q zt_Q zto_Q zn_Q hown hK hP hD hS 0 rfl rfl 0 (by decide) (hw _ zw_3_198) (fun _ h9 => h9) rfl  (by decide +kernel) rfl rfl (Nat.le_of_ble_eq_true rfl) zd_Q_holiday_2 (fun H locs hP hD hS => ?_)
  have hP : va_P g.1 zCl [(qq, .inr (5, [.int (iI (0)), .ref (rf 0), .int (iI (ln)), .int (iI (pl)), .int (iI (yy)), .int (iI (mm)), .int (iI (dd)), .int (iI (at0)), .ref (rf 1), .ref (rf 2), .ref (rf 3), .ref (rf 4), .ref (rf 5), .ref (rf 6), .int (iI (wa)), .int (iI (on)), .int (iI (tw)), .ref (rf 7), .ref (rf 8), .ref (rf 9), .int (iI (hc))])), (rf 9, .inl (g.2 1, 120530, .inl (zaB hdf)))] H := hP
  have hD : va_D A [(qq, .inr (5, [.int (iI (0)), .ref (rf 0), .int (iI (ln)), .int (iI (pl)), .int (iI (yy)), .int (iI (mm)), .int (iI (dd)), .int (iI (at0)), .ref (rf 1), .ref (rf 2), .ref (rf 3), .ref (rf 4), .ref (rf 5), .ref (rf 6), .int (iI (wa)), .int (iI (on)), .int (iI (tw)), .ref (rf 7), .ref (rf 8), .ref (rf 9), .int (iI (hc))])), (rf 9, .inl (g.2 1, 120530, .inl (zaB hdf)))] := hD
  refine lv_iload_n hx hb zd_Q_holiday_5 rfl (lv_at hl 1 rfl) ?_
  refine zi_if_lt (tgt := 15) hx hb zd_Q_holiday_6 (by decide) (by omega) (fun c6 => ?_) (fun c6 => ?_)
  · omega
  · refine lv_iload_n hx hb zd_Q_holiday_9 rfl (lv_at hl 1 rfl) ?_
    refine lv_ldc hx hb hown (hw _ zw_4_95) zd_Q_holiday_10 ?_
    refine zi_asx _ 120529 (by decide) ?_
    refine zi_icmp_le (tgt := 21) hx hb zd_Q_holiday_12 (by decide) (by omega) (fun c12 => ?_) (fun c12 => ?_)
    · refine lv_iload_n hx hb zd_Q_holiday_21 rfl (lv_at hl 2 rfl) ?_
      refine zb_if_eq (tgt := 50) hx hb zd_Q_holiday_22 (by decide) (fun _ => ?_) (fun c22 => by cases c22)
      refine lv_aload_n hx hb zd_Q_holiday_50 rfl (lv_at hl 0 rfl) ?_
      refine va_get (D := g.1) (ci := 5) (v := .ref (rf 9)) (C := zR_Q) (T := zT_Q) (N := 21) hx hb hw zin_Q hown hK hP 0 rfl rfl 19 (by decide) (hw _ zw_3_217) (fun _ h9 => h9) rfl zd_Q_holiday_51 ?_
      refine lv_iload_n hx hb zd_Q_holiday_54 rfl (lv_at hl 1 rfl) ?_
      refine zi_zald hx hb hK hP 1 1 rfl rfl (by omega) zd_Q_holiday_55 ?_
      refine zb_eq true hh ?_
      refine zi_as 1 rfl ?_
      refine lv_iload_n hx hb zd_Q_holiday_56 rfl (lv_at hl 2 rfl) ?_
      refine zi_as 0 rfl ?_
      refine zi_icmp_eq (tgt := 78) hx hb zd_Q_holiday_57 (by decide) (by omega) (fun c57 => absurd c57 (by decide)) (fun _ => ?_)
      refine lv_aload_n hx hb zd_Q_holiday_60 rfl (lv_at hl 0 rfl) ?_
      refine lv_dup hx hb zd_Q_holiday_61 rfl ?_
      refine va_get (D := g.1) (ci := 5) (v := .int (iI (hc))) (C := zR_Q) (T := zT_Q) (N := 21) hx hb hw zin_Q hown hK hP 0 rfl rfl 20 (by decide) (hw _ zw_3_218) (fun _ h9 => h9) rfl zd_Q_holiday_62 ?_
      refine lv_iload_n hx hb zd_Q_holiday_65 rfl (lv_at hl 2 rfl) ?_
      refine zb_if_eq (tgt := 73) hx hb zd_Q_holiday_66 (by decide) (fun _ => ?_) (fun c66 => by cases c66)
      refine zi_iconst hx hb zd_Q_holiday_73 ?_
      refine zi_iadd hx hb zd_Q_holiday_74 ?_
      refine va_put (D := g.1) (ci := 5) (v := .int (iI (hc + ((-1))))) (ty := .int) (C := zR_Q) (T := zT_Q) (N := 21) hx hb hw zin_Q zt_Q zto_Q zn_Q hown hK hP hD hS 0 rfl rfl 20 (by decide) (hw _ zw_3_218) (fun _ h9 => h9) rfl  (by decide +kernel) rfl rfl (Nat.le_of_ble_eq_true rfl) zd_Q_holiday_75 (fun H locs hP hD hS => ?_)
      have hP : va_P g.1 zCl [(qq, .inr (5, [.int (iI (0)), .ref (rf 0), .int (iI (ln)), .int (iI (pl)), .int (iI (yy)), .int (iI (mm)), .int (iI (dd)), .int (iI (at0)), .ref (rf 1), .ref (rf 2), .ref (rf 3), .ref (rf 4), .ref (rf 5), .ref (rf 6), .int (iI (wa)), .int (iI (on)), .int (iI (tw)), .ref (rf 7), .ref (rf 8), .ref (rf 9), .int (iI (hc + ((-1))))])), (rf 9, .inl (g.2 1, 120530, .inl (zaB hdf)))] H := hP
      have hD : va_D A [(qq, .inr (5, [.int (iI (0)), .ref (rf 0), .int (iI (ln)), .int (iI (pl)), .int (iI (yy)), .int (iI (mm)), .int (iI (dd)), .int (iI (at0)), .ref (rf 1), .ref (rf 2), .ref (rf 3), .ref (rf 4), .ref (rf 5), .ref (rf 6), .int (iI (wa)), .int (iI (on)), .int (iI (tw)), .ref (rf 7), .ref (rf 8), .ref (rf 9), .int (iI (hc + ((-1))))])), (rf 9, .inl (g.2 1, 120530, .inl (zaB hdf)))] := hD
      refine lv_aload_n hx hb zd_Q_holiday_78 rfl (lv_at hl 0 rfl) ?_
      refine va_get (D := g.1) (ci := 5) (v := .ref (rf 9)) (C := zR_Q) (T := zT_Q) (N := 21) hx hb hw zin_Q hown hK hP 0 rfl rfl 19 (by decide) (hw _ zw_3_217) (fun _ h9 => h9) rfl zd_Q_holiday_79 ?_
      refine lv_iload_n hx hb zd_Q_holiday_82 rfl (lv_at hl 1 rfl) ?_
      refine lv_iload_n hx hb zd_Q_holiday_83 rfl (lv_at hl 2 rfl) ?_
      refine zi_zast hx hb hK hP hD hS 1 1 rfl rfl (by omega) zd_Q_holiday_84 (fun H locs hP hD hS => ?_)
      have hP : va_P g.1 zCl [(qq, .inr (5, [.int (iI (0)), .ref (rf 0), .int (iI (ln)), .int (iI (pl)), .int (iI (yy)), .int (iI (mm)), .int (iI (dd)), .int (iI (at0)), .ref (rf 1), .ref (rf 2), .ref (rf 3), .ref (rf 4), .ref (rf 5), .ref (rf 6), .int (iI (wa)), .int (iI (on)), .int (iI (tw)), .ref (rf 7), .ref (rf 8), .ref (rf 9), .int (iI (hc + ((-1))))])), (rf 9, .inl (g.2 1, 120530, .inl (zaB (zu hdf (d).toNat (false)))))] H := hP
      have hD : va_D A [(qq, .inr (5, [.int (iI (0)), .ref (rf 0), .int (iI (ln)), .int (iI (pl)), .int (iI (yy)), .int (iI (mm)), .int (iI (dd)), .int (iI (at0)), .ref (rf 1), .ref (rf 2), .ref (rf 3), .ref (rf 4), .ref (rf 5), .ref (rf 6), .int (iI (wa)), .int (iI (on)), .int (iI (tw)), .ref (rf 7), .ref (rf 8), .ref (rf 9), .int (iI (hc + ((-1))))])), (rf 9, .inl (g.2 1, 120530, .inl (zaB (zu hdf (d).toNat (false)))))] := hD
      refine lv_aload_n hx hb zd_Q_holiday_85 rfl (lv_at hl 0 rfl) ?_
      refine va_get (D := g.1) (ci := 5) (v := .int (iI (hc + ((-1))))) (C := zR_Q) (T := zT_Q) (N := 21) hx hb hw zin_Q hown hK hP 0 rfl rfl 20 (by decide) (hw _ zw_3_218) (fun _ h9 => h9) rfl zd_Q_holiday_86 ?_
      exact zw_iret hx hb hr hlk (ws := [(qq, .inr (5, [.int (iI (0)), .ref (rf 0), .int (iI (ln)), .int (iI (pl)), .int (iI (yy)), .int (iI (mm)), .int (iI (dd)), .int (iI (at0)), .ref (rf 1), .ref (rf 2), .ref (rf 3), .ref (rf 4), .ref (rf 5), .ref (rf 6), .int (iI (wa)), .int (iI (on)), .int (iI (tw)), .ref (rf 7), .ref (rf 8), .ref (rf 9), .int (iI (hc + (-1)))])), (rf 9, .inl (g.2 1, 120530, .inl (zaB (zu hdf d.toNat false))))]) hP hS zd_Q_holiday_89
    · omega
set_option maxHeartbeats 4000000 in
set_option maxRecDepth 100000 in
theorem c_Q_hol_no (l : Launch) (g : zGl) (qq : Nat) (rf : Nat → Nat) (fl ln pl yy mm dd at0 wa on tw hc : Int) (hdf : Nat → Bool) (d : Int) (hd0 : 0 ≤ d ∧ d ≤ 120529) (hhc : 0 ≤ hc ∧ hc ≤ 200) (hh : hdf d.toNat = false) : zWi l zy_Q_holiday zc_Q_holiday 3 (some .int) ({ frames := 1, cells := 0, slots := 0, locals := 21 }) g (fun _ => zN) [.ref (qq), .int (iI (d)), .int (iI (bI (false)))] [(qq, .inr (5, [.int (iI (fl)), .ref (rf 0), .int (iI (ln)), .int (iI (pl)), .int (iI (yy)), .int (iI (mm)), .int (iI (dd)), .int (iI (at0)), .ref (rf 1), .ref (rf 2), .ref (rf 3), .ref (rf 4), .ref (rf 5), .ref (rf 6), .int (iI (wa)), .int (iI (on)), .int (iI (tw)), .ref (rf 7), .ref (rf 8), .ref (rf 9), .int (iI (hc))])), (rf 9, .inl (g.2 1, 120530, .inl (zaB hdf)))] (some (.int (iI (hc)))) [(qq, .inr (5, [.int (iI (0)), .ref (rf 0), .int (iI (ln)), .int (iI (pl)), .int (iI (yy)), .int (iI (mm)), .int (iI (dd)), .int (iI (at0)), .ref (rf 1), .ref (rf 2), .ref (rf 3), .ref (rf 4), .ref (rf 5), .ref (rf 6), .int (iI (wa)), .int (iI (on)), .int (iI (tw)), .ref (rf 7), .ref (rf 8), .ref (rf 9), .int (iI (hc))])), (rf 9, .inl (g.2 1, 120530, .inl (zaB (zu hdf d.toNat false))))] 0 0 := by
  refine zw_open (by decide +kernel) (Nat.le_of_ble_eq_true rfl) ?_
  intro p e s m below meth c ls A hx hb hml hr hlk hown hin hw hK hT hP hD hS hA hl
  have hown : s.vm.findClass "CronFinderModel" = some m.cls := hown
  have hl : lv_has ls 3 [(0, .ref (qq)), (1, .int (iI (d))), (2, .int (iI (bI (false))))] := hl
  refine lv_aload_n hx hb zd_Q_holiday_0 rfl (lv_at hl 0 rfl) ?_
  refine zi_iconst hx hb zd_Q_holiday_1 ?_
  refine va_put (D := g.1) (ci := 5) (v := .int (iI (0))) (ty := .int) (C := zR_Q) (T := zT_Q) (N := 21) hx hb hw zin_Q zt_Q zto_Q zn_Q hown hK hP hD hS 0 rfl rfl 0 (by decide) (hw _ zw_3_198) (fun _ h9 => h9) rfl  (by decide +kernel) rfl rfl (Nat.le_of_ble_eq_true rfl) zd_Q_holiday_2 (fun H locs hP hD hS => ?_)
  have hP : va_P g.1 zCl [(qq, .inr (5, [.int (iI (0)), .ref (rf 0), .int (iI (ln)), .int (iI (pl)), .int (iI (yy)), .int (iI (mm)), .int (iI (dd)), .int (iI (at0)), .ref (rf 1), .ref (rf 2), .ref (rf 3), .ref (rf 4), .ref (rf 5), .ref (rf 6), .int (iI (wa)), .int (iI (on)), .int (iI (tw)), .ref (rf 7), .ref (rf 8), .ref (rf 9), .int (iI (hc))])), (rf 9, .inl (g.2 1, 120530, .inl (zaB hdf)))] H := hP
  have hD : va_D A [(qq, .inr (5, [.int (iI (0)), .ref (rf 0), .int (iI (ln)), .int (iI (pl)), .int (iI (yy)), .int (iI (mm)), .int (iI (dd)), .int (iI (at0)), .ref (rf 1), .ref (rf 2), .ref (rf 3), .ref (rf 4), .ref (rf 5), .ref (rf 6), .int (iI (wa)), .int (iI (on)), .int (iI (tw)), .ref (rf 7), .ref (rf 8), .ref (rf 9), .int (iI (hc))])), (rf 9, .inl (g.2 1, 120530, .inl (zaB hdf)))] := hD
  refine lv_iload_n hx hb zd_Q_holiday_5 rfl (lv_at hl 1 rfl) ?_
  refine zi_if_lt (tgt := 15) hx hb zd_Q_holiday_6 (by decide) (by omega) (fun c6 => ?_) (fun c6 => ?_)
  · omega
  · refine lv_iload_n hx hb zd_Q_holiday_9 rfl (lv_at hl 1 rfl) ?_
    refine lv_ldc hx hb hown (hw _ zw_4_95) zd_Q_holiday_10 ?_
    refine zi_asx _ 120529 (by decide) ?_
    refine zi_icmp_le (tgt := 21) hx hb zd_Q_holiday_12 (by decide) (by omega) (fun c12 => ?_) (fun c12 => ?_)
    · refine lv_iload_n hx hb zd_Q_holiday_21 rfl (lv_at hl 2 rfl) ?_
      refine zb_if_eq (tgt := 50) hx hb zd_Q_holiday_22 (by decide) (fun _ => ?_) (fun c22 => by cases c22)
      refine lv_aload_n hx hb zd_Q_holiday_50 rfl (lv_at hl 0 rfl) ?_
      refine va_get (D := g.1) (ci := 5) (v := .ref (rf 9)) (C := zR_Q) (T := zT_Q) (N := 21) hx hb hw zin_Q hown hK hP 0 rfl rfl 19 (by decide) (hw _ zw_3_217) (fun _ h9 => h9) rfl zd_Q_holiday_51 ?_
      refine lv_iload_n hx hb zd_Q_holiday_54 rfl (lv_at hl 1 rfl) ?_
      refine zi_zald hx hb hK hP 1 1 rfl rfl (by omega) zd_Q_holiday_55 ?_
      refine zb_eq false hh ?_
      refine zi_as 0 rfl ?_
      refine lv_iload_n hx hb zd_Q_holiday_56 rfl (lv_at hl 2 rfl) ?_
      refine zi_as 0 rfl ?_
      refine zi_icmp_eq (tgt := 78) hx hb zd_Q_holiday_57 (by decide) (by omega) (fun _ => ?_) (fun c57 => absurd c57 (by decide))
      refine lv_aload_n hx hb zd_Q_holiday_78 rfl (lv_at hl 0 rfl) ?_
      refine va_get (D := g.1) (ci := 5) (v := .ref (rf 9)) (C := zR_Q) (T := zT_Q) (N := 21) hx hb hw zin_Q hown hK hP 0 rfl rfl 19 (by decide) (hw _ zw_3_217) (fun _ h9 => h9) rfl zd_Q_holiday_79 ?_
      refine lv_iload_n hx hb zd_Q_holiday_82 rfl (lv_at hl 1 rfl) ?_
      refine lv_iload_n hx hb zd_Q_holiday_83 rfl (lv_at hl 2 rfl) ?_
      refine zi_zast hx hb hK hP hD hS 1 1 rfl rfl (by omega) zd_Q_holiday_84 (fun H locs hP hD hS => ?_)
      have hP : va_P g.1 zCl [(qq, .inr (5, [.int (iI (0)), .ref (rf 0), .int (iI (ln)), .int (iI (pl)), .int (iI (yy)), .int (iI (mm)), .int (iI (dd)), .int (iI (at0)), .ref (rf 1), .ref (rf 2), .ref (rf 3), .ref (rf 4), .ref (rf 5), .ref (rf 6), .int (iI (wa)), .int (iI (on)), .int (iI (tw)), .ref (rf 7), .ref (rf 8), .ref (rf 9), .int (iI (hc))])), (rf 9, .inl (g.2 1, 120530, .inl (zaB (zu hdf (d).toNat (false)))))] H := hP
      have hD : va_D A [(qq, .inr (5, [.int (iI (0)), .ref (rf 0), .int (iI (ln)), .int (iI (pl)), .int (iI (yy)), .int (iI (mm)), .int (iI (dd)), .int (iI (at0)), .ref (rf 1), .ref (rf 2), .ref (rf 3), .ref (rf 4), .ref (rf 5), .ref (rf 6), .int (iI (wa)), .int (iI (on)), .int (iI (tw)), .ref (rf 7), .ref (rf 8), .ref (rf 9), .int (iI (hc))])), (rf 9, .inl (g.2 1, 120530, .inl (zaB (zu hdf (d).toNat (false)))))] := hD
      refine lv_aload_n hx hb zd_Q_holiday_85 rfl (lv_at hl 0 rfl) ?_
      refine va_get (D := g.1) (ci := 5) (v := .int (iI (hc))) (C := zR_Q) (T := zT_Q) (N := 21) hx hb hw zin_Q hown hK hP 0 rfl rfl 20 (by decide) (hw _ zw_3_218) (fun _ h9 => h9) rfl zd_Q_holiday_86 ?_
      exact zw_iret hx hb hr hlk (ws := [(qq, .inr (5, [.int (iI (0)), .ref (rf 0), .int (iI (ln)), .int (iI (pl)), .int (iI (yy)), .int (iI (mm)), .int (iI (dd)), .int (iI (at0)), .ref (rf 1), .ref (rf 2), .ref (rf 3), .ref (rf 4), .ref (rf 5), .ref (rf 6), .int (iI (wa)), .int (iI (on)), .int (iI (tw)), .ref (rf 7), .ref (rf 8), .ref (rf 9), .int (iI (hc))])), (rf 9, .inl (g.2 1, 120530, .inl (zaB (zu hdf d.toNat false))))]) hP hS zd_Q_holiday_89
    · omega
def sB (z : Int) : Int := if z < 128 then z else z - 256
theorem zu_sg (tf : Nat → Int) (k : Nat) (z : Int) : zu (zSg tf) k (sB z) = zSg (zu tf k z) := by
  funext j
  by_cases h : j = k
  · subst h; rw [zu_s]; unfold zSg; rw [zu_s]; rfl
  · rw [zu_n _ _ h]; unfold zSg; rw [zu_n _ _ h]
theorem sB_rg {z : Int} (h : 0 ≤ z ∧ z < 256) : -128 ≤ sB z ∧ sB z < 128 := by unfold sB; split <;> omega
theorem zn_byte {z : Int} (h : -128 ≤ z ∧ z < 128) : vp_nar .byte (iI z) = iI z := by
  rw [vp_nar_byte]
  have h2 : (iI z).toInt8 = Int8.ofInt z := by show (Int32.ofInt z).toInt8 = _; rw [Int32.toInt8_ofInt]
  rw [h2]
  show (Int8.ofInt z).toInt32 = Int32.ofInt z
  exact Int8.toInt32_ofInt (by show (-128 : Int) ≤ z; omega) (by show z ≤ (127 : Int); omega)
theorem sB_at {v : Int} {x : Int32} {k : Nat} (hx : (x.toBitVec.smod 32).toNat = k) (hk : k = 0 ∨ k = 8 ∨ k = 16 ∨ k = 24) : ((iI v >>> x).toInt8).toInt32 = iI (sB (zBy v k)) := by
  have hr := zBy_rg v k
  have hs := sB_rg hr
  rw [← Int32.toInt_inj, iI_t (by omega)]
  have e1 : ((iI v >>> x).toInt8).toInt32.toInt = ((iI v >>> x).toInt).bmod 256 := by
    rw [Int8.toInt_toInt32, Int32.toInt_toInt8]
  rw [e1, pk_shr _ _ k hx, Int.shiftRight_eq_div_pow]
  have e2 : (iI v).toInt = v.bmod 4294967296 := by show (Int32.ofInt v).toInt = _; rw [Int32.toInt_ofInt]
  rw [e2]
  unfold sB zBy
  rcases hk with rfl | rfl | rfl | rfl <;> simp [Int.bmod] <;> (repeat' split) <;> omega
section ZBA
variable {p : Program} {l : Launch} {e : Env} {R : Room} {s : State} {m : MethodId} {args : Array Value} {below : List Frame} {meth : Method} {c : Code} {H : Heap} {locs : List Loc} {cells slots : Nat} {Q : State → Prop}
variable {cc : ByteArray} {pc : Nat} {ls : Array Slot} {rest : List Value} {D : va_G} {cl : List vw_C} {A : Nat → Prop} {a : Nat} {tys : List (ClassId × FieldType)} {ws : va_W} {H0 : Heap} {cA : ClassId} {n : Nat} {z : Int}
theorem zi_bast {f : Nat → Int} {x : Int} (hx : p.tables.exec = Jvm.exec) (hb : c.code = cc) (hK : va_K D cl tys s) (hP : va_P D cl ws H) (hD : va_D A ws) (hS : va_S A H0 H locs) (q0 t0 : Nat) (ha : ws[q0]? = some (a, .inl (cA, n, .inl (zaI f)))) (ht : tys[t0]? = some (cA, .byte)) (h : 0 ≤ z ∧ z < (n : Int) ∧ z < 2147483648) (hv : -128 ≤ x ∧ x < 128) (hdg : decode cc pc = .ok (.bastore, 1))
    (kk : ∀ (H1 : Heap) (locs1 : List Loc), va_P D cl (ws.set q0 (a, .inl (cA, n, .inl (zaI (zu f z.toNat x))))) H1 → va_D A (ws.set q0 (a, .inl (cA, n, .inl (zaI (zu f z.toNat x))))) → va_S A H0 H1 locs1 → W p l e R s m args below meth c H1 locs1 cells slots Q (F0 m (pc + 1) ls rest)) : W p l e R s m args below meth c H locs cells slots Q (F0 m pc ls (.int (iI x) :: .int (iI z) :: .ref a :: rest)) := va_bast hx hb hK hP hD hS q0 t0 ha ht (iI_in h) hdg (by rw [iI_cl (by omega), zn_byte hv, zaI_upd]; exact kk)
end ZBA
set_option maxHeartbeats 4000000 in
set_option maxRecDepth 100000 in
theorem c_Q_feed_x (l : Launch) (g : zGl) (qq : Nat) (rf : Nat → Nat) (fl ln pl yy mm dd at0 wa on tw hc : Int) (v1 v2 v3 v4 v5 : Int) (hl9 : 380 < ln ∧ ln ≤ 400) : zWi l zy_Q_feed zc_Q_feed 8 (some .int) ({ frames := 1, cells := 0, slots := 0, locals := 21 }) g (fun _ => zN) [.ref (qq), .int (iI (v1)), .int (iI (v2)), .int (iI (v3)), .int (iI (v4)), .int (iI (v5))] [(qq, .inr (5, [.int (iI (fl)), .ref (rf 0), .int (iI (ln)), .int (iI (pl)), .int (iI (yy)), .int (iI (mm)), .int (iI (dd)), .int (iI (at0)), .ref (rf 1), .ref (rf 2), .ref (rf 3), .ref (rf 4), .ref (rf 5), .ref (rf 6), .int (iI (wa)), .int (iI (on)), .int (iI (tw)), .ref (rf 7), .ref (rf 8), .ref (rf 9), .int (iI (hc))]))] (some (.int (iI (0)))) [(qq, .inr (5, [.int (iI (1)), .ref (rf 0), .int (iI (ln)), .int (iI (pl)), .int (iI (yy)), .int (iI (mm)), .int (iI (dd)), .int (iI (at0)), .ref (rf 1), .ref (rf 2), .ref (rf 3), .ref (rf 4), .ref (rf 5), .ref (rf 6), .int (iI (wa)), .int (iI (on)), .int (iI (tw)), .ref (rf 7), .ref (rf 8), .ref (rf 9), .int (iI (hc))]))] 0 0 := by
  refine zw_open (by decide +kernel) (Nat.le_of_ble_eq_true rfl) ?_
  intro p e s m below meth c ls A hx hb hml hr hlk hown hin hw hK hT hP hD hS hA hl
  have hown : s.vm.findClass "CronFinderModel" = some m.cls := hown
  have hl : lv_has ls 8 [(0, .ref (qq)), (1, .int (iI (v1))), (2, .int (iI (v2))), (3, .int (iI (v3))), (4, .int (iI (v4))), (5, .int (iI (v5)))] := hl
  refine lv_aload_n hx hb zd_Q_feed_0 rfl (lv_at hl 0 rfl) ?_
  refine zi_iconst hx hb zd_Q_feed_1 ?_
  refine va_put (D := g.1) (ci := 5) (v := .int (iI (0))) (ty := .int) (C := zR_Q) (T := zT_Q) (N := 21) hx hb hw zin_Q zt_Q zto_Q zn_Q hown hK hP hD hS 0 rfl rfl 0 (by decide) (hw _ zw_3_198) (fun _ h9 => h9) rfl  (by decide +kernel) rfl rfl (Nat.le_of_ble_eq_true rfl) zd_Q_feed_2 (fun H locs hP hD hS => ?_)
  have hP : va_P g.1 zCl [(qq, .inr (5, [.int (iI (0)), .ref (rf 0), .int (iI (ln)), .int (iI (pl)), .int (iI (yy)), .int (iI (mm)), .int (iI (dd)), .int (iI (at0)), .ref (rf 1), .ref (rf 2), .ref (rf 3), .ref (rf 4), .ref (rf 5), .ref (rf 6), .int (iI (wa)), .int (iI (on)), .int (iI (tw)), .ref (rf 7), .ref (rf 8), .ref (rf 9), .int (iI (hc))]))] H := hP
  have hD : va_D A [(qq, .inr (5, [.int (iI (0)), .ref (rf 0), .int (iI (ln)), .int (iI (pl)), .int (iI (yy)), .int (iI (mm)), .int (iI (dd)), .int (iI (at0)), .ref (rf 1), .ref (rf 2), .ref (rf 3), .ref (rf 4), .ref (rf 5), .ref (rf 6), .int (iI (wa)), .int (iI (on)), .int (iI (tw)), .ref (rf 7), .ref (rf 8), .ref (rf 9), .int (iI (hc))]))] := hD
  refine lv_aload_n hx hb zd_Q_feed_5 rfl (lv_at hl 0 rfl) ?_
  refine va_get (D := g.1) (ci := 5) (v := .int (iI (ln))) (C := zR_Q) (T := zT_Q) (N := 21) hx hb hw zin_Q hown hK hP 0 rfl rfl 2 (by decide) (hw _ zw_3_200) (fun _ h9 => h9) rfl zd_Q_feed_6 ?_
  refine zi_bipush hx hb zd_Q_feed_9 (by decide) ?_
  refine zi_iadd hx hb zd_Q_feed_11 ?_
  refine zi_sipush hx hb zd_Q_feed_12 (by decide) ?_
  refine zi_icmp_le (tgt := 24) hx hb zd_Q_feed_15 (by decide) (by omega) (fun c15 => ?_) (fun c15 => ?_)
  · omega
  · refine lv_aload_n hx hb zd_Q_feed_18 rfl (lv_at hl 0 rfl) ?_
    refine zi_iconst hx hb zd_Q_feed_19 ?_
    refine zk_W (As := [.int (iI (1))]) (b := qq) (own := "CronFinderModel") (nL := 8) (rest := []) hx hb hml hown hw (c_Q_fail l g qq rf (0) (ln) (pl) (yy) (mm) (dd) (at0) (wa) (on) (tw) (hc) (1)) zw_4_96 zw_4_98 zw_0_37 zw_1_7 zw_4_99 (np := 1) (by decide +kernel) rfl (by decide) (fun _ => zN_mv) hK trivial hP hD hS hA [0] rfl (by decide) rfl (va_recv hK hP (ci := 5) (q0 := 0) rfl rfl) hl.1 rfl (Nat.le_of_ble_eq_true rfl) (by decide) zd_Q_feed_20 (fun H locs hP hD hS => ?_)
    have hP : va_P g.1 zCl [(qq, .inr (5, [.int (iI (1)), .ref (rf 0), .int (iI (ln)), .int (iI (pl)), .int (iI (yy)), .int (iI (mm)), .int (iI (dd)), .int (iI (at0)), .ref (rf 1), .ref (rf 2), .ref (rf 3), .ref (rf 4), .ref (rf 5), .ref (rf 6), .int (iI (wa)), .int (iI (on)), .int (iI (tw)), .ref (rf 7), .ref (rf 8), .ref (rf 9), .int (iI (hc))]))] H := hP
    have hD : va_D A [(qq, .inr (5, [.int (iI (1)), .ref (rf 0), .int (iI (ln)), .int (iI (pl)), .int (iI (yy)), .int (iI (mm)), .int (iI (dd)), .int (iI (at0)), .ref (rf 1), .ref (rf 2), .ref (rf 3), .ref (rf 4), .ref (rf 5), .ref (rf 6), .int (iI (wa)), .int (iI (on)), .int (iI (tw)), .ref (rf 7), .ref (rf 8), .ref (rf 9), .int (iI (hc))]))] := hD
    exact zw_iret hx hb hr hlk (ws := [(qq, .inr (5, [.int (iI (1)), .ref (rf 0), .int (iI (ln)), .int (iI (pl)), .int (iI (yy)), .int (iI (mm)), .int (iI (dd)), .int (iI (at0)), .ref (rf 1), .ref (rf 2), .ref (rf 3), .ref (rf 4), .ref (rf 5), .ref (rf 6), .int (iI (wa)), .int (iI (on)), .int (iI (tw)), .ref (rf 7), .ref (rf 8), .ref (rf 9), .int (iI (hc))]))]) hP hS zd_Q_feed_23
set_option maxHeartbeats 4000000 in
set_option maxRecDepth 100000 in
theorem c_Q_feed (l : Launch) (g : zGl) (qq : Nat) (rf : Nat → Nat) (fl ln pl yy mm dd at0 wa on tw hc : Int) (tf : Nat → Int) (v1 v2 v3 v4 v5 : Int) (hl9 : 0 ≤ ln ∧ ln ≤ 380) : zWi l zy_Q_feed zc_Q_feed 8 (some .int) ({ frames := 1, cells := 0, slots := 0, locals := 21 }) g (fun _ => zN) [.ref (qq), .int (iI (v1)), .int (iI (v2)), .int (iI (v3)), .int (iI (v4)), .int (iI (v5))] [(qq, .inr (5, [.int (iI (fl)), .ref (rf 0), .int (iI (ln)), .int (iI (pl)), .int (iI (yy)), .int (iI (mm)), .int (iI (dd)), .int (iI (at0)), .ref (rf 1), .ref (rf 2), .ref (rf 3), .ref (rf 4), .ref (rf 5), .ref (rf 6), .int (iI (wa)), .int (iI (on)), .int (iI (tw)), .ref (rf 7), .ref (rf 8), .ref (rf 9), .int (iI (hc))])), (rf 0, .inl (g.2 3, 400, .inl (zaI (zSg tf))))] (some (.int (iI (ln + 20)))) [(qq, .inr (5, [.int (iI (0)), .ref (rf 0), .int (iI (ln + 20)), .int (iI (pl)), .int (iI (yy)), .int (iI (mm)), .int (iI (dd)), .int (iI (at0)), .ref (rf 1), .ref (rf 2), .ref (rf 3), .ref (rf 4), .ref (rf 5), .ref (rf 6), .int (iI (wa)), .int (iI (on)), .int (iI (tw)), .ref (rf 7), .ref (rf 8), .ref (rf 9), .int (iI (hc))])), (rf 0, .inl (g.2 3, 400, .inl (zaI (zSg (zP20 tf ln v1 v2 v3 v4 v5)))))] 0 0 := by
  refine zw_open (by decide +kernel) (Nat.le_of_ble_eq_true rfl) ?_
  intro p e s m below meth c ls A hx hb hml hr hlk hown hin hw hK hT hP hD hS hA hl
  have hown : s.vm.findClass "CronFinderModel" = some m.cls := hown
  have hl : lv_has ls 8 [(0, .ref (qq)), (1, .int (iI (v1))), (2, .int (iI (v2))), (3, .int (iI (v3))), (4, .int (iI (v4))), (5, .int (iI (v5)))] := hl
  refine lv_aload_n hx hb zd_Q_feed_0 rfl (lv_at hl 0 rfl) ?_
  refine zi_iconst hx hb zd_Q_feed_1 ?_
  refine va_put (D := g.1) (ci := 5) (v := .int (iI (0))) (ty := .int) (C := zR_Q) (T := zT_Q) (N := 21) hx hb hw zin_Q zt_Q zto_Q zn_Q hown hK hP hD hS 0 rfl rfl 0 (by decide) (hw _ zw_3_198) (fun _ h9 => h9) rfl  (by decide +kernel) rfl rfl (Nat.le_of_ble_eq_true rfl) zd_Q_feed_2 (fun H locs hP hD hS => ?_)
  have hP : va_P g.1 zCl [(qq, .inr (5, [.int (iI (0)), .ref (rf 0), .int (iI (ln)), .int (iI (pl)), .int (iI (yy)), .int (iI (mm)), .int (iI (dd)), .int (iI (at0)), .ref (rf 1), .ref (rf 2), .ref (rf 3), .ref (rf 4), .ref (rf 5), .ref (rf 6), .int (iI (wa)), .int (iI (on)), .int (iI (tw)), .ref (rf 7), .ref (rf 8), .ref (rf 9), .int (iI (hc))])), (rf 0, .inl (g.2 3, 400, .inl (zaI (zSg tf))))] H := hP
  have hD : va_D A [(qq, .inr (5, [.int (iI (0)), .ref (rf 0), .int (iI (ln)), .int (iI (pl)), .int (iI (yy)), .int (iI (mm)), .int (iI (dd)), .int (iI (at0)), .ref (rf 1), .ref (rf 2), .ref (rf 3), .ref (rf 4), .ref (rf 5), .ref (rf 6), .int (iI (wa)), .int (iI (on)), .int (iI (tw)), .ref (rf 7), .ref (rf 8), .ref (rf 9), .int (iI (hc))])), (rf 0, .inl (g.2 3, 400, .inl (zaI (zSg tf))))] := hD
  refine lv_aload_n hx hb zd_Q_feed_5 rfl (lv_at hl 0 rfl) ?_
  refine va_get (D := g.1) (ci := 5) (v := .int (iI (ln))) (C := zR_Q) (T := zT_Q) (N := 21) hx hb hw zin_Q hown hK hP 0 rfl rfl 2 (by decide) (hw _ zw_3_200) (fun _ h9 => h9) rfl zd_Q_feed_6 ?_
  refine zi_bipush hx hb zd_Q_feed_9 (by decide) ?_
  refine zi_iadd hx hb zd_Q_feed_11 ?_
  refine zi_sipush hx hb zd_Q_feed_12 (by decide) ?_
  refine zi_icmp_le (tgt := 24) hx hb zd_Q_feed_15 (by decide) (by omega) (fun c15 => ?_) (fun c15 => ?_)
  · refine zi_iconst hx hb zd_Q_feed_24 ?_
    refine lv_istore (lv' := [(6, .int (iI (0))), (0, .ref (qq)), (1, .int (iI (v1))), (2, .int (iI (v2))), (3, .int (iI (v3))), (4, .int (iI (v4))), (5, .int (iI (v5)))]) hx hb zd_Q_feed_25 hl (by decide) rfl (fun ls hl => ?_)
    refine lv_iload hx hb zd_Q_feed_27 (lv_at hl 0 rfl) ?_
    refine zi_bipush hx hb zd_Q_feed_29 (by decide) ?_
    refine zi_icmp_ge (tgt := 121) hx hb zd_Q_feed_31 (by decide) (by omega) (fun c31 => absurd c31 (by decide)) (fun _ => ?_)
    refine lv_iload hx hb zd_Q_feed_34 (lv_at hl 0 rfl) ?_
    refine zi_iconst hx hb zd_Q_feed_36 ?_
    refine zi_icmp_ge (tgt := 44) hx hb zd_Q_feed_37 (by decide) (by omega) (fun c37 => absurd c37 (by decide)) (fun _ => ?_)
    refine lv_iload_n hx hb zd_Q_feed_40 rfl (lv_at hl 2 rfl) ?_
    refine lv_goto (tgt := 80) hx hb zd_Q_feed_41 (by decide) ?_
    refine lv_istore (lv' := [(7, .int (iI (v1))), (6, .int (iI (0))), (0, .ref (qq)), (1, .int (iI (v1))), (2, .int (iI (v2))), (3, .int (iI (v3))), (4, .int (iI (v4))), (5, .int (iI (v5)))]) hx hb zd_Q_feed_80 hl (by decide) rfl (fun ls hl => ?_)
    refine lv_aload_n hx hb zd_Q_feed_82 rfl (lv_at hl 2 rfl) ?_
    refine va_get (D := g.1) (ci := 5) (v := .ref (rf 0)) (C := zR_Q) (T := zT_Q) (N := 21) hx hb hw zin_Q hown hK hP 0 rfl rfl 1 (by decide) (hw _ zw_3_199) (fun _ h9 => h9) rfl zd_Q_feed_83 ?_
    refine lv_aload_n hx hb zd_Q_feed_86 rfl (lv_at hl 2 rfl) ?_
    refine va_get (D := g.1) (ci := 5) (v := .int (iI (ln))) (C := zR_Q) (T := zT_Q) (N := 21) hx hb hw zin_Q hown hK hP 0 rfl rfl 2 (by decide) (hw _ zw_3_200) (fun _ h9 => h9) rfl zd_Q_feed_87 ?_
    refine lv_iload hx hb zd_Q_feed_90 (lv_at hl 0 rfl) ?_
    refine zi_bipush hx hb zd_Q_feed_92 (by decide) ?_
    refine zi_bipush hx hb zd_Q_feed_94 (by decide) ?_
    refine lv_iload hx hb zd_Q_feed_96 (lv_at hl 1 rfl) ?_
    refine zi_iconst hx hb zd_Q_feed_98 ?_
    refine zi_irem hx hb zd_Q_feed_99 (by omega) ?_
    refine zi_imul hx hb zd_Q_feed_100 ?_
    refine zi_isub hx hb zd_Q_feed_101 ?_
    refine lv_ishr hx hb zd_Q_feed_102 ?_
    have hby := zBy_rg v1 24
    have hsb := sB_rg hby
    refine lv_i2b hx hb zd_Q_feed_103 (v := iI (sB (zBy v1 24))) (sB_at (k := 24) (by decide) (by decide)) ?_
    refine zi_bast hx hb hK hP hD hS 1 3 rfl rfl (by omega) hsb zd_Q_feed_104 (fun H locs hP hD hS => ?_)
    have hP : va_P g.1 zCl [(qq, .inr (5, [.int (iI (0)), .ref (rf 0), .int (iI (ln)), .int (iI (pl)), .int (iI (yy)), .int (iI (mm)), .int (iI (dd)), .int (iI (at0)), .ref (rf 1), .ref (rf 2), .ref (rf 3), .ref (rf 4), .ref (rf 5), .ref (rf 6), .int (iI (wa)), .int (iI (on)), .int (iI (tw)), .ref (rf 7), .ref (rf 8), .ref (rf 9), .int (iI (hc))])), (rf 0, .inl (g.2 3, 400, .inl (zaI (zSg (zu tf (ln).toNat (zBy v1 24))))))] H := (zu_sg tf (ln).toNat (zBy v1 24)) ▸ hP
    have hD : va_D A [(qq, .inr (5, [.int (iI (0)), .ref (rf 0), .int (iI (ln)), .int (iI (pl)), .int (iI (yy)), .int (iI (mm)), .int (iI (dd)), .int (iI (at0)), .ref (rf 1), .ref (rf 2), .ref (rf 3), .ref (rf 4), .ref (rf 5), .ref (rf 6), .int (iI (wa)), .int (iI (on)), .int (iI (tw)), .ref (rf 7), .ref (rf 8), .ref (rf 9), .int (iI (hc))])), (rf 0, .inl (g.2 3, 400, .inl (zaI (zSg (zu tf (ln).toNat (zBy v1 24))))))] := (zu_sg tf (ln).toNat (zBy v1 24)) ▸ hD
    refine lv_aload_n hx hb zd_Q_feed_105 rfl (lv_at hl 2 rfl) ?_
    refine lv_dup hx hb zd_Q_feed_106 rfl ?_
    refine va_get (D := g.1) (ci := 5) (v := .int (iI (ln))) (C := zR_Q) (T := zT_Q) (N := 21) hx hb hw zin_Q hown hK hP 0 rfl rfl 2 (by decide) (hw _ zw_3_200) (fun _ h9 => h9) rfl zd_Q_feed_107 ?_
    refine zi_iconst hx hb zd_Q_feed_110 ?_
    refine zi_iadd hx hb zd_Q_feed_111 ?_
    refine va_put (D := g.1) (ci := 5) (v := .int (iI (ln + 1))) (ty := .int) (C := zR_Q) (T := zT_Q) (N := 21) hx hb hw zin_Q zt_Q zto_Q zn_Q hown hK hP hD hS 0 rfl rfl 2 (by decide) (hw _ zw_3_200) (fun _ h9 => h9) rfl  (by decide +kernel) rfl rfl (Nat.le_of_ble_eq_true rfl) zd_Q_feed_112 (fun H locs hP hD hS => ?_)
    have hP : va_P g.1 zCl [(qq, .inr (5, [.int (iI (0)), .ref (rf 0), .int (iI (ln + 1)), .int (iI (pl)), .int (iI (yy)), .int (iI (mm)), .int (iI (dd)), .int (iI (at0)), .ref (rf 1), .ref (rf 2), .ref (rf 3), .ref (rf 4), .ref (rf 5), .ref (rf 6), .int (iI (wa)), .int (iI (on)), .int (iI (tw)), .ref (rf 7), .ref (rf 8), .ref (rf 9), .int (iI (hc))])), (rf 0, .inl (g.2 3, 400, .inl (zaI (zSg (zu tf (ln).toNat (zBy v1 24))))))] H := hP
    have hD : va_D A [(qq, .inr (5, [.int (iI (0)), .ref (rf 0), .int (iI (ln + 1)), .int (iI (pl)), .int (iI (yy)), .int (iI (mm)), .int (iI (dd)), .int (iI (at0)), .ref (rf 1), .ref (rf 2), .ref (rf 3), .ref (rf 4), .ref (rf 5), .ref (rf 6), .int (iI (wa)), .int (iI (on)), .int (iI (tw)), .ref (rf 7), .ref (rf 8), .ref (rf 9), .int (iI (hc))])), (rf 0, .inl (g.2 3, 400, .inl (zaI (zSg (zu tf (ln).toNat (zBy v1 24))))))] := hD
    refine lv_iinc (v := iI (1)) (lv' := [(6, .int (iI (1))), (7, .int (iI (v1))), (0, .ref (qq)), (1, .int (iI (v1))), (2, .int (iI (v2))), (3, .int (iI (v3))), (4, .int (iI (v4))), (5, .int (iI (v5)))]) hx hb zd_Q_feed_115 hl (k := 1) rfl (by decide) (by decide) rfl (fun ls hl => ?_)
    refine lv_goto (tgt := 27) hx hb zd_Q_feed_118 (by decide) ?_
    refine lv_iload hx hb zd_Q_feed_27 (lv_at hl 0 rfl) ?_
    refine zi_bipush hx hb zd_Q_feed_29 (by decide) ?_
    refine zi_icmp_ge (tgt := 121) hx hb zd_Q_feed_31 (by decide) (by omega) (fun c31 => absurd c31 (by decide)) (fun _ => ?_)
    refine lv_iload hx hb zd_Q_feed_34 (lv_at hl 0 rfl) ?_
    refine zi_iconst hx hb zd_Q_feed_36 ?_
    refine zi_icmp_ge (tgt := 44) hx hb zd_Q_feed_37 (by decide) (by omega) (fun c37 => absurd c37 (by decide)) (fun _ => ?_)
    refine lv_iload_n hx hb zd_Q_feed_40 rfl (lv_at hl 3 rfl) ?_
    refine lv_goto (tgt := 80) hx hb zd_Q_feed_41 (by decide) ?_
    refine lv_istore (lv' := [(7, .int (iI (v1))), (6, .int (iI (1))), (0, .ref (qq)), (1, .int (iI (v1))), (2, .int (iI (v2))), (3, .int (iI (v3))), (4, .int (iI (v4))), (5, .int (iI (v5)))]) hx hb zd_Q_feed_80 hl (by decide) rfl (fun ls hl => ?_)
    refine lv_aload_n hx hb zd_Q_feed_82 rfl (lv_at hl 2 rfl) ?_
    refine va_get (D := g.1) (ci := 5) (v := .ref (rf 0)) (C := zR_Q) (T := zT_Q) (N := 21) hx hb hw zin_Q hown hK hP 0 rfl rfl 1 (by decide) (hw _ zw_3_199) (fun _ h9 => h9) rfl zd_Q_feed_83 ?_
    refine lv_aload_n hx hb zd_Q_feed_86 rfl (lv_at hl 2 rfl) ?_
    refine va_get (D := g.1) (ci := 5) (v := .int (iI (ln + 1))) (C := zR_Q) (T := zT_Q) (N := 21) hx hb hw zin_Q hown hK hP 0 rfl rfl 2 (by decide) (hw _ zw_3_200) (fun _ h9 => h9) rfl zd_Q_feed_87 ?_
    refine lv_iload hx hb zd_Q_feed_90 (lv_at hl 0 rfl) ?_
    refine zi_bipush hx hb zd_Q_feed_92 (by decide) ?_
    refine zi_bipush hx hb zd_Q_feed_94 (by decide) ?_
    refine lv_iload hx hb zd_Q_feed_96 (lv_at hl 1 rfl) ?_
    refine zi_iconst hx hb zd_Q_feed_98 ?_
    refine zi_irem hx hb zd_Q_feed_99 (by omega) ?_
    refine zi_imul hx hb zd_Q_feed_100 ?_
    refine zi_isub hx hb zd_Q_feed_101 ?_
    refine lv_ishr hx hb zd_Q_feed_102 ?_
    have hby := zBy_rg v1 16
    have hsb := sB_rg hby
    refine lv_i2b hx hb zd_Q_feed_103 (v := iI (sB (zBy v1 16))) (sB_at (k := 16) (by decide) (by decide)) ?_
    refine zi_bast hx hb hK hP hD hS 1 3 rfl rfl (by omega) hsb zd_Q_feed_104 (fun H locs hP hD hS => ?_)
    have hP : va_P g.1 zCl [(qq, .inr (5, [.int (iI (0)), .ref (rf 0), .int (iI (ln + 1)), .int (iI (pl)), .int (iI (yy)), .int (iI (mm)), .int (iI (dd)), .int (iI (at0)), .ref (rf 1), .ref (rf 2), .ref (rf 3), .ref (rf 4), .ref (rf 5), .ref (rf 6), .int (iI (wa)), .int (iI (on)), .int (iI (tw)), .ref (rf 7), .ref (rf 8), .ref (rf 9), .int (iI (hc))])), (rf 0, .inl (g.2 3, 400, .inl (zaI (zSg (zu (zu tf (ln).toNat (zBy v1 24)) (ln + 1).toNat (zBy v1 16))))))] H := (zu_sg (zu tf (ln).toNat (zBy v1 24)) (ln + 1).toNat (zBy v1 16)) ▸ hP
    have hD : va_D A [(qq, .inr (5, [.int (iI (0)), .ref (rf 0), .int (iI (ln + 1)), .int (iI (pl)), .int (iI (yy)), .int (iI (mm)), .int (iI (dd)), .int (iI (at0)), .ref (rf 1), .ref (rf 2), .ref (rf 3), .ref (rf 4), .ref (rf 5), .ref (rf 6), .int (iI (wa)), .int (iI (on)), .int (iI (tw)), .ref (rf 7), .ref (rf 8), .ref (rf 9), .int (iI (hc))])), (rf 0, .inl (g.2 3, 400, .inl (zaI (zSg (zu (zu tf (ln).toNat (zBy v1 24)) (ln + 1).toNat (zBy v1 16))))))] := (zu_sg (zu tf (ln).toNat (zBy v1 24)) (ln + 1).toNat (zBy v1 16)) ▸ hD
    refine lv_aload_n hx hb zd_Q_feed_105 rfl (lv_at hl 2 rfl) ?_
    refine lv_dup hx hb zd_Q_feed_106 rfl ?_
    refine va_get (D := g.1) (ci := 5) (v := .int (iI (ln + 1))) (C := zR_Q) (T := zT_Q) (N := 21) hx hb hw zin_Q hown hK hP 0 rfl rfl 2 (by decide) (hw _ zw_3_200) (fun _ h9 => h9) rfl zd_Q_feed_107 ?_
    refine zi_iconst hx hb zd_Q_feed_110 ?_
    refine zi_iadd hx hb zd_Q_feed_111 ?_
    refine va_put (D := g.1) (ci := 5) (v := .int (iI ((ln + 1) + 1))) (ty := .int) (C := zR_Q) (T := zT_Q) (N := 21) hx hb hw zin_Q zt_Q zto_Q zn_Q hown hK hP hD hS 0 rfl rfl 2 (by decide) (hw _ zw_3_200) (fun _ h9 => h9) rfl  (by decide +kernel) rfl rfl (Nat.le_of_ble_eq_true rfl) zd_Q_feed_112 (fun H locs hP hD hS => ?_)
    have hP : va_P g.1 zCl [(qq, .inr (5, [.int (iI (0)), .ref (rf 0), .int (iI ((ln + 1) + 1)), .int (iI (pl)), .int (iI (yy)), .int (iI (mm)), .int (iI (dd)), .int (iI (at0)), .ref (rf 1), .ref (rf 2), .ref (rf 3), .ref (rf 4), .ref (rf 5), .ref (rf 6), .int (iI (wa)), .int (iI (on)), .int (iI (tw)), .ref (rf 7), .ref (rf 8), .ref (rf 9), .int (iI (hc))])), (rf 0, .inl (g.2 3, 400, .inl (zaI (zSg (zu (zu tf (ln).toNat (zBy v1 24)) (ln + 1).toNat (zBy v1 16))))))] H := hP
    have hD : va_D A [(qq, .inr (5, [.int (iI (0)), .ref (rf 0), .int (iI ((ln + 1) + 1)), .int (iI (pl)), .int (iI (yy)), .int (iI (mm)), .int (iI (dd)), .int (iI (at0)), .ref (rf 1), .ref (rf 2), .ref (rf 3), .ref (rf 4), .ref (rf 5), .ref (rf 6), .int (iI (wa)), .int (iI (on)), .int (iI (tw)), .ref (rf 7), .ref (rf 8), .ref (rf 9), .int (iI (hc))])), (rf 0, .inl (g.2 3, 400, .inl (zaI (zSg (zu (zu tf (ln).toNat (zBy v1 24)) (ln + 1).toNat (zBy v1 16))))))] := hD
    refine lv_iinc (v := iI (2)) (lv' := [(6, .int (iI (2))), (7, .int (iI (v1))), (0, .ref (qq)), (1, .int (iI (v1))), (2, .int (iI (v2))), (3, .int (iI (v3))), (4, .int (iI (v4))), (5, .int (iI (v5)))]) hx hb zd_Q_feed_115 hl (k := 1) rfl (by decide) (by decide) rfl (fun ls hl => ?_)
    refine lv_goto (tgt := 27) hx hb zd_Q_feed_118 (by decide) ?_
    refine lv_iload hx hb zd_Q_feed_27 (lv_at hl 0 rfl) ?_
    refine zi_bipush hx hb zd_Q_feed_29 (by decide) ?_
    refine zi_icmp_ge (tgt := 121) hx hb zd_Q_feed_31 (by decide) (by omega) (fun c31 => absurd c31 (by decide)) (fun _ => ?_)
    refine lv_iload hx hb zd_Q_feed_34 (lv_at hl 0 rfl) ?_
    refine zi_iconst hx hb zd_Q_feed_36 ?_
    refine zi_icmp_ge (tgt := 44) hx hb zd_Q_feed_37 (by decide) (by omega) (fun c37 => absurd c37 (by decide)) (fun _ => ?_)
    refine lv_iload_n hx hb zd_Q_feed_40 rfl (lv_at hl 3 rfl) ?_
    refine lv_goto (tgt := 80) hx hb zd_Q_feed_41 (by decide) ?_
    refine lv_istore (lv' := [(7, .int (iI (v1))), (6, .int (iI (2))), (0, .ref (qq)), (1, .int (iI (v1))), (2, .int (iI (v2))), (3, .int (iI (v3))), (4, .int (iI (v4))), (5, .int (iI (v5)))]) hx hb zd_Q_feed_80 hl (by decide) rfl (fun ls hl => ?_)
    refine lv_aload_n hx hb zd_Q_feed_82 rfl (lv_at hl 2 rfl) ?_
    refine va_get (D := g.1) (ci := 5) (v := .ref (rf 0)) (C := zR_Q) (T := zT_Q) (N := 21) hx hb hw zin_Q hown hK hP 0 rfl rfl 1 (by decide) (hw _ zw_3_199) (fun _ h9 => h9) rfl zd_Q_feed_83 ?_
    refine lv_aload_n hx hb zd_Q_feed_86 rfl (lv_at hl 2 rfl) ?_
    refine va_get (D := g.1) (ci := 5) (v := .int (iI ((ln + 1) + 1))) (C := zR_Q) (T := zT_Q) (N := 21) hx hb hw zin_Q hown hK hP 0 rfl rfl 2 (by decide) (hw _ zw_3_200) (fun _ h9 => h9) rfl zd_Q_feed_87 ?_
    refine lv_iload hx hb zd_Q_feed_90 (lv_at hl 0 rfl) ?_
    refine zi_bipush hx hb zd_Q_feed_92 (by decide) ?_
    refine zi_bipush hx hb zd_Q_feed_94 (by decide) ?_
    refine lv_iload hx hb zd_Q_feed_96 (lv_at hl 1 rfl) ?_
    refine zi_iconst hx hb zd_Q_feed_98 ?_
    refine zi_irem hx hb zd_Q_feed_99 (by omega) ?_
    refine zi_imul hx hb zd_Q_feed_100 ?_
    refine zi_isub hx hb zd_Q_feed_101 ?_
    refine lv_ishr hx hb zd_Q_feed_102 ?_
    have hby := zBy_rg v1 8
    have hsb := sB_rg hby
    refine lv_i2b hx hb zd_Q_feed_103 (v := iI (sB (zBy v1 8))) (sB_at (k := 8) (by decide) (by decide)) ?_
    refine zi_bast hx hb hK hP hD hS 1 3 rfl rfl (by omega) hsb zd_Q_feed_104 (fun H locs hP hD hS => ?_)
    have hP : va_P g.1 zCl [(qq, .inr (5, [.int (iI (0)), .ref (rf 0), .int (iI ((ln + 1) + 1)), .int (iI (pl)), .int (iI (yy)), .int (iI (mm)), .int (iI (dd)), .int (iI (at0)), .ref (rf 1), .ref (rf 2), .ref (rf 3), .ref (rf 4), .ref (rf 5), .ref (rf 6), .int (iI (wa)), .int (iI (on)), .int (iI (tw)), .ref (rf 7), .ref (rf 8), .ref (rf 9), .int (iI (hc))])), (rf 0, .inl (g.2 3, 400, .inl (zaI (zSg (zu (zu (zu tf (ln).toNat (zBy v1 24)) (ln + 1).toNat (zBy v1 16)) ((ln + 1) + 1).toNat (zBy v1 8))))))] H := (zu_sg (zu (zu tf (ln).toNat (zBy v1 24)) (ln + 1).toNat (zBy v1 16)) ((ln + 1) + 1).toNat (zBy v1 8)) ▸ hP
    have hD : va_D A [(qq, .inr (5, [.int (iI (0)), .ref (rf 0), .int (iI ((ln + 1) + 1)), .int (iI (pl)), .int (iI (yy)), .int (iI (mm)), .int (iI (dd)), .int (iI (at0)), .ref (rf 1), .ref (rf 2), .ref (rf 3), .ref (rf 4), .ref (rf 5), .ref (rf 6), .int (iI (wa)), .int (iI (on)), .int (iI (tw)), .ref (rf 7), .ref (rf 8), .ref (rf 9), .int (iI (hc))])), (rf 0, .inl (g.2 3, 400, .inl (zaI (zSg (zu (zu (zu tf (ln).toNat (zBy v1 24)) (ln + 1).toNat (zBy v1 16)) ((ln + 1) + 1).toNat (zBy v1 8))))))] := (zu_sg (zu (zu tf (ln).toNat (zBy v1 24)) (ln + 1).toNat (zBy v1 16)) ((ln + 1) + 1).toNat (zBy v1 8)) ▸ hD
    refine lv_aload_n hx hb zd_Q_feed_105 rfl (lv_at hl 2 rfl) ?_
    refine lv_dup hx hb zd_Q_feed_106 rfl ?_
    refine va_get (D := g.1) (ci := 5) (v := .int (iI ((ln + 1) + 1))) (C := zR_Q) (T := zT_Q) (N := 21) hx hb hw zin_Q hown hK hP 0 rfl rfl 2 (by decide) (hw _ zw_3_200) (fun _ h9 => h9) rfl zd_Q_feed_107 ?_
    refine zi_iconst hx hb zd_Q_feed_110 ?_
    refine zi_iadd hx hb zd_Q_feed_111 ?_
    refine va_put (D := g.1) (ci := 5) (v := .int (iI (((ln + 1) + 1) + 1))) (ty := .int) (C := zR_Q) (T := zT_Q) (N := 21) hx hb hw zin_Q zt_Q zto_Q zn_Q hown hK hP hD hS 0 rfl rfl 2 (by decide) (hw _ zw_3_200) (fun _ h9 => h9) rfl  (by decide +kernel) rfl rfl (Nat.le_of_ble_eq_true rfl) zd_Q_feed_112 (fun H locs hP hD hS => ?_)
    have hP : va_P g.1 zCl [(qq, .inr (5, [.int (iI (0)), .ref (rf 0), .int (iI (((ln + 1) + 1) + 1)), .int (iI (pl)), .int (iI (yy)), .int (iI (mm)), .int (iI (dd)), .int (iI (at0)), .ref (rf 1), .ref (rf 2), .ref (rf 3), .ref (rf 4), .ref (rf 5), .ref (rf 6), .int (iI (wa)), .int (iI (on)), .int (iI (tw)), .ref (rf 7), .ref (rf 8), .ref (rf 9), .int (iI (hc))])), (rf 0, .inl (g.2 3, 400, .inl (zaI (zSg (zu (zu (zu tf (ln).toNat (zBy v1 24)) (ln + 1).toNat (zBy v1 16)) ((ln + 1) + 1).toNat (zBy v1 8))))))] H := hP
    have hD : va_D A [(qq, .inr (5, [.int (iI (0)), .ref (rf 0), .int (iI (((ln + 1) + 1) + 1)), .int (iI (pl)), .int (iI (yy)), .int (iI (mm)), .int (iI (dd)), .int (iI (at0)), .ref (rf 1), .ref (rf 2), .ref (rf 3), .ref (rf 4), .ref (rf 5), .ref (rf 6), .int (iI (wa)), .int (iI (on)), .int (iI (tw)), .ref (rf 7), .ref (rf 8), .ref (rf 9), .int (iI (hc))])), (rf 0, .inl (g.2 3, 400, .inl (zaI (zSg (zu (zu (zu tf (ln).toNat (zBy v1 24)) (ln + 1).toNat (zBy v1 16)) ((ln + 1) + 1).toNat (zBy v1 8))))))] := hD
    refine lv_iinc (v := iI (3)) (lv' := [(6, .int (iI (3))), (7, .int (iI (v1))), (0, .ref (qq)), (1, .int (iI (v1))), (2, .int (iI (v2))), (3, .int (iI (v3))), (4, .int (iI (v4))), (5, .int (iI (v5)))]) hx hb zd_Q_feed_115 hl (k := 1) rfl (by decide) (by decide) rfl (fun ls hl => ?_)
    refine lv_goto (tgt := 27) hx hb zd_Q_feed_118 (by decide) ?_
    refine lv_iload hx hb zd_Q_feed_27 (lv_at hl 0 rfl) ?_
    refine zi_bipush hx hb zd_Q_feed_29 (by decide) ?_
    refine zi_icmp_ge (tgt := 121) hx hb zd_Q_feed_31 (by decide) (by omega) (fun c31 => absurd c31 (by decide)) (fun _ => ?_)
    refine lv_iload hx hb zd_Q_feed_34 (lv_at hl 0 rfl) ?_
    refine zi_iconst hx hb zd_Q_feed_36 ?_
    refine zi_icmp_ge (tgt := 44) hx hb zd_Q_feed_37 (by decide) (by omega) (fun c37 => absurd c37 (by decide)) (fun _ => ?_)
    refine lv_iload_n hx hb zd_Q_feed_40 rfl (lv_at hl 3 rfl) ?_
    refine lv_goto (tgt := 80) hx hb zd_Q_feed_41 (by decide) ?_
    refine lv_istore (lv' := [(7, .int (iI (v1))), (6, .int (iI (3))), (0, .ref (qq)), (1, .int (iI (v1))), (2, .int (iI (v2))), (3, .int (iI (v3))), (4, .int (iI (v4))), (5, .int (iI (v5)))]) hx hb zd_Q_feed_80 hl (by decide) rfl (fun ls hl => ?_)
    refine lv_aload_n hx hb zd_Q_feed_82 rfl (lv_at hl 2 rfl) ?_
    refine va_get (D := g.1) (ci := 5) (v := .ref (rf 0)) (C := zR_Q) (T := zT_Q) (N := 21) hx hb hw zin_Q hown hK hP 0 rfl rfl 1 (by decide) (hw _ zw_3_199) (fun _ h9 => h9) rfl zd_Q_feed_83 ?_
    refine lv_aload_n hx hb zd_Q_feed_86 rfl (lv_at hl 2 rfl) ?_
    refine va_get (D := g.1) (ci := 5) (v := .int (iI (((ln + 1) + 1) + 1))) (C := zR_Q) (T := zT_Q) (N := 21) hx hb hw zin_Q hown hK hP 0 rfl rfl 2 (by decide) (hw _ zw_3_200) (fun _ h9 => h9) rfl zd_Q_feed_87 ?_
    refine lv_iload hx hb zd_Q_feed_90 (lv_at hl 0 rfl) ?_
    refine zi_bipush hx hb zd_Q_feed_92 (by decide) ?_
    refine zi_bipush hx hb zd_Q_feed_94 (by decide) ?_
    refine lv_iload hx hb zd_Q_feed_96 (lv_at hl 1 rfl) ?_
    refine zi_iconst hx hb zd_Q_feed_98 ?_
    refine zi_irem hx hb zd_Q_feed_99 (by omega) ?_
    refine zi_imul hx hb zd_Q_feed_100 ?_
    refine zi_isub hx hb zd_Q_feed_101 ?_
    refine lv_ishr hx hb zd_Q_feed_102 ?_
    have hby := zBy_rg v1 0
    have hsb := sB_rg hby
    refine lv_i2b hx hb zd_Q_feed_103 (v := iI (sB (zBy v1 0))) (sB_at (k := 0) (by decide) (by decide)) ?_
    refine zi_bast hx hb hK hP hD hS 1 3 rfl rfl (by omega) hsb zd_Q_feed_104 (fun H locs hP hD hS => ?_)
    have hP : va_P g.1 zCl [(qq, .inr (5, [.int (iI (0)), .ref (rf 0), .int (iI (((ln + 1) + 1) + 1)), .int (iI (pl)), .int (iI (yy)), .int (iI (mm)), .int (iI (dd)), .int (iI (at0)), .ref (rf 1), .ref (rf 2), .ref (rf 3), .ref (rf 4), .ref (rf 5), .ref (rf 6), .int (iI (wa)), .int (iI (on)), .int (iI (tw)), .ref (rf 7), .ref (rf 8), .ref (rf 9), .int (iI (hc))])), (rf 0, .inl (g.2 3, 400, .inl (zaI (zSg (zu (zu (zu (zu tf (ln).toNat (zBy v1 24)) (ln + 1).toNat (zBy v1 16)) ((ln + 1) + 1).toNat (zBy v1 8)) (((ln + 1) + 1) + 1).toNat (zBy v1 0))))))] H := (zu_sg (zu (zu (zu tf (ln).toNat (zBy v1 24)) (ln + 1).toNat (zBy v1 16)) ((ln + 1) + 1).toNat (zBy v1 8)) (((ln + 1) + 1) + 1).toNat (zBy v1 0)) ▸ hP
    have hD : va_D A [(qq, .inr (5, [.int (iI (0)), .ref (rf 0), .int (iI (((ln + 1) + 1) + 1)), .int (iI (pl)), .int (iI (yy)), .int (iI (mm)), .int (iI (dd)), .int (iI (at0)), .ref (rf 1), .ref (rf 2), .ref (rf 3), .ref (rf 4), .ref (rf 5), .ref (rf 6), .int (iI (wa)), .int (iI (on)), .int (iI (tw)), .ref (rf 7), .ref (rf 8), .ref (rf 9), .int (iI (hc))])), (rf 0, .inl (g.2 3, 400, .inl (zaI (zSg (zu (zu (zu (zu tf (ln).toNat (zBy v1 24)) (ln + 1).toNat (zBy v1 16)) ((ln + 1) + 1).toNat (zBy v1 8)) (((ln + 1) + 1) + 1).toNat (zBy v1 0))))))] := (zu_sg (zu (zu (zu tf (ln).toNat (zBy v1 24)) (ln + 1).toNat (zBy v1 16)) ((ln + 1) + 1).toNat (zBy v1 8)) (((ln + 1) + 1) + 1).toNat (zBy v1 0)) ▸ hD
    refine lv_aload_n hx hb zd_Q_feed_105 rfl (lv_at hl 2 rfl) ?_
    refine lv_dup hx hb zd_Q_feed_106 rfl ?_
    refine va_get (D := g.1) (ci := 5) (v := .int (iI (((ln + 1) + 1) + 1))) (C := zR_Q) (T := zT_Q) (N := 21) hx hb hw zin_Q hown hK hP 0 rfl rfl 2 (by decide) (hw _ zw_3_200) (fun _ h9 => h9) rfl zd_Q_feed_107 ?_
    refine zi_iconst hx hb zd_Q_feed_110 ?_
    refine zi_iadd hx hb zd_Q_feed_111 ?_
    refine va_put (D := g.1) (ci := 5) (v := .int (iI ((((ln + 1) + 1) + 1) + 1))) (ty := .int) (C := zR_Q) (T := zT_Q) (N := 21) hx hb hw zin_Q zt_Q zto_Q zn_Q hown hK hP hD hS 0 rfl rfl 2 (by decide) (hw _ zw_3_200) (fun _ h9 => h9) rfl  (by decide +kernel) rfl rfl (Nat.le_of_ble_eq_true rfl) zd_Q_feed_112 (fun H locs hP hD hS => ?_)
    have hP : va_P g.1 zCl [(qq, .inr (5, [.int (iI (0)), .ref (rf 0), .int (iI ((((ln + 1) + 1) + 1) + 1)), .int (iI (pl)), .int (iI (yy)), .int (iI (mm)), .int (iI (dd)), .int (iI (at0)), .ref (rf 1), .ref (rf 2), .ref (rf 3), .ref (rf 4), .ref (rf 5), .ref (rf 6), .int (iI (wa)), .int (iI (on)), .int (iI (tw)), .ref (rf 7), .ref (rf 8), .ref (rf 9), .int (iI (hc))])), (rf 0, .inl (g.2 3, 400, .inl (zaI (zSg (zu (zu (zu (zu tf (ln).toNat (zBy v1 24)) (ln + 1).toNat (zBy v1 16)) ((ln + 1) + 1).toNat (zBy v1 8)) (((ln + 1) + 1) + 1).toNat (zBy v1 0))))))] H := hP
    have hD : va_D A [(qq, .inr (5, [.int (iI (0)), .ref (rf 0), .int (iI ((((ln + 1) + 1) + 1) + 1)), .int (iI (pl)), .int (iI (yy)), .int (iI (mm)), .int (iI (dd)), .int (iI (at0)), .ref (rf 1), .ref (rf 2), .ref (rf 3), .ref (rf 4), .ref (rf 5), .ref (rf 6), .int (iI (wa)), .int (iI (on)), .int (iI (tw)), .ref (rf 7), .ref (rf 8), .ref (rf 9), .int (iI (hc))])), (rf 0, .inl (g.2 3, 400, .inl (zaI (zSg (zu (zu (zu (zu tf (ln).toNat (zBy v1 24)) (ln + 1).toNat (zBy v1 16)) ((ln + 1) + 1).toNat (zBy v1 8)) (((ln + 1) + 1) + 1).toNat (zBy v1 0))))))] := hD
    refine lv_iinc (v := iI (4)) (lv' := [(6, .int (iI (4))), (7, .int (iI (v1))), (0, .ref (qq)), (1, .int (iI (v1))), (2, .int (iI (v2))), (3, .int (iI (v3))), (4, .int (iI (v4))), (5, .int (iI (v5)))]) hx hb zd_Q_feed_115 hl (k := 1) rfl (by decide) (by decide) rfl (fun ls hl => ?_)
    refine lv_goto (tgt := 27) hx hb zd_Q_feed_118 (by decide) ?_
    rw [show ln + 1 + 1 + 1 + 1 = ln + 4 by omega] at hP hD
    have hP : va_P g.1 zCl [(qq, .inr (5, [.int (iI (0)), .ref (rf 0), .int (iI (ln + 4)), .int (iI (pl)), .int (iI (yy)), .int (iI (mm)), .int (iI (dd)), .int (iI (at0)), .ref (rf 1), .ref (rf 2), .ref (rf 3), .ref (rf 4), .ref (rf 5), .ref (rf 6), .int (iI (wa)), .int (iI (on)), .int (iI (tw)), .ref (rf 7), .ref (rf 8), .ref (rf 9), .int (iI (hc))])), (rf 0, .inl (g.2 3, 400, .inl (zaI (zSg (zP4 tf ln v1)))))] H := hP
    have hD : va_D A [(qq, .inr (5, [.int (iI (0)), .ref (rf 0), .int (iI (ln + 4)), .int (iI (pl)), .int (iI (yy)), .int (iI (mm)), .int (iI (dd)), .int (iI (at0)), .ref (rf 1), .ref (rf 2), .ref (rf 3), .ref (rf 4), .ref (rf 5), .ref (rf 6), .int (iI (wa)), .int (iI (on)), .int (iI (tw)), .ref (rf 7), .ref (rf 8), .ref (rf 9), .int (iI (hc))])), (rf 0, .inl (g.2 3, 400, .inl (zaI (zSg (zP4 tf ln v1)))))] := hD
    refine lv_iload hx hb zd_Q_feed_27 (lv_at hl 0 rfl) ?_
    refine zi_bipush hx hb zd_Q_feed_29 (by decide) ?_
    refine zi_icmp_ge (tgt := 121) hx hb zd_Q_feed_31 (by decide) (by omega) (fun c31 => absurd c31 (by decide)) (fun _ => ?_)
    refine lv_iload hx hb zd_Q_feed_34 (lv_at hl 0 rfl) ?_
    refine zi_iconst hx hb zd_Q_feed_36 ?_
    refine zi_icmp_ge (tgt := 44) hx hb zd_Q_feed_37 (by decide) (by omega) (fun _ => ?_) (fun c37 => absurd c37 (by decide))
    refine lv_iload hx hb zd_Q_feed_44 (lv_at hl 0 rfl) ?_
    refine zi_bipush hx hb zd_Q_feed_46 (by decide) ?_
    refine zi_icmp_ge (tgt := 55) hx hb zd_Q_feed_48 (by decide) (by omega) (fun c48 => absurd c48 (by decide)) (fun _ => ?_)
    refine lv_iload_n hx hb zd_Q_feed_51 rfl (lv_at hl 4 rfl) ?_
    refine lv_goto (tgt := 80) hx hb zd_Q_feed_52 (by decide) ?_
    refine lv_istore (lv' := [(7, .int (iI (v2))), (6, .int (iI (4))), (0, .ref (qq)), (1, .int (iI (v1))), (2, .int (iI (v2))), (3, .int (iI (v3))), (4, .int (iI (v4))), (5, .int (iI (v5)))]) hx hb zd_Q_feed_80 hl (by decide) rfl (fun ls hl => ?_)
    refine lv_aload_n hx hb zd_Q_feed_82 rfl (lv_at hl 2 rfl) ?_
    refine va_get (D := g.1) (ci := 5) (v := .ref (rf 0)) (C := zR_Q) (T := zT_Q) (N := 21) hx hb hw zin_Q hown hK hP 0 rfl rfl 1 (by decide) (hw _ zw_3_199) (fun _ h9 => h9) rfl zd_Q_feed_83 ?_
    refine lv_aload_n hx hb zd_Q_feed_86 rfl (lv_at hl 2 rfl) ?_
    refine va_get (D := g.1) (ci := 5) (v := .int (iI (ln + 4))) (C := zR_Q) (T := zT_Q) (N := 21) hx hb hw zin_Q hown hK hP 0 rfl rfl 2 (by decide) (hw _ zw_3_200) (fun _ h9 => h9) rfl zd_Q_feed_87 ?_
    refine lv_iload hx hb zd_Q_feed_90 (lv_at hl 0 rfl) ?_
    refine zi_bipush hx hb zd_Q_feed_92 (by decide) ?_
    refine zi_bipush hx hb zd_Q_feed_94 (by decide) ?_
    refine lv_iload hx hb zd_Q_feed_96 (lv_at hl 1 rfl) ?_
    refine zi_iconst hx hb zd_Q_feed_98 ?_
    refine zi_irem hx hb zd_Q_feed_99 (by omega) ?_
    refine zi_imul hx hb zd_Q_feed_100 ?_
    refine zi_isub hx hb zd_Q_feed_101 ?_
    refine lv_ishr hx hb zd_Q_feed_102 ?_
    have hby := zBy_rg v2 24
    have hsb := sB_rg hby
    refine lv_i2b hx hb zd_Q_feed_103 (v := iI (sB (zBy v2 24))) (sB_at (k := 24) (by decide) (by decide)) ?_
    refine zi_bast hx hb hK hP hD hS 1 3 rfl rfl (by omega) hsb zd_Q_feed_104 (fun H locs hP hD hS => ?_)
    have hP : va_P g.1 zCl [(qq, .inr (5, [.int (iI (0)), .ref (rf 0), .int (iI (ln + 4)), .int (iI (pl)), .int (iI (yy)), .int (iI (mm)), .int (iI (dd)), .int (iI (at0)), .ref (rf 1), .ref (rf 2), .ref (rf 3), .ref (rf 4), .ref (rf 5), .ref (rf 6), .int (iI (wa)), .int (iI (on)), .int (iI (tw)), .ref (rf 7), .ref (rf 8), .ref (rf 9), .int (iI (hc))])), (rf 0, .inl (g.2 3, 400, .inl (zaI (zSg (zu (zP4 tf ln v1) (ln + 4).toNat (zBy v2 24))))))] H := (zu_sg (zP4 tf ln v1) (ln + 4).toNat (zBy v2 24)) ▸ hP
    have hD : va_D A [(qq, .inr (5, [.int (iI (0)), .ref (rf 0), .int (iI (ln + 4)), .int (iI (pl)), .int (iI (yy)), .int (iI (mm)), .int (iI (dd)), .int (iI (at0)), .ref (rf 1), .ref (rf 2), .ref (rf 3), .ref (rf 4), .ref (rf 5), .ref (rf 6), .int (iI (wa)), .int (iI (on)), .int (iI (tw)), .ref (rf 7), .ref (rf 8), .ref (rf 9), .int (iI (hc))])), (rf 0, .inl (g.2 3, 400, .inl (zaI (zSg (zu (zP4 tf ln v1) (ln + 4).toNat (zBy v2 24))))))] := (zu_sg (zP4 tf ln v1) (ln + 4).toNat (zBy v2 24)) ▸ hD
    refine lv_aload_n hx hb zd_Q_feed_105 rfl (lv_at hl 2 rfl) ?_
    refine lv_dup hx hb zd_Q_feed_106 rfl ?_
    refine va_get (D := g.1) (ci := 5) (v := .int (iI (ln + 4))) (C := zR_Q) (T := zT_Q) (N := 21) hx hb hw zin_Q hown hK hP 0 rfl rfl 2 (by decide) (hw _ zw_3_200) (fun _ h9 => h9) rfl zd_Q_feed_107 ?_
    refine zi_iconst hx hb zd_Q_feed_110 ?_
    refine zi_iadd hx hb zd_Q_feed_111 ?_
    refine va_put (D := g.1) (ci := 5) (v := .int (iI ((ln + 4) + 1))) (ty := .int) (C := zR_Q) (T := zT_Q) (N := 21) hx hb hw zin_Q zt_Q zto_Q zn_Q hown hK hP hD hS 0 rfl rfl 2 (by decide) (hw _ zw_3_200) (fun _ h9 => h9) rfl  (by decide +kernel) rfl rfl (Nat.le_of_ble_eq_true rfl) zd_Q_feed_112 (fun H locs hP hD hS => ?_)
    have hP : va_P g.1 zCl [(qq, .inr (5, [.int (iI (0)), .ref (rf 0), .int (iI ((ln + 4) + 1)), .int (iI (pl)), .int (iI (yy)), .int (iI (mm)), .int (iI (dd)), .int (iI (at0)), .ref (rf 1), .ref (rf 2), .ref (rf 3), .ref (rf 4), .ref (rf 5), .ref (rf 6), .int (iI (wa)), .int (iI (on)), .int (iI (tw)), .ref (rf 7), .ref (rf 8), .ref (rf 9), .int (iI (hc))])), (rf 0, .inl (g.2 3, 400, .inl (zaI (zSg (zu (zP4 tf ln v1) (ln + 4).toNat (zBy v2 24))))))] H := hP
    have hD : va_D A [(qq, .inr (5, [.int (iI (0)), .ref (rf 0), .int (iI ((ln + 4) + 1)), .int (iI (pl)), .int (iI (yy)), .int (iI (mm)), .int (iI (dd)), .int (iI (at0)), .ref (rf 1), .ref (rf 2), .ref (rf 3), .ref (rf 4), .ref (rf 5), .ref (rf 6), .int (iI (wa)), .int (iI (on)), .int (iI (tw)), .ref (rf 7), .ref (rf 8), .ref (rf 9), .int (iI (hc))])), (rf 0, .inl (g.2 3, 400, .inl (zaI (zSg (zu (zP4 tf ln v1) (ln + 4).toNat (zBy v2 24))))))] := hD
    refine lv_iinc (v := iI (5)) (lv' := [(6, .int (iI (5))), (7, .int (iI (v2))), (0, .ref (qq)), (1, .int (iI (v1))), (2, .int (iI (v2))), (3, .int (iI (v3))), (4, .int (iI (v4))), (5, .int (iI (v5)))]) hx hb zd_Q_feed_115 hl (k := 1) rfl (by decide) (by decide) rfl (fun ls hl => ?_)
    refine lv_goto (tgt := 27) hx hb zd_Q_feed_118 (by decide) ?_
    refine lv_iload hx hb zd_Q_feed_27 (lv_at hl 0 rfl) ?_
    refine zi_bipush hx hb zd_Q_feed_29 (by decide) ?_
    refine zi_icmp_ge (tgt := 121) hx hb zd_Q_feed_31 (by decide) (by omega) (fun c31 => absurd c31 (by decide)) (fun _ => ?_)
    refine lv_iload hx hb zd_Q_feed_34 (lv_at hl 0 rfl) ?_
    refine zi_iconst hx hb zd_Q_feed_36 ?_
    refine zi_icmp_ge (tgt := 44) hx hb zd_Q_feed_37 (by decide) (by omega) (fun _ => ?_) (fun c37 => absurd c37 (by decide))
    refine lv_iload hx hb zd_Q_feed_44 (lv_at hl 0 rfl) ?_
    refine zi_bipush hx hb zd_Q_feed_46 (by decide) ?_
    refine zi_icmp_ge (tgt := 55) hx hb zd_Q_feed_48 (by decide) (by omega) (fun c48 => absurd c48 (by decide)) (fun _ => ?_)
    refine lv_iload_n hx hb zd_Q_feed_51 rfl (lv_at hl 4 rfl) ?_
    refine lv_goto (tgt := 80) hx hb zd_Q_feed_52 (by decide) ?_
    refine lv_istore (lv' := [(7, .int (iI (v2))), (6, .int (iI (5))), (0, .ref (qq)), (1, .int (iI (v1))), (2, .int (iI (v2))), (3, .int (iI (v3))), (4, .int (iI (v4))), (5, .int (iI (v5)))]) hx hb zd_Q_feed_80 hl (by decide) rfl (fun ls hl => ?_)
    refine lv_aload_n hx hb zd_Q_feed_82 rfl (lv_at hl 2 rfl) ?_
    refine va_get (D := g.1) (ci := 5) (v := .ref (rf 0)) (C := zR_Q) (T := zT_Q) (N := 21) hx hb hw zin_Q hown hK hP 0 rfl rfl 1 (by decide) (hw _ zw_3_199) (fun _ h9 => h9) rfl zd_Q_feed_83 ?_
    refine lv_aload_n hx hb zd_Q_feed_86 rfl (lv_at hl 2 rfl) ?_
    refine va_get (D := g.1) (ci := 5) (v := .int (iI ((ln + 4) + 1))) (C := zR_Q) (T := zT_Q) (N := 21) hx hb hw zin_Q hown hK hP 0 rfl rfl 2 (by decide) (hw _ zw_3_200) (fun _ h9 => h9) rfl zd_Q_feed_87 ?_
    refine lv_iload hx hb zd_Q_feed_90 (lv_at hl 0 rfl) ?_
    refine zi_bipush hx hb zd_Q_feed_92 (by decide) ?_
    refine zi_bipush hx hb zd_Q_feed_94 (by decide) ?_
    refine lv_iload hx hb zd_Q_feed_96 (lv_at hl 1 rfl) ?_
    refine zi_iconst hx hb zd_Q_feed_98 ?_
    refine zi_irem hx hb zd_Q_feed_99 (by omega) ?_
    refine zi_imul hx hb zd_Q_feed_100 ?_
    refine zi_isub hx hb zd_Q_feed_101 ?_
    refine lv_ishr hx hb zd_Q_feed_102 ?_
    have hby := zBy_rg v2 16
    have hsb := sB_rg hby
    refine lv_i2b hx hb zd_Q_feed_103 (v := iI (sB (zBy v2 16))) (sB_at (k := 16) (by decide) (by decide)) ?_
    refine zi_bast hx hb hK hP hD hS 1 3 rfl rfl (by omega) hsb zd_Q_feed_104 (fun H locs hP hD hS => ?_)
    have hP : va_P g.1 zCl [(qq, .inr (5, [.int (iI (0)), .ref (rf 0), .int (iI ((ln + 4) + 1)), .int (iI (pl)), .int (iI (yy)), .int (iI (mm)), .int (iI (dd)), .int (iI (at0)), .ref (rf 1), .ref (rf 2), .ref (rf 3), .ref (rf 4), .ref (rf 5), .ref (rf 6), .int (iI (wa)), .int (iI (on)), .int (iI (tw)), .ref (rf 7), .ref (rf 8), .ref (rf 9), .int (iI (hc))])), (rf 0, .inl (g.2 3, 400, .inl (zaI (zSg (zu (zu (zP4 tf ln v1) (ln + 4).toNat (zBy v2 24)) ((ln + 4) + 1).toNat (zBy v2 16))))))] H := (zu_sg (zu (zP4 tf ln v1) (ln + 4).toNat (zBy v2 24)) ((ln + 4) + 1).toNat (zBy v2 16)) ▸ hP
    have hD : va_D A [(qq, .inr (5, [.int (iI (0)), .ref (rf 0), .int (iI ((ln + 4) + 1)), .int (iI (pl)), .int (iI (yy)), .int (iI (mm)), .int (iI (dd)), .int (iI (at0)), .ref (rf 1), .ref (rf 2), .ref (rf 3), .ref (rf 4), .ref (rf 5), .ref (rf 6), .int (iI (wa)), .int (iI (on)), .int (iI (tw)), .ref (rf 7), .ref (rf 8), .ref (rf 9), .int (iI (hc))])), (rf 0, .inl (g.2 3, 400, .inl (zaI (zSg (zu (zu (zP4 tf ln v1) (ln + 4).toNat (zBy v2 24)) ((ln + 4) + 1).toNat (zBy v2 16))))))] := (zu_sg (zu (zP4 tf ln v1) (ln + 4).toNat (zBy v2 24)) ((ln + 4) + 1).toNat (zBy v2 16)) ▸ hD
    refine lv_aload_n hx hb zd_Q_feed_105 rfl (lv_at hl 2 rfl) ?_
    refine lv_dup hx hb zd_Q_feed_106 rfl ?_
    refine va_get (D := g.1) (ci := 5) (v := .int (iI ((ln + 4) + 1))) (C := zR_Q) (T := zT_Q) (N := 21) hx hb hw zin_Q hown hK hP 0 rfl rfl 2 (by decide) (hw _ zw_3_200) (fun _ h9 => h9) rfl zd_Q_feed_107 ?_
    refine zi_iconst hx hb zd_Q_feed_110 ?_
    refine zi_iadd hx hb zd_Q_feed_111 ?_
    refine va_put (D := g.1) (ci := 5) (v := .int (iI (((ln + 4) + 1) + 1))) (ty := .int) (C := zR_Q) (T := zT_Q) (N := 21) hx hb hw zin_Q zt_Q zto_Q zn_Q hown hK hP hD hS 0 rfl rfl 2 (by decide) (hw _ zw_3_200) (fun _ h9 => h9) rfl  (by decide +kernel) rfl rfl (Nat.le_of_ble_eq_true rfl) zd_Q_feed_112 (fun H locs hP hD hS => ?_)
    have hP : va_P g.1 zCl [(qq, .inr (5, [.int (iI (0)), .ref (rf 0), .int (iI (((ln + 4) + 1) + 1)), .int (iI (pl)), .int (iI (yy)), .int (iI (mm)), .int (iI (dd)), .int (iI (at0)), .ref (rf 1), .ref (rf 2), .ref (rf 3), .ref (rf 4), .ref (rf 5), .ref (rf 6), .int (iI (wa)), .int (iI (on)), .int (iI (tw)), .ref (rf 7), .ref (rf 8), .ref (rf 9), .int (iI (hc))])), (rf 0, .inl (g.2 3, 400, .inl (zaI (zSg (zu (zu (zP4 tf ln v1) (ln + 4).toNat (zBy v2 24)) ((ln + 4) + 1).toNat (zBy v2 16))))))] H := hP
    have hD : va_D A [(qq, .inr (5, [.int (iI (0)), .ref (rf 0), .int (iI (((ln + 4) + 1) + 1)), .int (iI (pl)), .int (iI (yy)), .int (iI (mm)), .int (iI (dd)), .int (iI (at0)), .ref (rf 1), .ref (rf 2), .ref (rf 3), .ref (rf 4), .ref (rf 5), .ref (rf 6), .int (iI (wa)), .int (iI (on)), .int (iI (tw)), .ref (rf 7), .ref (rf 8), .ref (rf 9), .int (iI (hc))])), (rf 0, .inl (g.2 3, 400, .inl (zaI (zSg (zu (zu (zP4 tf ln v1) (ln + 4).toNat (zBy v2 24)) ((ln + 4) + 1).toNat (zBy v2 16))))))] := hD
    refine lv_iinc (v := iI (6)) (lv' := [(6, .int (iI (6))), (7, .int (iI (v2))), (0, .ref (qq)), (1, .int (iI (v1))), (2, .int (iI (v2))), (3, .int (iI (v3))), (4, .int (iI (v4))), (5, .int (iI (v5)))]) hx hb zd_Q_feed_115 hl (k := 1) rfl (by decide) (by decide) rfl (fun ls hl => ?_)
    refine lv_goto (tgt := 27) hx hb zd_Q_feed_118 (by decide) ?_
    refine lv_iload hx hb zd_Q_feed_27 (lv_at hl 0 rfl) ?_
    refine zi_bipush hx hb zd_Q_feed_29 (by decide) ?_
    refine zi_icmp_ge (tgt := 121) hx hb zd_Q_feed_31 (by decide) (by omega) (fun c31 => absurd c31 (by decide)) (fun _ => ?_)
    refine lv_iload hx hb zd_Q_feed_34 (lv_at hl 0 rfl) ?_
    refine zi_iconst hx hb zd_Q_feed_36 ?_
    refine zi_icmp_ge (tgt := 44) hx hb zd_Q_feed_37 (by decide) (by omega) (fun _ => ?_) (fun c37 => absurd c37 (by decide))
    refine lv_iload hx hb zd_Q_feed_44 (lv_at hl 0 rfl) ?_
    refine zi_bipush hx hb zd_Q_feed_46 (by decide) ?_
    refine zi_icmp_ge (tgt := 55) hx hb zd_Q_feed_48 (by decide) (by omega) (fun c48 => absurd c48 (by decide)) (fun _ => ?_)
    refine lv_iload_n hx hb zd_Q_feed_51 rfl (lv_at hl 4 rfl) ?_
    refine lv_goto (tgt := 80) hx hb zd_Q_feed_52 (by decide) ?_
    refine lv_istore (lv' := [(7, .int (iI (v2))), (6, .int (iI (6))), (0, .ref (qq)), (1, .int (iI (v1))), (2, .int (iI (v2))), (3, .int (iI (v3))), (4, .int (iI (v4))), (5, .int (iI (v5)))]) hx hb zd_Q_feed_80 hl (by decide) rfl (fun ls hl => ?_)
    refine lv_aload_n hx hb zd_Q_feed_82 rfl (lv_at hl 2 rfl) ?_
    refine va_get (D := g.1) (ci := 5) (v := .ref (rf 0)) (C := zR_Q) (T := zT_Q) (N := 21) hx hb hw zin_Q hown hK hP 0 rfl rfl 1 (by decide) (hw _ zw_3_199) (fun _ h9 => h9) rfl zd_Q_feed_83 ?_
    refine lv_aload_n hx hb zd_Q_feed_86 rfl (lv_at hl 2 rfl) ?_
    refine va_get (D := g.1) (ci := 5) (v := .int (iI (((ln + 4) + 1) + 1))) (C := zR_Q) (T := zT_Q) (N := 21) hx hb hw zin_Q hown hK hP 0 rfl rfl 2 (by decide) (hw _ zw_3_200) (fun _ h9 => h9) rfl zd_Q_feed_87 ?_
    refine lv_iload hx hb zd_Q_feed_90 (lv_at hl 0 rfl) ?_
    refine zi_bipush hx hb zd_Q_feed_92 (by decide) ?_
    refine zi_bipush hx hb zd_Q_feed_94 (by decide) ?_
    refine lv_iload hx hb zd_Q_feed_96 (lv_at hl 1 rfl) ?_
    refine zi_iconst hx hb zd_Q_feed_98 ?_
    refine zi_irem hx hb zd_Q_feed_99 (by omega) ?_
    refine zi_imul hx hb zd_Q_feed_100 ?_
    refine zi_isub hx hb zd_Q_feed_101 ?_
    refine lv_ishr hx hb zd_Q_feed_102 ?_
    have hby := zBy_rg v2 8
    have hsb := sB_rg hby
    refine lv_i2b hx hb zd_Q_feed_103 (v := iI (sB (zBy v2 8))) (sB_at (k := 8) (by decide) (by decide)) ?_
    refine zi_bast hx hb hK hP hD hS 1 3 rfl rfl (by omega) hsb zd_Q_feed_104 (fun H locs hP hD hS => ?_)
    have hP : va_P g.1 zCl [(qq, .inr (5, [.int (iI (0)), .ref (rf 0), .int (iI (((ln + 4) + 1) + 1)), .int (iI (pl)), .int (iI (yy)), .int (iI (mm)), .int (iI (dd)), .int (iI (at0)), .ref (rf 1), .ref (rf 2), .ref (rf 3), .ref (rf 4), .ref (rf 5), .ref (rf 6), .int (iI (wa)), .int (iI (on)), .int (iI (tw)), .ref (rf 7), .ref (rf 8), .ref (rf 9), .int (iI (hc))])), (rf 0, .inl (g.2 3, 400, .inl (zaI (zSg (zu (zu (zu (zP4 tf ln v1) (ln + 4).toNat (zBy v2 24)) ((ln + 4) + 1).toNat (zBy v2 16)) (((ln + 4) + 1) + 1).toNat (zBy v2 8))))))] H := (zu_sg (zu (zu (zP4 tf ln v1) (ln + 4).toNat (zBy v2 24)) ((ln + 4) + 1).toNat (zBy v2 16)) (((ln + 4) + 1) + 1).toNat (zBy v2 8)) ▸ hP
    have hD : va_D A [(qq, .inr (5, [.int (iI (0)), .ref (rf 0), .int (iI (((ln + 4) + 1) + 1)), .int (iI (pl)), .int (iI (yy)), .int (iI (mm)), .int (iI (dd)), .int (iI (at0)), .ref (rf 1), .ref (rf 2), .ref (rf 3), .ref (rf 4), .ref (rf 5), .ref (rf 6), .int (iI (wa)), .int (iI (on)), .int (iI (tw)), .ref (rf 7), .ref (rf 8), .ref (rf 9), .int (iI (hc))])), (rf 0, .inl (g.2 3, 400, .inl (zaI (zSg (zu (zu (zu (zP4 tf ln v1) (ln + 4).toNat (zBy v2 24)) ((ln + 4) + 1).toNat (zBy v2 16)) (((ln + 4) + 1) + 1).toNat (zBy v2 8))))))] := (zu_sg (zu (zu (zP4 tf ln v1) (ln + 4).toNat (zBy v2 24)) ((ln + 4) + 1).toNat (zBy v2 16)) (((ln + 4) + 1) + 1).toNat (zBy v2 8)) ▸ hD
    refine lv_aload_n hx hb zd_Q_feed_105 rfl (lv_at hl 2 rfl) ?_
    refine lv_dup hx hb zd_Q_feed_106 rfl ?_
    refine va_get (D := g.1) (ci := 5) (v := .int (iI (((ln + 4) + 1) + 1))) (C := zR_Q) (T := zT_Q) (N := 21) hx hb hw zin_Q hown hK hP 0 rfl rfl 2 (by decide) (hw _ zw_3_200) (fun _ h9 => h9) rfl zd_Q_feed_107 ?_
    refine zi_iconst hx hb zd_Q_feed_110 ?_
    refine zi_iadd hx hb zd_Q_feed_111 ?_
    refine va_put (D := g.1) (ci := 5) (v := .int (iI ((((ln + 4) + 1) + 1) + 1))) (ty := .int) (C := zR_Q) (T := zT_Q) (N := 21) hx hb hw zin_Q zt_Q zto_Q zn_Q hown hK hP hD hS 0 rfl rfl 2 (by decide) (hw _ zw_3_200) (fun _ h9 => h9) rfl  (by decide +kernel) rfl rfl (Nat.le_of_ble_eq_true rfl) zd_Q_feed_112 (fun H locs hP hD hS => ?_)
    have hP : va_P g.1 zCl [(qq, .inr (5, [.int (iI (0)), .ref (rf 0), .int (iI ((((ln + 4) + 1) + 1) + 1)), .int (iI (pl)), .int (iI (yy)), .int (iI (mm)), .int (iI (dd)), .int (iI (at0)), .ref (rf 1), .ref (rf 2), .ref (rf 3), .ref (rf 4), .ref (rf 5), .ref (rf 6), .int (iI (wa)), .int (iI (on)), .int (iI (tw)), .ref (rf 7), .ref (rf 8), .ref (rf 9), .int (iI (hc))])), (rf 0, .inl (g.2 3, 400, .inl (zaI (zSg (zu (zu (zu (zP4 tf ln v1) (ln + 4).toNat (zBy v2 24)) ((ln + 4) + 1).toNat (zBy v2 16)) (((ln + 4) + 1) + 1).toNat (zBy v2 8))))))] H := hP
    have hD : va_D A [(qq, .inr (5, [.int (iI (0)), .ref (rf 0), .int (iI ((((ln + 4) + 1) + 1) + 1)), .int (iI (pl)), .int (iI (yy)), .int (iI (mm)), .int (iI (dd)), .int (iI (at0)), .ref (rf 1), .ref (rf 2), .ref (rf 3), .ref (rf 4), .ref (rf 5), .ref (rf 6), .int (iI (wa)), .int (iI (on)), .int (iI (tw)), .ref (rf 7), .ref (rf 8), .ref (rf 9), .int (iI (hc))])), (rf 0, .inl (g.2 3, 400, .inl (zaI (zSg (zu (zu (zu (zP4 tf ln v1) (ln + 4).toNat (zBy v2 24)) ((ln + 4) + 1).toNat (zBy v2 16)) (((ln + 4) + 1) + 1).toNat (zBy v2 8))))))] := hD
    refine lv_iinc (v := iI (7)) (lv' := [(6, .int (iI (7))), (7, .int (iI (v2))), (0, .ref (qq)), (1, .int (iI (v1))), (2, .int (iI (v2))), (3, .int (iI (v3))), (4, .int (iI (v4))), (5, .int (iI (v5)))]) hx hb zd_Q_feed_115 hl (k := 1) rfl (by decide) (by decide) rfl (fun ls hl => ?_)
    refine lv_goto (tgt := 27) hx hb zd_Q_feed_118 (by decide) ?_
    refine lv_iload hx hb zd_Q_feed_27 (lv_at hl 0 rfl) ?_
    refine zi_bipush hx hb zd_Q_feed_29 (by decide) ?_
    refine zi_icmp_ge (tgt := 121) hx hb zd_Q_feed_31 (by decide) (by omega) (fun c31 => absurd c31 (by decide)) (fun _ => ?_)
    refine lv_iload hx hb zd_Q_feed_34 (lv_at hl 0 rfl) ?_
    refine zi_iconst hx hb zd_Q_feed_36 ?_
    refine zi_icmp_ge (tgt := 44) hx hb zd_Q_feed_37 (by decide) (by omega) (fun _ => ?_) (fun c37 => absurd c37 (by decide))
    refine lv_iload hx hb zd_Q_feed_44 (lv_at hl 0 rfl) ?_
    refine zi_bipush hx hb zd_Q_feed_46 (by decide) ?_
    refine zi_icmp_ge (tgt := 55) hx hb zd_Q_feed_48 (by decide) (by omega) (fun c48 => absurd c48 (by decide)) (fun _ => ?_)
    refine lv_iload_n hx hb zd_Q_feed_51 rfl (lv_at hl 4 rfl) ?_
    refine lv_goto (tgt := 80) hx hb zd_Q_feed_52 (by decide) ?_
    refine lv_istore (lv' := [(7, .int (iI (v2))), (6, .int (iI (7))), (0, .ref (qq)), (1, .int (iI (v1))), (2, .int (iI (v2))), (3, .int (iI (v3))), (4, .int (iI (v4))), (5, .int (iI (v5)))]) hx hb zd_Q_feed_80 hl (by decide) rfl (fun ls hl => ?_)
    refine lv_aload_n hx hb zd_Q_feed_82 rfl (lv_at hl 2 rfl) ?_
    refine va_get (D := g.1) (ci := 5) (v := .ref (rf 0)) (C := zR_Q) (T := zT_Q) (N := 21) hx hb hw zin_Q hown hK hP 0 rfl rfl 1 (by decide) (hw _ zw_3_199) (fun _ h9 => h9) rfl zd_Q_feed_83 ?_
    refine lv_aload_n hx hb zd_Q_feed_86 rfl (lv_at hl 2 rfl) ?_
    refine va_get (D := g.1) (ci := 5) (v := .int (iI ((((ln + 4) + 1) + 1) + 1))) (C := zR_Q) (T := zT_Q) (N := 21) hx hb hw zin_Q hown hK hP 0 rfl rfl 2 (by decide) (hw _ zw_3_200) (fun _ h9 => h9) rfl zd_Q_feed_87 ?_
    refine lv_iload hx hb zd_Q_feed_90 (lv_at hl 0 rfl) ?_
    refine zi_bipush hx hb zd_Q_feed_92 (by decide) ?_
    refine zi_bipush hx hb zd_Q_feed_94 (by decide) ?_
    refine lv_iload hx hb zd_Q_feed_96 (lv_at hl 1 rfl) ?_
    refine zi_iconst hx hb zd_Q_feed_98 ?_
    refine zi_irem hx hb zd_Q_feed_99 (by omega) ?_
    refine zi_imul hx hb zd_Q_feed_100 ?_
    refine zi_isub hx hb zd_Q_feed_101 ?_
    refine lv_ishr hx hb zd_Q_feed_102 ?_
    have hby := zBy_rg v2 0
    have hsb := sB_rg hby
    refine lv_i2b hx hb zd_Q_feed_103 (v := iI (sB (zBy v2 0))) (sB_at (k := 0) (by decide) (by decide)) ?_
    refine zi_bast hx hb hK hP hD hS 1 3 rfl rfl (by omega) hsb zd_Q_feed_104 (fun H locs hP hD hS => ?_)
    have hP : va_P g.1 zCl [(qq, .inr (5, [.int (iI (0)), .ref (rf 0), .int (iI ((((ln + 4) + 1) + 1) + 1)), .int (iI (pl)), .int (iI (yy)), .int (iI (mm)), .int (iI (dd)), .int (iI (at0)), .ref (rf 1), .ref (rf 2), .ref (rf 3), .ref (rf 4), .ref (rf 5), .ref (rf 6), .int (iI (wa)), .int (iI (on)), .int (iI (tw)), .ref (rf 7), .ref (rf 8), .ref (rf 9), .int (iI (hc))])), (rf 0, .inl (g.2 3, 400, .inl (zaI (zSg (zu (zu (zu (zu (zP4 tf ln v1) (ln + 4).toNat (zBy v2 24)) ((ln + 4) + 1).toNat (zBy v2 16)) (((ln + 4) + 1) + 1).toNat (zBy v2 8)) ((((ln + 4) + 1) + 1) + 1).toNat (zBy v2 0))))))] H := (zu_sg (zu (zu (zu (zP4 tf ln v1) (ln + 4).toNat (zBy v2 24)) ((ln + 4) + 1).toNat (zBy v2 16)) (((ln + 4) + 1) + 1).toNat (zBy v2 8)) ((((ln + 4) + 1) + 1) + 1).toNat (zBy v2 0)) ▸ hP
    have hD : va_D A [(qq, .inr (5, [.int (iI (0)), .ref (rf 0), .int (iI ((((ln + 4) + 1) + 1) + 1)), .int (iI (pl)), .int (iI (yy)), .int (iI (mm)), .int (iI (dd)), .int (iI (at0)), .ref (rf 1), .ref (rf 2), .ref (rf 3), .ref (rf 4), .ref (rf 5), .ref (rf 6), .int (iI (wa)), .int (iI (on)), .int (iI (tw)), .ref (rf 7), .ref (rf 8), .ref (rf 9), .int (iI (hc))])), (rf 0, .inl (g.2 3, 400, .inl (zaI (zSg (zu (zu (zu (zu (zP4 tf ln v1) (ln + 4).toNat (zBy v2 24)) ((ln + 4) + 1).toNat (zBy v2 16)) (((ln + 4) + 1) + 1).toNat (zBy v2 8)) ((((ln + 4) + 1) + 1) + 1).toNat (zBy v2 0))))))] := (zu_sg (zu (zu (zu (zP4 tf ln v1) (ln + 4).toNat (zBy v2 24)) ((ln + 4) + 1).toNat (zBy v2 16)) (((ln + 4) + 1) + 1).toNat (zBy v2 8)) ((((ln + 4) + 1) + 1) + 1).toNat (zBy v2 0)) ▸ hD
    refine lv_aload_n hx hb zd_Q_feed_105 rfl (lv_at hl 2 rfl) ?_
    refine lv_dup hx hb zd_Q_feed_106 rfl ?_
    refine va_get (D := g.1) (ci := 5) (v := .int (iI ((((ln + 4) + 1) + 1) + 1))) (C := zR_Q) (T := zT_Q) (N := 21) hx hb hw zin_Q hown hK hP 0 rfl rfl 2 (by decide) (hw _ zw_3_200) (fun _ h9 => h9) rfl zd_Q_feed_107 ?_
    refine zi_iconst hx hb zd_Q_feed_110 ?_
    refine zi_iadd hx hb zd_Q_feed_111 ?_
    refine va_put (D := g.1) (ci := 5) (v := .int (iI (((((ln + 4) + 1) + 1) + 1) + 1))) (ty := .int) (C := zR_Q) (T := zT_Q) (N := 21) hx hb hw zin_Q zt_Q zto_Q zn_Q hown hK hP hD hS 0 rfl rfl 2 (by decide) (hw _ zw_3_200) (fun _ h9 => h9) rfl  (by decide +kernel) rfl rfl (Nat.le_of_ble_eq_true rfl) zd_Q_feed_112 (fun H locs hP hD hS => ?_)
    have hP : va_P g.1 zCl [(qq, .inr (5, [.int (iI (0)), .ref (rf 0), .int (iI (((((ln + 4) + 1) + 1) + 1) + 1)), .int (iI (pl)), .int (iI (yy)), .int (iI (mm)), .int (iI (dd)), .int (iI (at0)), .ref (rf 1), .ref (rf 2), .ref (rf 3), .ref (rf 4), .ref (rf 5), .ref (rf 6), .int (iI (wa)), .int (iI (on)), .int (iI (tw)), .ref (rf 7), .ref (rf 8), .ref (rf 9), .int (iI (hc))])), (rf 0, .inl (g.2 3, 400, .inl (zaI (zSg (zu (zu (zu (zu (zP4 tf ln v1) (ln + 4).toNat (zBy v2 24)) ((ln + 4) + 1).toNat (zBy v2 16)) (((ln + 4) + 1) + 1).toNat (zBy v2 8)) ((((ln + 4) + 1) + 1) + 1).toNat (zBy v2 0))))))] H := hP
    have hD : va_D A [(qq, .inr (5, [.int (iI (0)), .ref (rf 0), .int (iI (((((ln + 4) + 1) + 1) + 1) + 1)), .int (iI (pl)), .int (iI (yy)), .int (iI (mm)), .int (iI (dd)), .int (iI (at0)), .ref (rf 1), .ref (rf 2), .ref (rf 3), .ref (rf 4), .ref (rf 5), .ref (rf 6), .int (iI (wa)), .int (iI (on)), .int (iI (tw)), .ref (rf 7), .ref (rf 8), .ref (rf 9), .int (iI (hc))])), (rf 0, .inl (g.2 3, 400, .inl (zaI (zSg (zu (zu (zu (zu (zP4 tf ln v1) (ln + 4).toNat (zBy v2 24)) ((ln + 4) + 1).toNat (zBy v2 16)) (((ln + 4) + 1) + 1).toNat (zBy v2 8)) ((((ln + 4) + 1) + 1) + 1).toNat (zBy v2 0))))))] := hD
    refine lv_iinc (v := iI (8)) (lv' := [(6, .int (iI (8))), (7, .int (iI (v2))), (0, .ref (qq)), (1, .int (iI (v1))), (2, .int (iI (v2))), (3, .int (iI (v3))), (4, .int (iI (v4))), (5, .int (iI (v5)))]) hx hb zd_Q_feed_115 hl (k := 1) rfl (by decide) (by decide) rfl (fun ls hl => ?_)
    refine lv_goto (tgt := 27) hx hb zd_Q_feed_118 (by decide) ?_
    rw [show ln + 4 + 1 + 1 + 1 + 1 = ln + 4 + 4 by omega] at hP hD
    have hP : va_P g.1 zCl [(qq, .inr (5, [.int (iI (0)), .ref (rf 0), .int (iI (ln + 4 + 4)), .int (iI (pl)), .int (iI (yy)), .int (iI (mm)), .int (iI (dd)), .int (iI (at0)), .ref (rf 1), .ref (rf 2), .ref (rf 3), .ref (rf 4), .ref (rf 5), .ref (rf 6), .int (iI (wa)), .int (iI (on)), .int (iI (tw)), .ref (rf 7), .ref (rf 8), .ref (rf 9), .int (iI (hc))])), (rf 0, .inl (g.2 3, 400, .inl (zaI (zSg (zP4 (zP4 tf ln v1) (ln + 4) v2)))))] H := hP
    have hD : va_D A [(qq, .inr (5, [.int (iI (0)), .ref (rf 0), .int (iI (ln + 4 + 4)), .int (iI (pl)), .int (iI (yy)), .int (iI (mm)), .int (iI (dd)), .int (iI (at0)), .ref (rf 1), .ref (rf 2), .ref (rf 3), .ref (rf 4), .ref (rf 5), .ref (rf 6), .int (iI (wa)), .int (iI (on)), .int (iI (tw)), .ref (rf 7), .ref (rf 8), .ref (rf 9), .int (iI (hc))])), (rf 0, .inl (g.2 3, 400, .inl (zaI (zSg (zP4 (zP4 tf ln v1) (ln + 4) v2)))))] := hD
    refine lv_iload hx hb zd_Q_feed_27 (lv_at hl 0 rfl) ?_
    refine zi_bipush hx hb zd_Q_feed_29 (by decide) ?_
    refine zi_icmp_ge (tgt := 121) hx hb zd_Q_feed_31 (by decide) (by omega) (fun c31 => absurd c31 (by decide)) (fun _ => ?_)
    refine lv_iload hx hb zd_Q_feed_34 (lv_at hl 0 rfl) ?_
    refine zi_iconst hx hb zd_Q_feed_36 ?_
    refine zi_icmp_ge (tgt := 44) hx hb zd_Q_feed_37 (by decide) (by omega) (fun _ => ?_) (fun c37 => absurd c37 (by decide))
    refine lv_iload hx hb zd_Q_feed_44 (lv_at hl 0 rfl) ?_
    refine zi_bipush hx hb zd_Q_feed_46 (by decide) ?_
    refine zi_icmp_ge (tgt := 55) hx hb zd_Q_feed_48 (by decide) (by omega) (fun _ => ?_) (fun c48 => absurd c48 (by decide))
    refine lv_iload hx hb zd_Q_feed_55 (lv_at hl 0 rfl) ?_
    refine zi_bipush hx hb zd_Q_feed_57 (by decide) ?_
    refine zi_icmp_ge (tgt := 66) hx hb zd_Q_feed_59 (by decide) (by omega) (fun c59 => absurd c59 (by decide)) (fun _ => ?_)
    refine lv_iload_n hx hb zd_Q_feed_62 rfl (lv_at hl 5 rfl) ?_
    refine lv_goto (tgt := 80) hx hb zd_Q_feed_63 (by decide) ?_
    refine lv_istore (lv' := [(7, .int (iI (v3))), (6, .int (iI (8))), (0, .ref (qq)), (1, .int (iI (v1))), (2, .int (iI (v2))), (3, .int (iI (v3))), (4, .int (iI (v4))), (5, .int (iI (v5)))]) hx hb zd_Q_feed_80 hl (by decide) rfl (fun ls hl => ?_)
    refine lv_aload_n hx hb zd_Q_feed_82 rfl (lv_at hl 2 rfl) ?_
    refine va_get (D := g.1) (ci := 5) (v := .ref (rf 0)) (C := zR_Q) (T := zT_Q) (N := 21) hx hb hw zin_Q hown hK hP 0 rfl rfl 1 (by decide) (hw _ zw_3_199) (fun _ h9 => h9) rfl zd_Q_feed_83 ?_
    refine lv_aload_n hx hb zd_Q_feed_86 rfl (lv_at hl 2 rfl) ?_
    refine va_get (D := g.1) (ci := 5) (v := .int (iI (ln + 4 + 4))) (C := zR_Q) (T := zT_Q) (N := 21) hx hb hw zin_Q hown hK hP 0 rfl rfl 2 (by decide) (hw _ zw_3_200) (fun _ h9 => h9) rfl zd_Q_feed_87 ?_
    refine lv_iload hx hb zd_Q_feed_90 (lv_at hl 0 rfl) ?_
    refine zi_bipush hx hb zd_Q_feed_92 (by decide) ?_
    refine zi_bipush hx hb zd_Q_feed_94 (by decide) ?_
    refine lv_iload hx hb zd_Q_feed_96 (lv_at hl 1 rfl) ?_
    refine zi_iconst hx hb zd_Q_feed_98 ?_
    refine zi_irem hx hb zd_Q_feed_99 (by omega) ?_
    refine zi_imul hx hb zd_Q_feed_100 ?_
    refine zi_isub hx hb zd_Q_feed_101 ?_
    refine lv_ishr hx hb zd_Q_feed_102 ?_
    have hby := zBy_rg v3 24
    have hsb := sB_rg hby
    refine lv_i2b hx hb zd_Q_feed_103 (v := iI (sB (zBy v3 24))) (sB_at (k := 24) (by decide) (by decide)) ?_
    refine zi_bast hx hb hK hP hD hS 1 3 rfl rfl (by omega) hsb zd_Q_feed_104 (fun H locs hP hD hS => ?_)
    have hP : va_P g.1 zCl [(qq, .inr (5, [.int (iI (0)), .ref (rf 0), .int (iI (ln + 4 + 4)), .int (iI (pl)), .int (iI (yy)), .int (iI (mm)), .int (iI (dd)), .int (iI (at0)), .ref (rf 1), .ref (rf 2), .ref (rf 3), .ref (rf 4), .ref (rf 5), .ref (rf 6), .int (iI (wa)), .int (iI (on)), .int (iI (tw)), .ref (rf 7), .ref (rf 8), .ref (rf 9), .int (iI (hc))])), (rf 0, .inl (g.2 3, 400, .inl (zaI (zSg (zu (zP4 (zP4 tf ln v1) (ln + 4) v2) (ln + 4 + 4).toNat (zBy v3 24))))))] H := (zu_sg (zP4 (zP4 tf ln v1) (ln + 4) v2) (ln + 4 + 4).toNat (zBy v3 24)) ▸ hP
    have hD : va_D A [(qq, .inr (5, [.int (iI (0)), .ref (rf 0), .int (iI (ln + 4 + 4)), .int (iI (pl)), .int (iI (yy)), .int (iI (mm)), .int (iI (dd)), .int (iI (at0)), .ref (rf 1), .ref (rf 2), .ref (rf 3), .ref (rf 4), .ref (rf 5), .ref (rf 6), .int (iI (wa)), .int (iI (on)), .int (iI (tw)), .ref (rf 7), .ref (rf 8), .ref (rf 9), .int (iI (hc))])), (rf 0, .inl (g.2 3, 400, .inl (zaI (zSg (zu (zP4 (zP4 tf ln v1) (ln + 4) v2) (ln + 4 + 4).toNat (zBy v3 24))))))] := (zu_sg (zP4 (zP4 tf ln v1) (ln + 4) v2) (ln + 4 + 4).toNat (zBy v3 24)) ▸ hD
    refine lv_aload_n hx hb zd_Q_feed_105 rfl (lv_at hl 2 rfl) ?_
    refine lv_dup hx hb zd_Q_feed_106 rfl ?_
    refine va_get (D := g.1) (ci := 5) (v := .int (iI (ln + 4 + 4))) (C := zR_Q) (T := zT_Q) (N := 21) hx hb hw zin_Q hown hK hP 0 rfl rfl 2 (by decide) (hw _ zw_3_200) (fun _ h9 => h9) rfl zd_Q_feed_107 ?_
    refine zi_iconst hx hb zd_Q_feed_110 ?_
    refine zi_iadd hx hb zd_Q_feed_111 ?_
    refine va_put (D := g.1) (ci := 5) (v := .int (iI ((ln + 4 + 4) + 1))) (ty := .int) (C := zR_Q) (T := zT_Q) (N := 21) hx hb hw zin_Q zt_Q zto_Q zn_Q hown hK hP hD hS 0 rfl rfl 2 (by decide) (hw _ zw_3_200) (fun _ h9 => h9) rfl  (by decide +kernel) rfl rfl (Nat.le_of_ble_eq_true rfl) zd_Q_feed_112 (fun H locs hP hD hS => ?_)
    have hP : va_P g.1 zCl [(qq, .inr (5, [.int (iI (0)), .ref (rf 0), .int (iI ((ln + 4 + 4) + 1)), .int (iI (pl)), .int (iI (yy)), .int (iI (mm)), .int (iI (dd)), .int (iI (at0)), .ref (rf 1), .ref (rf 2), .ref (rf 3), .ref (rf 4), .ref (rf 5), .ref (rf 6), .int (iI (wa)), .int (iI (on)), .int (iI (tw)), .ref (rf 7), .ref (rf 8), .ref (rf 9), .int (iI (hc))])), (rf 0, .inl (g.2 3, 400, .inl (zaI (zSg (zu (zP4 (zP4 tf ln v1) (ln + 4) v2) (ln + 4 + 4).toNat (zBy v3 24))))))] H := hP
    have hD : va_D A [(qq, .inr (5, [.int (iI (0)), .ref (rf 0), .int (iI ((ln + 4 + 4) + 1)), .int (iI (pl)), .int (iI (yy)), .int (iI (mm)), .int (iI (dd)), .int (iI (at0)), .ref (rf 1), .ref (rf 2), .ref (rf 3), .ref (rf 4), .ref (rf 5), .ref (rf 6), .int (iI (wa)), .int (iI (on)), .int (iI (tw)), .ref (rf 7), .ref (rf 8), .ref (rf 9), .int (iI (hc))])), (rf 0, .inl (g.2 3, 400, .inl (zaI (zSg (zu (zP4 (zP4 tf ln v1) (ln + 4) v2) (ln + 4 + 4).toNat (zBy v3 24))))))] := hD
    refine lv_iinc (v := iI (9)) (lv' := [(6, .int (iI (9))), (7, .int (iI (v3))), (0, .ref (qq)), (1, .int (iI (v1))), (2, .int (iI (v2))), (3, .int (iI (v3))), (4, .int (iI (v4))), (5, .int (iI (v5)))]) hx hb zd_Q_feed_115 hl (k := 1) rfl (by decide) (by decide) rfl (fun ls hl => ?_)
    refine lv_goto (tgt := 27) hx hb zd_Q_feed_118 (by decide) ?_
    refine lv_iload hx hb zd_Q_feed_27 (lv_at hl 0 rfl) ?_
    refine zi_bipush hx hb zd_Q_feed_29 (by decide) ?_
    refine zi_icmp_ge (tgt := 121) hx hb zd_Q_feed_31 (by decide) (by omega) (fun c31 => absurd c31 (by decide)) (fun _ => ?_)
    refine lv_iload hx hb zd_Q_feed_34 (lv_at hl 0 rfl) ?_
    refine zi_iconst hx hb zd_Q_feed_36 ?_
    refine zi_icmp_ge (tgt := 44) hx hb zd_Q_feed_37 (by decide) (by omega) (fun _ => ?_) (fun c37 => absurd c37 (by decide))
    refine lv_iload hx hb zd_Q_feed_44 (lv_at hl 0 rfl) ?_
    refine zi_bipush hx hb zd_Q_feed_46 (by decide) ?_
    refine zi_icmp_ge (tgt := 55) hx hb zd_Q_feed_48 (by decide) (by omega) (fun _ => ?_) (fun c48 => absurd c48 (by decide))
    refine lv_iload hx hb zd_Q_feed_55 (lv_at hl 0 rfl) ?_
    refine zi_bipush hx hb zd_Q_feed_57 (by decide) ?_
    refine zi_icmp_ge (tgt := 66) hx hb zd_Q_feed_59 (by decide) (by omega) (fun c59 => absurd c59 (by decide)) (fun _ => ?_)
    refine lv_iload_n hx hb zd_Q_feed_62 rfl (lv_at hl 5 rfl) ?_
    refine lv_goto (tgt := 80) hx hb zd_Q_feed_63 (by decide) ?_
    refine lv_istore (lv' := [(7, .int (iI (v3))), (6, .int (iI (9))), (0, .ref (qq)), (1, .int (iI (v1))), (2, .int (iI (v2))), (3, .int (iI (v3))), (4, .int (iI (v4))), (5, .int (iI (v5)))]) hx hb zd_Q_feed_80 hl (by decide) rfl (fun ls hl => ?_)
    refine lv_aload_n hx hb zd_Q_feed_82 rfl (lv_at hl 2 rfl) ?_
    refine va_get (D := g.1) (ci := 5) (v := .ref (rf 0)) (C := zR_Q) (T := zT_Q) (N := 21) hx hb hw zin_Q hown hK hP 0 rfl rfl 1 (by decide) (hw _ zw_3_199) (fun _ h9 => h9) rfl zd_Q_feed_83 ?_
    refine lv_aload_n hx hb zd_Q_feed_86 rfl (lv_at hl 2 rfl) ?_
    refine va_get (D := g.1) (ci := 5) (v := .int (iI ((ln + 4 + 4) + 1))) (C := zR_Q) (T := zT_Q) (N := 21) hx hb hw zin_Q hown hK hP 0 rfl rfl 2 (by decide) (hw _ zw_3_200) (fun _ h9 => h9) rfl zd_Q_feed_87 ?_
    refine lv_iload hx hb zd_Q_feed_90 (lv_at hl 0 rfl) ?_
    refine zi_bipush hx hb zd_Q_feed_92 (by decide) ?_
    refine zi_bipush hx hb zd_Q_feed_94 (by decide) ?_
    refine lv_iload hx hb zd_Q_feed_96 (lv_at hl 1 rfl) ?_
    refine zi_iconst hx hb zd_Q_feed_98 ?_
    refine zi_irem hx hb zd_Q_feed_99 (by omega) ?_
    refine zi_imul hx hb zd_Q_feed_100 ?_
    refine zi_isub hx hb zd_Q_feed_101 ?_
    refine lv_ishr hx hb zd_Q_feed_102 ?_
    have hby := zBy_rg v3 16
    have hsb := sB_rg hby
    refine lv_i2b hx hb zd_Q_feed_103 (v := iI (sB (zBy v3 16))) (sB_at (k := 16) (by decide) (by decide)) ?_
    refine zi_bast hx hb hK hP hD hS 1 3 rfl rfl (by omega) hsb zd_Q_feed_104 (fun H locs hP hD hS => ?_)
    have hP : va_P g.1 zCl [(qq, .inr (5, [.int (iI (0)), .ref (rf 0), .int (iI ((ln + 4 + 4) + 1)), .int (iI (pl)), .int (iI (yy)), .int (iI (mm)), .int (iI (dd)), .int (iI (at0)), .ref (rf 1), .ref (rf 2), .ref (rf 3), .ref (rf 4), .ref (rf 5), .ref (rf 6), .int (iI (wa)), .int (iI (on)), .int (iI (tw)), .ref (rf 7), .ref (rf 8), .ref (rf 9), .int (iI (hc))])), (rf 0, .inl (g.2 3, 400, .inl (zaI (zSg (zu (zu (zP4 (zP4 tf ln v1) (ln + 4) v2) (ln + 4 + 4).toNat (zBy v3 24)) ((ln + 4 + 4) + 1).toNat (zBy v3 16))))))] H := (zu_sg (zu (zP4 (zP4 tf ln v1) (ln + 4) v2) (ln + 4 + 4).toNat (zBy v3 24)) ((ln + 4 + 4) + 1).toNat (zBy v3 16)) ▸ hP
    have hD : va_D A [(qq, .inr (5, [.int (iI (0)), .ref (rf 0), .int (iI ((ln + 4 + 4) + 1)), .int (iI (pl)), .int (iI (yy)), .int (iI (mm)), .int (iI (dd)), .int (iI (at0)), .ref (rf 1), .ref (rf 2), .ref (rf 3), .ref (rf 4), .ref (rf 5), .ref (rf 6), .int (iI (wa)), .int (iI (on)), .int (iI (tw)), .ref (rf 7), .ref (rf 8), .ref (rf 9), .int (iI (hc))])), (rf 0, .inl (g.2 3, 400, .inl (zaI (zSg (zu (zu (zP4 (zP4 tf ln v1) (ln + 4) v2) (ln + 4 + 4).toNat (zBy v3 24)) ((ln + 4 + 4) + 1).toNat (zBy v3 16))))))] := (zu_sg (zu (zP4 (zP4 tf ln v1) (ln + 4) v2) (ln + 4 + 4).toNat (zBy v3 24)) ((ln + 4 + 4) + 1).toNat (zBy v3 16)) ▸ hD
    refine lv_aload_n hx hb zd_Q_feed_105 rfl (lv_at hl 2 rfl) ?_
    refine lv_dup hx hb zd_Q_feed_106 rfl ?_
    refine va_get (D := g.1) (ci := 5) (v := .int (iI ((ln + 4 + 4) + 1))) (C := zR_Q) (T := zT_Q) (N := 21) hx hb hw zin_Q hown hK hP 0 rfl rfl 2 (by decide) (hw _ zw_3_200) (fun _ h9 => h9) rfl zd_Q_feed_107 ?_
    refine zi_iconst hx hb zd_Q_feed_110 ?_
    refine zi_iadd hx hb zd_Q_feed_111 ?_
    refine va_put (D := g.1) (ci := 5) (v := .int (iI (((ln + 4 + 4) + 1) + 1))) (ty := .int) (C := zR_Q) (T := zT_Q) (N := 21) hx hb hw zin_Q zt_Q zto_Q zn_Q hown hK hP hD hS 0 rfl rfl 2 (by decide) (hw _ zw_3_200) (fun _ h9 => h9) rfl  (by decide +kernel) rfl rfl (Nat.le_of_ble_eq_true rfl) zd_Q_feed_112 (fun H locs hP hD hS => ?_)
    have hP : va_P g.1 zCl [(qq, .inr (5, [.int (iI (0)), .ref (rf 0), .int (iI (((ln + 4 + 4) + 1) + 1)), .int (iI (pl)), .int (iI (yy)), .int (iI (mm)), .int (iI (dd)), .int (iI (at0)), .ref (rf 1), .ref (rf 2), .ref (rf 3), .ref (rf 4), .ref (rf 5), .ref (rf 6), .int (iI (wa)), .int (iI (on)), .int (iI (tw)), .ref (rf 7), .ref (rf 8), .ref (rf 9), .int (iI (hc))])), (rf 0, .inl (g.2 3, 400, .inl (zaI (zSg (zu (zu (zP4 (zP4 tf ln v1) (ln + 4) v2) (ln + 4 + 4).toNat (zBy v3 24)) ((ln + 4 + 4) + 1).toNat (zBy v3 16))))))] H := hP
    have hD : va_D A [(qq, .inr (5, [.int (iI (0)), .ref (rf 0), .int (iI (((ln + 4 + 4) + 1) + 1)), .int (iI (pl)), .int (iI (yy)), .int (iI (mm)), .int (iI (dd)), .int (iI (at0)), .ref (rf 1), .ref (rf 2), .ref (rf 3), .ref (rf 4), .ref (rf 5), .ref (rf 6), .int (iI (wa)), .int (iI (on)), .int (iI (tw)), .ref (rf 7), .ref (rf 8), .ref (rf 9), .int (iI (hc))])), (rf 0, .inl (g.2 3, 400, .inl (zaI (zSg (zu (zu (zP4 (zP4 tf ln v1) (ln + 4) v2) (ln + 4 + 4).toNat (zBy v3 24)) ((ln + 4 + 4) + 1).toNat (zBy v3 16))))))] := hD
    refine lv_iinc (v := iI (10)) (lv' := [(6, .int (iI (10))), (7, .int (iI (v3))), (0, .ref (qq)), (1, .int (iI (v1))), (2, .int (iI (v2))), (3, .int (iI (v3))), (4, .int (iI (v4))), (5, .int (iI (v5)))]) hx hb zd_Q_feed_115 hl (k := 1) rfl (by decide) (by decide) rfl (fun ls hl => ?_)
    refine lv_goto (tgt := 27) hx hb zd_Q_feed_118 (by decide) ?_
    refine lv_iload hx hb zd_Q_feed_27 (lv_at hl 0 rfl) ?_
    refine zi_bipush hx hb zd_Q_feed_29 (by decide) ?_
    refine zi_icmp_ge (tgt := 121) hx hb zd_Q_feed_31 (by decide) (by omega) (fun c31 => absurd c31 (by decide)) (fun _ => ?_)
    refine lv_iload hx hb zd_Q_feed_34 (lv_at hl 0 rfl) ?_
    refine zi_iconst hx hb zd_Q_feed_36 ?_
    refine zi_icmp_ge (tgt := 44) hx hb zd_Q_feed_37 (by decide) (by omega) (fun _ => ?_) (fun c37 => absurd c37 (by decide))
    refine lv_iload hx hb zd_Q_feed_44 (lv_at hl 0 rfl) ?_
    refine zi_bipush hx hb zd_Q_feed_46 (by decide) ?_
    refine zi_icmp_ge (tgt := 55) hx hb zd_Q_feed_48 (by decide) (by omega) (fun _ => ?_) (fun c48 => absurd c48 (by decide))
    refine lv_iload hx hb zd_Q_feed_55 (lv_at hl 0 rfl) ?_
    refine zi_bipush hx hb zd_Q_feed_57 (by decide) ?_
    refine zi_icmp_ge (tgt := 66) hx hb zd_Q_feed_59 (by decide) (by omega) (fun c59 => absurd c59 (by decide)) (fun _ => ?_)
    refine lv_iload_n hx hb zd_Q_feed_62 rfl (lv_at hl 5 rfl) ?_
    refine lv_goto (tgt := 80) hx hb zd_Q_feed_63 (by decide) ?_
    refine lv_istore (lv' := [(7, .int (iI (v3))), (6, .int (iI (10))), (0, .ref (qq)), (1, .int (iI (v1))), (2, .int (iI (v2))), (3, .int (iI (v3))), (4, .int (iI (v4))), (5, .int (iI (v5)))]) hx hb zd_Q_feed_80 hl (by decide) rfl (fun ls hl => ?_)
    refine lv_aload_n hx hb zd_Q_feed_82 rfl (lv_at hl 2 rfl) ?_
    refine va_get (D := g.1) (ci := 5) (v := .ref (rf 0)) (C := zR_Q) (T := zT_Q) (N := 21) hx hb hw zin_Q hown hK hP 0 rfl rfl 1 (by decide) (hw _ zw_3_199) (fun _ h9 => h9) rfl zd_Q_feed_83 ?_
    refine lv_aload_n hx hb zd_Q_feed_86 rfl (lv_at hl 2 rfl) ?_
    refine va_get (D := g.1) (ci := 5) (v := .int (iI (((ln + 4 + 4) + 1) + 1))) (C := zR_Q) (T := zT_Q) (N := 21) hx hb hw zin_Q hown hK hP 0 rfl rfl 2 (by decide) (hw _ zw_3_200) (fun _ h9 => h9) rfl zd_Q_feed_87 ?_
    refine lv_iload hx hb zd_Q_feed_90 (lv_at hl 0 rfl) ?_
    refine zi_bipush hx hb zd_Q_feed_92 (by decide) ?_
    refine zi_bipush hx hb zd_Q_feed_94 (by decide) ?_
    refine lv_iload hx hb zd_Q_feed_96 (lv_at hl 1 rfl) ?_
    refine zi_iconst hx hb zd_Q_feed_98 ?_
    refine zi_irem hx hb zd_Q_feed_99 (by omega) ?_
    refine zi_imul hx hb zd_Q_feed_100 ?_
    refine zi_isub hx hb zd_Q_feed_101 ?_
    refine lv_ishr hx hb zd_Q_feed_102 ?_
    have hby := zBy_rg v3 8
    have hsb := sB_rg hby
    refine lv_i2b hx hb zd_Q_feed_103 (v := iI (sB (zBy v3 8))) (sB_at (k := 8) (by decide) (by decide)) ?_
    refine zi_bast hx hb hK hP hD hS 1 3 rfl rfl (by omega) hsb zd_Q_feed_104 (fun H locs hP hD hS => ?_)
    have hP : va_P g.1 zCl [(qq, .inr (5, [.int (iI (0)), .ref (rf 0), .int (iI (((ln + 4 + 4) + 1) + 1)), .int (iI (pl)), .int (iI (yy)), .int (iI (mm)), .int (iI (dd)), .int (iI (at0)), .ref (rf 1), .ref (rf 2), .ref (rf 3), .ref (rf 4), .ref (rf 5), .ref (rf 6), .int (iI (wa)), .int (iI (on)), .int (iI (tw)), .ref (rf 7), .ref (rf 8), .ref (rf 9), .int (iI (hc))])), (rf 0, .inl (g.2 3, 400, .inl (zaI (zSg (zu (zu (zu (zP4 (zP4 tf ln v1) (ln + 4) v2) (ln + 4 + 4).toNat (zBy v3 24)) ((ln + 4 + 4) + 1).toNat (zBy v3 16)) (((ln + 4 + 4) + 1) + 1).toNat (zBy v3 8))))))] H := (zu_sg (zu (zu (zP4 (zP4 tf ln v1) (ln + 4) v2) (ln + 4 + 4).toNat (zBy v3 24)) ((ln + 4 + 4) + 1).toNat (zBy v3 16)) (((ln + 4 + 4) + 1) + 1).toNat (zBy v3 8)) ▸ hP
    have hD : va_D A [(qq, .inr (5, [.int (iI (0)), .ref (rf 0), .int (iI (((ln + 4 + 4) + 1) + 1)), .int (iI (pl)), .int (iI (yy)), .int (iI (mm)), .int (iI (dd)), .int (iI (at0)), .ref (rf 1), .ref (rf 2), .ref (rf 3), .ref (rf 4), .ref (rf 5), .ref (rf 6), .int (iI (wa)), .int (iI (on)), .int (iI (tw)), .ref (rf 7), .ref (rf 8), .ref (rf 9), .int (iI (hc))])), (rf 0, .inl (g.2 3, 400, .inl (zaI (zSg (zu (zu (zu (zP4 (zP4 tf ln v1) (ln + 4) v2) (ln + 4 + 4).toNat (zBy v3 24)) ((ln + 4 + 4) + 1).toNat (zBy v3 16)) (((ln + 4 + 4) + 1) + 1).toNat (zBy v3 8))))))] := (zu_sg (zu (zu (zP4 (zP4 tf ln v1) (ln + 4) v2) (ln + 4 + 4).toNat (zBy v3 24)) ((ln + 4 + 4) + 1).toNat (zBy v3 16)) (((ln + 4 + 4) + 1) + 1).toNat (zBy v3 8)) ▸ hD
    refine lv_aload_n hx hb zd_Q_feed_105 rfl (lv_at hl 2 rfl) ?_
    refine lv_dup hx hb zd_Q_feed_106 rfl ?_
    refine va_get (D := g.1) (ci := 5) (v := .int (iI (((ln + 4 + 4) + 1) + 1))) (C := zR_Q) (T := zT_Q) (N := 21) hx hb hw zin_Q hown hK hP 0 rfl rfl 2 (by decide) (hw _ zw_3_200) (fun _ h9 => h9) rfl zd_Q_feed_107 ?_
    refine zi_iconst hx hb zd_Q_feed_110 ?_
    refine zi_iadd hx hb zd_Q_feed_111 ?_
    refine va_put (D := g.1) (ci := 5) (v := .int (iI ((((ln + 4 + 4) + 1) + 1) + 1))) (ty := .int) (C := zR_Q) (T := zT_Q) (N := 21) hx hb hw zin_Q zt_Q zto_Q zn_Q hown hK hP hD hS 0 rfl rfl 2 (by decide) (hw _ zw_3_200) (fun _ h9 => h9) rfl  (by decide +kernel) rfl rfl (Nat.le_of_ble_eq_true rfl) zd_Q_feed_112 (fun H locs hP hD hS => ?_)
    have hP : va_P g.1 zCl [(qq, .inr (5, [.int (iI (0)), .ref (rf 0), .int (iI ((((ln + 4 + 4) + 1) + 1) + 1)), .int (iI (pl)), .int (iI (yy)), .int (iI (mm)), .int (iI (dd)), .int (iI (at0)), .ref (rf 1), .ref (rf 2), .ref (rf 3), .ref (rf 4), .ref (rf 5), .ref (rf 6), .int (iI (wa)), .int (iI (on)), .int (iI (tw)), .ref (rf 7), .ref (rf 8), .ref (rf 9), .int (iI (hc))])), (rf 0, .inl (g.2 3, 400, .inl (zaI (zSg (zu (zu (zu (zP4 (zP4 tf ln v1) (ln + 4) v2) (ln + 4 + 4).toNat (zBy v3 24)) ((ln + 4 + 4) + 1).toNat (zBy v3 16)) (((ln + 4 + 4) + 1) + 1).toNat (zBy v3 8))))))] H := hP
    have hD : va_D A [(qq, .inr (5, [.int (iI (0)), .ref (rf 0), .int (iI ((((ln + 4 + 4) + 1) + 1) + 1)), .int (iI (pl)), .int (iI (yy)), .int (iI (mm)), .int (iI (dd)), .int (iI (at0)), .ref (rf 1), .ref (rf 2), .ref (rf 3), .ref (rf 4), .ref (rf 5), .ref (rf 6), .int (iI (wa)), .int (iI (on)), .int (iI (tw)), .ref (rf 7), .ref (rf 8), .ref (rf 9), .int (iI (hc))])), (rf 0, .inl (g.2 3, 400, .inl (zaI (zSg (zu (zu (zu (zP4 (zP4 tf ln v1) (ln + 4) v2) (ln + 4 + 4).toNat (zBy v3 24)) ((ln + 4 + 4) + 1).toNat (zBy v3 16)) (((ln + 4 + 4) + 1) + 1).toNat (zBy v3 8))))))] := hD
    refine lv_iinc (v := iI (11)) (lv' := [(6, .int (iI (11))), (7, .int (iI (v3))), (0, .ref (qq)), (1, .int (iI (v1))), (2, .int (iI (v2))), (3, .int (iI (v3))), (4, .int (iI (v4))), (5, .int (iI (v5)))]) hx hb zd_Q_feed_115 hl (k := 1) rfl (by decide) (by decide) rfl (fun ls hl => ?_)
    refine lv_goto (tgt := 27) hx hb zd_Q_feed_118 (by decide) ?_
    refine lv_iload hx hb zd_Q_feed_27 (lv_at hl 0 rfl) ?_
    refine zi_bipush hx hb zd_Q_feed_29 (by decide) ?_
    refine zi_icmp_ge (tgt := 121) hx hb zd_Q_feed_31 (by decide) (by omega) (fun c31 => absurd c31 (by decide)) (fun _ => ?_)
    refine lv_iload hx hb zd_Q_feed_34 (lv_at hl 0 rfl) ?_
    refine zi_iconst hx hb zd_Q_feed_36 ?_
    refine zi_icmp_ge (tgt := 44) hx hb zd_Q_feed_37 (by decide) (by omega) (fun _ => ?_) (fun c37 => absurd c37 (by decide))
    refine lv_iload hx hb zd_Q_feed_44 (lv_at hl 0 rfl) ?_
    refine zi_bipush hx hb zd_Q_feed_46 (by decide) ?_
    refine zi_icmp_ge (tgt := 55) hx hb zd_Q_feed_48 (by decide) (by omega) (fun _ => ?_) (fun c48 => absurd c48 (by decide))
    refine lv_iload hx hb zd_Q_feed_55 (lv_at hl 0 rfl) ?_
    refine zi_bipush hx hb zd_Q_feed_57 (by decide) ?_
    refine zi_icmp_ge (tgt := 66) hx hb zd_Q_feed_59 (by decide) (by omega) (fun c59 => absurd c59 (by decide)) (fun _ => ?_)
    refine lv_iload_n hx hb zd_Q_feed_62 rfl (lv_at hl 5 rfl) ?_
    refine lv_goto (tgt := 80) hx hb zd_Q_feed_63 (by decide) ?_
    refine lv_istore (lv' := [(7, .int (iI (v3))), (6, .int (iI (11))), (0, .ref (qq)), (1, .int (iI (v1))), (2, .int (iI (v2))), (3, .int (iI (v3))), (4, .int (iI (v4))), (5, .int (iI (v5)))]) hx hb zd_Q_feed_80 hl (by decide) rfl (fun ls hl => ?_)
    refine lv_aload_n hx hb zd_Q_feed_82 rfl (lv_at hl 2 rfl) ?_
    refine va_get (D := g.1) (ci := 5) (v := .ref (rf 0)) (C := zR_Q) (T := zT_Q) (N := 21) hx hb hw zin_Q hown hK hP 0 rfl rfl 1 (by decide) (hw _ zw_3_199) (fun _ h9 => h9) rfl zd_Q_feed_83 ?_
    refine lv_aload_n hx hb zd_Q_feed_86 rfl (lv_at hl 2 rfl) ?_
    refine va_get (D := g.1) (ci := 5) (v := .int (iI ((((ln + 4 + 4) + 1) + 1) + 1))) (C := zR_Q) (T := zT_Q) (N := 21) hx hb hw zin_Q hown hK hP 0 rfl rfl 2 (by decide) (hw _ zw_3_200) (fun _ h9 => h9) rfl zd_Q_feed_87 ?_
    refine lv_iload hx hb zd_Q_feed_90 (lv_at hl 0 rfl) ?_
    refine zi_bipush hx hb zd_Q_feed_92 (by decide) ?_
    refine zi_bipush hx hb zd_Q_feed_94 (by decide) ?_
    refine lv_iload hx hb zd_Q_feed_96 (lv_at hl 1 rfl) ?_
    refine zi_iconst hx hb zd_Q_feed_98 ?_
    refine zi_irem hx hb zd_Q_feed_99 (by omega) ?_
    refine zi_imul hx hb zd_Q_feed_100 ?_
    refine zi_isub hx hb zd_Q_feed_101 ?_
    refine lv_ishr hx hb zd_Q_feed_102 ?_
    have hby := zBy_rg v3 0
    have hsb := sB_rg hby
    refine lv_i2b hx hb zd_Q_feed_103 (v := iI (sB (zBy v3 0))) (sB_at (k := 0) (by decide) (by decide)) ?_
    refine zi_bast hx hb hK hP hD hS 1 3 rfl rfl (by omega) hsb zd_Q_feed_104 (fun H locs hP hD hS => ?_)
    have hP : va_P g.1 zCl [(qq, .inr (5, [.int (iI (0)), .ref (rf 0), .int (iI ((((ln + 4 + 4) + 1) + 1) + 1)), .int (iI (pl)), .int (iI (yy)), .int (iI (mm)), .int (iI (dd)), .int (iI (at0)), .ref (rf 1), .ref (rf 2), .ref (rf 3), .ref (rf 4), .ref (rf 5), .ref (rf 6), .int (iI (wa)), .int (iI (on)), .int (iI (tw)), .ref (rf 7), .ref (rf 8), .ref (rf 9), .int (iI (hc))])), (rf 0, .inl (g.2 3, 400, .inl (zaI (zSg (zu (zu (zu (zu (zP4 (zP4 tf ln v1) (ln + 4) v2) (ln + 4 + 4).toNat (zBy v3 24)) ((ln + 4 + 4) + 1).toNat (zBy v3 16)) (((ln + 4 + 4) + 1) + 1).toNat (zBy v3 8)) ((((ln + 4 + 4) + 1) + 1) + 1).toNat (zBy v3 0))))))] H := (zu_sg (zu (zu (zu (zP4 (zP4 tf ln v1) (ln + 4) v2) (ln + 4 + 4).toNat (zBy v3 24)) ((ln + 4 + 4) + 1).toNat (zBy v3 16)) (((ln + 4 + 4) + 1) + 1).toNat (zBy v3 8)) ((((ln + 4 + 4) + 1) + 1) + 1).toNat (zBy v3 0)) ▸ hP
    have hD : va_D A [(qq, .inr (5, [.int (iI (0)), .ref (rf 0), .int (iI ((((ln + 4 + 4) + 1) + 1) + 1)), .int (iI (pl)), .int (iI (yy)), .int (iI (mm)), .int (iI (dd)), .int (iI (at0)), .ref (rf 1), .ref (rf 2), .ref (rf 3), .ref (rf 4), .ref (rf 5), .ref (rf 6), .int (iI (wa)), .int (iI (on)), .int (iI (tw)), .ref (rf 7), .ref (rf 8), .ref (rf 9), .int (iI (hc))])), (rf 0, .inl (g.2 3, 400, .inl (zaI (zSg (zu (zu (zu (zu (zP4 (zP4 tf ln v1) (ln + 4) v2) (ln + 4 + 4).toNat (zBy v3 24)) ((ln + 4 + 4) + 1).toNat (zBy v3 16)) (((ln + 4 + 4) + 1) + 1).toNat (zBy v3 8)) ((((ln + 4 + 4) + 1) + 1) + 1).toNat (zBy v3 0))))))] := (zu_sg (zu (zu (zu (zP4 (zP4 tf ln v1) (ln + 4) v2) (ln + 4 + 4).toNat (zBy v3 24)) ((ln + 4 + 4) + 1).toNat (zBy v3 16)) (((ln + 4 + 4) + 1) + 1).toNat (zBy v3 8)) ((((ln + 4 + 4) + 1) + 1) + 1).toNat (zBy v3 0)) ▸ hD
    refine lv_aload_n hx hb zd_Q_feed_105 rfl (lv_at hl 2 rfl) ?_
    refine lv_dup hx hb zd_Q_feed_106 rfl ?_
    refine va_get (D := g.1) (ci := 5) (v := .int (iI ((((ln + 4 + 4) + 1) + 1) + 1))) (C := zR_Q) (T := zT_Q) (N := 21) hx hb hw zin_Q hown hK hP 0 rfl rfl 2 (by decide) (hw _ zw_3_200) (fun _ h9 => h9) rfl zd_Q_feed_107 ?_
    refine zi_iconst hx hb zd_Q_feed_110 ?_
    refine zi_iadd hx hb zd_Q_feed_111 ?_
    refine va_put (D := g.1) (ci := 5) (v := .int (iI (((((ln + 4 + 4) + 1) + 1) + 1) + 1))) (ty := .int) (C := zR_Q) (T := zT_Q) (N := 21) hx hb hw zin_Q zt_Q zto_Q zn_Q hown hK hP hD hS 0 rfl rfl 2 (by decide) (hw _ zw_3_200) (fun _ h9 => h9) rfl  (by decide +kernel) rfl rfl (Nat.le_of_ble_eq_true rfl) zd_Q_feed_112 (fun H locs hP hD hS => ?_)
    have hP : va_P g.1 zCl [(qq, .inr (5, [.int (iI (0)), .ref (rf 0), .int (iI (((((ln + 4 + 4) + 1) + 1) + 1) + 1)), .int (iI (pl)), .int (iI (yy)), .int (iI (mm)), .int (iI (dd)), .int (iI (at0)), .ref (rf 1), .ref (rf 2), .ref (rf 3), .ref (rf 4), .ref (rf 5), .ref (rf 6), .int (iI (wa)), .int (iI (on)), .int (iI (tw)), .ref (rf 7), .ref (rf 8), .ref (rf 9), .int (iI (hc))])), (rf 0, .inl (g.2 3, 400, .inl (zaI (zSg (zu (zu (zu (zu (zP4 (zP4 tf ln v1) (ln + 4) v2) (ln + 4 + 4).toNat (zBy v3 24)) ((ln + 4 + 4) + 1).toNat (zBy v3 16)) (((ln + 4 + 4) + 1) + 1).toNat (zBy v3 8)) ((((ln + 4 + 4) + 1) + 1) + 1).toNat (zBy v3 0))))))] H := hP
    have hD : va_D A [(qq, .inr (5, [.int (iI (0)), .ref (rf 0), .int (iI (((((ln + 4 + 4) + 1) + 1) + 1) + 1)), .int (iI (pl)), .int (iI (yy)), .int (iI (mm)), .int (iI (dd)), .int (iI (at0)), .ref (rf 1), .ref (rf 2), .ref (rf 3), .ref (rf 4), .ref (rf 5), .ref (rf 6), .int (iI (wa)), .int (iI (on)), .int (iI (tw)), .ref (rf 7), .ref (rf 8), .ref (rf 9), .int (iI (hc))])), (rf 0, .inl (g.2 3, 400, .inl (zaI (zSg (zu (zu (zu (zu (zP4 (zP4 tf ln v1) (ln + 4) v2) (ln + 4 + 4).toNat (zBy v3 24)) ((ln + 4 + 4) + 1).toNat (zBy v3 16)) (((ln + 4 + 4) + 1) + 1).toNat (zBy v3 8)) ((((ln + 4 + 4) + 1) + 1) + 1).toNat (zBy v3 0))))))] := hD
    refine lv_iinc (v := iI (12)) (lv' := [(6, .int (iI (12))), (7, .int (iI (v3))), (0, .ref (qq)), (1, .int (iI (v1))), (2, .int (iI (v2))), (3, .int (iI (v3))), (4, .int (iI (v4))), (5, .int (iI (v5)))]) hx hb zd_Q_feed_115 hl (k := 1) rfl (by decide) (by decide) rfl (fun ls hl => ?_)
    refine lv_goto (tgt := 27) hx hb zd_Q_feed_118 (by decide) ?_
    rw [show ln + 4 + 4 + 1 + 1 + 1 + 1 = ln + 4 + 4 + 4 by omega] at hP hD
    have hP : va_P g.1 zCl [(qq, .inr (5, [.int (iI (0)), .ref (rf 0), .int (iI (ln + 4 + 4 + 4)), .int (iI (pl)), .int (iI (yy)), .int (iI (mm)), .int (iI (dd)), .int (iI (at0)), .ref (rf 1), .ref (rf 2), .ref (rf 3), .ref (rf 4), .ref (rf 5), .ref (rf 6), .int (iI (wa)), .int (iI (on)), .int (iI (tw)), .ref (rf 7), .ref (rf 8), .ref (rf 9), .int (iI (hc))])), (rf 0, .inl (g.2 3, 400, .inl (zaI (zSg (zP4 (zP4 (zP4 tf ln v1) (ln + 4) v2) (ln + 4 + 4) v3)))))] H := hP
    have hD : va_D A [(qq, .inr (5, [.int (iI (0)), .ref (rf 0), .int (iI (ln + 4 + 4 + 4)), .int (iI (pl)), .int (iI (yy)), .int (iI (mm)), .int (iI (dd)), .int (iI (at0)), .ref (rf 1), .ref (rf 2), .ref (rf 3), .ref (rf 4), .ref (rf 5), .ref (rf 6), .int (iI (wa)), .int (iI (on)), .int (iI (tw)), .ref (rf 7), .ref (rf 8), .ref (rf 9), .int (iI (hc))])), (rf 0, .inl (g.2 3, 400, .inl (zaI (zSg (zP4 (zP4 (zP4 tf ln v1) (ln + 4) v2) (ln + 4 + 4) v3)))))] := hD
    refine lv_iload hx hb zd_Q_feed_27 (lv_at hl 0 rfl) ?_
    refine zi_bipush hx hb zd_Q_feed_29 (by decide) ?_
    refine zi_icmp_ge (tgt := 121) hx hb zd_Q_feed_31 (by decide) (by omega) (fun c31 => absurd c31 (by decide)) (fun _ => ?_)
    refine lv_iload hx hb zd_Q_feed_34 (lv_at hl 0 rfl) ?_
    refine zi_iconst hx hb zd_Q_feed_36 ?_
    refine zi_icmp_ge (tgt := 44) hx hb zd_Q_feed_37 (by decide) (by omega) (fun _ => ?_) (fun c37 => absurd c37 (by decide))
    refine lv_iload hx hb zd_Q_feed_44 (lv_at hl 0 rfl) ?_
    refine zi_bipush hx hb zd_Q_feed_46 (by decide) ?_
    refine zi_icmp_ge (tgt := 55) hx hb zd_Q_feed_48 (by decide) (by omega) (fun _ => ?_) (fun c48 => absurd c48 (by decide))
    refine lv_iload hx hb zd_Q_feed_55 (lv_at hl 0 rfl) ?_
    refine zi_bipush hx hb zd_Q_feed_57 (by decide) ?_
    refine zi_icmp_ge (tgt := 66) hx hb zd_Q_feed_59 (by decide) (by omega) (fun _ => ?_) (fun c59 => absurd c59 (by decide))
    refine lv_iload hx hb zd_Q_feed_66 (lv_at hl 0 rfl) ?_
    refine zi_bipush hx hb zd_Q_feed_68 (by decide) ?_
    refine zi_icmp_ge (tgt := 78) hx hb zd_Q_feed_70 (by decide) (by omega) (fun c70 => absurd c70 (by decide)) (fun _ => ?_)
    refine lv_iload hx hb zd_Q_feed_73 (lv_at hl 6 rfl) ?_
    refine lv_goto (tgt := 80) hx hb zd_Q_feed_75 (by decide) ?_
    refine lv_istore (lv' := [(7, .int (iI (v4))), (6, .int (iI (12))), (0, .ref (qq)), (1, .int (iI (v1))), (2, .int (iI (v2))), (3, .int (iI (v3))), (4, .int (iI (v4))), (5, .int (iI (v5)))]) hx hb zd_Q_feed_80 hl (by decide) rfl (fun ls hl => ?_)
    refine lv_aload_n hx hb zd_Q_feed_82 rfl (lv_at hl 2 rfl) ?_
    refine va_get (D := g.1) (ci := 5) (v := .ref (rf 0)) (C := zR_Q) (T := zT_Q) (N := 21) hx hb hw zin_Q hown hK hP 0 rfl rfl 1 (by decide) (hw _ zw_3_199) (fun _ h9 => h9) rfl zd_Q_feed_83 ?_
    refine lv_aload_n hx hb zd_Q_feed_86 rfl (lv_at hl 2 rfl) ?_
    refine va_get (D := g.1) (ci := 5) (v := .int (iI (ln + 4 + 4 + 4))) (C := zR_Q) (T := zT_Q) (N := 21) hx hb hw zin_Q hown hK hP 0 rfl rfl 2 (by decide) (hw _ zw_3_200) (fun _ h9 => h9) rfl zd_Q_feed_87 ?_
    refine lv_iload hx hb zd_Q_feed_90 (lv_at hl 0 rfl) ?_
    refine zi_bipush hx hb zd_Q_feed_92 (by decide) ?_
    refine zi_bipush hx hb zd_Q_feed_94 (by decide) ?_
    refine lv_iload hx hb zd_Q_feed_96 (lv_at hl 1 rfl) ?_
    refine zi_iconst hx hb zd_Q_feed_98 ?_
    refine zi_irem hx hb zd_Q_feed_99 (by omega) ?_
    refine zi_imul hx hb zd_Q_feed_100 ?_
    refine zi_isub hx hb zd_Q_feed_101 ?_
    refine lv_ishr hx hb zd_Q_feed_102 ?_
    have hby := zBy_rg v4 24
    have hsb := sB_rg hby
    refine lv_i2b hx hb zd_Q_feed_103 (v := iI (sB (zBy v4 24))) (sB_at (k := 24) (by decide) (by decide)) ?_
    refine zi_bast hx hb hK hP hD hS 1 3 rfl rfl (by omega) hsb zd_Q_feed_104 (fun H locs hP hD hS => ?_)
    have hP : va_P g.1 zCl [(qq, .inr (5, [.int (iI (0)), .ref (rf 0), .int (iI (ln + 4 + 4 + 4)), .int (iI (pl)), .int (iI (yy)), .int (iI (mm)), .int (iI (dd)), .int (iI (at0)), .ref (rf 1), .ref (rf 2), .ref (rf 3), .ref (rf 4), .ref (rf 5), .ref (rf 6), .int (iI (wa)), .int (iI (on)), .int (iI (tw)), .ref (rf 7), .ref (rf 8), .ref (rf 9), .int (iI (hc))])), (rf 0, .inl (g.2 3, 400, .inl (zaI (zSg (zu (zP4 (zP4 (zP4 tf ln v1) (ln + 4) v2) (ln + 4 + 4) v3) (ln + 4 + 4 + 4).toNat (zBy v4 24))))))] H := (zu_sg (zP4 (zP4 (zP4 tf ln v1) (ln + 4) v2) (ln + 4 + 4) v3) (ln + 4 + 4 + 4).toNat (zBy v4 24)) ▸ hP
    have hD : va_D A [(qq, .inr (5, [.int (iI (0)), .ref (rf 0), .int (iI (ln + 4 + 4 + 4)), .int (iI (pl)), .int (iI (yy)), .int (iI (mm)), .int (iI (dd)), .int (iI (at0)), .ref (rf 1), .ref (rf 2), .ref (rf 3), .ref (rf 4), .ref (rf 5), .ref (rf 6), .int (iI (wa)), .int (iI (on)), .int (iI (tw)), .ref (rf 7), .ref (rf 8), .ref (rf 9), .int (iI (hc))])), (rf 0, .inl (g.2 3, 400, .inl (zaI (zSg (zu (zP4 (zP4 (zP4 tf ln v1) (ln + 4) v2) (ln + 4 + 4) v3) (ln + 4 + 4 + 4).toNat (zBy v4 24))))))] := (zu_sg (zP4 (zP4 (zP4 tf ln v1) (ln + 4) v2) (ln + 4 + 4) v3) (ln + 4 + 4 + 4).toNat (zBy v4 24)) ▸ hD
    refine lv_aload_n hx hb zd_Q_feed_105 rfl (lv_at hl 2 rfl) ?_
    refine lv_dup hx hb zd_Q_feed_106 rfl ?_
    refine va_get (D := g.1) (ci := 5) (v := .int (iI (ln + 4 + 4 + 4))) (C := zR_Q) (T := zT_Q) (N := 21) hx hb hw zin_Q hown hK hP 0 rfl rfl 2 (by decide) (hw _ zw_3_200) (fun _ h9 => h9) rfl zd_Q_feed_107 ?_
    refine zi_iconst hx hb zd_Q_feed_110 ?_
    refine zi_iadd hx hb zd_Q_feed_111 ?_
    refine va_put (D := g.1) (ci := 5) (v := .int (iI ((ln + 4 + 4 + 4) + 1))) (ty := .int) (C := zR_Q) (T := zT_Q) (N := 21) hx hb hw zin_Q zt_Q zto_Q zn_Q hown hK hP hD hS 0 rfl rfl 2 (by decide) (hw _ zw_3_200) (fun _ h9 => h9) rfl  (by decide +kernel) rfl rfl (Nat.le_of_ble_eq_true rfl) zd_Q_feed_112 (fun H locs hP hD hS => ?_)
    have hP : va_P g.1 zCl [(qq, .inr (5, [.int (iI (0)), .ref (rf 0), .int (iI ((ln + 4 + 4 + 4) + 1)), .int (iI (pl)), .int (iI (yy)), .int (iI (mm)), .int (iI (dd)), .int (iI (at0)), .ref (rf 1), .ref (rf 2), .ref (rf 3), .ref (rf 4), .ref (rf 5), .ref (rf 6), .int (iI (wa)), .int (iI (on)), .int (iI (tw)), .ref (rf 7), .ref (rf 8), .ref (rf 9), .int (iI (hc))])), (rf 0, .inl (g.2 3, 400, .inl (zaI (zSg (zu (zP4 (zP4 (zP4 tf ln v1) (ln + 4) v2) (ln + 4 + 4) v3) (ln + 4 + 4 + 4).toNat (zBy v4 24))))))] H := hP
    have hD : va_D A [(qq, .inr (5, [.int (iI (0)), .ref (rf 0), .int (iI ((ln + 4 + 4 + 4) + 1)), .int (iI (pl)), .int (iI (yy)), .int (iI (mm)), .int (iI (dd)), .int (iI (at0)), .ref (rf 1), .ref (rf 2), .ref (rf 3), .ref (rf 4), .ref (rf 5), .ref (rf 6), .int (iI (wa)), .int (iI (on)), .int (iI (tw)), .ref (rf 7), .ref (rf 8), .ref (rf 9), .int (iI (hc))])), (rf 0, .inl (g.2 3, 400, .inl (zaI (zSg (zu (zP4 (zP4 (zP4 tf ln v1) (ln + 4) v2) (ln + 4 + 4) v3) (ln + 4 + 4 + 4).toNat (zBy v4 24))))))] := hD
    refine lv_iinc (v := iI (13)) (lv' := [(6, .int (iI (13))), (7, .int (iI (v4))), (0, .ref (qq)), (1, .int (iI (v1))), (2, .int (iI (v2))), (3, .int (iI (v3))), (4, .int (iI (v4))), (5, .int (iI (v5)))]) hx hb zd_Q_feed_115 hl (k := 1) rfl (by decide) (by decide) rfl (fun ls hl => ?_)
    refine lv_goto (tgt := 27) hx hb zd_Q_feed_118 (by decide) ?_
    refine lv_iload hx hb zd_Q_feed_27 (lv_at hl 0 rfl) ?_
    refine zi_bipush hx hb zd_Q_feed_29 (by decide) ?_
    refine zi_icmp_ge (tgt := 121) hx hb zd_Q_feed_31 (by decide) (by omega) (fun c31 => absurd c31 (by decide)) (fun _ => ?_)
    refine lv_iload hx hb zd_Q_feed_34 (lv_at hl 0 rfl) ?_
    refine zi_iconst hx hb zd_Q_feed_36 ?_
    refine zi_icmp_ge (tgt := 44) hx hb zd_Q_feed_37 (by decide) (by omega) (fun _ => ?_) (fun c37 => absurd c37 (by decide))
    refine lv_iload hx hb zd_Q_feed_44 (lv_at hl 0 rfl) ?_
    refine zi_bipush hx hb zd_Q_feed_46 (by decide) ?_
    refine zi_icmp_ge (tgt := 55) hx hb zd_Q_feed_48 (by decide) (by omega) (fun _ => ?_) (fun c48 => absurd c48 (by decide))
    refine lv_iload hx hb zd_Q_feed_55 (lv_at hl 0 rfl) ?_
    refine zi_bipush hx hb zd_Q_feed_57 (by decide) ?_
    refine zi_icmp_ge (tgt := 66) hx hb zd_Q_feed_59 (by decide) (by omega) (fun _ => ?_) (fun c59 => absurd c59 (by decide))
    refine lv_iload hx hb zd_Q_feed_66 (lv_at hl 0 rfl) ?_
    refine zi_bipush hx hb zd_Q_feed_68 (by decide) ?_
    refine zi_icmp_ge (tgt := 78) hx hb zd_Q_feed_70 (by decide) (by omega) (fun c70 => absurd c70 (by decide)) (fun _ => ?_)
    refine lv_iload hx hb zd_Q_feed_73 (lv_at hl 6 rfl) ?_
    refine lv_goto (tgt := 80) hx hb zd_Q_feed_75 (by decide) ?_
    refine lv_istore (lv' := [(7, .int (iI (v4))), (6, .int (iI (13))), (0, .ref (qq)), (1, .int (iI (v1))), (2, .int (iI (v2))), (3, .int (iI (v3))), (4, .int (iI (v4))), (5, .int (iI (v5)))]) hx hb zd_Q_feed_80 hl (by decide) rfl (fun ls hl => ?_)
    refine lv_aload_n hx hb zd_Q_feed_82 rfl (lv_at hl 2 rfl) ?_
    refine va_get (D := g.1) (ci := 5) (v := .ref (rf 0)) (C := zR_Q) (T := zT_Q) (N := 21) hx hb hw zin_Q hown hK hP 0 rfl rfl 1 (by decide) (hw _ zw_3_199) (fun _ h9 => h9) rfl zd_Q_feed_83 ?_
    refine lv_aload_n hx hb zd_Q_feed_86 rfl (lv_at hl 2 rfl) ?_
    refine va_get (D := g.1) (ci := 5) (v := .int (iI ((ln + 4 + 4 + 4) + 1))) (C := zR_Q) (T := zT_Q) (N := 21) hx hb hw zin_Q hown hK hP 0 rfl rfl 2 (by decide) (hw _ zw_3_200) (fun _ h9 => h9) rfl zd_Q_feed_87 ?_
    refine lv_iload hx hb zd_Q_feed_90 (lv_at hl 0 rfl) ?_
    refine zi_bipush hx hb zd_Q_feed_92 (by decide) ?_
    refine zi_bipush hx hb zd_Q_feed_94 (by decide) ?_
    refine lv_iload hx hb zd_Q_feed_96 (lv_at hl 1 rfl) ?_
    refine zi_iconst hx hb zd_Q_feed_98 ?_
    refine zi_irem hx hb zd_Q_feed_99 (by omega) ?_
    refine zi_imul hx hb zd_Q_feed_100 ?_
    refine zi_isub hx hb zd_Q_feed_101 ?_
    refine lv_ishr hx hb zd_Q_feed_102 ?_
    have hby := zBy_rg v4 16
    have hsb := sB_rg hby
    refine lv_i2b hx hb zd_Q_feed_103 (v := iI (sB (zBy v4 16))) (sB_at (k := 16) (by decide) (by decide)) ?_
    refine zi_bast hx hb hK hP hD hS 1 3 rfl rfl (by omega) hsb zd_Q_feed_104 (fun H locs hP hD hS => ?_)
    have hP : va_P g.1 zCl [(qq, .inr (5, [.int (iI (0)), .ref (rf 0), .int (iI ((ln + 4 + 4 + 4) + 1)), .int (iI (pl)), .int (iI (yy)), .int (iI (mm)), .int (iI (dd)), .int (iI (at0)), .ref (rf 1), .ref (rf 2), .ref (rf 3), .ref (rf 4), .ref (rf 5), .ref (rf 6), .int (iI (wa)), .int (iI (on)), .int (iI (tw)), .ref (rf 7), .ref (rf 8), .ref (rf 9), .int (iI (hc))])), (rf 0, .inl (g.2 3, 400, .inl (zaI (zSg (zu (zu (zP4 (zP4 (zP4 tf ln v1) (ln + 4) v2) (ln + 4 + 4) v3) (ln + 4 + 4 + 4).toNat (zBy v4 24)) ((ln + 4 + 4 + 4) + 1).toNat (zBy v4 16))))))] H := (zu_sg (zu (zP4 (zP4 (zP4 tf ln v1) (ln + 4) v2) (ln + 4 + 4) v3) (ln + 4 + 4 + 4).toNat (zBy v4 24)) ((ln + 4 + 4 + 4) + 1).toNat (zBy v4 16)) ▸ hP
    have hD : va_D A [(qq, .inr (5, [.int (iI (0)), .ref (rf 0), .int (iI ((ln + 4 + 4 + 4) + 1)), .int (iI (pl)), .int (iI (yy)), .int (iI (mm)), .int (iI (dd)), .int (iI (at0)), .ref (rf 1), .ref (rf 2), .ref (rf 3), .ref (rf 4), .ref (rf 5), .ref (rf 6), .int (iI (wa)), .int (iI (on)), .int (iI (tw)), .ref (rf 7), .ref (rf 8), .ref (rf 9), .int (iI (hc))])), (rf 0, .inl (g.2 3, 400, .inl (zaI (zSg (zu (zu (zP4 (zP4 (zP4 tf ln v1) (ln + 4) v2) (ln + 4 + 4) v3) (ln + 4 + 4 + 4).toNat (zBy v4 24)) ((ln + 4 + 4 + 4) + 1).toNat (zBy v4 16))))))] := (zu_sg (zu (zP4 (zP4 (zP4 tf ln v1) (ln + 4) v2) (ln + 4 + 4) v3) (ln + 4 + 4 + 4).toNat (zBy v4 24)) ((ln + 4 + 4 + 4) + 1).toNat (zBy v4 16)) ▸ hD
    refine lv_aload_n hx hb zd_Q_feed_105 rfl (lv_at hl 2 rfl) ?_
    refine lv_dup hx hb zd_Q_feed_106 rfl ?_
    refine va_get (D := g.1) (ci := 5) (v := .int (iI ((ln + 4 + 4 + 4) + 1))) (C := zR_Q) (T := zT_Q) (N := 21) hx hb hw zin_Q hown hK hP 0 rfl rfl 2 (by decide) (hw _ zw_3_200) (fun _ h9 => h9) rfl zd_Q_feed_107 ?_
    refine zi_iconst hx hb zd_Q_feed_110 ?_
    refine zi_iadd hx hb zd_Q_feed_111 ?_
    refine va_put (D := g.1) (ci := 5) (v := .int (iI (((ln + 4 + 4 + 4) + 1) + 1))) (ty := .int) (C := zR_Q) (T := zT_Q) (N := 21) hx hb hw zin_Q zt_Q zto_Q zn_Q hown hK hP hD hS 0 rfl rfl 2 (by decide) (hw _ zw_3_200) (fun _ h9 => h9) rfl  (by decide +kernel) rfl rfl (Nat.le_of_ble_eq_true rfl) zd_Q_feed_112 (fun H locs hP hD hS => ?_)
    have hP : va_P g.1 zCl [(qq, .inr (5, [.int (iI (0)), .ref (rf 0), .int (iI (((ln + 4 + 4 + 4) + 1) + 1)), .int (iI (pl)), .int (iI (yy)), .int (iI (mm)), .int (iI (dd)), .int (iI (at0)), .ref (rf 1), .ref (rf 2), .ref (rf 3), .ref (rf 4), .ref (rf 5), .ref (rf 6), .int (iI (wa)), .int (iI (on)), .int (iI (tw)), .ref (rf 7), .ref (rf 8), .ref (rf 9), .int (iI (hc))])), (rf 0, .inl (g.2 3, 400, .inl (zaI (zSg (zu (zu (zP4 (zP4 (zP4 tf ln v1) (ln + 4) v2) (ln + 4 + 4) v3) (ln + 4 + 4 + 4).toNat (zBy v4 24)) ((ln + 4 + 4 + 4) + 1).toNat (zBy v4 16))))))] H := hP
    have hD : va_D A [(qq, .inr (5, [.int (iI (0)), .ref (rf 0), .int (iI (((ln + 4 + 4 + 4) + 1) + 1)), .int (iI (pl)), .int (iI (yy)), .int (iI (mm)), .int (iI (dd)), .int (iI (at0)), .ref (rf 1), .ref (rf 2), .ref (rf 3), .ref (rf 4), .ref (rf 5), .ref (rf 6), .int (iI (wa)), .int (iI (on)), .int (iI (tw)), .ref (rf 7), .ref (rf 8), .ref (rf 9), .int (iI (hc))])), (rf 0, .inl (g.2 3, 400, .inl (zaI (zSg (zu (zu (zP4 (zP4 (zP4 tf ln v1) (ln + 4) v2) (ln + 4 + 4) v3) (ln + 4 + 4 + 4).toNat (zBy v4 24)) ((ln + 4 + 4 + 4) + 1).toNat (zBy v4 16))))))] := hD
    refine lv_iinc (v := iI (14)) (lv' := [(6, .int (iI (14))), (7, .int (iI (v4))), (0, .ref (qq)), (1, .int (iI (v1))), (2, .int (iI (v2))), (3, .int (iI (v3))), (4, .int (iI (v4))), (5, .int (iI (v5)))]) hx hb zd_Q_feed_115 hl (k := 1) rfl (by decide) (by decide) rfl (fun ls hl => ?_)
    refine lv_goto (tgt := 27) hx hb zd_Q_feed_118 (by decide) ?_
    refine lv_iload hx hb zd_Q_feed_27 (lv_at hl 0 rfl) ?_
    refine zi_bipush hx hb zd_Q_feed_29 (by decide) ?_
    refine zi_icmp_ge (tgt := 121) hx hb zd_Q_feed_31 (by decide) (by omega) (fun c31 => absurd c31 (by decide)) (fun _ => ?_)
    refine lv_iload hx hb zd_Q_feed_34 (lv_at hl 0 rfl) ?_
    refine zi_iconst hx hb zd_Q_feed_36 ?_
    refine zi_icmp_ge (tgt := 44) hx hb zd_Q_feed_37 (by decide) (by omega) (fun _ => ?_) (fun c37 => absurd c37 (by decide))
    refine lv_iload hx hb zd_Q_feed_44 (lv_at hl 0 rfl) ?_
    refine zi_bipush hx hb zd_Q_feed_46 (by decide) ?_
    refine zi_icmp_ge (tgt := 55) hx hb zd_Q_feed_48 (by decide) (by omega) (fun _ => ?_) (fun c48 => absurd c48 (by decide))
    refine lv_iload hx hb zd_Q_feed_55 (lv_at hl 0 rfl) ?_
    refine zi_bipush hx hb zd_Q_feed_57 (by decide) ?_
    refine zi_icmp_ge (tgt := 66) hx hb zd_Q_feed_59 (by decide) (by omega) (fun _ => ?_) (fun c59 => absurd c59 (by decide))
    refine lv_iload hx hb zd_Q_feed_66 (lv_at hl 0 rfl) ?_
    refine zi_bipush hx hb zd_Q_feed_68 (by decide) ?_
    refine zi_icmp_ge (tgt := 78) hx hb zd_Q_feed_70 (by decide) (by omega) (fun c70 => absurd c70 (by decide)) (fun _ => ?_)
    refine lv_iload hx hb zd_Q_feed_73 (lv_at hl 6 rfl) ?_
    refine lv_goto (tgt := 80) hx hb zd_Q_feed_75 (by decide) ?_
    refine lv_istore (lv' := [(7, .int (iI (v4))), (6, .int (iI (14))), (0, .ref (qq)), (1, .int (iI (v1))), (2, .int (iI (v2))), (3, .int (iI (v3))), (4, .int (iI (v4))), (5, .int (iI (v5)))]) hx hb zd_Q_feed_80 hl (by decide) rfl (fun ls hl => ?_)
    refine lv_aload_n hx hb zd_Q_feed_82 rfl (lv_at hl 2 rfl) ?_
    refine va_get (D := g.1) (ci := 5) (v := .ref (rf 0)) (C := zR_Q) (T := zT_Q) (N := 21) hx hb hw zin_Q hown hK hP 0 rfl rfl 1 (by decide) (hw _ zw_3_199) (fun _ h9 => h9) rfl zd_Q_feed_83 ?_
    refine lv_aload_n hx hb zd_Q_feed_86 rfl (lv_at hl 2 rfl) ?_
    refine va_get (D := g.1) (ci := 5) (v := .int (iI (((ln + 4 + 4 + 4) + 1) + 1))) (C := zR_Q) (T := zT_Q) (N := 21) hx hb hw zin_Q hown hK hP 0 rfl rfl 2 (by decide) (hw _ zw_3_200) (fun _ h9 => h9) rfl zd_Q_feed_87 ?_
    refine lv_iload hx hb zd_Q_feed_90 (lv_at hl 0 rfl) ?_
    refine zi_bipush hx hb zd_Q_feed_92 (by decide) ?_
    refine zi_bipush hx hb zd_Q_feed_94 (by decide) ?_
    refine lv_iload hx hb zd_Q_feed_96 (lv_at hl 1 rfl) ?_
    refine zi_iconst hx hb zd_Q_feed_98 ?_
    refine zi_irem hx hb zd_Q_feed_99 (by omega) ?_
    refine zi_imul hx hb zd_Q_feed_100 ?_
    refine zi_isub hx hb zd_Q_feed_101 ?_
    refine lv_ishr hx hb zd_Q_feed_102 ?_
    have hby := zBy_rg v4 8
    have hsb := sB_rg hby
    refine lv_i2b hx hb zd_Q_feed_103 (v := iI (sB (zBy v4 8))) (sB_at (k := 8) (by decide) (by decide)) ?_
    refine zi_bast hx hb hK hP hD hS 1 3 rfl rfl (by omega) hsb zd_Q_feed_104 (fun H locs hP hD hS => ?_)
    have hP : va_P g.1 zCl [(qq, .inr (5, [.int (iI (0)), .ref (rf 0), .int (iI (((ln + 4 + 4 + 4) + 1) + 1)), .int (iI (pl)), .int (iI (yy)), .int (iI (mm)), .int (iI (dd)), .int (iI (at0)), .ref (rf 1), .ref (rf 2), .ref (rf 3), .ref (rf 4), .ref (rf 5), .ref (rf 6), .int (iI (wa)), .int (iI (on)), .int (iI (tw)), .ref (rf 7), .ref (rf 8), .ref (rf 9), .int (iI (hc))])), (rf 0, .inl (g.2 3, 400, .inl (zaI (zSg (zu (zu (zu (zP4 (zP4 (zP4 tf ln v1) (ln + 4) v2) (ln + 4 + 4) v3) (ln + 4 + 4 + 4).toNat (zBy v4 24)) ((ln + 4 + 4 + 4) + 1).toNat (zBy v4 16)) (((ln + 4 + 4 + 4) + 1) + 1).toNat (zBy v4 8))))))] H := (zu_sg (zu (zu (zP4 (zP4 (zP4 tf ln v1) (ln + 4) v2) (ln + 4 + 4) v3) (ln + 4 + 4 + 4).toNat (zBy v4 24)) ((ln + 4 + 4 + 4) + 1).toNat (zBy v4 16)) (((ln + 4 + 4 + 4) + 1) + 1).toNat (zBy v4 8)) ▸ hP
    have hD : va_D A [(qq, .inr (5, [.int (iI (0)), .ref (rf 0), .int (iI (((ln + 4 + 4 + 4) + 1) + 1)), .int (iI (pl)), .int (iI (yy)), .int (iI (mm)), .int (iI (dd)), .int (iI (at0)), .ref (rf 1), .ref (rf 2), .ref (rf 3), .ref (rf 4), .ref (rf 5), .ref (rf 6), .int (iI (wa)), .int (iI (on)), .int (iI (tw)), .ref (rf 7), .ref (rf 8), .ref (rf 9), .int (iI (hc))])), (rf 0, .inl (g.2 3, 400, .inl (zaI (zSg (zu (zu (zu (zP4 (zP4 (zP4 tf ln v1) (ln + 4) v2) (ln + 4 + 4) v3) (ln + 4 + 4 + 4).toNat (zBy v4 24)) ((ln + 4 + 4 + 4) + 1).toNat (zBy v4 16)) (((ln + 4 + 4 + 4) + 1) + 1).toNat (zBy v4 8))))))] := (zu_sg (zu (zu (zP4 (zP4 (zP4 tf ln v1) (ln + 4) v2) (ln + 4 + 4) v3) (ln + 4 + 4 + 4).toNat (zBy v4 24)) ((ln + 4 + 4 + 4) + 1).toNat (zBy v4 16)) (((ln + 4 + 4 + 4) + 1) + 1).toNat (zBy v4 8)) ▸ hD
    refine lv_aload_n hx hb zd_Q_feed_105 rfl (lv_at hl 2 rfl) ?_
    refine lv_dup hx hb zd_Q_feed_106 rfl ?_
    refine va_get (D := g.1) (ci := 5) (v := .int (iI (((ln + 4 + 4 + 4) + 1) + 1))) (C := zR_Q) (T := zT_Q) (N := 21) hx hb hw zin_Q hown hK hP 0 rfl rfl 2 (by decide) (hw _ zw_3_200) (fun _ h9 => h9) rfl zd_Q_feed_107 ?_
    refine zi_iconst hx hb zd_Q_feed_110 ?_
    refine zi_iadd hx hb zd_Q_feed_111 ?_
    refine va_put (D := g.1) (ci := 5) (v := .int (iI ((((ln + 4 + 4 + 4) + 1) + 1) + 1))) (ty := .int) (C := zR_Q) (T := zT_Q) (N := 21) hx hb hw zin_Q zt_Q zto_Q zn_Q hown hK hP hD hS 0 rfl rfl 2 (by decide) (hw _ zw_3_200) (fun _ h9 => h9) rfl  (by decide +kernel) rfl rfl (Nat.le_of_ble_eq_true rfl) zd_Q_feed_112 (fun H locs hP hD hS => ?_)
    have hP : va_P g.1 zCl [(qq, .inr (5, [.int (iI (0)), .ref (rf 0), .int (iI ((((ln + 4 + 4 + 4) + 1) + 1) + 1)), .int (iI (pl)), .int (iI (yy)), .int (iI (mm)), .int (iI (dd)), .int (iI (at0)), .ref (rf 1), .ref (rf 2), .ref (rf 3), .ref (rf 4), .ref (rf 5), .ref (rf 6), .int (iI (wa)), .int (iI (on)), .int (iI (tw)), .ref (rf 7), .ref (rf 8), .ref (rf 9), .int (iI (hc))])), (rf 0, .inl (g.2 3, 400, .inl (zaI (zSg (zu (zu (zu (zP4 (zP4 (zP4 tf ln v1) (ln + 4) v2) (ln + 4 + 4) v3) (ln + 4 + 4 + 4).toNat (zBy v4 24)) ((ln + 4 + 4 + 4) + 1).toNat (zBy v4 16)) (((ln + 4 + 4 + 4) + 1) + 1).toNat (zBy v4 8))))))] H := hP
    have hD : va_D A [(qq, .inr (5, [.int (iI (0)), .ref (rf 0), .int (iI ((((ln + 4 + 4 + 4) + 1) + 1) + 1)), .int (iI (pl)), .int (iI (yy)), .int (iI (mm)), .int (iI (dd)), .int (iI (at0)), .ref (rf 1), .ref (rf 2), .ref (rf 3), .ref (rf 4), .ref (rf 5), .ref (rf 6), .int (iI (wa)), .int (iI (on)), .int (iI (tw)), .ref (rf 7), .ref (rf 8), .ref (rf 9), .int (iI (hc))])), (rf 0, .inl (g.2 3, 400, .inl (zaI (zSg (zu (zu (zu (zP4 (zP4 (zP4 tf ln v1) (ln + 4) v2) (ln + 4 + 4) v3) (ln + 4 + 4 + 4).toNat (zBy v4 24)) ((ln + 4 + 4 + 4) + 1).toNat (zBy v4 16)) (((ln + 4 + 4 + 4) + 1) + 1).toNat (zBy v4 8))))))] := hD
    refine lv_iinc (v := iI (15)) (lv' := [(6, .int (iI (15))), (7, .int (iI (v4))), (0, .ref (qq)), (1, .int (iI (v1))), (2, .int (iI (v2))), (3, .int (iI (v3))), (4, .int (iI (v4))), (5, .int (iI (v5)))]) hx hb zd_Q_feed_115 hl (k := 1) rfl (by decide) (by decide) rfl (fun ls hl => ?_)
    refine lv_goto (tgt := 27) hx hb zd_Q_feed_118 (by decide) ?_
    refine lv_iload hx hb zd_Q_feed_27 (lv_at hl 0 rfl) ?_
    refine zi_bipush hx hb zd_Q_feed_29 (by decide) ?_
    refine zi_icmp_ge (tgt := 121) hx hb zd_Q_feed_31 (by decide) (by omega) (fun c31 => absurd c31 (by decide)) (fun _ => ?_)
    refine lv_iload hx hb zd_Q_feed_34 (lv_at hl 0 rfl) ?_
    refine zi_iconst hx hb zd_Q_feed_36 ?_
    refine zi_icmp_ge (tgt := 44) hx hb zd_Q_feed_37 (by decide) (by omega) (fun _ => ?_) (fun c37 => absurd c37 (by decide))
    refine lv_iload hx hb zd_Q_feed_44 (lv_at hl 0 rfl) ?_
    refine zi_bipush hx hb zd_Q_feed_46 (by decide) ?_
    refine zi_icmp_ge (tgt := 55) hx hb zd_Q_feed_48 (by decide) (by omega) (fun _ => ?_) (fun c48 => absurd c48 (by decide))
    refine lv_iload hx hb zd_Q_feed_55 (lv_at hl 0 rfl) ?_
    refine zi_bipush hx hb zd_Q_feed_57 (by decide) ?_
    refine zi_icmp_ge (tgt := 66) hx hb zd_Q_feed_59 (by decide) (by omega) (fun _ => ?_) (fun c59 => absurd c59 (by decide))
    refine lv_iload hx hb zd_Q_feed_66 (lv_at hl 0 rfl) ?_
    refine zi_bipush hx hb zd_Q_feed_68 (by decide) ?_
    refine zi_icmp_ge (tgt := 78) hx hb zd_Q_feed_70 (by decide) (by omega) (fun c70 => absurd c70 (by decide)) (fun _ => ?_)
    refine lv_iload hx hb zd_Q_feed_73 (lv_at hl 6 rfl) ?_
    refine lv_goto (tgt := 80) hx hb zd_Q_feed_75 (by decide) ?_
    refine lv_istore (lv' := [(7, .int (iI (v4))), (6, .int (iI (15))), (0, .ref (qq)), (1, .int (iI (v1))), (2, .int (iI (v2))), (3, .int (iI (v3))), (4, .int (iI (v4))), (5, .int (iI (v5)))]) hx hb zd_Q_feed_80 hl (by decide) rfl (fun ls hl => ?_)
    refine lv_aload_n hx hb zd_Q_feed_82 rfl (lv_at hl 2 rfl) ?_
    refine va_get (D := g.1) (ci := 5) (v := .ref (rf 0)) (C := zR_Q) (T := zT_Q) (N := 21) hx hb hw zin_Q hown hK hP 0 rfl rfl 1 (by decide) (hw _ zw_3_199) (fun _ h9 => h9) rfl zd_Q_feed_83 ?_
    refine lv_aload_n hx hb zd_Q_feed_86 rfl (lv_at hl 2 rfl) ?_
    refine va_get (D := g.1) (ci := 5) (v := .int (iI ((((ln + 4 + 4 + 4) + 1) + 1) + 1))) (C := zR_Q) (T := zT_Q) (N := 21) hx hb hw zin_Q hown hK hP 0 rfl rfl 2 (by decide) (hw _ zw_3_200) (fun _ h9 => h9) rfl zd_Q_feed_87 ?_
    refine lv_iload hx hb zd_Q_feed_90 (lv_at hl 0 rfl) ?_
    refine zi_bipush hx hb zd_Q_feed_92 (by decide) ?_
    refine zi_bipush hx hb zd_Q_feed_94 (by decide) ?_
    refine lv_iload hx hb zd_Q_feed_96 (lv_at hl 1 rfl) ?_
    refine zi_iconst hx hb zd_Q_feed_98 ?_
    refine zi_irem hx hb zd_Q_feed_99 (by omega) ?_
    refine zi_imul hx hb zd_Q_feed_100 ?_
    refine zi_isub hx hb zd_Q_feed_101 ?_
    refine lv_ishr hx hb zd_Q_feed_102 ?_
    have hby := zBy_rg v4 0
    have hsb := sB_rg hby
    refine lv_i2b hx hb zd_Q_feed_103 (v := iI (sB (zBy v4 0))) (sB_at (k := 0) (by decide) (by decide)) ?_
    refine zi_bast hx hb hK hP hD hS 1 3 rfl rfl (by omega) hsb zd_Q_feed_104 (fun H locs hP hD hS => ?_)
    have hP : va_P g.1 zCl [(qq, .inr (5, [.int (iI (0)), .ref (rf 0), .int (iI ((((ln + 4 + 4 + 4) + 1) + 1) + 1)), .int (iI (pl)), .int (iI (yy)), .int (iI (mm)), .int (iI (dd)), .int (iI (at0)), .ref (rf 1), .ref (rf 2), .ref (rf 3), .ref (rf 4), .ref (rf 5), .ref (rf 6), .int (iI (wa)), .int (iI (on)), .int (iI (tw)), .ref (rf 7), .ref (rf 8), .ref (rf 9), .int (iI (hc))])), (rf 0, .inl (g.2 3, 400, .inl (zaI (zSg (zu (zu (zu (zu (zP4 (zP4 (zP4 tf ln v1) (ln + 4) v2) (ln + 4 + 4) v3) (ln + 4 + 4 + 4).toNat (zBy v4 24)) ((ln + 4 + 4 + 4) + 1).toNat (zBy v4 16)) (((ln + 4 + 4 + 4) + 1) + 1).toNat (zBy v4 8)) ((((ln + 4 + 4 + 4) + 1) + 1) + 1).toNat (zBy v4 0))))))] H := (zu_sg (zu (zu (zu (zP4 (zP4 (zP4 tf ln v1) (ln + 4) v2) (ln + 4 + 4) v3) (ln + 4 + 4 + 4).toNat (zBy v4 24)) ((ln + 4 + 4 + 4) + 1).toNat (zBy v4 16)) (((ln + 4 + 4 + 4) + 1) + 1).toNat (zBy v4 8)) ((((ln + 4 + 4 + 4) + 1) + 1) + 1).toNat (zBy v4 0)) ▸ hP
    have hD : va_D A [(qq, .inr (5, [.int (iI (0)), .ref (rf 0), .int (iI ((((ln + 4 + 4 + 4) + 1) + 1) + 1)), .int (iI (pl)), .int (iI (yy)), .int (iI (mm)), .int (iI (dd)), .int (iI (at0)), .ref (rf 1), .ref (rf 2), .ref (rf 3), .ref (rf 4), .ref (rf 5), .ref (rf 6), .int (iI (wa)), .int (iI (on)), .int (iI (tw)), .ref (rf 7), .ref (rf 8), .ref (rf 9), .int (iI (hc))])), (rf 0, .inl (g.2 3, 400, .inl (zaI (zSg (zu (zu (zu (zu (zP4 (zP4 (zP4 tf ln v1) (ln + 4) v2) (ln + 4 + 4) v3) (ln + 4 + 4 + 4).toNat (zBy v4 24)) ((ln + 4 + 4 + 4) + 1).toNat (zBy v4 16)) (((ln + 4 + 4 + 4) + 1) + 1).toNat (zBy v4 8)) ((((ln + 4 + 4 + 4) + 1) + 1) + 1).toNat (zBy v4 0))))))] := (zu_sg (zu (zu (zu (zP4 (zP4 (zP4 tf ln v1) (ln + 4) v2) (ln + 4 + 4) v3) (ln + 4 + 4 + 4).toNat (zBy v4 24)) ((ln + 4 + 4 + 4) + 1).toNat (zBy v4 16)) (((ln + 4 + 4 + 4) + 1) + 1).toNat (zBy v4 8)) ((((ln + 4 + 4 + 4) + 1) + 1) + 1).toNat (zBy v4 0)) ▸ hD
    refine lv_aload_n hx hb zd_Q_feed_105 rfl (lv_at hl 2 rfl) ?_
    refine lv_dup hx hb zd_Q_feed_106 rfl ?_
    refine va_get (D := g.1) (ci := 5) (v := .int (iI ((((ln + 4 + 4 + 4) + 1) + 1) + 1))) (C := zR_Q) (T := zT_Q) (N := 21) hx hb hw zin_Q hown hK hP 0 rfl rfl 2 (by decide) (hw _ zw_3_200) (fun _ h9 => h9) rfl zd_Q_feed_107 ?_
    refine zi_iconst hx hb zd_Q_feed_110 ?_
    refine zi_iadd hx hb zd_Q_feed_111 ?_
    refine va_put (D := g.1) (ci := 5) (v := .int (iI (((((ln + 4 + 4 + 4) + 1) + 1) + 1) + 1))) (ty := .int) (C := zR_Q) (T := zT_Q) (N := 21) hx hb hw zin_Q zt_Q zto_Q zn_Q hown hK hP hD hS 0 rfl rfl 2 (by decide) (hw _ zw_3_200) (fun _ h9 => h9) rfl  (by decide +kernel) rfl rfl (Nat.le_of_ble_eq_true rfl) zd_Q_feed_112 (fun H locs hP hD hS => ?_)
    have hP : va_P g.1 zCl [(qq, .inr (5, [.int (iI (0)), .ref (rf 0), .int (iI (((((ln + 4 + 4 + 4) + 1) + 1) + 1) + 1)), .int (iI (pl)), .int (iI (yy)), .int (iI (mm)), .int (iI (dd)), .int (iI (at0)), .ref (rf 1), .ref (rf 2), .ref (rf 3), .ref (rf 4), .ref (rf 5), .ref (rf 6), .int (iI (wa)), .int (iI (on)), .int (iI (tw)), .ref (rf 7), .ref (rf 8), .ref (rf 9), .int (iI (hc))])), (rf 0, .inl (g.2 3, 400, .inl (zaI (zSg (zu (zu (zu (zu (zP4 (zP4 (zP4 tf ln v1) (ln + 4) v2) (ln + 4 + 4) v3) (ln + 4 + 4 + 4).toNat (zBy v4 24)) ((ln + 4 + 4 + 4) + 1).toNat (zBy v4 16)) (((ln + 4 + 4 + 4) + 1) + 1).toNat (zBy v4 8)) ((((ln + 4 + 4 + 4) + 1) + 1) + 1).toNat (zBy v4 0))))))] H := hP
    have hD : va_D A [(qq, .inr (5, [.int (iI (0)), .ref (rf 0), .int (iI (((((ln + 4 + 4 + 4) + 1) + 1) + 1) + 1)), .int (iI (pl)), .int (iI (yy)), .int (iI (mm)), .int (iI (dd)), .int (iI (at0)), .ref (rf 1), .ref (rf 2), .ref (rf 3), .ref (rf 4), .ref (rf 5), .ref (rf 6), .int (iI (wa)), .int (iI (on)), .int (iI (tw)), .ref (rf 7), .ref (rf 8), .ref (rf 9), .int (iI (hc))])), (rf 0, .inl (g.2 3, 400, .inl (zaI (zSg (zu (zu (zu (zu (zP4 (zP4 (zP4 tf ln v1) (ln + 4) v2) (ln + 4 + 4) v3) (ln + 4 + 4 + 4).toNat (zBy v4 24)) ((ln + 4 + 4 + 4) + 1).toNat (zBy v4 16)) (((ln + 4 + 4 + 4) + 1) + 1).toNat (zBy v4 8)) ((((ln + 4 + 4 + 4) + 1) + 1) + 1).toNat (zBy v4 0))))))] := hD
    refine lv_iinc (v := iI (16)) (lv' := [(6, .int (iI (16))), (7, .int (iI (v4))), (0, .ref (qq)), (1, .int (iI (v1))), (2, .int (iI (v2))), (3, .int (iI (v3))), (4, .int (iI (v4))), (5, .int (iI (v5)))]) hx hb zd_Q_feed_115 hl (k := 1) rfl (by decide) (by decide) rfl (fun ls hl => ?_)
    refine lv_goto (tgt := 27) hx hb zd_Q_feed_118 (by decide) ?_
    rw [show ln + 4 + 4 + 4 + 1 + 1 + 1 + 1 = ln + 4 + 4 + 4 + 4 by omega] at hP hD
    have hP : va_P g.1 zCl [(qq, .inr (5, [.int (iI (0)), .ref (rf 0), .int (iI (ln + 4 + 4 + 4 + 4)), .int (iI (pl)), .int (iI (yy)), .int (iI (mm)), .int (iI (dd)), .int (iI (at0)), .ref (rf 1), .ref (rf 2), .ref (rf 3), .ref (rf 4), .ref (rf 5), .ref (rf 6), .int (iI (wa)), .int (iI (on)), .int (iI (tw)), .ref (rf 7), .ref (rf 8), .ref (rf 9), .int (iI (hc))])), (rf 0, .inl (g.2 3, 400, .inl (zaI (zSg (zP4 (zP4 (zP4 (zP4 tf ln v1) (ln + 4) v2) (ln + 4 + 4) v3) (ln + 4 + 4 + 4) v4)))))] H := hP
    have hD : va_D A [(qq, .inr (5, [.int (iI (0)), .ref (rf 0), .int (iI (ln + 4 + 4 + 4 + 4)), .int (iI (pl)), .int (iI (yy)), .int (iI (mm)), .int (iI (dd)), .int (iI (at0)), .ref (rf 1), .ref (rf 2), .ref (rf 3), .ref (rf 4), .ref (rf 5), .ref (rf 6), .int (iI (wa)), .int (iI (on)), .int (iI (tw)), .ref (rf 7), .ref (rf 8), .ref (rf 9), .int (iI (hc))])), (rf 0, .inl (g.2 3, 400, .inl (zaI (zSg (zP4 (zP4 (zP4 (zP4 tf ln v1) (ln + 4) v2) (ln + 4 + 4) v3) (ln + 4 + 4 + 4) v4)))))] := hD
    refine lv_iload hx hb zd_Q_feed_27 (lv_at hl 0 rfl) ?_
    refine zi_bipush hx hb zd_Q_feed_29 (by decide) ?_
    refine zi_icmp_ge (tgt := 121) hx hb zd_Q_feed_31 (by decide) (by omega) (fun c31 => absurd c31 (by decide)) (fun _ => ?_)
    refine lv_iload hx hb zd_Q_feed_34 (lv_at hl 0 rfl) ?_
    refine zi_iconst hx hb zd_Q_feed_36 ?_
    refine zi_icmp_ge (tgt := 44) hx hb zd_Q_feed_37 (by decide) (by omega) (fun _ => ?_) (fun c37 => absurd c37 (by decide))
    refine lv_iload hx hb zd_Q_feed_44 (lv_at hl 0 rfl) ?_
    refine zi_bipush hx hb zd_Q_feed_46 (by decide) ?_
    refine zi_icmp_ge (tgt := 55) hx hb zd_Q_feed_48 (by decide) (by omega) (fun _ => ?_) (fun c48 => absurd c48 (by decide))
    refine lv_iload hx hb zd_Q_feed_55 (lv_at hl 0 rfl) ?_
    refine zi_bipush hx hb zd_Q_feed_57 (by decide) ?_
    refine zi_icmp_ge (tgt := 66) hx hb zd_Q_feed_59 (by decide) (by omega) (fun _ => ?_) (fun c59 => absurd c59 (by decide))
    refine lv_iload hx hb zd_Q_feed_66 (lv_at hl 0 rfl) ?_
    refine zi_bipush hx hb zd_Q_feed_68 (by decide) ?_
    refine zi_icmp_ge (tgt := 78) hx hb zd_Q_feed_70 (by decide) (by omega) (fun _ => ?_) (fun c70 => absurd c70 (by decide))
    refine lv_iload hx hb zd_Q_feed_78 (lv_at hl 7 rfl) ?_
    refine lv_istore (lv' := [(7, .int (iI (v5))), (6, .int (iI (16))), (0, .ref (qq)), (1, .int (iI (v1))), (2, .int (iI (v2))), (3, .int (iI (v3))), (4, .int (iI (v4))), (5, .int (iI (v5)))]) hx hb zd_Q_feed_80 hl (by decide) rfl (fun ls hl => ?_)
    refine lv_aload_n hx hb zd_Q_feed_82 rfl (lv_at hl 2 rfl) ?_
    refine va_get (D := g.1) (ci := 5) (v := .ref (rf 0)) (C := zR_Q) (T := zT_Q) (N := 21) hx hb hw zin_Q hown hK hP 0 rfl rfl 1 (by decide) (hw _ zw_3_199) (fun _ h9 => h9) rfl zd_Q_feed_83 ?_
    refine lv_aload_n hx hb zd_Q_feed_86 rfl (lv_at hl 2 rfl) ?_
    refine va_get (D := g.1) (ci := 5) (v := .int (iI (ln + 4 + 4 + 4 + 4))) (C := zR_Q) (T := zT_Q) (N := 21) hx hb hw zin_Q hown hK hP 0 rfl rfl 2 (by decide) (hw _ zw_3_200) (fun _ h9 => h9) rfl zd_Q_feed_87 ?_
    refine lv_iload hx hb zd_Q_feed_90 (lv_at hl 0 rfl) ?_
    refine zi_bipush hx hb zd_Q_feed_92 (by decide) ?_
    refine zi_bipush hx hb zd_Q_feed_94 (by decide) ?_
    refine lv_iload hx hb zd_Q_feed_96 (lv_at hl 1 rfl) ?_
    refine zi_iconst hx hb zd_Q_feed_98 ?_
    refine zi_irem hx hb zd_Q_feed_99 (by omega) ?_
    refine zi_imul hx hb zd_Q_feed_100 ?_
    refine zi_isub hx hb zd_Q_feed_101 ?_
    refine lv_ishr hx hb zd_Q_feed_102 ?_
    have hby := zBy_rg v5 24
    have hsb := sB_rg hby
    refine lv_i2b hx hb zd_Q_feed_103 (v := iI (sB (zBy v5 24))) (sB_at (k := 24) (by decide) (by decide)) ?_
    refine zi_bast hx hb hK hP hD hS 1 3 rfl rfl (by omega) hsb zd_Q_feed_104 (fun H locs hP hD hS => ?_)
    have hP : va_P g.1 zCl [(qq, .inr (5, [.int (iI (0)), .ref (rf 0), .int (iI (ln + 4 + 4 + 4 + 4)), .int (iI (pl)), .int (iI (yy)), .int (iI (mm)), .int (iI (dd)), .int (iI (at0)), .ref (rf 1), .ref (rf 2), .ref (rf 3), .ref (rf 4), .ref (rf 5), .ref (rf 6), .int (iI (wa)), .int (iI (on)), .int (iI (tw)), .ref (rf 7), .ref (rf 8), .ref (rf 9), .int (iI (hc))])), (rf 0, .inl (g.2 3, 400, .inl (zaI (zSg (zu (zP4 (zP4 (zP4 (zP4 tf ln v1) (ln + 4) v2) (ln + 4 + 4) v3) (ln + 4 + 4 + 4) v4) (ln + 4 + 4 + 4 + 4).toNat (zBy v5 24))))))] H := (zu_sg (zP4 (zP4 (zP4 (zP4 tf ln v1) (ln + 4) v2) (ln + 4 + 4) v3) (ln + 4 + 4 + 4) v4) (ln + 4 + 4 + 4 + 4).toNat (zBy v5 24)) ▸ hP
    have hD : va_D A [(qq, .inr (5, [.int (iI (0)), .ref (rf 0), .int (iI (ln + 4 + 4 + 4 + 4)), .int (iI (pl)), .int (iI (yy)), .int (iI (mm)), .int (iI (dd)), .int (iI (at0)), .ref (rf 1), .ref (rf 2), .ref (rf 3), .ref (rf 4), .ref (rf 5), .ref (rf 6), .int (iI (wa)), .int (iI (on)), .int (iI (tw)), .ref (rf 7), .ref (rf 8), .ref (rf 9), .int (iI (hc))])), (rf 0, .inl (g.2 3, 400, .inl (zaI (zSg (zu (zP4 (zP4 (zP4 (zP4 tf ln v1) (ln + 4) v2) (ln + 4 + 4) v3) (ln + 4 + 4 + 4) v4) (ln + 4 + 4 + 4 + 4).toNat (zBy v5 24))))))] := (zu_sg (zP4 (zP4 (zP4 (zP4 tf ln v1) (ln + 4) v2) (ln + 4 + 4) v3) (ln + 4 + 4 + 4) v4) (ln + 4 + 4 + 4 + 4).toNat (zBy v5 24)) ▸ hD
    refine lv_aload_n hx hb zd_Q_feed_105 rfl (lv_at hl 2 rfl) ?_
    refine lv_dup hx hb zd_Q_feed_106 rfl ?_
    refine va_get (D := g.1) (ci := 5) (v := .int (iI (ln + 4 + 4 + 4 + 4))) (C := zR_Q) (T := zT_Q) (N := 21) hx hb hw zin_Q hown hK hP 0 rfl rfl 2 (by decide) (hw _ zw_3_200) (fun _ h9 => h9) rfl zd_Q_feed_107 ?_
    refine zi_iconst hx hb zd_Q_feed_110 ?_
    refine zi_iadd hx hb zd_Q_feed_111 ?_
    refine va_put (D := g.1) (ci := 5) (v := .int (iI ((ln + 4 + 4 + 4 + 4) + 1))) (ty := .int) (C := zR_Q) (T := zT_Q) (N := 21) hx hb hw zin_Q zt_Q zto_Q zn_Q hown hK hP hD hS 0 rfl rfl 2 (by decide) (hw _ zw_3_200) (fun _ h9 => h9) rfl  (by decide +kernel) rfl rfl (Nat.le_of_ble_eq_true rfl) zd_Q_feed_112 (fun H locs hP hD hS => ?_)
    have hP : va_P g.1 zCl [(qq, .inr (5, [.int (iI (0)), .ref (rf 0), .int (iI ((ln + 4 + 4 + 4 + 4) + 1)), .int (iI (pl)), .int (iI (yy)), .int (iI (mm)), .int (iI (dd)), .int (iI (at0)), .ref (rf 1), .ref (rf 2), .ref (rf 3), .ref (rf 4), .ref (rf 5), .ref (rf 6), .int (iI (wa)), .int (iI (on)), .int (iI (tw)), .ref (rf 7), .ref (rf 8), .ref (rf 9), .int (iI (hc))])), (rf 0, .inl (g.2 3, 400, .inl (zaI (zSg (zu (zP4 (zP4 (zP4 (zP4 tf ln v1) (ln + 4) v2) (ln + 4 + 4) v3) (ln + 4 + 4 + 4) v4) (ln + 4 + 4 + 4 + 4).toNat (zBy v5 24))))))] H := hP
    have hD : va_D A [(qq, .inr (5, [.int (iI (0)), .ref (rf 0), .int (iI ((ln + 4 + 4 + 4 + 4) + 1)), .int (iI (pl)), .int (iI (yy)), .int (iI (mm)), .int (iI (dd)), .int (iI (at0)), .ref (rf 1), .ref (rf 2), .ref (rf 3), .ref (rf 4), .ref (rf 5), .ref (rf 6), .int (iI (wa)), .int (iI (on)), .int (iI (tw)), .ref (rf 7), .ref (rf 8), .ref (rf 9), .int (iI (hc))])), (rf 0, .inl (g.2 3, 400, .inl (zaI (zSg (zu (zP4 (zP4 (zP4 (zP4 tf ln v1) (ln + 4) v2) (ln + 4 + 4) v3) (ln + 4 + 4 + 4) v4) (ln + 4 + 4 + 4 + 4).toNat (zBy v5 24))))))] := hD
    refine lv_iinc (v := iI (17)) (lv' := [(6, .int (iI (17))), (7, .int (iI (v5))), (0, .ref (qq)), (1, .int (iI (v1))), (2, .int (iI (v2))), (3, .int (iI (v3))), (4, .int (iI (v4))), (5, .int (iI (v5)))]) hx hb zd_Q_feed_115 hl (k := 1) rfl (by decide) (by decide) rfl (fun ls hl => ?_)
    refine lv_goto (tgt := 27) hx hb zd_Q_feed_118 (by decide) ?_
    refine lv_iload hx hb zd_Q_feed_27 (lv_at hl 0 rfl) ?_
    refine zi_bipush hx hb zd_Q_feed_29 (by decide) ?_
    refine zi_icmp_ge (tgt := 121) hx hb zd_Q_feed_31 (by decide) (by omega) (fun c31 => absurd c31 (by decide)) (fun _ => ?_)
    refine lv_iload hx hb zd_Q_feed_34 (lv_at hl 0 rfl) ?_
    refine zi_iconst hx hb zd_Q_feed_36 ?_
    refine zi_icmp_ge (tgt := 44) hx hb zd_Q_feed_37 (by decide) (by omega) (fun _ => ?_) (fun c37 => absurd c37 (by decide))
    refine lv_iload hx hb zd_Q_feed_44 (lv_at hl 0 rfl) ?_
    refine zi_bipush hx hb zd_Q_feed_46 (by decide) ?_
    refine zi_icmp_ge (tgt := 55) hx hb zd_Q_feed_48 (by decide) (by omega) (fun _ => ?_) (fun c48 => absurd c48 (by decide))
    refine lv_iload hx hb zd_Q_feed_55 (lv_at hl 0 rfl) ?_
    refine zi_bipush hx hb zd_Q_feed_57 (by decide) ?_
    refine zi_icmp_ge (tgt := 66) hx hb zd_Q_feed_59 (by decide) (by omega) (fun _ => ?_) (fun c59 => absurd c59 (by decide))
    refine lv_iload hx hb zd_Q_feed_66 (lv_at hl 0 rfl) ?_
    refine zi_bipush hx hb zd_Q_feed_68 (by decide) ?_
    refine zi_icmp_ge (tgt := 78) hx hb zd_Q_feed_70 (by decide) (by omega) (fun _ => ?_) (fun c70 => absurd c70 (by decide))
    refine lv_iload hx hb zd_Q_feed_78 (lv_at hl 7 rfl) ?_
    refine lv_istore (lv' := [(7, .int (iI (v5))), (6, .int (iI (17))), (0, .ref (qq)), (1, .int (iI (v1))), (2, .int (iI (v2))), (3, .int (iI (v3))), (4, .int (iI (v4))), (5, .int (iI (v5)))]) hx hb zd_Q_feed_80 hl (by decide) rfl (fun ls hl => ?_)
    refine lv_aload_n hx hb zd_Q_feed_82 rfl (lv_at hl 2 rfl) ?_
    refine va_get (D := g.1) (ci := 5) (v := .ref (rf 0)) (C := zR_Q) (T := zT_Q) (N := 21) hx hb hw zin_Q hown hK hP 0 rfl rfl 1 (by decide) (hw _ zw_3_199) (fun _ h9 => h9) rfl zd_Q_feed_83 ?_
    refine lv_aload_n hx hb zd_Q_feed_86 rfl (lv_at hl 2 rfl) ?_
    refine va_get (D := g.1) (ci := 5) (v := .int (iI ((ln + 4 + 4 + 4 + 4) + 1))) (C := zR_Q) (T := zT_Q) (N := 21) hx hb hw zin_Q hown hK hP 0 rfl rfl 2 (by decide) (hw _ zw_3_200) (fun _ h9 => h9) rfl zd_Q_feed_87 ?_
    refine lv_iload hx hb zd_Q_feed_90 (lv_at hl 0 rfl) ?_
    refine zi_bipush hx hb zd_Q_feed_92 (by decide) ?_
    refine zi_bipush hx hb zd_Q_feed_94 (by decide) ?_
    refine lv_iload hx hb zd_Q_feed_96 (lv_at hl 1 rfl) ?_
    refine zi_iconst hx hb zd_Q_feed_98 ?_
    refine zi_irem hx hb zd_Q_feed_99 (by omega) ?_
    refine zi_imul hx hb zd_Q_feed_100 ?_
    refine zi_isub hx hb zd_Q_feed_101 ?_
    refine lv_ishr hx hb zd_Q_feed_102 ?_
    have hby := zBy_rg v5 16
    have hsb := sB_rg hby
    refine lv_i2b hx hb zd_Q_feed_103 (v := iI (sB (zBy v5 16))) (sB_at (k := 16) (by decide) (by decide)) ?_
    refine zi_bast hx hb hK hP hD hS 1 3 rfl rfl (by omega) hsb zd_Q_feed_104 (fun H locs hP hD hS => ?_)
    have hP : va_P g.1 zCl [(qq, .inr (5, [.int (iI (0)), .ref (rf 0), .int (iI ((ln + 4 + 4 + 4 + 4) + 1)), .int (iI (pl)), .int (iI (yy)), .int (iI (mm)), .int (iI (dd)), .int (iI (at0)), .ref (rf 1), .ref (rf 2), .ref (rf 3), .ref (rf 4), .ref (rf 5), .ref (rf 6), .int (iI (wa)), .int (iI (on)), .int (iI (tw)), .ref (rf 7), .ref (rf 8), .ref (rf 9), .int (iI (hc))])), (rf 0, .inl (g.2 3, 400, .inl (zaI (zSg (zu (zu (zP4 (zP4 (zP4 (zP4 tf ln v1) (ln + 4) v2) (ln + 4 + 4) v3) (ln + 4 + 4 + 4) v4) (ln + 4 + 4 + 4 + 4).toNat (zBy v5 24)) ((ln + 4 + 4 + 4 + 4) + 1).toNat (zBy v5 16))))))] H := (zu_sg (zu (zP4 (zP4 (zP4 (zP4 tf ln v1) (ln + 4) v2) (ln + 4 + 4) v3) (ln + 4 + 4 + 4) v4) (ln + 4 + 4 + 4 + 4).toNat (zBy v5 24)) ((ln + 4 + 4 + 4 + 4) + 1).toNat (zBy v5 16)) ▸ hP
    have hD : va_D A [(qq, .inr (5, [.int (iI (0)), .ref (rf 0), .int (iI ((ln + 4 + 4 + 4 + 4) + 1)), .int (iI (pl)), .int (iI (yy)), .int (iI (mm)), .int (iI (dd)), .int (iI (at0)), .ref (rf 1), .ref (rf 2), .ref (rf 3), .ref (rf 4), .ref (rf 5), .ref (rf 6), .int (iI (wa)), .int (iI (on)), .int (iI (tw)), .ref (rf 7), .ref (rf 8), .ref (rf 9), .int (iI (hc))])), (rf 0, .inl (g.2 3, 400, .inl (zaI (zSg (zu (zu (zP4 (zP4 (zP4 (zP4 tf ln v1) (ln + 4) v2) (ln + 4 + 4) v3) (ln + 4 + 4 + 4) v4) (ln + 4 + 4 + 4 + 4).toNat (zBy v5 24)) ((ln + 4 + 4 + 4 + 4) + 1).toNat (zBy v5 16))))))] := (zu_sg (zu (zP4 (zP4 (zP4 (zP4 tf ln v1) (ln + 4) v2) (ln + 4 + 4) v3) (ln + 4 + 4 + 4) v4) (ln + 4 + 4 + 4 + 4).toNat (zBy v5 24)) ((ln + 4 + 4 + 4 + 4) + 1).toNat (zBy v5 16)) ▸ hD
    refine lv_aload_n hx hb zd_Q_feed_105 rfl (lv_at hl 2 rfl) ?_
    refine lv_dup hx hb zd_Q_feed_106 rfl ?_
    refine va_get (D := g.1) (ci := 5) (v := .int (iI ((ln + 4 + 4 + 4 + 4) + 1))) (C := zR_Q) (T := zT_Q) (N := 21) hx hb hw zin_Q hown hK hP 0 rfl rfl 2 (by decide) (hw _ zw_3_200) (fun _ h9 => h9) rfl zd_Q_feed_107 ?_
    refine zi_iconst hx hb zd_Q_feed_110 ?_
    refine zi_iadd hx hb zd_Q_feed_111 ?_
    refine va_put (D := g.1) (ci := 5) (v := .int (iI (((ln + 4 + 4 + 4 + 4) + 1) + 1))) (ty := .int) (C := zR_Q) (T := zT_Q) (N := 21) hx hb hw zin_Q zt_Q zto_Q zn_Q hown hK hP hD hS 0 rfl rfl 2 (by decide) (hw _ zw_3_200) (fun _ h9 => h9) rfl  (by decide +kernel) rfl rfl (Nat.le_of_ble_eq_true rfl) zd_Q_feed_112 (fun H locs hP hD hS => ?_)
    have hP : va_P g.1 zCl [(qq, .inr (5, [.int (iI (0)), .ref (rf 0), .int (iI (((ln + 4 + 4 + 4 + 4) + 1) + 1)), .int (iI (pl)), .int (iI (yy)), .int (iI (mm)), .int (iI (dd)), .int (iI (at0)), .ref (rf 1), .ref (rf 2), .ref (rf 3), .ref (rf 4), .ref (rf 5), .ref (rf 6), .int (iI (wa)), .int (iI (on)), .int (iI (tw)), .ref (rf 7), .ref (rf 8), .ref (rf 9), .int (iI (hc))])), (rf 0, .inl (g.2 3, 400, .inl (zaI (zSg (zu (zu (zP4 (zP4 (zP4 (zP4 tf ln v1) (ln + 4) v2) (ln + 4 + 4) v3) (ln + 4 + 4 + 4) v4) (ln + 4 + 4 + 4 + 4).toNat (zBy v5 24)) ((ln + 4 + 4 + 4 + 4) + 1).toNat (zBy v5 16))))))] H := hP
    have hD : va_D A [(qq, .inr (5, [.int (iI (0)), .ref (rf 0), .int (iI (((ln + 4 + 4 + 4 + 4) + 1) + 1)), .int (iI (pl)), .int (iI (yy)), .int (iI (mm)), .int (iI (dd)), .int (iI (at0)), .ref (rf 1), .ref (rf 2), .ref (rf 3), .ref (rf 4), .ref (rf 5), .ref (rf 6), .int (iI (wa)), .int (iI (on)), .int (iI (tw)), .ref (rf 7), .ref (rf 8), .ref (rf 9), .int (iI (hc))])), (rf 0, .inl (g.2 3, 400, .inl (zaI (zSg (zu (zu (zP4 (zP4 (zP4 (zP4 tf ln v1) (ln + 4) v2) (ln + 4 + 4) v3) (ln + 4 + 4 + 4) v4) (ln + 4 + 4 + 4 + 4).toNat (zBy v5 24)) ((ln + 4 + 4 + 4 + 4) + 1).toNat (zBy v5 16))))))] := hD
    refine lv_iinc (v := iI (18)) (lv' := [(6, .int (iI (18))), (7, .int (iI (v5))), (0, .ref (qq)), (1, .int (iI (v1))), (2, .int (iI (v2))), (3, .int (iI (v3))), (4, .int (iI (v4))), (5, .int (iI (v5)))]) hx hb zd_Q_feed_115 hl (k := 1) rfl (by decide) (by decide) rfl (fun ls hl => ?_)
    refine lv_goto (tgt := 27) hx hb zd_Q_feed_118 (by decide) ?_
    refine lv_iload hx hb zd_Q_feed_27 (lv_at hl 0 rfl) ?_
    refine zi_bipush hx hb zd_Q_feed_29 (by decide) ?_
    refine zi_icmp_ge (tgt := 121) hx hb zd_Q_feed_31 (by decide) (by omega) (fun c31 => absurd c31 (by decide)) (fun _ => ?_)
    refine lv_iload hx hb zd_Q_feed_34 (lv_at hl 0 rfl) ?_
    refine zi_iconst hx hb zd_Q_feed_36 ?_
    refine zi_icmp_ge (tgt := 44) hx hb zd_Q_feed_37 (by decide) (by omega) (fun _ => ?_) (fun c37 => absurd c37 (by decide))
    refine lv_iload hx hb zd_Q_feed_44 (lv_at hl 0 rfl) ?_
    refine zi_bipush hx hb zd_Q_feed_46 (by decide) ?_
    refine zi_icmp_ge (tgt := 55) hx hb zd_Q_feed_48 (by decide) (by omega) (fun _ => ?_) (fun c48 => absurd c48 (by decide))
    refine lv_iload hx hb zd_Q_feed_55 (lv_at hl 0 rfl) ?_
    refine zi_bipush hx hb zd_Q_feed_57 (by decide) ?_
    refine zi_icmp_ge (tgt := 66) hx hb zd_Q_feed_59 (by decide) (by omega) (fun _ => ?_) (fun c59 => absurd c59 (by decide))
    refine lv_iload hx hb zd_Q_feed_66 (lv_at hl 0 rfl) ?_
    refine zi_bipush hx hb zd_Q_feed_68 (by decide) ?_
    refine zi_icmp_ge (tgt := 78) hx hb zd_Q_feed_70 (by decide) (by omega) (fun _ => ?_) (fun c70 => absurd c70 (by decide))
    refine lv_iload hx hb zd_Q_feed_78 (lv_at hl 7 rfl) ?_
    refine lv_istore (lv' := [(7, .int (iI (v5))), (6, .int (iI (18))), (0, .ref (qq)), (1, .int (iI (v1))), (2, .int (iI (v2))), (3, .int (iI (v3))), (4, .int (iI (v4))), (5, .int (iI (v5)))]) hx hb zd_Q_feed_80 hl (by decide) rfl (fun ls hl => ?_)
    refine lv_aload_n hx hb zd_Q_feed_82 rfl (lv_at hl 2 rfl) ?_
    refine va_get (D := g.1) (ci := 5) (v := .ref (rf 0)) (C := zR_Q) (T := zT_Q) (N := 21) hx hb hw zin_Q hown hK hP 0 rfl rfl 1 (by decide) (hw _ zw_3_199) (fun _ h9 => h9) rfl zd_Q_feed_83 ?_
    refine lv_aload_n hx hb zd_Q_feed_86 rfl (lv_at hl 2 rfl) ?_
    refine va_get (D := g.1) (ci := 5) (v := .int (iI (((ln + 4 + 4 + 4 + 4) + 1) + 1))) (C := zR_Q) (T := zT_Q) (N := 21) hx hb hw zin_Q hown hK hP 0 rfl rfl 2 (by decide) (hw _ zw_3_200) (fun _ h9 => h9) rfl zd_Q_feed_87 ?_
    refine lv_iload hx hb zd_Q_feed_90 (lv_at hl 0 rfl) ?_
    refine zi_bipush hx hb zd_Q_feed_92 (by decide) ?_
    refine zi_bipush hx hb zd_Q_feed_94 (by decide) ?_
    refine lv_iload hx hb zd_Q_feed_96 (lv_at hl 1 rfl) ?_
    refine zi_iconst hx hb zd_Q_feed_98 ?_
    refine zi_irem hx hb zd_Q_feed_99 (by omega) ?_
    refine zi_imul hx hb zd_Q_feed_100 ?_
    refine zi_isub hx hb zd_Q_feed_101 ?_
    refine lv_ishr hx hb zd_Q_feed_102 ?_
    have hby := zBy_rg v5 8
    have hsb := sB_rg hby
    refine lv_i2b hx hb zd_Q_feed_103 (v := iI (sB (zBy v5 8))) (sB_at (k := 8) (by decide) (by decide)) ?_
    refine zi_bast hx hb hK hP hD hS 1 3 rfl rfl (by omega) hsb zd_Q_feed_104 (fun H locs hP hD hS => ?_)
    have hP : va_P g.1 zCl [(qq, .inr (5, [.int (iI (0)), .ref (rf 0), .int (iI (((ln + 4 + 4 + 4 + 4) + 1) + 1)), .int (iI (pl)), .int (iI (yy)), .int (iI (mm)), .int (iI (dd)), .int (iI (at0)), .ref (rf 1), .ref (rf 2), .ref (rf 3), .ref (rf 4), .ref (rf 5), .ref (rf 6), .int (iI (wa)), .int (iI (on)), .int (iI (tw)), .ref (rf 7), .ref (rf 8), .ref (rf 9), .int (iI (hc))])), (rf 0, .inl (g.2 3, 400, .inl (zaI (zSg (zu (zu (zu (zP4 (zP4 (zP4 (zP4 tf ln v1) (ln + 4) v2) (ln + 4 + 4) v3) (ln + 4 + 4 + 4) v4) (ln + 4 + 4 + 4 + 4).toNat (zBy v5 24)) ((ln + 4 + 4 + 4 + 4) + 1).toNat (zBy v5 16)) (((ln + 4 + 4 + 4 + 4) + 1) + 1).toNat (zBy v5 8))))))] H := (zu_sg (zu (zu (zP4 (zP4 (zP4 (zP4 tf ln v1) (ln + 4) v2) (ln + 4 + 4) v3) (ln + 4 + 4 + 4) v4) (ln + 4 + 4 + 4 + 4).toNat (zBy v5 24)) ((ln + 4 + 4 + 4 + 4) + 1).toNat (zBy v5 16)) (((ln + 4 + 4 + 4 + 4) + 1) + 1).toNat (zBy v5 8)) ▸ hP
    have hD : va_D A [(qq, .inr (5, [.int (iI (0)), .ref (rf 0), .int (iI (((ln + 4 + 4 + 4 + 4) + 1) + 1)), .int (iI (pl)), .int (iI (yy)), .int (iI (mm)), .int (iI (dd)), .int (iI (at0)), .ref (rf 1), .ref (rf 2), .ref (rf 3), .ref (rf 4), .ref (rf 5), .ref (rf 6), .int (iI (wa)), .int (iI (on)), .int (iI (tw)), .ref (rf 7), .ref (rf 8), .ref (rf 9), .int (iI (hc))])), (rf 0, .inl (g.2 3, 400, .inl (zaI (zSg (zu (zu (zu (zP4 (zP4 (zP4 (zP4 tf ln v1) (ln + 4) v2) (ln + 4 + 4) v3) (ln + 4 + 4 + 4) v4) (ln + 4 + 4 + 4 + 4).toNat (zBy v5 24)) ((ln + 4 + 4 + 4 + 4) + 1).toNat (zBy v5 16)) (((ln + 4 + 4 + 4 + 4) + 1) + 1).toNat (zBy v5 8))))))] := (zu_sg (zu (zu (zP4 (zP4 (zP4 (zP4 tf ln v1) (ln + 4) v2) (ln + 4 + 4) v3) (ln + 4 + 4 + 4) v4) (ln + 4 + 4 + 4 + 4).toNat (zBy v5 24)) ((ln + 4 + 4 + 4 + 4) + 1).toNat (zBy v5 16)) (((ln + 4 + 4 + 4 + 4) + 1) + 1).toNat (zBy v5 8)) ▸ hD
    refine lv_aload_n hx hb zd_Q_feed_105 rfl (lv_at hl 2 rfl) ?_
    refine lv_dup hx hb zd_Q_feed_106 rfl ?_
    refine va_get (D := g.1) (ci := 5) (v := .int (iI (((ln + 4 + 4 + 4 + 4) + 1) + 1))) (C := zR_Q) (T := zT_Q) (N := 21) hx hb hw zin_Q hown hK hP 0 rfl rfl 2 (by decide) (hw _ zw_3_200) (fun _ h9 => h9) rfl zd_Q_feed_107 ?_
    refine zi_iconst hx hb zd_Q_feed_110 ?_
    refine zi_iadd hx hb zd_Q_feed_111 ?_
    refine va_put (D := g.1) (ci := 5) (v := .int (iI ((((ln + 4 + 4 + 4 + 4) + 1) + 1) + 1))) (ty := .int) (C := zR_Q) (T := zT_Q) (N := 21) hx hb hw zin_Q zt_Q zto_Q zn_Q hown hK hP hD hS 0 rfl rfl 2 (by decide) (hw _ zw_3_200) (fun _ h9 => h9) rfl  (by decide +kernel) rfl rfl (Nat.le_of_ble_eq_true rfl) zd_Q_feed_112 (fun H locs hP hD hS => ?_)
    have hP : va_P g.1 zCl [(qq, .inr (5, [.int (iI (0)), .ref (rf 0), .int (iI ((((ln + 4 + 4 + 4 + 4) + 1) + 1) + 1)), .int (iI (pl)), .int (iI (yy)), .int (iI (mm)), .int (iI (dd)), .int (iI (at0)), .ref (rf 1), .ref (rf 2), .ref (rf 3), .ref (rf 4), .ref (rf 5), .ref (rf 6), .int (iI (wa)), .int (iI (on)), .int (iI (tw)), .ref (rf 7), .ref (rf 8), .ref (rf 9), .int (iI (hc))])), (rf 0, .inl (g.2 3, 400, .inl (zaI (zSg (zu (zu (zu (zP4 (zP4 (zP4 (zP4 tf ln v1) (ln + 4) v2) (ln + 4 + 4) v3) (ln + 4 + 4 + 4) v4) (ln + 4 + 4 + 4 + 4).toNat (zBy v5 24)) ((ln + 4 + 4 + 4 + 4) + 1).toNat (zBy v5 16)) (((ln + 4 + 4 + 4 + 4) + 1) + 1).toNat (zBy v5 8))))))] H := hP
    have hD : va_D A [(qq, .inr (5, [.int (iI (0)), .ref (rf 0), .int (iI ((((ln + 4 + 4 + 4 + 4) + 1) + 1) + 1)), .int (iI (pl)), .int (iI (yy)), .int (iI (mm)), .int (iI (dd)), .int (iI (at0)), .ref (rf 1), .ref (rf 2), .ref (rf 3), .ref (rf 4), .ref (rf 5), .ref (rf 6), .int (iI (wa)), .int (iI (on)), .int (iI (tw)), .ref (rf 7), .ref (rf 8), .ref (rf 9), .int (iI (hc))])), (rf 0, .inl (g.2 3, 400, .inl (zaI (zSg (zu (zu (zu (zP4 (zP4 (zP4 (zP4 tf ln v1) (ln + 4) v2) (ln + 4 + 4) v3) (ln + 4 + 4 + 4) v4) (ln + 4 + 4 + 4 + 4).toNat (zBy v5 24)) ((ln + 4 + 4 + 4 + 4) + 1).toNat (zBy v5 16)) (((ln + 4 + 4 + 4 + 4) + 1) + 1).toNat (zBy v5 8))))))] := hD
    refine lv_iinc (v := iI (19)) (lv' := [(6, .int (iI (19))), (7, .int (iI (v5))), (0, .ref (qq)), (1, .int (iI (v1))), (2, .int (iI (v2))), (3, .int (iI (v3))), (4, .int (iI (v4))), (5, .int (iI (v5)))]) hx hb zd_Q_feed_115 hl (k := 1) rfl (by decide) (by decide) rfl (fun ls hl => ?_)
    refine lv_goto (tgt := 27) hx hb zd_Q_feed_118 (by decide) ?_
    refine lv_iload hx hb zd_Q_feed_27 (lv_at hl 0 rfl) ?_
    refine zi_bipush hx hb zd_Q_feed_29 (by decide) ?_
    refine zi_icmp_ge (tgt := 121) hx hb zd_Q_feed_31 (by decide) (by omega) (fun c31 => absurd c31 (by decide)) (fun _ => ?_)
    refine lv_iload hx hb zd_Q_feed_34 (lv_at hl 0 rfl) ?_
    refine zi_iconst hx hb zd_Q_feed_36 ?_
    refine zi_icmp_ge (tgt := 44) hx hb zd_Q_feed_37 (by decide) (by omega) (fun _ => ?_) (fun c37 => absurd c37 (by decide))
    refine lv_iload hx hb zd_Q_feed_44 (lv_at hl 0 rfl) ?_
    refine zi_bipush hx hb zd_Q_feed_46 (by decide) ?_
    refine zi_icmp_ge (tgt := 55) hx hb zd_Q_feed_48 (by decide) (by omega) (fun _ => ?_) (fun c48 => absurd c48 (by decide))
    refine lv_iload hx hb zd_Q_feed_55 (lv_at hl 0 rfl) ?_
    refine zi_bipush hx hb zd_Q_feed_57 (by decide) ?_
    refine zi_icmp_ge (tgt := 66) hx hb zd_Q_feed_59 (by decide) (by omega) (fun _ => ?_) (fun c59 => absurd c59 (by decide))
    refine lv_iload hx hb zd_Q_feed_66 (lv_at hl 0 rfl) ?_
    refine zi_bipush hx hb zd_Q_feed_68 (by decide) ?_
    refine zi_icmp_ge (tgt := 78) hx hb zd_Q_feed_70 (by decide) (by omega) (fun _ => ?_) (fun c70 => absurd c70 (by decide))
    refine lv_iload hx hb zd_Q_feed_78 (lv_at hl 7 rfl) ?_
    refine lv_istore (lv' := [(7, .int (iI (v5))), (6, .int (iI (19))), (0, .ref (qq)), (1, .int (iI (v1))), (2, .int (iI (v2))), (3, .int (iI (v3))), (4, .int (iI (v4))), (5, .int (iI (v5)))]) hx hb zd_Q_feed_80 hl (by decide) rfl (fun ls hl => ?_)
    refine lv_aload_n hx hb zd_Q_feed_82 rfl (lv_at hl 2 rfl) ?_
    refine va_get (D := g.1) (ci := 5) (v := .ref (rf 0)) (C := zR_Q) (T := zT_Q) (N := 21) hx hb hw zin_Q hown hK hP 0 rfl rfl 1 (by decide) (hw _ zw_3_199) (fun _ h9 => h9) rfl zd_Q_feed_83 ?_
    refine lv_aload_n hx hb zd_Q_feed_86 rfl (lv_at hl 2 rfl) ?_
    refine va_get (D := g.1) (ci := 5) (v := .int (iI ((((ln + 4 + 4 + 4 + 4) + 1) + 1) + 1))) (C := zR_Q) (T := zT_Q) (N := 21) hx hb hw zin_Q hown hK hP 0 rfl rfl 2 (by decide) (hw _ zw_3_200) (fun _ h9 => h9) rfl zd_Q_feed_87 ?_
    refine lv_iload hx hb zd_Q_feed_90 (lv_at hl 0 rfl) ?_
    refine zi_bipush hx hb zd_Q_feed_92 (by decide) ?_
    refine zi_bipush hx hb zd_Q_feed_94 (by decide) ?_
    refine lv_iload hx hb zd_Q_feed_96 (lv_at hl 1 rfl) ?_
    refine zi_iconst hx hb zd_Q_feed_98 ?_
    refine zi_irem hx hb zd_Q_feed_99 (by omega) ?_
    refine zi_imul hx hb zd_Q_feed_100 ?_
    refine zi_isub hx hb zd_Q_feed_101 ?_
    refine lv_ishr hx hb zd_Q_feed_102 ?_
    have hby := zBy_rg v5 0
    have hsb := sB_rg hby
    refine lv_i2b hx hb zd_Q_feed_103 (v := iI (sB (zBy v5 0))) (sB_at (k := 0) (by decide) (by decide)) ?_
    refine zi_bast hx hb hK hP hD hS 1 3 rfl rfl (by omega) hsb zd_Q_feed_104 (fun H locs hP hD hS => ?_)
    have hP : va_P g.1 zCl [(qq, .inr (5, [.int (iI (0)), .ref (rf 0), .int (iI ((((ln + 4 + 4 + 4 + 4) + 1) + 1) + 1)), .int (iI (pl)), .int (iI (yy)), .int (iI (mm)), .int (iI (dd)), .int (iI (at0)), .ref (rf 1), .ref (rf 2), .ref (rf 3), .ref (rf 4), .ref (rf 5), .ref (rf 6), .int (iI (wa)), .int (iI (on)), .int (iI (tw)), .ref (rf 7), .ref (rf 8), .ref (rf 9), .int (iI (hc))])), (rf 0, .inl (g.2 3, 400, .inl (zaI (zSg (zu (zu (zu (zu (zP4 (zP4 (zP4 (zP4 tf ln v1) (ln + 4) v2) (ln + 4 + 4) v3) (ln + 4 + 4 + 4) v4) (ln + 4 + 4 + 4 + 4).toNat (zBy v5 24)) ((ln + 4 + 4 + 4 + 4) + 1).toNat (zBy v5 16)) (((ln + 4 + 4 + 4 + 4) + 1) + 1).toNat (zBy v5 8)) ((((ln + 4 + 4 + 4 + 4) + 1) + 1) + 1).toNat (zBy v5 0))))))] H := (zu_sg (zu (zu (zu (zP4 (zP4 (zP4 (zP4 tf ln v1) (ln + 4) v2) (ln + 4 + 4) v3) (ln + 4 + 4 + 4) v4) (ln + 4 + 4 + 4 + 4).toNat (zBy v5 24)) ((ln + 4 + 4 + 4 + 4) + 1).toNat (zBy v5 16)) (((ln + 4 + 4 + 4 + 4) + 1) + 1).toNat (zBy v5 8)) ((((ln + 4 + 4 + 4 + 4) + 1) + 1) + 1).toNat (zBy v5 0)) ▸ hP
    have hD : va_D A [(qq, .inr (5, [.int (iI (0)), .ref (rf 0), .int (iI ((((ln + 4 + 4 + 4 + 4) + 1) + 1) + 1)), .int (iI (pl)), .int (iI (yy)), .int (iI (mm)), .int (iI (dd)), .int (iI (at0)), .ref (rf 1), .ref (rf 2), .ref (rf 3), .ref (rf 4), .ref (rf 5), .ref (rf 6), .int (iI (wa)), .int (iI (on)), .int (iI (tw)), .ref (rf 7), .ref (rf 8), .ref (rf 9), .int (iI (hc))])), (rf 0, .inl (g.2 3, 400, .inl (zaI (zSg (zu (zu (zu (zu (zP4 (zP4 (zP4 (zP4 tf ln v1) (ln + 4) v2) (ln + 4 + 4) v3) (ln + 4 + 4 + 4) v4) (ln + 4 + 4 + 4 + 4).toNat (zBy v5 24)) ((ln + 4 + 4 + 4 + 4) + 1).toNat (zBy v5 16)) (((ln + 4 + 4 + 4 + 4) + 1) + 1).toNat (zBy v5 8)) ((((ln + 4 + 4 + 4 + 4) + 1) + 1) + 1).toNat (zBy v5 0))))))] := (zu_sg (zu (zu (zu (zP4 (zP4 (zP4 (zP4 tf ln v1) (ln + 4) v2) (ln + 4 + 4) v3) (ln + 4 + 4 + 4) v4) (ln + 4 + 4 + 4 + 4).toNat (zBy v5 24)) ((ln + 4 + 4 + 4 + 4) + 1).toNat (zBy v5 16)) (((ln + 4 + 4 + 4 + 4) + 1) + 1).toNat (zBy v5 8)) ((((ln + 4 + 4 + 4 + 4) + 1) + 1) + 1).toNat (zBy v5 0)) ▸ hD
    refine lv_aload_n hx hb zd_Q_feed_105 rfl (lv_at hl 2 rfl) ?_
    refine lv_dup hx hb zd_Q_feed_106 rfl ?_
    refine va_get (D := g.1) (ci := 5) (v := .int (iI ((((ln + 4 + 4 + 4 + 4) + 1) + 1) + 1))) (C := zR_Q) (T := zT_Q) (N := 21) hx hb hw zin_Q hown hK hP 0 rfl rfl 2 (by decide) (hw _ zw_3_200) (fun _ h9 => h9) rfl zd_Q_feed_107 ?_
    refine zi_iconst hx hb zd_Q_feed_110 ?_
    refine zi_iadd hx hb zd_Q_feed_111 ?_
    refine va_put (D := g.1) (ci := 5) (v := .int (iI (((((ln + 4 + 4 + 4 + 4) + 1) + 1) + 1) + 1))) (ty := .int) (C := zR_Q) (T := zT_Q) (N := 21) hx hb hw zin_Q zt_Q zto_Q zn_Q hown hK hP hD hS 0 rfl rfl 2 (by decide) (hw _ zw_3_200) (fun _ h9 => h9) rfl  (by decide +kernel) rfl rfl (Nat.le_of_ble_eq_true rfl) zd_Q_feed_112 (fun H locs hP hD hS => ?_)
    have hP : va_P g.1 zCl [(qq, .inr (5, [.int (iI (0)), .ref (rf 0), .int (iI (((((ln + 4 + 4 + 4 + 4) + 1) + 1) + 1) + 1)), .int (iI (pl)), .int (iI (yy)), .int (iI (mm)), .int (iI (dd)), .int (iI (at0)), .ref (rf 1), .ref (rf 2), .ref (rf 3), .ref (rf 4), .ref (rf 5), .ref (rf 6), .int (iI (wa)), .int (iI (on)), .int (iI (tw)), .ref (rf 7), .ref (rf 8), .ref (rf 9), .int (iI (hc))])), (rf 0, .inl (g.2 3, 400, .inl (zaI (zSg (zu (zu (zu (zu (zP4 (zP4 (zP4 (zP4 tf ln v1) (ln + 4) v2) (ln + 4 + 4) v3) (ln + 4 + 4 + 4) v4) (ln + 4 + 4 + 4 + 4).toNat (zBy v5 24)) ((ln + 4 + 4 + 4 + 4) + 1).toNat (zBy v5 16)) (((ln + 4 + 4 + 4 + 4) + 1) + 1).toNat (zBy v5 8)) ((((ln + 4 + 4 + 4 + 4) + 1) + 1) + 1).toNat (zBy v5 0))))))] H := hP
    have hD : va_D A [(qq, .inr (5, [.int (iI (0)), .ref (rf 0), .int (iI (((((ln + 4 + 4 + 4 + 4) + 1) + 1) + 1) + 1)), .int (iI (pl)), .int (iI (yy)), .int (iI (mm)), .int (iI (dd)), .int (iI (at0)), .ref (rf 1), .ref (rf 2), .ref (rf 3), .ref (rf 4), .ref (rf 5), .ref (rf 6), .int (iI (wa)), .int (iI (on)), .int (iI (tw)), .ref (rf 7), .ref (rf 8), .ref (rf 9), .int (iI (hc))])), (rf 0, .inl (g.2 3, 400, .inl (zaI (zSg (zu (zu (zu (zu (zP4 (zP4 (zP4 (zP4 tf ln v1) (ln + 4) v2) (ln + 4 + 4) v3) (ln + 4 + 4 + 4) v4) (ln + 4 + 4 + 4 + 4).toNat (zBy v5 24)) ((ln + 4 + 4 + 4 + 4) + 1).toNat (zBy v5 16)) (((ln + 4 + 4 + 4 + 4) + 1) + 1).toNat (zBy v5 8)) ((((ln + 4 + 4 + 4 + 4) + 1) + 1) + 1).toNat (zBy v5 0))))))] := hD
    refine lv_iinc (v := iI (20)) (lv' := [(6, .int (iI (20))), (7, .int (iI (v5))), (0, .ref (qq)), (1, .int (iI (v1))), (2, .int (iI (v2))), (3, .int (iI (v3))), (4, .int (iI (v4))), (5, .int (iI (v5)))]) hx hb zd_Q_feed_115 hl (k := 1) rfl (by decide) (by decide) rfl (fun ls hl => ?_)
    refine lv_goto (tgt := 27) hx hb zd_Q_feed_118 (by decide) ?_
    rw [show ln + 4 + 4 + 4 + 4 + 1 + 1 + 1 + 1 = ln + 4 + 4 + 4 + 4 + 4 by omega] at hP hD
    have hP : va_P g.1 zCl [(qq, .inr (5, [.int (iI (0)), .ref (rf 0), .int (iI (ln + 4 + 4 + 4 + 4 + 4)), .int (iI (pl)), .int (iI (yy)), .int (iI (mm)), .int (iI (dd)), .int (iI (at0)), .ref (rf 1), .ref (rf 2), .ref (rf 3), .ref (rf 4), .ref (rf 5), .ref (rf 6), .int (iI (wa)), .int (iI (on)), .int (iI (tw)), .ref (rf 7), .ref (rf 8), .ref (rf 9), .int (iI (hc))])), (rf 0, .inl (g.2 3, 400, .inl (zaI (zSg (zP4 (zP4 (zP4 (zP4 (zP4 tf ln v1) (ln + 4) v2) (ln + 4 + 4) v3) (ln + 4 + 4 + 4) v4) (ln + 4 + 4 + 4 + 4) v5)))))] H := hP
    have hD : va_D A [(qq, .inr (5, [.int (iI (0)), .ref (rf 0), .int (iI (ln + 4 + 4 + 4 + 4 + 4)), .int (iI (pl)), .int (iI (yy)), .int (iI (mm)), .int (iI (dd)), .int (iI (at0)), .ref (rf 1), .ref (rf 2), .ref (rf 3), .ref (rf 4), .ref (rf 5), .ref (rf 6), .int (iI (wa)), .int (iI (on)), .int (iI (tw)), .ref (rf 7), .ref (rf 8), .ref (rf 9), .int (iI (hc))])), (rf 0, .inl (g.2 3, 400, .inl (zaI (zSg (zP4 (zP4 (zP4 (zP4 (zP4 tf ln v1) (ln + 4) v2) (ln + 4 + 4) v3) (ln + 4 + 4 + 4) v4) (ln + 4 + 4 + 4 + 4) v5)))))] := hD
    refine lv_iload hx hb zd_Q_feed_27 (lv_at hl 0 rfl) ?_
    refine zi_bipush hx hb zd_Q_feed_29 (by decide) ?_
    refine zi_icmp_ge (tgt := 121) hx hb zd_Q_feed_31 (by decide) (by omega) (fun _ => ?_) (fun c31 => absurd c31 (by decide))
    refine lv_aload_n hx hb zd_Q_feed_121 rfl (lv_at hl 2 rfl) ?_
    refine va_get (D := g.1) (ci := 5) (v := .int (iI (ln + 4 + 4 + 4 + 4 + 4))) (C := zR_Q) (T := zT_Q) (N := 21) hx hb hw zin_Q hown hK hP 0 rfl rfl 2 (by decide) (hw _ zw_3_200) (fun _ h9 => h9) rfl zd_Q_feed_122 ?_
    refine zi_as (ln + 20) (by omega) ?_
    rw [show ln + 4 + 4 + 4 + 4 + 4 = ln + 20 by omega] at hP
    exact zw_iret hx hb hr hlk (ws := [(qq, .inr (5, [.int (iI (0)), .ref (rf 0), .int (iI (ln + 20)), .int (iI (pl)), .int (iI (yy)), .int (iI (mm)), .int (iI (dd)), .int (iI (at0)), .ref (rf 1), .ref (rf 2), .ref (rf 3), .ref (rf 4), .ref (rf 5), .ref (rf 6), .int (iI (wa)), .int (iI (on)), .int (iI (tw)), .ref (rf 7), .ref (rf 8), .ref (rf 9), .int (iI (hc))])), (rf 0, .inl (g.2 3, 400, .inl (zaI (zSg (zP20 tf ln v1 v2 v3 v4 v5)))))]) hP hS zd_Q_feed_125
  · omega
