/-! the reference: after, upTo, next, last, later, is -/
theorem zd_Q_after_0 : decode zc_Q_after 0 = .ok (.aload_n 0, 1) := by decide +kernel
theorem zd_Q_after_1 : decode zc_Q_after 1 = .ok (.getfield 27, 3) := by decide +kernel
theorem zd_Q_after_4 : decode zc_Q_after 4 = .ok (.iconst 0, 1) := by decide +kernel
theorem zd_Q_after_5 : decode zc_Q_after 5 = .ok (.baload, 1) := by decide +kernel
theorem zd_Q_after_6 : decode zc_Q_after 6 = .ok (.ifCond .ne 7, 3) := by decide +kernel
theorem zd_Q_after_9 : decode zc_Q_after 9 = .ok (.ldc2_w 209, 3) := by decide +kernel
theorem zd_Q_after_12 : decode zc_Q_after 12 = .ok (.lreturn, 1) := by decide +kernel
theorem zd_Q_after_13 : decode zc_Q_after 13 = .ok (.lload_n 1, 1) := by decide +kernel
theorem zd_Q_after_14 : decode zc_Q_after 14 = .ok (.lconst 1, 1) := by decide +kernel
theorem zd_Q_after_15 : decode zc_Q_after 15 = .ok (.ladd, 1) := by decide +kernel
theorem zd_Q_after_16 : decode zc_Q_after 16 = .ok (.lstore_n 3, 1) := by decide +kernel
theorem zd_Q_after_17 : decode zc_Q_after 17 = .ok (.lload_n 3, 1) := by decide +kernel
theorem zd_Q_after_18 : decode zc_Q_after 18 = .ok (.ldc2_w 211, 3) := by decide +kernel
theorem zd_Q_after_21 : decode zc_Q_after 21 = .ok (.lcmp, 1) := by decide +kernel
theorem zd_Q_after_22 : decode zc_Q_after 22 = .ok (.ifCond .gt 68, 3) := by decide +kernel
theorem zd_Q_after_25 : decode zc_Q_after 25 = .ok (.lload_n 3, 1) := by decide +kernel
theorem zd_Q_after_26 : decode zc_Q_after 26 = .ok (.ldc2_w 213, 3) := by decide +kernel
theorem zd_Q_after_29 : decode zc_Q_after 29 = .ok (.ldiv, 1) := by decide +kernel
theorem zd_Q_after_30 : decode zc_Q_after 30 = .ok (.l2i, 1) := by decide +kernel
theorem zd_Q_after_31 : decode zc_Q_after 31 = .ok (.istore 5, 2) := by decide +kernel
theorem zd_Q_after_33 : decode zc_Q_after 33 = .ok (.aload_n 0, 1) := by decide +kernel
theorem zd_Q_after_34 : decode zc_Q_after 34 = .ok (.iconst 0, 1) := by decide +kernel
theorem zd_Q_after_35 : decode zc_Q_after 35 = .ok (.iload 5, 2) := by decide +kernel
theorem zd_Q_after_37 : decode zc_Q_after 37 = .ok (.invokevirtual 215, 3) := by decide +kernel
theorem zd_Q_after_40 : decode zc_Q_after 40 = .ok (.ifCond .eq 17, 3) := by decide +kernel
theorem zd_Q_after_43 : decode zc_Q_after 43 = .ok (.aload_n 0, 1) := by decide +kernel
theorem zd_Q_after_44 : decode zc_Q_after 44 = .ok (.iconst 0, 1) := by decide +kernel
theorem zd_Q_after_45 : decode zc_Q_after 45 = .ok (.lload_n 3, 1) := by decide +kernel
theorem zd_Q_after_46 : decode zc_Q_after 46 = .ok (.ldc2_w 213, 3) := by decide +kernel
theorem zd_Q_after_49 : decode zc_Q_after 49 = .ok (.lrem, 1) := by decide +kernel
theorem zd_Q_after_50 : decode zc_Q_after 50 = .ok (.l2i, 1) := by decide +kernel
theorem zd_Q_after_51 : decode zc_Q_after 51 = .ok (.invokevirtual 218, 3) := by decide +kernel
theorem zd_Q_after_54 : decode zc_Q_after 54 = .ok (.goto 4, 3) := by decide +kernel
theorem zd_Q_after_57 : decode zc_Q_after 57 = .ok (.iconst (-1), 1) := by decide +kernel
theorem zd_Q_after_58 : decode zc_Q_after 58 = .ok (.istore 6, 2) := by decide +kernel
theorem zd_Q_after_60 : decode zc_Q_after 60 = .ok (.iload 6, 2) := by decide +kernel
theorem zd_Q_after_62 : decode zc_Q_after 62 = .ok (.ifCond .lt 15, 3) := by decide +kernel
theorem zd_Q_after_65 : decode zc_Q_after 65 = .ok (.ldc2_w 213, 3) := by decide +kernel
theorem zd_Q_after_68 : decode zc_Q_after 68 = .ok (.iload 5, 2) := by decide +kernel
theorem zd_Q_after_70 : decode zc_Q_after 70 = .ok (.i2l, 1) := by decide +kernel
theorem zd_Q_after_71 : decode zc_Q_after 71 = .ok (.lmul, 1) := by decide +kernel
theorem zd_Q_after_72 : decode zc_Q_after 72 = .ok (.iload 6, 2) := by decide +kernel
theorem zd_Q_after_74 : decode zc_Q_after 74 = .ok (.i2l, 1) := by decide +kernel
theorem zd_Q_after_75 : decode zc_Q_after 75 = .ok (.ladd, 1) := by decide +kernel
theorem zd_Q_after_76 : decode zc_Q_after 76 = .ok (.lreturn, 1) := by decide +kernel
theorem zd_Q_after_77 : decode zc_Q_after 77 = .ok (.ldc2_w 213, 3) := by decide +kernel
theorem zd_Q_after_80 : decode zc_Q_after 80 = .ok (.iload 5, 2) := by decide +kernel
theorem zd_Q_after_82 : decode zc_Q_after 82 = .ok (.i2l, 1) := by decide +kernel
theorem zd_Q_after_83 : decode zc_Q_after 83 = .ok (.lconst 1, 1) := by decide +kernel
theorem zd_Q_after_84 : decode zc_Q_after 84 = .ok (.ladd, 1) := by decide +kernel
theorem zd_Q_after_85 : decode zc_Q_after 85 = .ok (.lmul, 1) := by decide +kernel
theorem zd_Q_after_86 : decode zc_Q_after 86 = .ok (.lstore_n 3, 1) := by decide +kernel
theorem zd_Q_after_87 : decode zc_Q_after 87 = .ok (.goto (-70), 3) := by decide +kernel
theorem zd_Q_after_90 : decode zc_Q_after 90 = .ok (.ldc2_w 209, 3) := by decide +kernel
theorem zd_Q_after_93 : decode zc_Q_after 93 = .ok (.lreturn, 1) := by decide +kernel
theorem zd_Q_upTo_0 : decode zc_Q_upTo 0 = .ok (.aload_n 0, 1) := by decide +kernel
theorem zd_Q_upTo_1 : decode zc_Q_upTo 1 = .ok (.getfield 27, 3) := by decide +kernel
theorem zd_Q_upTo_4 : decode zc_Q_upTo 4 = .ok (.iconst 0, 1) := by decide +kernel
theorem zd_Q_upTo_5 : decode zc_Q_upTo 5 = .ok (.baload, 1) := by decide +kernel
theorem zd_Q_upTo_6 : decode zc_Q_upTo 6 = .ok (.ifCond .ne 7, 3) := by decide +kernel
theorem zd_Q_upTo_9 : decode zc_Q_upTo 9 = .ok (.ldc2_w 209, 3) := by decide +kernel
theorem zd_Q_upTo_12 : decode zc_Q_upTo 12 = .ok (.lreturn, 1) := by decide +kernel
theorem zd_Q_upTo_13 : decode zc_Q_upTo 13 = .ok (.lload_n 1, 1) := by decide +kernel
theorem zd_Q_upTo_14 : decode zc_Q_upTo 14 = .ok (.lstore_n 3, 1) := by decide +kernel
theorem zd_Q_upTo_15 : decode zc_Q_upTo 15 = .ok (.lload_n 3, 1) := by decide +kernel
theorem zd_Q_upTo_16 : decode zc_Q_upTo 16 = .ok (.lconst 0, 1) := by decide +kernel
theorem zd_Q_upTo_17 : decode zc_Q_upTo 17 = .ok (.lcmp, 1) := by decide +kernel
theorem zd_Q_upTo_18 : decode zc_Q_upTo 18 = .ok (.ifCond .lt 68, 3) := by decide +kernel
theorem zd_Q_upTo_21 : decode zc_Q_upTo 21 = .ok (.lload_n 3, 1) := by decide +kernel
theorem zd_Q_upTo_22 : decode zc_Q_upTo 22 = .ok (.ldc2_w 213, 3) := by decide +kernel
theorem zd_Q_upTo_25 : decode zc_Q_upTo 25 = .ok (.ldiv, 1) := by decide +kernel
theorem zd_Q_upTo_26 : decode zc_Q_upTo 26 = .ok (.l2i, 1) := by decide +kernel
theorem zd_Q_upTo_27 : decode zc_Q_upTo 27 = .ok (.istore 5, 2) := by decide +kernel
theorem zd_Q_upTo_29 : decode zc_Q_upTo 29 = .ok (.aload_n 0, 1) := by decide +kernel
theorem zd_Q_upTo_30 : decode zc_Q_upTo 30 = .ok (.iconst 0, 1) := by decide +kernel
theorem zd_Q_upTo_31 : decode zc_Q_upTo 31 = .ok (.iload 5, 2) := by decide +kernel
theorem zd_Q_upTo_33 : decode zc_Q_upTo 33 = .ok (.invokevirtual 215, 3) := by decide +kernel
theorem zd_Q_upTo_36 : decode zc_Q_upTo 36 = .ok (.ifCond .eq 17, 3) := by decide +kernel
theorem zd_Q_upTo_39 : decode zc_Q_upTo 39 = .ok (.aload_n 0, 1) := by decide +kernel
theorem zd_Q_upTo_40 : decode zc_Q_upTo 40 = .ok (.iconst 0, 1) := by decide +kernel
theorem zd_Q_upTo_41 : decode zc_Q_upTo 41 = .ok (.lload_n 3, 1) := by decide +kernel
theorem zd_Q_upTo_42 : decode zc_Q_upTo 42 = .ok (.ldc2_w 213, 3) := by decide +kernel
theorem zd_Q_upTo_45 : decode zc_Q_upTo 45 = .ok (.lrem, 1) := by decide +kernel
theorem zd_Q_upTo_46 : decode zc_Q_upTo 46 = .ok (.l2i, 1) := by decide +kernel
theorem zd_Q_upTo_47 : decode zc_Q_upTo 47 = .ok (.invokevirtual 221, 3) := by decide +kernel
theorem zd_Q_upTo_50 : decode zc_Q_upTo 50 = .ok (.goto 4, 3) := by decide +kernel
theorem zd_Q_upTo_53 : decode zc_Q_upTo 53 = .ok (.iconst (-1), 1) := by decide +kernel
theorem zd_Q_upTo_54 : decode zc_Q_upTo 54 = .ok (.istore 6, 2) := by decide +kernel
theorem zd_Q_upTo_56 : decode zc_Q_upTo 56 = .ok (.iload 6, 2) := by decide +kernel
theorem zd_Q_upTo_58 : decode zc_Q_upTo 58 = .ok (.ifCond .lt 15, 3) := by decide +kernel
theorem zd_Q_upTo_61 : decode zc_Q_upTo 61 = .ok (.ldc2_w 213, 3) := by decide +kernel
theorem zd_Q_upTo_64 : decode zc_Q_upTo 64 = .ok (.iload 5, 2) := by decide +kernel
theorem zd_Q_upTo_66 : decode zc_Q_upTo 66 = .ok (.i2l, 1) := by decide +kernel
theorem zd_Q_upTo_67 : decode zc_Q_upTo 67 = .ok (.lmul, 1) := by decide +kernel
theorem zd_Q_upTo_68 : decode zc_Q_upTo 68 = .ok (.iload 6, 2) := by decide +kernel
theorem zd_Q_upTo_70 : decode zc_Q_upTo 70 = .ok (.i2l, 1) := by decide +kernel
theorem zd_Q_upTo_71 : decode zc_Q_upTo 71 = .ok (.ladd, 1) := by decide +kernel
theorem zd_Q_upTo_72 : decode zc_Q_upTo 72 = .ok (.lreturn, 1) := by decide +kernel
theorem zd_Q_upTo_73 : decode zc_Q_upTo 73 = .ok (.ldc2_w 213, 3) := by decide +kernel
theorem zd_Q_upTo_76 : decode zc_Q_upTo 76 = .ok (.iload 5, 2) := by decide +kernel
theorem zd_Q_upTo_78 : decode zc_Q_upTo 78 = .ok (.i2l, 1) := by decide +kernel
theorem zd_Q_upTo_79 : decode zc_Q_upTo 79 = .ok (.lmul, 1) := by decide +kernel
theorem zd_Q_upTo_80 : decode zc_Q_upTo 80 = .ok (.lconst 1, 1) := by decide +kernel
theorem zd_Q_upTo_81 : decode zc_Q_upTo 81 = .ok (.lsub, 1) := by decide +kernel
theorem zd_Q_upTo_82 : decode zc_Q_upTo 82 = .ok (.lstore_n 3, 1) := by decide +kernel
theorem zd_Q_upTo_83 : decode zc_Q_upTo 83 = .ok (.goto (-68), 3) := by decide +kernel
theorem zd_Q_upTo_86 : decode zc_Q_upTo 86 = .ok (.ldc2_w 209, 3) := by decide +kernel
theorem zd_Q_upTo_89 : decode zc_Q_upTo 89 = .ok (.lreturn, 1) := by decide +kernel
theorem zd_Q_out_0 : decode zc_Q_out 0 = .ok (.lload_n 1, 1) := by decide +kernel
theorem zd_Q_out_1 : decode zc_Q_out 1 = .ok (.lconst 0, 1) := by decide +kernel
theorem zd_Q_out_2 : decode zc_Q_out 2 = .ok (.lcmp, 1) := by decide +kernel
theorem zd_Q_out_3 : decode zc_Q_out 3 = .ok (.ifCond .lt 11, 3) := by decide +kernel
theorem zd_Q_out_6 : decode zc_Q_out 6 = .ok (.lload_n 1, 1) := by decide +kernel
theorem zd_Q_out_7 : decode zc_Q_out 7 = .ok (.ldc2_w 211, 3) := by decide +kernel
theorem zd_Q_out_10 : decode zc_Q_out 10 = .ok (.lcmp, 1) := by decide +kernel
theorem zd_Q_out_11 : decode zc_Q_out 11 = .ok (.ifCond .le 7, 3) := by decide +kernel
theorem zd_Q_out_14 : decode zc_Q_out 14 = .ok (.iconst 1, 1) := by decide +kernel
theorem zd_Q_out_15 : decode zc_Q_out 15 = .ok (.goto 4, 3) := by decide +kernel
theorem zd_Q_out_18 : decode zc_Q_out 18 = .ok (.iconst 0, 1) := by decide +kernel
theorem zd_Q_out_19 : decode zc_Q_out 19 = .ok (.ireturn, 1) := by decide +kernel
theorem zd_Q_next_0 : decode zc_Q_next 0 = .ok (.aload_n 0, 1) := by decide +kernel
theorem zd_Q_next_1 : decode zc_Q_next 1 = .ok (.iconst 0, 1) := by decide +kernel
theorem zd_Q_next_2 : decode zc_Q_next 2 = .ok (.putfield 93, 3) := by decide +kernel
theorem zd_Q_next_5 : decode zc_Q_next 5 = .ok (.aload_n 0, 1) := by decide +kernel
theorem zd_Q_next_6 : decode zc_Q_next 6 = .ok (.lload_n 1, 1) := by decide +kernel
theorem zd_Q_next_7 : decode zc_Q_next 7 = .ok (.invokevirtual 224, 3) := by decide +kernel
theorem zd_Q_next_10 : decode zc_Q_next 10 = .ok (.ifCond .eq 12, 3) := by decide +kernel
theorem zd_Q_next_13 : decode zc_Q_next 13 = .ok (.aload_n 0, 1) := by decide +kernel
theorem zd_Q_next_14 : decode zc_Q_next 14 = .ok (.iconst 1, 1) := by decide +kernel
theorem zd_Q_next_15 : decode zc_Q_next 15 = .ok (.invokevirtual 203, 3) := by decide +kernel
theorem zd_Q_next_18 : decode zc_Q_next 18 = .ok (.i2l, 1) := by decide +kernel
theorem zd_Q_next_19 : decode zc_Q_next 19 = .ok (.goto 8, 3) := by decide +kernel
theorem zd_Q_next_22 : decode zc_Q_next 22 = .ok (.aload_n 0, 1) := by decide +kernel
theorem zd_Q_next_23 : decode zc_Q_next 23 = .ok (.lload_n 1, 1) := by decide +kernel
theorem zd_Q_next_24 : decode zc_Q_next 24 = .ok (.invokevirtual 228, 3) := by decide +kernel
theorem zd_Q_next_27 : decode zc_Q_next 27 = .ok (.lreturn, 1) := by decide +kernel
theorem zd_Q_last_0 : decode zc_Q_last 0 = .ok (.aload_n 0, 1) := by decide +kernel
theorem zd_Q_last_1 : decode zc_Q_last 1 = .ok (.iconst 0, 1) := by decide +kernel
theorem zd_Q_last_2 : decode zc_Q_last 2 = .ok (.putfield 93, 3) := by decide +kernel
theorem zd_Q_last_5 : decode zc_Q_last 5 = .ok (.aload_n 0, 1) := by decide +kernel
theorem zd_Q_last_6 : decode zc_Q_last 6 = .ok (.lload_n 1, 1) := by decide +kernel
theorem zd_Q_last_7 : decode zc_Q_last 7 = .ok (.invokevirtual 224, 3) := by decide +kernel
theorem zd_Q_last_10 : decode zc_Q_last 10 = .ok (.ifCond .eq 12, 3) := by decide +kernel
theorem zd_Q_last_13 : decode zc_Q_last 13 = .ok (.aload_n 0, 1) := by decide +kernel
theorem zd_Q_last_14 : decode zc_Q_last 14 = .ok (.iconst 1, 1) := by decide +kernel
theorem zd_Q_last_15 : decode zc_Q_last 15 = .ok (.invokevirtual 203, 3) := by decide +kernel
theorem zd_Q_last_18 : decode zc_Q_last 18 = .ok (.i2l, 1) := by decide +kernel
theorem zd_Q_last_19 : decode zc_Q_last 19 = .ok (.goto 8, 3) := by decide +kernel
theorem zd_Q_last_22 : decode zc_Q_last 22 = .ok (.aload_n 0, 1) := by decide +kernel
theorem zd_Q_last_23 : decode zc_Q_last 23 = .ok (.lload_n 1, 1) := by decide +kernel
theorem zd_Q_last_24 : decode zc_Q_last 24 = .ok (.invokevirtual 232, 3) := by decide +kernel
theorem zd_Q_last_27 : decode zc_Q_last 27 = .ok (.lreturn, 1) := by decide +kernel
theorem zd_Q_later_0 : decode zc_Q_later 0 = .ok (.aload_n 0, 1) := by decide +kernel
theorem zd_Q_later_1 : decode zc_Q_later 1 = .ok (.iconst 0, 1) := by decide +kernel
theorem zd_Q_later_2 : decode zc_Q_later 2 = .ok (.putfield 93, 3) := by decide +kernel
theorem zd_Q_later_5 : decode zc_Q_later 5 = .ok (.aload_n 0, 1) := by decide +kernel
theorem zd_Q_later_6 : decode zc_Q_later 6 = .ok (.lload_n 1, 1) := by decide +kernel
theorem zd_Q_later_7 : decode zc_Q_later 7 = .ok (.invokevirtual 224, 3) := by decide +kernel
theorem zd_Q_later_10 : decode zc_Q_later 10 = .ok (.ifCond .ne 14, 3) := by decide +kernel
theorem zd_Q_later_13 : decode zc_Q_later 13 = .ok (.iload_n 3, 1) := by decide +kernel
theorem zd_Q_later_14 : decode zc_Q_later 14 = .ok (.iconst 1, 1) := by decide +kernel
theorem zd_Q_later_15 : decode zc_Q_later 15 = .ok (.if_icmp .lt 9, 3) := by decide +kernel
theorem zd_Q_later_18 : decode zc_Q_later 18 = .ok (.iload_n 3, 1) := by decide +kernel
theorem zd_Q_later_19 : decode zc_Q_later 19 = .ok (.bipush 100, 2) := by decide +kernel
theorem zd_Q_later_21 : decode zc_Q_later 21 = .ok (.if_icmp .le 10, 3) := by decide +kernel
theorem zd_Q_later_24 : decode zc_Q_later 24 = .ok (.aload_n 0, 1) := by decide +kernel
theorem zd_Q_later_25 : decode zc_Q_later 25 = .ok (.iconst 1, 1) := by decide +kernel
theorem zd_Q_later_26 : decode zc_Q_later 26 = .ok (.invokevirtual 203, 3) := by decide +kernel
theorem zd_Q_later_29 : decode zc_Q_later 29 = .ok (.i2l, 1) := by decide +kernel
theorem zd_Q_later_30 : decode zc_Q_later 30 = .ok (.lreturn, 1) := by decide +kernel
theorem zd_Q_later_31 : decode zc_Q_later 31 = .ok (.lload_n 1, 1) := by decide +kernel
theorem zd_Q_later_32 : decode zc_Q_later 32 = .ok (.lstore 4, 2) := by decide +kernel
theorem zd_Q_later_34 : decode zc_Q_later 34 = .ok (.iconst 0, 1) := by decide +kernel
theorem zd_Q_later_35 : decode zc_Q_later 35 = .ok (.istore 6, 2) := by decide +kernel
theorem zd_Q_later_37 : decode zc_Q_later 37 = .ok (.iload 6, 2) := by decide +kernel
theorem zd_Q_later_39 : decode zc_Q_later 39 = .ok (.iload_n 3, 1) := by decide +kernel
theorem zd_Q_later_40 : decode zc_Q_later 40 = .ok (.if_icmp .ge 24, 3) := by decide +kernel
theorem zd_Q_later_43 : decode zc_Q_later 43 = .ok (.lload 4, 2) := by decide +kernel
theorem zd_Q_later_45 : decode zc_Q_later 45 = .ok (.lconst 0, 1) := by decide +kernel
theorem zd_Q_later_46 : decode zc_Q_later 46 = .ok (.lcmp, 1) := by decide +kernel
theorem zd_Q_later_47 : decode zc_Q_later 47 = .ok (.ifCond .lt 17, 3) := by decide +kernel
theorem zd_Q_later_50 : decode zc_Q_later 50 = .ok (.aload_n 0, 1) := by decide +kernel
theorem zd_Q_later_51 : decode zc_Q_later 51 = .ok (.lload 4, 2) := by decide +kernel
theorem zd_Q_later_53 : decode zc_Q_later 53 = .ok (.invokevirtual 228, 3) := by decide +kernel
theorem zd_Q_later_56 : decode zc_Q_later 56 = .ok (.lstore 4, 2) := by decide +kernel
theorem zd_Q_later_58 : decode zc_Q_later 58 = .ok (.iinc 6 1, 3) := by decide +kernel
theorem zd_Q_later_61 : decode zc_Q_later 61 = .ok (.goto (-24), 3) := by decide +kernel
theorem zd_Q_later_64 : decode zc_Q_later 64 = .ok (.lload 4, 2) := by decide +kernel
theorem zd_Q_later_66 : decode zc_Q_later 66 = .ok (.lreturn, 1) := by decide +kernel
theorem zd_Q_is_0 : decode zc_Q_is 0 = .ok (.aload_n 0, 1) := by decide +kernel
theorem zd_Q_is_1 : decode zc_Q_is 1 = .ok (.iconst 0, 1) := by decide +kernel
theorem zd_Q_is_2 : decode zc_Q_is 2 = .ok (.putfield 93, 3) := by decide +kernel
theorem zd_Q_is_5 : decode zc_Q_is 5 = .ok (.aload_n 0, 1) := by decide +kernel
theorem zd_Q_is_6 : decode zc_Q_is 6 = .ok (.lload_n 1, 1) := by decide +kernel
theorem zd_Q_is_7 : decode zc_Q_is 7 = .ok (.invokevirtual 224, 3) := by decide +kernel
theorem zd_Q_is_10 : decode zc_Q_is 10 = .ok (.ifCond .eq 19, 3) := by decide +kernel
theorem zd_Q_is_13 : decode zc_Q_is 13 = .ok (.aload_n 0, 1) := by decide +kernel
theorem zd_Q_is_14 : decode zc_Q_is 14 = .ok (.iconst 1, 1) := by decide +kernel
theorem zd_Q_is_15 : decode zc_Q_is 15 = .ok (.invokevirtual 203, 3) := by decide +kernel
theorem zd_Q_is_18 : decode zc_Q_is 18 = .ok (.ifCond .le 7, 3) := by decide +kernel
theorem zd_Q_is_21 : decode zc_Q_is 21 = .ok (.iconst 1, 1) := by decide +kernel
theorem zd_Q_is_22 : decode zc_Q_is 22 = .ok (.goto 22, 3) := by decide +kernel
theorem zd_Q_is_25 : decode zc_Q_is 25 = .ok (.iconst 0, 1) := by decide +kernel
theorem zd_Q_is_26 : decode zc_Q_is 26 = .ok (.goto 18, 3) := by decide +kernel
theorem zd_Q_is_29 : decode zc_Q_is 29 = .ok (.aload_n 0, 1) := by decide +kernel
theorem zd_Q_is_30 : decode zc_Q_is 30 = .ok (.lload_n 1, 1) := by decide +kernel
theorem zd_Q_is_31 : decode zc_Q_is 31 = .ok (.invokevirtual 232, 3) := by decide +kernel
theorem zd_Q_is_34 : decode zc_Q_is 34 = .ok (.lload_n 1, 1) := by decide +kernel
theorem zd_Q_is_35 : decode zc_Q_is 35 = .ok (.lcmp, 1) := by decide +kernel
theorem zd_Q_is_36 : decode zc_Q_is 36 = .ok (.ifCond .ne 7, 3) := by decide +kernel
theorem zd_Q_is_39 : decode zc_Q_is 39 = .ok (.iconst 1, 1) := by decide +kernel
theorem zd_Q_is_40 : decode zc_Q_is 40 = .ok (.goto 4, 3) := by decide +kernel
theorem zd_Q_is_43 : decode zc_Q_is 43 = .ok (.iconst 0, 1) := by decide +kernel
theorem zd_Q_is_44 : decode zc_Q_is 44 = .ok (.ireturn, 1) := by decide +kernel
noncomputable def qF (st : Nat → Nat → Bool) (wf fi sf : Nat → Int) (hdf : Nat → Bool) (n : Int) : Bool := qDF st wf fi sf hdf (dMon n) n
section QTM
variable {F G : Int → Bool} {tm x : Int} {f0 f1 f2 : Nat → Bool}
def tNo (F G : Int → Bool) (a b : Int) : Prop := ∀ T, a ≤ T → T < b → tOk F G T = false
theorem tNo_0 {a b : Int} (h : b ≤ a) : tNo F G a b := fun T h1 h2 => absurd h1 (by omega)
theorem tNo_d {d : Int} (hx : 86400 * d ≤ x ∧ x < 86400 * (d + 1)) (hN : tNo F G tm x) (h : F d = false) : tNo F G tm (86400 * (d + 1)) := fun T h1 h2 => by
  by_cases e : T < x
  · exact hN T h1 e
  · exact tOk_F (by rw [show T / 86400 = d by omega]; exact h)
theorem tNo_s {d r : Int} (hx : 86400 * d ≤ x ∧ x < 86400 * (d + 1)) (hN : tNo F (sOk f0 f1 f2) tm x) (hs : sSF f0 f1 f2 (x % 86400) r) (h : r < 0) : tNo F (sOk f0 f1 f2) tm (86400 * (d + 1)) := fun T h1 h2 => by
  by_cases e : T < x
  · exact hN T h1 e
  · rcases hs with ⟨-, hs⟩ | ⟨h3, -⟩
    · exact tOk_G (hs (T % 86400) (by omega) (by omega))
    · omega
theorem tNo_hit {d r : Int} (hm : tm + 1 ≤ x) (hx : 86400 * d ≤ x ∧ x < 86400 * (d + 1)) (hd : d ≤ 120529) (hN : tNo F (sOk f0 f1 f2) (tm + 1) x) (hF : F d = true) (hs : sSF f0 f1 f2 (x % 86400) r) (h : 0 ≤ r) : tNF F (sOk f0 f1 f2) tm (86400 * d + r) := by
  rcases hs with ⟨h3, -⟩ | ⟨h3, h4, h5, h6⟩
  · omega
  · refine Or.inr ⟨by omega, by omega, tOk_t (d := d) (x := r) (by omega) (by omega) hF h5, fun T g1 g2 => ?_⟩
    by_cases e : T < x
    · exact hN T (by omega) e
    · exact tOk_G (h6 (T % 86400) (by omega) (by omega))
theorem tNo_end (hN : tNo F G (tm + 1) x) (h : 10413791999 < x) : tNF F G tm (-1) := Or.inl ⟨rfl, fun T h1 h2 => hN T (by omega) (by omega)⟩
theorem tNb_d {d : Int} (hx : 86400 * d ≤ x ∧ x < 86400 * (d + 1)) (hN : tNo F G (x + 1) (tm + 1)) (h : F d = false) : tNo F G (86400 * d - 1 + 1) (tm + 1) := fun T h1 h2 => by
  by_cases e : x + 1 ≤ T
  · exact hN T e h2
  · exact tOk_F (by rw [show T / 86400 = d by omega]; exact h)
theorem tNb_s {d r : Int} (hx : 86400 * d ≤ x ∧ x < 86400 * (d + 1)) (hN : tNo F (sOk f0 f1 f2) (x + 1) (tm + 1)) (hs : sSB f0 f1 f2 (x % 86400) r) (h : r < 0) : tNo F (sOk f0 f1 f2) (86400 * d - 1 + 1) (tm + 1) := fun T h1 h2 => by
  by_cases e : x + 1 ≤ T
  · exact hN T e h2
  · rcases hs with ⟨-, hs⟩ | ⟨h3, -⟩
    · exact tOk_G (hs (T % 86400) (by omega) (by omega))
    · omega
theorem tNb_hit {d r : Int} (hm : x ≤ tm) (hx : 86400 * d ≤ x ∧ x < 86400 * (d + 1)) (hd : 0 ≤ d) (hN : tNo F (sOk f0 f1 f2) (x + 1) (tm + 1)) (hF : F d = true) (hs : sSB f0 f1 f2 (x % 86400) r) (h : 0 ≤ r) : tNB F (sOk f0 f1 f2) tm (86400 * d + r) := by
  rcases hs with ⟨h3, -⟩ | ⟨h3, h4, h5, h6⟩
  · omega
  · refine Or.inr ⟨by omega, by omega, tOk_t (d := d) (x := r) (by omega) (by omega) hF h5, fun T g1 g2 => ?_⟩
    by_cases e : x + 1 ≤ T
    · exact hN T e (by omega)
    · exact tOk_G (h6 (T % 86400) (by omega) (by omega))
theorem tNb_end (hN : tNo F G (x + 1) (tm + 1)) (h : x < 0) : tNB F G tm (-1) := Or.inl ⟨rfl, fun T h1 h2 => hN T (by omega) (by omega)⟩
end QTM
set_option maxHeartbeats 4000000 in
set_option maxRecDepth 100000 in
theorem c_Q_after (l : Launch) (g : zGl) (hl0 : l.stackTraces = false) (qq : Nat) (rf : Nat → Nat) (fl ln pl yy mm dd at0 wa on tw hc : Int) (sa sr : Nat → Nat) (st : Nat → Nat → Bool) (fa wya sea : Nat → Nat) (fi wf sf : Nat → Int) (hdf : Nat → Bool) (to : Nat → Bool) (tm rr : Int) (hx0 : 0 ≤ tm ∧ tm ≤ 10413791999) (hto : to 0 = true) (hfi : 0 ≤ fi 0 ∧ fi 0 ≤ 31) (hwf : 0 ≤ wf 0 ∧ wf 0 ≤ 4 ∧ (wf 0 = 4 → 1 ≤ fi 0)) (hf1 : 0 ≤ fi 1 ∧ fi 1 ≤ 31 ∧ 0 ≤ wf 1 ∧ wf 1 ≤ 6 ∧ 0 ≤ sf 1 ∧ sf 1 ≤ 5) (hj : tNF (qF st wf fi sf hdf) (sOk (st 0) (st 1) (st 2)) tm rr) (mc ms : Nat) (hmc : zHm (True) mc ms) : zEi l zy_Q_after zc_Q_after 7 (some .long) ({ frames := 5, cells := mc, slots := ms, locals := 113 }) g (fun _ => zN) [.ref (qq), .long (lI (tm))] [(qq, .inr (5, [.int (iI (fl)), .ref (rf 0), .int (iI (ln)), .int (iI (pl)), .int (iI (yy)), .int (iI (mm)), .int (iI (dd)), .int (iI (at0)), .ref (rf 1), .ref (rf 2), .ref (rf 3), .ref (rf 4), .ref (rf 5), .ref (rf 6), .int (iI (wa)), .int (iI (on)), .int (iI (tw)), .ref (rf 7), .ref (rf 8), .ref (rf 9), .int (iI (hc))])), (rf 1, .inl (g.2 6, 1, .inr (.inr (.inr (.inr (zaR sa)))))), (sa 0, .inl (g.2 5, 7, .inr (.inr (.inr (.inr (zaR sr)))))), (sr 0, .inl (g.2 1, 330, .inl (zaB (st 0)))), (sr 1, .inl (g.2 1, 330, .inl (zaB (st 1)))), (sr 2, .inl (g.2 1, 330, .inl (zaB (st 2)))), (sr 3, .inl (g.2 1, 330, .inl (zaB (st 3)))), (sr 4, .inl (g.2 1, 330, .inl (zaB (st 4)))), (sr 5, .inl (g.2 1, 330, .inl (zaB (st 5)))), (sr 6, .inl (g.2 1, 330, .inl (zaB (st 6)))), (rf 4, .inl (g.2 7, 1, .inr (.inr (.inr (.inr (zaR wya)))))), (wya 0, .inl (g.2 0, 2, .inl (zaI wf))), (rf 5, .inl (g.2 7, 1, .inr (.inr (.inr (.inr (zaR fa)))))), (fa 0, .inl (g.2 0, 2, .inl (zaI fi))), (rf 6, .inl (g.2 7, 1, .inr (.inr (.inr (.inr (zaR sea)))))), (sea 0, .inl (g.2 0, 2, .inl (zaI sf))), (rf 9, .inl (g.2 1, 120530, .inl (zaB hdf))), (rf 3, .inl (g.2 1, 1, .inl (zaB to)))] (True) (some (.long (lI (rr)))) (fun u => [(qq, .inr (5, [.int (iI (fl)), .ref (rf 0), .int (iI (ln)), .int (iI (pl)), .int (iI (u.1 0)), .int (iI (u.1 1)), .int (iI (u.1 2)), .int (iI (at0)), .ref (rf 1), .ref (rf 2), .ref (rf 3), .ref (rf 4), .ref (rf 5), .ref (rf 6), .int (iI (wa)), .int (iI (on)), .int (iI (tw)), .ref (rf 7), .ref (rf 8), .ref (rf 9), .int (iI (hc))])), (rf 1, .inl (g.2 6, 1, .inr (.inr (.inr (.inr (zaR sa)))))), (sa 0, .inl (g.2 5, 7, .inr (.inr (.inr (.inr (zaR sr)))))), (sr 0, .inl (g.2 1, 330, .inl (zaB (st 0)))), (sr 1, .inl (g.2 1, 330, .inl (zaB (st 1)))), (sr 2, .inl (g.2 1, 330, .inl (zaB (st 2)))), (sr 3, .inl (g.2 1, 330, .inl (zaB (st 3)))), (sr 4, .inl (g.2 1, 330, .inl (zaB (st 4)))), (sr 5, .inl (g.2 1, 330, .inl (zaB (st 5)))), (sr 6, .inl (g.2 1, 330, .inl (zaB (st 6)))), (rf 4, .inl (g.2 7, 1, .inr (.inr (.inr (.inr (zaR wya)))))), (wya 0, .inl (g.2 0, 2, .inl (zaI wf))), (rf 5, .inl (g.2 7, 1, .inr (.inr (.inr (.inr (zaR fa)))))), (fa 0, .inl (g.2 0, 2, .inl (zaI fi))), (rf 6, .inl (g.2 7, 1, .inr (.inr (.inr (.inr (zaR sea)))))), (sea 0, .inl (g.2 0, 2, .inl (zaI sf))), (rf 9, .inl (g.2 1, 120530, .inl (zaB hdf))), (rf 3, .inl (g.2 1, 1, .inl (zaB to)))]) "java/lang/UnsupportedOperationException" (fun u => [(qq, .inr (5, [.int (iI (fl)), .ref (rf 0), .int (iI (ln)), .int (iI (pl)), .int (iI (u.1 0)), .int (iI (u.1 1)), .int (iI (u.1 2)), .int (iI (at0)), .ref (rf 1), .ref (rf 2), .ref (rf 3), .ref (rf 4), .ref (rf 5), .ref (rf 6), .int (iI (wa)), .int (iI (on)), .int (iI (tw)), .ref (rf 7), .ref (rf 8), .ref (rf 9), .int (iI (hc))])), (rf 1, .inl (g.2 6, 1, .inr (.inr (.inr (.inr (zaR sa)))))), (sa 0, .inl (g.2 5, 7, .inr (.inr (.inr (.inr (zaR sr)))))), (sr 0, .inl (g.2 1, 330, .inl (zaB (st 0)))), (sr 1, .inl (g.2 1, 330, .inl (zaB (st 1)))), (sr 2, .inl (g.2 1, 330, .inl (zaB (st 2)))), (sr 3, .inl (g.2 1, 330, .inl (zaB (st 3)))), (sr 4, .inl (g.2 1, 330, .inl (zaB (st 4)))), (sr 5, .inl (g.2 1, 330, .inl (zaB (st 5)))), (sr 6, .inl (g.2 1, 330, .inl (zaB (st 6)))), (rf 4, .inl (g.2 7, 1, .inr (.inr (.inr (.inr (zaR wya)))))), (wya 0, .inl (g.2 0, 2, .inl (zaI wf))), (rf 5, .inl (g.2 7, 1, .inr (.inr (.inr (.inr (zaR fa)))))), (fa 0, .inl (g.2 0, 2, .inl (zaI fi))), (rf 6, .inl (g.2 7, 1, .inr (.inr (.inr (.inr (zaR sea)))))), (sea 0, .inl (g.2 0, 2, .inl (zaI sf))), (rf 9, .inl (g.2 1, 120530, .inl (zaB hdf))), (rf 3, .inl (g.2 1, 1, .inl (zaB to)))]) mc ms := by
  refine ze_open (by decide +kernel) (Nat.le_of_ble_eq_true rfl) ?_
  intro p e s m below meth c ls A hx hb hml hr hno hlk hown hw hK hT hP hD hS hA hl
  have hown : s.vm.findClass "CronFinderModel" = some m.cls := hown
  have hl : lv_has ls 7 [(0, .ref (qq)), (1, .long (lI (tm)))] := hl
  refine lv_aload_n hx hb zd_Q_after_0 rfl (lv_at hl 0 rfl) ?_
  refine va_get (D := g.1) (ci := 5) (v := .ref (rf 3)) (C := zR_Q) (T := zT_Q) (N := 21) hx hb hw zin_Q hown hK hP 0 rfl rfl 10 (by decide) (hw _ zw_3_208) (fun _ h9 => h9) rfl zd_Q_after_1 ?_
  refine zi_iconst hx hb zd_Q_after_4 ?_
  refine zi_zald hx hb hK hP 17 1 rfl rfl (by omega) zd_Q_after_5 ?_
  refine zb_eq (to 0) rfl ?_
  refine zb_if_ne (tgt := 13) hx hb zd_Q_after_6 (by decide) (fun c6 => ?_) (fun c6 => ?_)
  · refine lv_lload_n hx hb zd_Q_after_13 rfl (lv_at hl 1 rfl) ?_
    refine zi_lconst (z := 1) hx hb zd_Q_after_14 (by decide) ?_
    refine zi_ladd hx hb zd_Q_after_15 ?_
    refine lv_lstore_n (lv' := [(3, .long (lI (tm + 1))), (0, .ref (qq)), (1, .long (lI (tm)))]) hx hb zd_Q_after_16 rfl hl (by decide) rfl (fun ls hl => ?_)
    have loop : ∀ (n9 : Nat) (x yy mm dd : Int) (H : Heap) (locs : List Loc) (ls : Array Slot), (tm + 1 ≤ x ∧ x ≤ 10413792000) → (tNo (qF st wf fi sf hdf) (sOk (st 0) (st 1) (st 2)) (tm + 1) x) → ((120531 - x / 86400).toNat < n9) → va_P g.1 zCl [(qq, .inr (5, [.int (iI (fl)), .ref (rf 0), .int (iI (ln)), .int (iI (pl)), .int (iI (yy)), .int (iI (mm)), .int (iI (dd)), .int (iI (at0)), .ref (rf 1), .ref (rf 2), .ref (rf 3), .ref (rf 4), .ref (rf 5), .ref (rf 6), .int (iI (wa)), .int (iI (on)), .int (iI (tw)), .ref (rf 7), .ref (rf 8), .ref (rf 9), .int (iI (hc))])), (rf 1, .inl (g.2 6, 1, .inr (.inr (.inr (.inr (zaR sa)))))), (sa 0, .inl (g.2 5, 7, .inr (.inr (.inr (.inr (zaR sr)))))), (sr 0, .inl (g.2 1, 330, .inl (zaB (st 0)))), (sr 1, .inl (g.2 1, 330, .inl (zaB (st 1)))), (sr 2, .inl (g.2 1, 330, .inl (zaB (st 2)))), (sr 3, .inl (g.2 1, 330, .inl (zaB (st 3)))), (sr 4, .inl (g.2 1, 330, .inl (zaB (st 4)))), (sr 5, .inl (g.2 1, 330, .inl (zaB (st 5)))), (sr 6, .inl (g.2 1, 330, .inl (zaB (st 6)))), (rf 4, .inl (g.2 7, 1, .inr (.inr (.inr (.inr (zaR wya)))))), (wya 0, .inl (g.2 0, 2, .inl (zaI wf))), (rf 5, .inl (g.2 7, 1, .inr (.inr (.inr (.inr (zaR fa)))))), (fa 0, .inl (g.2 0, 2, .inl (zaI fi))), (rf 6, .inl (g.2 7, 1, .inr (.inr (.inr (.inr (zaR sea)))))), (sea 0, .inl (g.2 0, 2, .inl (zaI sf))), (rf 9, .inl (g.2 1, 120530, .inl (zaB hdf))), (rf 3, .inl (g.2 1, 1, .inl (zaB to)))] H → va_D A [(qq, .inr (5, [.int (iI (fl)), .ref (rf 0), .int (iI (ln)), .int (iI (pl)), .int (iI (yy)), .int (iI (mm)), .int (iI (dd)), .int (iI (at0)), .ref (rf 1), .ref (rf 2), .ref (rf 3), .ref (rf 4), .ref (rf 5), .ref (rf 6), .int (iI (wa)), .int (iI (on)), .int (iI (tw)), .ref (rf 7), .ref (rf 8), .ref (rf 9), .int (iI (hc))])), (rf 1, .inl (g.2 6, 1, .inr (.inr (.inr (.inr (zaR sa)))))), (sa 0, .inl (g.2 5, 7, .inr (.inr (.inr (.inr (zaR sr)))))), (sr 0, .inl (g.2 1, 330, .inl (zaB (st 0)))), (sr 1, .inl (g.2 1, 330, .inl (zaB (st 1)))), (sr 2, .inl (g.2 1, 330, .inl (zaB (st 2)))), (sr 3, .inl (g.2 1, 330, .inl (zaB (st 3)))), (sr 4, .inl (g.2 1, 330, .inl (zaB (st 4)))), (sr 5, .inl (g.2 1, 330, .inl (zaB (st 5)))), (sr 6, .inl (g.2 1, 330, .inl (zaB (st 6)))), (rf 4, .inl (g.2 7, 1, .inr (.inr (.inr (.inr (zaR wya)))))), (wya 0, .inl (g.2 0, 2, .inl (zaI wf))), (rf 5, .inl (g.2 7, 1, .inr (.inr (.inr (.inr (zaR fa)))))), (fa 0, .inl (g.2 0, 2, .inl (zaI fi))), (rf 6, .inl (g.2 7, 1, .inr (.inr (.inr (.inr (zaR sea)))))), (sea 0, .inl (g.2 0, 2, .inl (zaI sf))), (rf 9, .inl (g.2 1, 120530, .inl (zaB hdf))), (rf 3, .inl (g.2 1, 1, .inl (zaB to)))] → va_S A s.heap H locs → lv_has ls 7 [(3, .long (lI (x))), (0, .ref (qq)), (1, .long (lI (tm)))] → W p l e ({ frames := 5, cells := mc, slots := ms, locals := 113 }) s m [.ref (qq), .long (lI (tm))].toArray below meth c H locs 0 0 (vx_MQ below (zQC g (True) (some (.long (lI (rr)))) (fun u => [(qq, .inr (5, [.int (iI (fl)), .ref (rf 0), .int (iI (ln)), .int (iI (pl)), .int (iI (u.1 0)), .int (iI (u.1 1)), .int (iI (u.1 2)), .int (iI (at0)), .ref (rf 1), .ref (rf 2), .ref (rf 3), .ref (rf 4), .ref (rf 5), .ref (rf 6), .int (iI (wa)), .int (iI (on)), .int (iI (tw)), .ref (rf 7), .ref (rf 8), .ref (rf 9), .int (iI (hc))])), (rf 1, .inl (g.2 6, 1, .inr (.inr (.inr (.inr (zaR sa)))))), (sa 0, .inl (g.2 5, 7, .inr (.inr (.inr (.inr (zaR sr)))))), (sr 0, .inl (g.2 1, 330, .inl (zaB (st 0)))), (sr 1, .inl (g.2 1, 330, .inl (zaB (st 1)))), (sr 2, .inl (g.2 1, 330, .inl (zaB (st 2)))), (sr 3, .inl (g.2 1, 330, .inl (zaB (st 3)))), (sr 4, .inl (g.2 1, 330, .inl (zaB (st 4)))), (sr 5, .inl (g.2 1, 330, .inl (zaB (st 5)))), (sr 6, .inl (g.2 1, 330, .inl (zaB (st 6)))), (rf 4, .inl (g.2 7, 1, .inr (.inr (.inr (.inr (zaR wya)))))), (wya 0, .inl (g.2 0, 2, .inl (zaI wf))), (rf 5, .inl (g.2 7, 1, .inr (.inr (.inr (.inr (zaR fa)))))), (fa 0, .inl (g.2 0, 2, .inl (zaI fi))), (rf 6, .inl (g.2 7, 1, .inr (.inr (.inr (.inr (zaR sea)))))), (sea 0, .inl (g.2 0, 2, .inl (zaI sf))), (rf 9, .inl (g.2 1, 120530, .inl (zaB hdf))), (rf 3, .inl (g.2 1, 1, .inl (zaB to)))]) A) (zXC g (True) "java/lang/UnsupportedOperationException" (fun u => [(qq, .inr (5, [.int (iI (fl)), .ref (rf 0), .int (iI (ln)), .int (iI (pl)), .int (iI (u.1 0)), .int (iI (u.1 1)), .int (iI (u.1 2)), .int (iI (at0)), .ref (rf 1), .ref (rf 2), .ref (rf 3), .ref (rf 4), .ref (rf 5), .ref (rf 6), .int (iI (wa)), .int (iI (on)), .int (iI (tw)), .ref (rf 7), .ref (rf 8), .ref (rf 9), .int (iI (hc))])), (rf 1, .inl (g.2 6, 1, .inr (.inr (.inr (.inr (zaR sa)))))), (sa 0, .inl (g.2 5, 7, .inr (.inr (.inr (.inr (zaR sr)))))), (sr 0, .inl (g.2 1, 330, .inl (zaB (st 0)))), (sr 1, .inl (g.2 1, 330, .inl (zaB (st 1)))), (sr 2, .inl (g.2 1, 330, .inl (zaB (st 2)))), (sr 3, .inl (g.2 1, 330, .inl (zaB (st 3)))), (sr 4, .inl (g.2 1, 330, .inl (zaB (st 4)))), (sr 5, .inl (g.2 1, 330, .inl (zaB (st 5)))), (sr 6, .inl (g.2 1, 330, .inl (zaB (st 6)))), (rf 4, .inl (g.2 7, 1, .inr (.inr (.inr (.inr (zaR wya)))))), (wya 0, .inl (g.2 0, 2, .inl (zaI wf))), (rf 5, .inl (g.2 7, 1, .inr (.inr (.inr (.inr (zaR fa)))))), (fa 0, .inl (g.2 0, 2, .inl (zaI fi))), (rf 6, .inl (g.2 7, 1, .inr (.inr (.inr (.inr (zaR sea)))))), (sea 0, .inl (g.2 0, 2, .inl (zaI sf))), (rf 9, .inl (g.2 1, 120530, .inl (zaB hdf))), (rf 3, .inl (g.2 1, 1, .inl (zaB to)))]) A) [.ref (qq), .long (lI (tm))].toArray s mc ms A) (F0 m 17 ls []) := by
      intro n9
      induction n9 with
      | zero =>
        intro x yy mm dd H locs ls h1 hN h2 hP hD hS hl
        exact absurd h2 (by omega)
      | succ n9 ih =>
        intro x yy mm dd H locs ls h1 hN h2 hP hD hS hl
        refine lv_lload_n hx hb zd_Q_after_17 rfl (lv_at hl 0 rfl) ?_
        refine lv_ldc2 hx hb hown (hw _ zw_4_108) zd_Q_after_18 ?_
        refine zl_asx _ 10413791999 (by decide) ?_
        refine zl_cmp_gt (tgt := 90) hx hb zd_Q_after_21 zd_Q_after_22 (by decide) (by omega) (fun c21 => ?_) (fun c21 => ?_)
        · refine lv_ldc2 hx hb hown (hw _ zw_4_113) zd_Q_after_90 ?_
          refine zl_asx _ (-1) (by decide) ?_
          refine zl_as (rr) (tNF_un (tNo_end hN (by omega)) hj hx0.1) ?_
          have hok9 := trivial
          exact zq_lret hx hb hr hlk (zj [yy, mm, dd], fun _ _ => false) hP hS hok9 (zHm_y hmc hok9) zd_Q_after_93
        · refine lv_lload_n hx hb zd_Q_after_25 rfl (lv_at hl 0 rfl) ?_
          refine lv_ldc2 hx hb hown (hw _ zw_4_114) zd_Q_after_26 ?_
          refine zl_asx _ 86400 (by decide) ?_
          refine zi_ldiv hx hb zd_Q_after_29 (by omega) ?_
          refine zi_l2i hx hb zd_Q_after_30 ?_
          refine lv_istore (lv' := [(5, .int (iI (x / 86400))), (3, .long (lI (x))), (0, .ref (qq)), (1, .long (lI (tm)))]) hx hb zd_Q_after_31 hl (by decide) rfl (fun ls hl => ?_)
          refine lv_aload_n hx hb zd_Q_after_33 rfl (lv_at hl 2 rfl) ?_
          refine zi_iconst hx hb zd_Q_after_34 ?_
          refine lv_iload hx hb zd_Q_after_35 (lv_at hl 0 rfl) ?_
          have hds := dMon_sp (d := x / 86400) (by omega)
          refine zk_W (As := [.int (iI (0)), .int (iI (x / 86400))]) (b := qq) (own := "CronFinderModel") (nL := 7) (rest := []) hx hb hml hown hw (c_Q_dayFits l g qq rf (fl) (ln) (pl) (yy) (mm) (dd) (at0) (wa) (on) (tw) (hc) sa sr st fa wya sea fi wf sf hdf (dMon (x / 86400)) (x / 86400) ⟨hds.1, hds.2.1⟩ hds.2.2 hfi hwf hf1) zw_4_115 zw_4_117 zw_0_40 zw_1_7 zw_4_118 (np := 2) (by decide +kernel) rfl ⟨rfl, rfl, Nat.le_of_ble_eq_true rfl, Nat.le_of_ble_eq_true rfl⟩ (fun _ => zN_mv) hK trivial hP hD hS hA [0, 1, 2, 6, 7, 8, 9, 10, 11, 12, 13, 14, 15, 16] rfl (by decide) rfl (va_recv hK hP (ci := 5) (q0 := 0) rfl rfl) hl.1 rfl (Nat.le_of_ble_eq_true rfl) ⟨Nat.zero_le _, Nat.zero_le _⟩ zd_Q_after_37 (fun H locs hP hD hS => ?_)
          have hP : va_P g.1 zCl [(qq, .inr (5, [.int (iI (fl)), .ref (rf 0), .int (iI (ln)), .int (iI (pl)), .int (iI (1970 + dMon (x / 86400) / 12)), .int (iI (dMon (x / 86400) % 12 + 1)), .int (iI ((x / 86400) - dM0 (dMon (x / 86400)) + 1)), .int (iI (at0)), .ref (rf 1), .ref (rf 2), .ref (rf 3), .ref (rf 4), .ref (rf 5), .ref (rf 6), .int (iI (wa)), .int (iI (on)), .int (iI (tw)), .ref (rf 7), .ref (rf 8), .ref (rf 9), .int (iI (hc))])), (rf 1, .inl (g.2 6, 1, .inr (.inr (.inr (.inr (zaR sa)))))), (sa 0, .inl (g.2 5, 7, .inr (.inr (.inr (.inr (zaR sr)))))), (sr 0, .inl (g.2 1, 330, .inl (zaB (st 0)))), (sr 1, .inl (g.2 1, 330, .inl (zaB (st 1)))), (sr 2, .inl (g.2 1, 330, .inl (zaB (st 2)))), (sr 3, .inl (g.2 1, 330, .inl (zaB (st 3)))), (sr 4, .inl (g.2 1, 330, .inl (zaB (st 4)))), (sr 5, .inl (g.2 1, 330, .inl (zaB (st 5)))), (sr 6, .inl (g.2 1, 330, .inl (zaB (st 6)))), (rf 4, .inl (g.2 7, 1, .inr (.inr (.inr (.inr (zaR wya)))))), (wya 0, .inl (g.2 0, 2, .inl (zaI wf))), (rf 5, .inl (g.2 7, 1, .inr (.inr (.inr (.inr (zaR fa)))))), (fa 0, .inl (g.2 0, 2, .inl (zaI fi))), (rf 6, .inl (g.2 7, 1, .inr (.inr (.inr (.inr (zaR sea)))))), (sea 0, .inl (g.2 0, 2, .inl (zaI sf))), (rf 9, .inl (g.2 1, 120530, .inl (zaB hdf))), (rf 3, .inl (g.2 1, 1, .inl (zaB to)))] H := hP
          have hD : va_D A [(qq, .inr (5, [.int (iI (fl)), .ref (rf 0), .int (iI (ln)), .int (iI (pl)), .int (iI (1970 + dMon (x / 86400) / 12)), .int (iI (dMon (x / 86400) % 12 + 1)), .int (iI ((x / 86400) - dM0 (dMon (x / 86400)) + 1)), .int (iI (at0)), .ref (rf 1), .ref (rf 2), .ref (rf 3), .ref (rf 4), .ref (rf 5), .ref (rf 6), .int (iI (wa)), .int (iI (on)), .int (iI (tw)), .ref (rf 7), .ref (rf 8), .ref (rf 9), .int (iI (hc))])), (rf 1, .inl (g.2 6, 1, .inr (.inr (.inr (.inr (zaR sa)))))), (sa 0, .inl (g.2 5, 7, .inr (.inr (.inr (.inr (zaR sr)))))), (sr 0, .inl (g.2 1, 330, .inl (zaB (st 0)))), (sr 1, .inl (g.2 1, 330, .inl (zaB (st 1)))), (sr 2, .inl (g.2 1, 330, .inl (zaB (st 2)))), (sr 3, .inl (g.2 1, 330, .inl (zaB (st 3)))), (sr 4, .inl (g.2 1, 330, .inl (zaB (st 4)))), (sr 5, .inl (g.2 1, 330, .inl (zaB (st 5)))), (sr 6, .inl (g.2 1, 330, .inl (zaB (st 6)))), (rf 4, .inl (g.2 7, 1, .inr (.inr (.inr (.inr (zaR wya)))))), (wya 0, .inl (g.2 0, 2, .inl (zaI wf))), (rf 5, .inl (g.2 7, 1, .inr (.inr (.inr (.inr (zaR fa)))))), (fa 0, .inl (g.2 0, 2, .inl (zaI fi))), (rf 6, .inl (g.2 7, 1, .inr (.inr (.inr (.inr (zaR sea)))))), (sea 0, .inl (g.2 0, 2, .inl (zaI sf))), (rf 9, .inl (g.2 1, 120530, .inl (zaB hdf))), (rf 3, .inl (g.2 1, 1, .inl (zaB to)))] := hD
          refine zb_eq (qF st wf fi sf hdf (x / 86400)) rfl ?_
          refine zb_if_eq (tgt := 57) hx hb zd_Q_after_40 (by decide) (fun c40 => ?_) (fun c40 => ?_)
          · refine zi_iconst hx hb zd_Q_after_57 ?_
            refine lv_istore (lv' := [(6, .int (iI ((-1)))), (5, .int (iI (x / 86400))), (3, .long (lI (x))), (0, .ref (qq)), (1, .long (lI (tm)))]) hx hb zd_Q_after_58 hl (by decide) rfl (fun ls hl => ?_)
            refine lv_iload hx hb zd_Q_after_60 (lv_at hl 0 rfl) ?_
            refine zi_if_lt (tgt := 77) hx hb zd_Q_after_62 (by decide) (by omega) (fun _ => ?_) (fun c62 => absurd c62 (by decide))
            refine lv_ldc2 hx hb hown (hw _ zw_4_114) zd_Q_after_77 ?_
            refine zl_asx _ 86400 (by decide) ?_
            refine lv_iload hx hb zd_Q_after_80 (lv_at hl 1 rfl) ?_
            refine zi_i2l hx hb zd_Q_after_82 (by omega) ?_
            refine zi_lconst (z := 1) hx hb zd_Q_after_83 (by decide) ?_
            refine zi_ladd hx hb zd_Q_after_84 ?_
            refine zi_lmul hx hb zd_Q_after_85 ?_
            refine lv_lstore_n (lv' := [(3, .long (lI (86400 * ((x / 86400) + 1)))), (6, .int (iI ((-1)))), (5, .int (iI (x / 86400))), (0, .ref (qq)), (1, .long (lI (tm)))]) hx hb zd_Q_after_86 rfl hl (by decide) rfl (fun ls hl => ?_)
            refine lv_goto (tgt := 17) hx hb zd_Q_after_87 (by decide) ?_
            exact ih (86400 * (x / 86400 + 1)) _ _ _ H locs ls (by omega) (by first | exact tNo_d ⟨by omega, by omega⟩ hN c40 | exact tNo_s ⟨by omega, by omega⟩ hN hsf (by omega)) (by omega) hP hD hS (lv_sub hl [0, 3, 4] rfl)
          · refine lv_aload_n hx hb zd_Q_after_43 rfl (lv_at hl 2 rfl) ?_
            refine zi_iconst hx hb zd_Q_after_44 ?_
            refine lv_lload_n hx hb zd_Q_after_45 rfl (lv_at hl 1 rfl) ?_
            refine lv_ldc2 hx hb hown (hw _ zw_4_114) zd_Q_after_46 ?_
            refine zl_asx _ 86400 (by decide) ?_
            refine zi_lrem hx hb zd_Q_after_49 (by omega) ?_
            refine zi_l2i hx hb zd_Q_after_50 ?_
            obtain ⟨r, hsf⟩ := sSF_ex (st 0) (st 1) (st 2) (x := x % 86400) (by omega)
            have hsg := sSF_rg (by omega) hsf
            refine zk_V (As := [.int (iI (0)), .int (iI (x % 86400))]) (b := qq) (own := "CronFinderModel") (nL := 7) (rest := []) hx hb hml hown hw (c_Q_secondFrom l g qq rf (fl) (ln) (pl) (1970 + dMon (x / 86400) / 12) (dMon (x / 86400) % 12 + 1) ((x / 86400) - dM0 (dMon (x / 86400)) + 1) (at0) (wa) (on) (tw) (hc) sa sr st (x % 86400) r (by omega) hsf) zw_4_142 zw_4_144 zw_0_43 zw_1_7 zw_4_145 (np := 2) (by decide +kernel) rfl ⟨rfl, rfl, Nat.le_of_ble_eq_true rfl, Nat.le_of_ble_eq_true rfl⟩ zN_mv hK trivial (hP.sub (ws' := [(qq, .inr (5, [.int (iI (fl)), .ref (rf 0), .int (iI (ln)), .int (iI (pl)), .int (iI (1970 + dMon (x / 86400) / 12)), .int (iI (dMon (x / 86400) % 12 + 1)), .int (iI ((x / 86400) - dM0 (dMon (x / 86400)) + 1)), .int (iI (at0)), .ref (rf 1), .ref (rf 2), .ref (rf 3), .ref (rf 4), .ref (rf 5), .ref (rf 6), .int (iI (wa)), .int (iI (on)), .int (iI (tw)), .ref (rf 7), .ref (rf 8), .ref (rf 9), .int (iI (hc))])), (rf 1, .inl (g.2 6, 1, .inr (.inr (.inr (.inr (zaR sa)))))), (sa 0, .inl (g.2 5, 7, .inr (.inr (.inr (.inr (zaR sr)))))), (sr 0, .inl (g.2 1, 330, .inl (zaB (st 0)))), (sr 1, .inl (g.2 1, 330, .inl (zaB (st 1)))), (sr 2, .inl (g.2 1, 330, .inl (zaB (st 2))))]) [0, 1, 2, 3, 4, 5] rfl) (va_recv hK hP (ci := 5) (q0 := 0) rfl rfl) hl.1 rfl (Nat.le_of_ble_eq_true rfl) ⟨Nat.zero_le _, Nat.zero_le _⟩ zd_Q_after_51 ?_
            refine lv_goto (tgt := 58) hx hb zd_Q_after_54 (by decide) ?_
            refine lv_istore (lv' := [(6, .int (iI (r))), (5, .int (iI (x / 86400))), (3, .long (lI (x))), (0, .ref (qq)), (1, .long (lI (tm)))]) hx hb zd_Q_after_58 hl (by decide) rfl (fun ls hl => ?_)
            refine lv_iload hx hb zd_Q_after_60 (lv_at hl 0 rfl) ?_
            refine zi_if_lt (tgt := 77) hx hb zd_Q_after_62 (by decide) (by omega) (fun c62 => ?_) (fun c62 => ?_)
            · refine lv_ldc2 hx hb hown (hw _ zw_4_114) zd_Q_after_77 ?_
              refine zl_asx _ 86400 (by decide) ?_
              refine lv_iload hx hb zd_Q_after_80 (lv_at hl 1 rfl) ?_
              refine zi_i2l hx hb zd_Q_after_82 (by omega) ?_
              refine zi_lconst (z := 1) hx hb zd_Q_after_83 (by decide) ?_
              refine zi_ladd hx hb zd_Q_after_84 ?_
              refine zi_lmul hx hb zd_Q_after_85 ?_
              refine lv_lstore_n (lv' := [(3, .long (lI (86400 * ((x / 86400) + 1)))), (6, .int (iI (r))), (5, .int (iI (x / 86400))), (0, .ref (qq)), (1, .long (lI (tm)))]) hx hb zd_Q_after_86 rfl hl (by decide) rfl (fun ls hl => ?_)
              refine lv_goto (tgt := 17) hx hb zd_Q_after_87 (by decide) ?_
              exact ih (86400 * (x / 86400 + 1)) _ _ _ H locs ls (by omega) (by first | exact tNo_d ⟨by omega, by omega⟩ hN c40 | exact tNo_s ⟨by omega, by omega⟩ hN hsf (by omega)) (by omega) hP hD hS (lv_sub hl [0, 3, 4] rfl)
            · refine lv_ldc2 hx hb hown (hw _ zw_4_114) zd_Q_after_65 ?_
              refine zl_asx _ 86400 (by decide) ?_
              refine lv_iload hx hb zd_Q_after_68 (lv_at hl 1 rfl) ?_
              refine zi_i2l hx hb zd_Q_after_70 (by omega) ?_
              refine zi_lmul hx hb zd_Q_after_71 ?_
              refine lv_iload hx hb zd_Q_after_72 (lv_at hl 0 rfl) ?_
              refine zi_i2l hx hb zd_Q_after_74 (by omega) ?_
              refine zi_ladd hx hb zd_Q_after_75 ?_
              refine zl_as (rr) (tNF_un (tNo_hit (by omega) ⟨by omega, by omega⟩ (by omega) hN c40 hsf (by omega)) hj hx0.1) ?_
              have hok9 := trivial
              exact zq_lret hx hb hr hlk (zj [1970 + dMon (x / 86400) / 12, dMon (x / 86400) % 12 + 1, (x / 86400) - dM0 (dMon (x / 86400)) + 1], fun _ _ => false) hP hS hok9 (zHm_y hmc hok9) zd_Q_after_76
    exact loop 120533 (tm + 1) yy mm dd s.heap [] ls (by omega) (tNo_0 (by omega)) (by omega) hP hD hS (lv_sub hl [0, 1, 2] rfl)
  · refine lv_ldc2 hx hb hown (hw _ zw_4_113) zd_Q_after_9 ?_
    refine zl_asx _ (-1) (by decide) ?_
    exact absurd (hto.symm.trans c6) (by decide)
set_option maxHeartbeats 4000000 in
set_option maxRecDepth 100000 in
theorem c_Q_upTo (l : Launch) (g : zGl) (hl0 : l.stackTraces = false) (qq : Nat) (rf : Nat → Nat) (fl ln pl yy mm dd at0 wa on tw hc : Int) (sa sr : Nat → Nat) (st : Nat → Nat → Bool) (fa wya sea : Nat → Nat) (fi wf sf : Nat → Int) (hdf : Nat → Bool) (to : Nat → Bool) (tm rr : Int) (hx0 : 0 ≤ tm ∧ tm ≤ 10413791999) (hto : to 0 = true) (hfi : 0 ≤ fi 0 ∧ fi 0 ≤ 31) (hwf : 0 ≤ wf 0 ∧ wf 0 ≤ 4 ∧ (wf 0 = 4 → 1 ≤ fi 0)) (hf1 : 0 ≤ fi 1 ∧ fi 1 ≤ 31 ∧ 0 ≤ wf 1 ∧ wf 1 ≤ 6 ∧ 0 ≤ sf 1 ∧ sf 1 ≤ 5) (hj : tNB (qF st wf fi sf hdf) (sOk (st 0) (st 1) (st 2)) tm rr) (mc ms : Nat) (hmc : zHm (True) mc ms) : zEi l zy_Q_upTo zc_Q_upTo 7 (some .long) ({ frames := 5, cells := mc, slots := ms, locals := 113 }) g (fun _ => zN) [.ref (qq), .long (lI (tm))] [(qq, .inr (5, [.int (iI (fl)), .ref (rf 0), .int (iI (ln)), .int (iI (pl)), .int (iI (yy)), .int (iI (mm)), .int (iI (dd)), .int (iI (at0)), .ref (rf 1), .ref (rf 2), .ref (rf 3), .ref (rf 4), .ref (rf 5), .ref (rf 6), .int (iI (wa)), .int (iI (on)), .int (iI (tw)), .ref (rf 7), .ref (rf 8), .ref (rf 9), .int (iI (hc))])), (rf 1, .inl (g.2 6, 1, .inr (.inr (.inr (.inr (zaR sa)))))), (sa 0, .inl (g.2 5, 7, .inr (.inr (.inr (.inr (zaR sr)))))), (sr 0, .inl (g.2 1, 330, .inl (zaB (st 0)))), (sr 1, .inl (g.2 1, 330, .inl (zaB (st 1)))), (sr 2, .inl (g.2 1, 330, .inl (zaB (st 2)))), (sr 3, .inl (g.2 1, 330, .inl (zaB (st 3)))), (sr 4, .inl (g.2 1, 330, .inl (zaB (st 4)))), (sr 5, .inl (g.2 1, 330, .inl (zaB (st 5)))), (sr 6, .inl (g.2 1, 330, .inl (zaB (st 6)))), (rf 4, .inl (g.2 7, 1, .inr (.inr (.inr (.inr (zaR wya)))))), (wya 0, .inl (g.2 0, 2, .inl (zaI wf))), (rf 5, .inl (g.2 7, 1, .inr (.inr (.inr (.inr (zaR fa)))))), (fa 0, .inl (g.2 0, 2, .inl (zaI fi))), (rf 6, .inl (g.2 7, 1, .inr (.inr (.inr (.inr (zaR sea)))))), (sea 0, .inl (g.2 0, 2, .inl (zaI sf))), (rf 9, .inl (g.2 1, 120530, .inl (zaB hdf))), (rf 3, .inl (g.2 1, 1, .inl (zaB to)))] (True) (some (.long (lI (rr)))) (fun u => [(qq, .inr (5, [.int (iI (fl)), .ref (rf 0), .int (iI (ln)), .int (iI (pl)), .int (iI (u.1 0)), .int (iI (u.1 1)), .int (iI (u.1 2)), .int (iI (at0)), .ref (rf 1), .ref (rf 2), .ref (rf 3), .ref (rf 4), .ref (rf 5), .ref (rf 6), .int (iI (wa)), .int (iI (on)), .int (iI (tw)), .ref (rf 7), .ref (rf 8), .ref (rf 9), .int (iI (hc))])), (rf 1, .inl (g.2 6, 1, .inr (.inr (.inr (.inr (zaR sa)))))), (sa 0, .inl (g.2 5, 7, .inr (.inr (.inr (.inr (zaR sr)))))), (sr 0, .inl (g.2 1, 330, .inl (zaB (st 0)))), (sr 1, .inl (g.2 1, 330, .inl (zaB (st 1)))), (sr 2, .inl (g.2 1, 330, .inl (zaB (st 2)))), (sr 3, .inl (g.2 1, 330, .inl (zaB (st 3)))), (sr 4, .inl (g.2 1, 330, .inl (zaB (st 4)))), (sr 5, .inl (g.2 1, 330, .inl (zaB (st 5)))), (sr 6, .inl (g.2 1, 330, .inl (zaB (st 6)))), (rf 4, .inl (g.2 7, 1, .inr (.inr (.inr (.inr (zaR wya)))))), (wya 0, .inl (g.2 0, 2, .inl (zaI wf))), (rf 5, .inl (g.2 7, 1, .inr (.inr (.inr (.inr (zaR fa)))))), (fa 0, .inl (g.2 0, 2, .inl (zaI fi))), (rf 6, .inl (g.2 7, 1, .inr (.inr (.inr (.inr (zaR sea)))))), (sea 0, .inl (g.2 0, 2, .inl (zaI sf))), (rf 9, .inl (g.2 1, 120530, .inl (zaB hdf))), (rf 3, .inl (g.2 1, 1, .inl (zaB to)))]) "java/lang/UnsupportedOperationException" (fun u => [(qq, .inr (5, [.int (iI (fl)), .ref (rf 0), .int (iI (ln)), .int (iI (pl)), .int (iI (u.1 0)), .int (iI (u.1 1)), .int (iI (u.1 2)), .int (iI (at0)), .ref (rf 1), .ref (rf 2), .ref (rf 3), .ref (rf 4), .ref (rf 5), .ref (rf 6), .int (iI (wa)), .int (iI (on)), .int (iI (tw)), .ref (rf 7), .ref (rf 8), .ref (rf 9), .int (iI (hc))])), (rf 1, .inl (g.2 6, 1, .inr (.inr (.inr (.inr (zaR sa)))))), (sa 0, .inl (g.2 5, 7, .inr (.inr (.inr (.inr (zaR sr)))))), (sr 0, .inl (g.2 1, 330, .inl (zaB (st 0)))), (sr 1, .inl (g.2 1, 330, .inl (zaB (st 1)))), (sr 2, .inl (g.2 1, 330, .inl (zaB (st 2)))), (sr 3, .inl (g.2 1, 330, .inl (zaB (st 3)))), (sr 4, .inl (g.2 1, 330, .inl (zaB (st 4)))), (sr 5, .inl (g.2 1, 330, .inl (zaB (st 5)))), (sr 6, .inl (g.2 1, 330, .inl (zaB (st 6)))), (rf 4, .inl (g.2 7, 1, .inr (.inr (.inr (.inr (zaR wya)))))), (wya 0, .inl (g.2 0, 2, .inl (zaI wf))), (rf 5, .inl (g.2 7, 1, .inr (.inr (.inr (.inr (zaR fa)))))), (fa 0, .inl (g.2 0, 2, .inl (zaI fi))), (rf 6, .inl (g.2 7, 1, .inr (.inr (.inr (.inr (zaR sea)))))), (sea 0, .inl (g.2 0, 2, .inl (zaI sf))), (rf 9, .inl (g.2 1, 120530, .inl (zaB hdf))), (rf 3, .inl (g.2 1, 1, .inl (zaB to)))]) mc ms := by
  refine ze_open (by decide +kernel) (Nat.le_of_ble_eq_true rfl) ?_
  intro p e s m below meth c ls A hx hb hml hr hno hlk hown hw hK hT hP hD hS hA hl
  have hown : s.vm.findClass "CronFinderModel" = some m.cls := hown
  have hl : lv_has ls 7 [(0, .ref (qq)), (1, .long (lI (tm)))] := hl
  refine lv_aload_n hx hb zd_Q_upTo_0 rfl (lv_at hl 0 rfl) ?_
  refine va_get (D := g.1) (ci := 5) (v := .ref (rf 3)) (C := zR_Q) (T := zT_Q) (N := 21) hx hb hw zin_Q hown hK hP 0 rfl rfl 10 (by decide) (hw _ zw_3_208) (fun _ h9 => h9) rfl zd_Q_upTo_1 ?_
  refine zi_iconst hx hb zd_Q_upTo_4 ?_
  refine zi_zald hx hb hK hP 17 1 rfl rfl (by omega) zd_Q_upTo_5 ?_
  refine zb_eq (to 0) rfl ?_
  refine zb_if_ne (tgt := 13) hx hb zd_Q_upTo_6 (by decide) (fun c6 => ?_) (fun c6 => ?_)
  · refine lv_lload_n hx hb zd_Q_upTo_13 rfl (lv_at hl 1 rfl) ?_
    refine lv_lstore_n (lv' := [(3, .long (lI (tm))), (0, .ref (qq)), (1, .long (lI (tm)))]) hx hb zd_Q_upTo_14 rfl hl (by decide) rfl (fun ls hl => ?_)
    have loop : ∀ (n9 : Nat) (x yy mm dd : Int) (H : Heap) (locs : List Loc) (ls : Array Slot), (-1 ≤ x ∧ x ≤ tm) → (tNo (qF st wf fi sf hdf) (sOk (st 0) (st 1) (st 2)) (x + 1) (tm + 1)) → ((x / 86400 + 1).toNat < n9) → va_P g.1 zCl [(qq, .inr (5, [.int (iI (fl)), .ref (rf 0), .int (iI (ln)), .int (iI (pl)), .int (iI (yy)), .int (iI (mm)), .int (iI (dd)), .int (iI (at0)), .ref (rf 1), .ref (rf 2), .ref (rf 3), .ref (rf 4), .ref (rf 5), .ref (rf 6), .int (iI (wa)), .int (iI (on)), .int (iI (tw)), .ref (rf 7), .ref (rf 8), .ref (rf 9), .int (iI (hc))])), (rf 1, .inl (g.2 6, 1, .inr (.inr (.inr (.inr (zaR sa)))))), (sa 0, .inl (g.2 5, 7, .inr (.inr (.inr (.inr (zaR sr)))))), (sr 0, .inl (g.2 1, 330, .inl (zaB (st 0)))), (sr 1, .inl (g.2 1, 330, .inl (zaB (st 1)))), (sr 2, .inl (g.2 1, 330, .inl (zaB (st 2)))), (sr 3, .inl (g.2 1, 330, .inl (zaB (st 3)))), (sr 4, .inl (g.2 1, 330, .inl (zaB (st 4)))), (sr 5, .inl (g.2 1, 330, .inl (zaB (st 5)))), (sr 6, .inl (g.2 1, 330, .inl (zaB (st 6)))), (rf 4, .inl (g.2 7, 1, .inr (.inr (.inr (.inr (zaR wya)))))), (wya 0, .inl (g.2 0, 2, .inl (zaI wf))), (rf 5, .inl (g.2 7, 1, .inr (.inr (.inr (.inr (zaR fa)))))), (fa 0, .inl (g.2 0, 2, .inl (zaI fi))), (rf 6, .inl (g.2 7, 1, .inr (.inr (.inr (.inr (zaR sea)))))), (sea 0, .inl (g.2 0, 2, .inl (zaI sf))), (rf 9, .inl (g.2 1, 120530, .inl (zaB hdf))), (rf 3, .inl (g.2 1, 1, .inl (zaB to)))] H → va_D A [(qq, .inr (5, [.int (iI (fl)), .ref (rf 0), .int (iI (ln)), .int (iI (pl)), .int (iI (yy)), .int (iI (mm)), .int (iI (dd)), .int (iI (at0)), .ref (rf 1), .ref (rf 2), .ref (rf 3), .ref (rf 4), .ref (rf 5), .ref (rf 6), .int (iI (wa)), .int (iI (on)), .int (iI (tw)), .ref (rf 7), .ref (rf 8), .ref (rf 9), .int (iI (hc))])), (rf 1, .inl (g.2 6, 1, .inr (.inr (.inr (.inr (zaR sa)))))), (sa 0, .inl (g.2 5, 7, .inr (.inr (.inr (.inr (zaR sr)))))), (sr 0, .inl (g.2 1, 330, .inl (zaB (st 0)))), (sr 1, .inl (g.2 1, 330, .inl (zaB (st 1)))), (sr 2, .inl (g.2 1, 330, .inl (zaB (st 2)))), (sr 3, .inl (g.2 1, 330, .inl (zaB (st 3)))), (sr 4, .inl (g.2 1, 330, .inl (zaB (st 4)))), (sr 5, .inl (g.2 1, 330, .inl (zaB (st 5)))), (sr 6, .inl (g.2 1, 330, .inl (zaB (st 6)))), (rf 4, .inl (g.2 7, 1, .inr (.inr (.inr (.inr (zaR wya)))))), (wya 0, .inl (g.2 0, 2, .inl (zaI wf))), (rf 5, .inl (g.2 7, 1, .inr (.inr (.inr (.inr (zaR fa)))))), (fa 0, .inl (g.2 0, 2, .inl (zaI fi))), (rf 6, .inl (g.2 7, 1, .inr (.inr (.inr (.inr (zaR sea)))))), (sea 0, .inl (g.2 0, 2, .inl (zaI sf))), (rf 9, .inl (g.2 1, 120530, .inl (zaB hdf))), (rf 3, .inl (g.2 1, 1, .inl (zaB to)))] → va_S A s.heap H locs → lv_has ls 7 [(3, .long (lI (x))), (0, .ref (qq)), (1, .long (lI (tm)))] → W p l e ({ frames := 5, cells := mc, slots := ms, locals := 113 }) s m [.ref (qq), .long (lI (tm))].toArray below meth c H locs 0 0 (vx_MQ below (zQC g (True) (some (.long (lI (rr)))) (fun u => [(qq, .inr (5, [.int (iI (fl)), .ref (rf 0), .int (iI (ln)), .int (iI (pl)), .int (iI (u.1 0)), .int (iI (u.1 1)), .int (iI (u.1 2)), .int (iI (at0)), .ref (rf 1), .ref (rf 2), .ref (rf 3), .ref (rf 4), .ref (rf 5), .ref (rf 6), .int (iI (wa)), .int (iI (on)), .int (iI (tw)), .ref (rf 7), .ref (rf 8), .ref (rf 9), .int (iI (hc))])), (rf 1, .inl (g.2 6, 1, .inr (.inr (.inr (.inr (zaR sa)))))), (sa 0, .inl (g.2 5, 7, .inr (.inr (.inr (.inr (zaR sr)))))), (sr 0, .inl (g.2 1, 330, .inl (zaB (st 0)))), (sr 1, .inl (g.2 1, 330, .inl (zaB (st 1)))), (sr 2, .inl (g.2 1, 330, .inl (zaB (st 2)))), (sr 3, .inl (g.2 1, 330, .inl (zaB (st 3)))), (sr 4, .inl (g.2 1, 330, .inl (zaB (st 4)))), (sr 5, .inl (g.2 1, 330, .inl (zaB (st 5)))), (sr 6, .inl (g.2 1, 330, .inl (zaB (st 6)))), (rf 4, .inl (g.2 7, 1, .inr (.inr (.inr (.inr (zaR wya)))))), (wya 0, .inl (g.2 0, 2, .inl (zaI wf))), (rf 5, .inl (g.2 7, 1, .inr (.inr (.inr (.inr (zaR fa)))))), (fa 0, .inl (g.2 0, 2, .inl (zaI fi))), (rf 6, .inl (g.2 7, 1, .inr (.inr (.inr (.inr (zaR sea)))))), (sea 0, .inl (g.2 0, 2, .inl (zaI sf))), (rf 9, .inl (g.2 1, 120530, .inl (zaB hdf))), (rf 3, .inl (g.2 1, 1, .inl (zaB to)))]) A) (zXC g (True) "java/lang/UnsupportedOperationException" (fun u => [(qq, .inr (5, [.int (iI (fl)), .ref (rf 0), .int (iI (ln)), .int (iI (pl)), .int (iI (u.1 0)), .int (iI (u.1 1)), .int (iI (u.1 2)), .int (iI (at0)), .ref (rf 1), .ref (rf 2), .ref (rf 3), .ref (rf 4), .ref (rf 5), .ref (rf 6), .int (iI (wa)), .int (iI (on)), .int (iI (tw)), .ref (rf 7), .ref (rf 8), .ref (rf 9), .int (iI (hc))])), (rf 1, .inl (g.2 6, 1, .inr (.inr (.inr (.inr (zaR sa)))))), (sa 0, .inl (g.2 5, 7, .inr (.inr (.inr (.inr (zaR sr)))))), (sr 0, .inl (g.2 1, 330, .inl (zaB (st 0)))), (sr 1, .inl (g.2 1, 330, .inl (zaB (st 1)))), (sr 2, .inl (g.2 1, 330, .inl (zaB (st 2)))), (sr 3, .inl (g.2 1, 330, .inl (zaB (st 3)))), (sr 4, .inl (g.2 1, 330, .inl (zaB (st 4)))), (sr 5, .inl (g.2 1, 330, .inl (zaB (st 5)))), (sr 6, .inl (g.2 1, 330, .inl (zaB (st 6)))), (rf 4, .inl (g.2 7, 1, .inr (.inr (.inr (.inr (zaR wya)))))), (wya 0, .inl (g.2 0, 2, .inl (zaI wf))), (rf 5, .inl (g.2 7, 1, .inr (.inr (.inr (.inr (zaR fa)))))), (fa 0, .inl (g.2 0, 2, .inl (zaI fi))), (rf 6, .inl (g.2 7, 1, .inr (.inr (.inr (.inr (zaR sea)))))), (sea 0, .inl (g.2 0, 2, .inl (zaI sf))), (rf 9, .inl (g.2 1, 120530, .inl (zaB hdf))), (rf 3, .inl (g.2 1, 1, .inl (zaB to)))]) A) [.ref (qq), .long (lI (tm))].toArray s mc ms A) (F0 m 15 ls []) := by
      intro n9
      induction n9 with
      | zero =>
        intro x yy mm dd H locs ls h1 hN h2 hP hD hS hl
        exact absurd h2 (by omega)
      | succ n9 ih =>
        intro x yy mm dd H locs ls h1 hN h2 hP hD hS hl
        refine lv_lload_n hx hb zd_Q_upTo_15 rfl (lv_at hl 0 rfl) ?_
        refine zi_lconst (z := 0) hx hb zd_Q_upTo_16 (by decide) ?_
        refine zl_cmp_lt (tgt := 86) hx hb zd_Q_upTo_17 zd_Q_upTo_18 (by decide) (by omega) (fun c17 => ?_) (fun c17 => ?_)
        · refine lv_ldc2 hx hb hown (hw _ zw_4_113) zd_Q_upTo_86 ?_
          refine zl_asx _ (-1) (by decide) ?_
          refine zl_as (rr) (tNB_un (tNb_end hN (by omega)) hj) ?_
          have hok9 := trivial
          exact zq_lret hx hb hr hlk (zj [yy, mm, dd], fun _ _ => false) hP hS hok9 (zHm_y hmc hok9) zd_Q_upTo_89
        · refine lv_lload_n hx hb zd_Q_upTo_21 rfl (lv_at hl 0 rfl) ?_
          refine lv_ldc2 hx hb hown (hw _ zw_4_114) zd_Q_upTo_22 ?_
          refine zl_asx _ 86400 (by decide) ?_
          refine zi_ldiv hx hb zd_Q_upTo_25 (by omega) ?_
          refine zi_l2i hx hb zd_Q_upTo_26 ?_
          refine lv_istore (lv' := [(5, .int (iI (x / 86400))), (3, .long (lI (x))), (0, .ref (qq)), (1, .long (lI (tm)))]) hx hb zd_Q_upTo_27 hl (by decide) rfl (fun ls hl => ?_)
          refine lv_aload_n hx hb zd_Q_upTo_29 rfl (lv_at hl 2 rfl) ?_
          refine zi_iconst hx hb zd_Q_upTo_30 ?_
          refine lv_iload hx hb zd_Q_upTo_31 (lv_at hl 0 rfl) ?_
          have hds := dMon_sp (d := x / 86400) (by omega)
          refine zk_W (As := [.int (iI (0)), .int (iI (x / 86400))]) (b := qq) (own := "CronFinderModel") (nL := 7) (rest := []) hx hb hml hown hw (c_Q_dayFits l g qq rf (fl) (ln) (pl) (yy) (mm) (dd) (at0) (wa) (on) (tw) (hc) sa sr st fa wya sea fi wf sf hdf (dMon (x / 86400)) (x / 86400) ⟨hds.1, hds.2.1⟩ hds.2.2 hfi hwf hf1) zw_4_115 zw_4_117 zw_0_40 zw_1_7 zw_4_118 (np := 2) (by decide +kernel) rfl ⟨rfl, rfl, Nat.le_of_ble_eq_true rfl, Nat.le_of_ble_eq_true rfl⟩ (fun _ => zN_mv) hK trivial hP hD hS hA [0, 1, 2, 6, 7, 8, 9, 10, 11, 12, 13, 14, 15, 16] rfl (by decide) rfl (va_recv hK hP (ci := 5) (q0 := 0) rfl rfl) hl.1 rfl (Nat.le_of_ble_eq_true rfl) ⟨Nat.zero_le _, Nat.zero_le _⟩ zd_Q_upTo_33 (fun H locs hP hD hS => ?_)
          have hP : va_P g.1 zCl [(qq, .inr (5, [.int (iI (fl)), .ref (rf 0), .int (iI (ln)), .int (iI (pl)), .int (iI (1970 + dMon (x / 86400) / 12)), .int (iI (dMon (x / 86400) % 12 + 1)), .int (iI ((x / 86400) - dM0 (dMon (x / 86400)) + 1)), .int (iI (at0)), .ref (rf 1), .ref (rf 2), .ref (rf 3), .ref (rf 4), .ref (rf 5), .ref (rf 6), .int (iI (wa)), .int (iI (on)), .int (iI (tw)), .ref (rf 7), .ref (rf 8), .ref (rf 9), .int (iI (hc))])), (rf 1, .inl (g.2 6, 1, .inr (.inr (.inr (.inr (zaR sa)))))), (sa 0, .inl (g.2 5, 7, .inr (.inr (.inr (.inr (zaR sr)))))), (sr 0, .inl (g.2 1, 330, .inl (zaB (st 0)))), (sr 1, .inl (g.2 1, 330, .inl (zaB (st 1)))), (sr 2, .inl (g.2 1, 330, .inl (zaB (st 2)))), (sr 3, .inl (g.2 1, 330, .inl (zaB (st 3)))), (sr 4, .inl (g.2 1, 330, .inl (zaB (st 4)))), (sr 5, .inl (g.2 1, 330, .inl (zaB (st 5)))), (sr 6, .inl (g.2 1, 330, .inl (zaB (st 6)))), (rf 4, .inl (g.2 7, 1, .inr (.inr (.inr (.inr (zaR wya)))))), (wya 0, .inl (g.2 0, 2, .inl (zaI wf))), (rf 5, .inl (g.2 7, 1, .inr (.inr (.inr (.inr (zaR fa)))))), (fa 0, .inl (g.2 0, 2, .inl (zaI fi))), (rf 6, .inl (g.2 7, 1, .inr (.inr (.inr (.inr (zaR sea)))))), (sea 0, .inl (g.2 0, 2, .inl (zaI sf))), (rf 9, .inl (g.2 1, 120530, .inl (zaB hdf))), (rf 3, .inl (g.2 1, 1, .inl (zaB to)))] H := hP
          have hD : va_D A [(qq, .inr (5, [.int (iI (fl)), .ref (rf 0), .int (iI (ln)), .int (iI (pl)), .int (iI (1970 + dMon (x / 86400) / 12)), .int (iI (dMon (x / 86400) % 12 + 1)), .int (iI ((x / 86400) - dM0 (dMon (x / 86400)) + 1)), .int (iI (at0)), .ref (rf 1), .ref (rf 2), .ref (rf 3), .ref (rf 4), .ref (rf 5), .ref (rf 6), .int (iI (wa)), .int (iI (on)), .int (iI (tw)), .ref (rf 7), .ref (rf 8), .ref (rf 9), .int (iI (hc))])), (rf 1, .inl (g.2 6, 1, .inr (.inr (.inr (.inr (zaR sa)))))), (sa 0, .inl (g.2 5, 7, .inr (.inr (.inr (.inr (zaR sr)))))), (sr 0, .inl (g.2 1, 330, .inl (zaB (st 0)))), (sr 1, .inl (g.2 1, 330, .inl (zaB (st 1)))), (sr 2, .inl (g.2 1, 330, .inl (zaB (st 2)))), (sr 3, .inl (g.2 1, 330, .inl (zaB (st 3)))), (sr 4, .inl (g.2 1, 330, .inl (zaB (st 4)))), (sr 5, .inl (g.2 1, 330, .inl (zaB (st 5)))), (sr 6, .inl (g.2 1, 330, .inl (zaB (st 6)))), (rf 4, .inl (g.2 7, 1, .inr (.inr (.inr (.inr (zaR wya)))))), (wya 0, .inl (g.2 0, 2, .inl (zaI wf))), (rf 5, .inl (g.2 7, 1, .inr (.inr (.inr (.inr (zaR fa)))))), (fa 0, .inl (g.2 0, 2, .inl (zaI fi))), (rf 6, .inl (g.2 7, 1, .inr (.inr (.inr (.inr (zaR sea)))))), (sea 0, .inl (g.2 0, 2, .inl (zaI sf))), (rf 9, .inl (g.2 1, 120530, .inl (zaB hdf))), (rf 3, .inl (g.2 1, 1, .inl (zaB to)))] := hD
          refine zb_eq (qF st wf fi sf hdf (x / 86400)) rfl ?_
          refine zb_if_eq (tgt := 53) hx hb zd_Q_upTo_36 (by decide) (fun c36 => ?_) (fun c36 => ?_)
          · refine zi_iconst hx hb zd_Q_upTo_53 ?_
            refine lv_istore (lv' := [(6, .int (iI ((-1)))), (5, .int (iI (x / 86400))), (3, .long (lI (x))), (0, .ref (qq)), (1, .long (lI (tm)))]) hx hb zd_Q_upTo_54 hl (by decide) rfl (fun ls hl => ?_)
            refine lv_iload hx hb zd_Q_upTo_56 (lv_at hl 0 rfl) ?_
            refine zi_if_lt (tgt := 73) hx hb zd_Q_upTo_58 (by decide) (by omega) (fun _ => ?_) (fun c58 => absurd c58 (by decide))
            refine lv_ldc2 hx hb hown (hw _ zw_4_114) zd_Q_upTo_73 ?_
            refine zl_asx _ 86400 (by decide) ?_
            refine lv_iload hx hb zd_Q_upTo_76 (lv_at hl 1 rfl) ?_
            refine zi_i2l hx hb zd_Q_upTo_78 (by omega) ?_
            refine zi_lmul hx hb zd_Q_upTo_79 ?_
            refine zi_lconst (z := 1) hx hb zd_Q_upTo_80 (by decide) ?_
            refine zi_lsub hx hb zd_Q_upTo_81 ?_
            refine lv_lstore_n (lv' := [(3, .long (lI ((86400 * (x / 86400)) - 1))), (6, .int (iI ((-1)))), (5, .int (iI (x / 86400))), (0, .ref (qq)), (1, .long (lI (tm)))]) hx hb zd_Q_upTo_82 rfl hl (by decide) rfl (fun ls hl => ?_)
            refine lv_goto (tgt := 15) hx hb zd_Q_upTo_83 (by decide) ?_
            exact ih (86400 * (x / 86400) - 1) _ _ _ H locs ls (by omega) (by first | exact tNb_d ⟨by omega, by omega⟩ hN c36 | exact tNb_s ⟨by omega, by omega⟩ hN hsf (by omega)) (by omega) hP hD hS (lv_sub hl [0, 3, 4] rfl)
          · refine lv_aload_n hx hb zd_Q_upTo_39 rfl (lv_at hl 2 rfl) ?_
            refine zi_iconst hx hb zd_Q_upTo_40 ?_
            refine lv_lload_n hx hb zd_Q_upTo_41 rfl (lv_at hl 1 rfl) ?_
            refine lv_ldc2 hx hb hown (hw _ zw_4_114) zd_Q_upTo_42 ?_
            refine zl_asx _ 86400 (by decide) ?_
            refine zi_lrem hx hb zd_Q_upTo_45 (by omega) ?_
            refine zi_l2i hx hb zd_Q_upTo_46 ?_
            obtain ⟨r, hsf⟩ := sSB_ex (st 0) (st 1) (st 2) (x % 86400)
            have hsg := sSB_rg (by omega) hsf
            refine zk_V (As := [.int (iI (0)), .int (iI (x % 86400))]) (b := qq) (own := "CronFinderModel") (nL := 7) (rest := []) hx hb hml hown hw (c_Q_secondTo l g qq rf (fl) (ln) (pl) (1970 + dMon (x / 86400) / 12) (dMon (x / 86400) % 12 + 1) ((x / 86400) - dM0 (dMon (x / 86400)) + 1) (at0) (wa) (on) (tw) (hc) sa sr st (x % 86400) r (by omega) hsf) zw_4_154 zw_4_156 zw_0_45 zw_1_7 zw_4_157 (np := 2) (by decide +kernel) rfl ⟨rfl, rfl, Nat.le_of_ble_eq_true rfl, Nat.le_of_ble_eq_true rfl⟩ zN_mv hK trivial (hP.sub (ws' := [(qq, .inr (5, [.int (iI (fl)), .ref (rf 0), .int (iI (ln)), .int (iI (pl)), .int (iI (1970 + dMon (x / 86400) / 12)), .int (iI (dMon (x / 86400) % 12 + 1)), .int (iI ((x / 86400) - dM0 (dMon (x / 86400)) + 1)), .int (iI (at0)), .ref (rf 1), .ref (rf 2), .ref (rf 3), .ref (rf 4), .ref (rf 5), .ref (rf 6), .int (iI (wa)), .int (iI (on)), .int (iI (tw)), .ref (rf 7), .ref (rf 8), .ref (rf 9), .int (iI (hc))])), (rf 1, .inl (g.2 6, 1, .inr (.inr (.inr (.inr (zaR sa)))))), (sa 0, .inl (g.2 5, 7, .inr (.inr (.inr (.inr (zaR sr)))))), (sr 0, .inl (g.2 1, 330, .inl (zaB (st 0)))), (sr 1, .inl (g.2 1, 330, .inl (zaB (st 1)))), (sr 2, .inl (g.2 1, 330, .inl (zaB (st 2))))]) [0, 1, 2, 3, 4, 5] rfl) (va_recv hK hP (ci := 5) (q0 := 0) rfl rfl) hl.1 rfl (Nat.le_of_ble_eq_true rfl) ⟨Nat.zero_le _, Nat.zero_le _⟩ zd_Q_upTo_47 ?_
            refine lv_goto (tgt := 54) hx hb zd_Q_upTo_50 (by decide) ?_
            refine lv_istore (lv' := [(6, .int (iI (r))), (5, .int (iI (x / 86400))), (3, .long (lI (x))), (0, .ref (qq)), (1, .long (lI (tm)))]) hx hb zd_Q_upTo_54 hl (by decide) rfl (fun ls hl => ?_)
            refine lv_iload hx hb zd_Q_upTo_56 (lv_at hl 0 rfl) ?_
            refine zi_if_lt (tgt := 73) hx hb zd_Q_upTo_58 (by decide) (by omega) (fun c58 => ?_) (fun c58 => ?_)
            · refine lv_ldc2 hx hb hown (hw _ zw_4_114) zd_Q_upTo_73 ?_
              refine zl_asx _ 86400 (by decide) ?_
              refine lv_iload hx hb zd_Q_upTo_76 (lv_at hl 1 rfl) ?_
              refine zi_i2l hx hb zd_Q_upTo_78 (by omega) ?_
              refine zi_lmul hx hb zd_Q_upTo_79 ?_
              refine zi_lconst (z := 1) hx hb zd_Q_upTo_80 (by decide) ?_
              refine zi_lsub hx hb zd_Q_upTo_81 ?_
              refine lv_lstore_n (lv' := [(3, .long (lI ((86400 * (x / 86400)) - 1))), (6, .int (iI (r))), (5, .int (iI (x / 86400))), (0, .ref (qq)), (1, .long (lI (tm)))]) hx hb zd_Q_upTo_82 rfl hl (by decide) rfl (fun ls hl => ?_)
              refine lv_goto (tgt := 15) hx hb zd_Q_upTo_83 (by decide) ?_
              exact ih (86400 * (x / 86400) - 1) _ _ _ H locs ls (by omega) (by first | exact tNb_d ⟨by omega, by omega⟩ hN c36 | exact tNb_s ⟨by omega, by omega⟩ hN hsf (by omega)) (by omega) hP hD hS (lv_sub hl [0, 3, 4] rfl)
            · refine lv_ldc2 hx hb hown (hw _ zw_4_114) zd_Q_upTo_61 ?_
              refine zl_asx _ 86400 (by decide) ?_
              refine lv_iload hx hb zd_Q_upTo_64 (lv_at hl 1 rfl) ?_
              refine zi_i2l hx hb zd_Q_upTo_66 (by omega) ?_
              refine zi_lmul hx hb zd_Q_upTo_67 ?_
              refine lv_iload hx hb zd_Q_upTo_68 (lv_at hl 0 rfl) ?_
              refine zi_i2l hx hb zd_Q_upTo_70 (by omega) ?_
              refine zi_ladd hx hb zd_Q_upTo_71 ?_
              refine zl_as (rr) (tNB_un (tNb_hit (by omega) ⟨by omega, by omega⟩ (by omega) hN c36 hsf (by omega)) hj) ?_
              have hok9 := trivial
              exact zq_lret hx hb hr hlk (zj [1970 + dMon (x / 86400) / 12, dMon (x / 86400) % 12 + 1, (x / 86400) - dM0 (dMon (x / 86400)) + 1], fun _ _ => false) hP hS hok9 (zHm_y hmc hok9) zd_Q_upTo_72
    exact loop 120533 (tm) yy mm dd s.heap [] ls (by omega) (tNo_0 (by omega)) (by omega) hP hD hS (lv_sub hl [0, 1, 2] rfl)
  · refine lv_ldc2 hx hb hown (hw _ zw_4_113) zd_Q_upTo_9 ?_
    refine zl_asx _ (-1) (by decide) ?_
    exact absurd (hto.symm.trans c6) (by decide)
set_option maxHeartbeats 4000000 in
set_option maxRecDepth 100000 in
theorem c_Q_after_n (l : Launch) (g : zGl) (hl0 : l.stackTraces = false) (qq : Nat) (rf : Nat → Nat) (fl ln pl yy mm dd at0 wa on tw hc : Int) (sa sr : Nat → Nat) (st : Nat → Nat → Bool) (fa wya sea : Nat → Nat) (fi wf sf : Nat → Int) (hdf : Nat → Bool) (to : Nat → Bool) (tm rr : Int) (hto : to 0 = false) (hrr : rr = -1) (mc ms : Nat) (hmc : zHm (True) mc ms) : zEi l zy_Q_after zc_Q_after 7 (some .long) ({ frames := 5, cells := mc, slots := ms, locals := 113 }) g (fun _ => zN) [.ref (qq), .long (lI (tm))] [(qq, .inr (5, [.int (iI (fl)), .ref (rf 0), .int (iI (ln)), .int (iI (pl)), .int (iI (yy)), .int (iI (mm)), .int (iI (dd)), .int (iI (at0)), .ref (rf 1), .ref (rf 2), .ref (rf 3), .ref (rf 4), .ref (rf 5), .ref (rf 6), .int (iI (wa)), .int (iI (on)), .int (iI (tw)), .ref (rf 7), .ref (rf 8), .ref (rf 9), .int (iI (hc))])), (rf 1, .inl (g.2 6, 1, .inr (.inr (.inr (.inr (zaR sa)))))), (sa 0, .inl (g.2 5, 7, .inr (.inr (.inr (.inr (zaR sr)))))), (sr 0, .inl (g.2 1, 330, .inl (zaB (st 0)))), (sr 1, .inl (g.2 1, 330, .inl (zaB (st 1)))), (sr 2, .inl (g.2 1, 330, .inl (zaB (st 2)))), (sr 3, .inl (g.2 1, 330, .inl (zaB (st 3)))), (sr 4, .inl (g.2 1, 330, .inl (zaB (st 4)))), (sr 5, .inl (g.2 1, 330, .inl (zaB (st 5)))), (sr 6, .inl (g.2 1, 330, .inl (zaB (st 6)))), (rf 4, .inl (g.2 7, 1, .inr (.inr (.inr (.inr (zaR wya)))))), (wya 0, .inl (g.2 0, 2, .inl (zaI wf))), (rf 5, .inl (g.2 7, 1, .inr (.inr (.inr (.inr (zaR fa)))))), (fa 0, .inl (g.2 0, 2, .inl (zaI fi))), (rf 6, .inl (g.2 7, 1, .inr (.inr (.inr (.inr (zaR sea)))))), (sea 0, .inl (g.2 0, 2, .inl (zaI sf))), (rf 9, .inl (g.2 1, 120530, .inl (zaB hdf))), (rf 3, .inl (g.2 1, 1, .inl (zaB to)))] (True) (some (.long (lI (rr)))) (fun u => [(qq, .inr (5, [.int (iI (fl)), .ref (rf 0), .int (iI (ln)), .int (iI (pl)), .int (iI (u.1 0)), .int (iI (u.1 1)), .int (iI (u.1 2)), .int (iI (at0)), .ref (rf 1), .ref (rf 2), .ref (rf 3), .ref (rf 4), .ref (rf 5), .ref (rf 6), .int (iI (wa)), .int (iI (on)), .int (iI (tw)), .ref (rf 7), .ref (rf 8), .ref (rf 9), .int (iI (hc))])), (rf 1, .inl (g.2 6, 1, .inr (.inr (.inr (.inr (zaR sa)))))), (sa 0, .inl (g.2 5, 7, .inr (.inr (.inr (.inr (zaR sr)))))), (sr 0, .inl (g.2 1, 330, .inl (zaB (st 0)))), (sr 1, .inl (g.2 1, 330, .inl (zaB (st 1)))), (sr 2, .inl (g.2 1, 330, .inl (zaB (st 2)))), (sr 3, .inl (g.2 1, 330, .inl (zaB (st 3)))), (sr 4, .inl (g.2 1, 330, .inl (zaB (st 4)))), (sr 5, .inl (g.2 1, 330, .inl (zaB (st 5)))), (sr 6, .inl (g.2 1, 330, .inl (zaB (st 6)))), (rf 4, .inl (g.2 7, 1, .inr (.inr (.inr (.inr (zaR wya)))))), (wya 0, .inl (g.2 0, 2, .inl (zaI wf))), (rf 5, .inl (g.2 7, 1, .inr (.inr (.inr (.inr (zaR fa)))))), (fa 0, .inl (g.2 0, 2, .inl (zaI fi))), (rf 6, .inl (g.2 7, 1, .inr (.inr (.inr (.inr (zaR sea)))))), (sea 0, .inl (g.2 0, 2, .inl (zaI sf))), (rf 9, .inl (g.2 1, 120530, .inl (zaB hdf))), (rf 3, .inl (g.2 1, 1, .inl (zaB to)))]) "java/lang/UnsupportedOperationException" (fun u => [(qq, .inr (5, [.int (iI (fl)), .ref (rf 0), .int (iI (ln)), .int (iI (pl)), .int (iI (u.1 0)), .int (iI (u.1 1)), .int (iI (u.1 2)), .int (iI (at0)), .ref (rf 1), .ref (rf 2), .ref (rf 3), .ref (rf 4), .ref (rf 5), .ref (rf 6), .int (iI (wa)), .int (iI (on)), .int (iI (tw)), .ref (rf 7), .ref (rf 8), .ref (rf 9), .int (iI (hc))])), (rf 1, .inl (g.2 6, 1, .inr (.inr (.inr (.inr (zaR sa)))))), (sa 0, .inl (g.2 5, 7, .inr (.inr (.inr (.inr (zaR sr)))))), (sr 0, .inl (g.2 1, 330, .inl (zaB (st 0)))), (sr 1, .inl (g.2 1, 330, .inl (zaB (st 1)))), (sr 2, .inl (g.2 1, 330, .inl (zaB (st 2)))), (sr 3, .inl (g.2 1, 330, .inl (zaB (st 3)))), (sr 4, .inl (g.2 1, 330, .inl (zaB (st 4)))), (sr 5, .inl (g.2 1, 330, .inl (zaB (st 5)))), (sr 6, .inl (g.2 1, 330, .inl (zaB (st 6)))), (rf 4, .inl (g.2 7, 1, .inr (.inr (.inr (.inr (zaR wya)))))), (wya 0, .inl (g.2 0, 2, .inl (zaI wf))), (rf 5, .inl (g.2 7, 1, .inr (.inr (.inr (.inr (zaR fa)))))), (fa 0, .inl (g.2 0, 2, .inl (zaI fi))), (rf 6, .inl (g.2 7, 1, .inr (.inr (.inr (.inr (zaR sea)))))), (sea 0, .inl (g.2 0, 2, .inl (zaI sf))), (rf 9, .inl (g.2 1, 120530, .inl (zaB hdf))), (rf 3, .inl (g.2 1, 1, .inl (zaB to)))]) mc ms := by
  refine ze_open (by decide +kernel) (Nat.le_of_ble_eq_true rfl) ?_
  intro p e s m below meth c ls A hx hb hml hr hno hlk hown hw hK hT hP hD hS hA hl
  have hown : s.vm.findClass "CronFinderModel" = some m.cls := hown
  have hl : lv_has ls 7 [(0, .ref (qq)), (1, .long (lI (tm)))] := hl
  refine lv_aload_n hx hb zd_Q_after_0 rfl (lv_at hl 0 rfl) ?_
  refine va_get (D := g.1) (ci := 5) (v := .ref (rf 3)) (C := zR_Q) (T := zT_Q) (N := 21) hx hb hw zin_Q hown hK hP 0 rfl rfl 10 (by decide) (hw _ zw_3_208) (fun _ h9 => h9) rfl zd_Q_after_1 ?_
  refine zi_iconst hx hb zd_Q_after_4 ?_
  refine zi_zald hx hb hK hP 17 1 rfl rfl (by omega) zd_Q_after_5 ?_
  refine zb_eq (to 0) rfl ?_
  refine zb_if_ne (tgt := 13) hx hb zd_Q_after_6 (by decide) (fun c6 => ?_) (fun c6 => ?_)
  · exact absurd (hto.symm.trans c6) (by decide)
  · refine lv_ldc2 hx hb hown (hw _ zw_4_113) zd_Q_after_9 ?_
    refine zl_asx _ (-1) (by decide) ?_
    refine zl_as (rr) (hrr.symm) ?_
    have hok9 := trivial
    exact zq_lret hx hb hr hlk (zj [yy, mm, dd], fun _ _ => false) hP hS hok9 (zHm_y hmc hok9) zd_Q_after_12
set_option maxHeartbeats 4000000 in
set_option maxRecDepth 100000 in
theorem c_Q_upTo_n (l : Launch) (g : zGl) (hl0 : l.stackTraces = false) (qq : Nat) (rf : Nat → Nat) (fl ln pl yy mm dd at0 wa on tw hc : Int) (sa sr : Nat → Nat) (st : Nat → Nat → Bool) (fa wya sea : Nat → Nat) (fi wf sf : Nat → Int) (hdf : Nat → Bool) (to : Nat → Bool) (tm rr : Int) (hto : to 0 = false) (hrr : rr = -1) (mc ms : Nat) (hmc : zHm (True) mc ms) : zEi l zy_Q_upTo zc_Q_upTo 7 (some .long) ({ frames := 5, cells := mc, slots := ms, locals := 113 }) g (fun _ => zN) [.ref (qq), .long (lI (tm))] [(qq, .inr (5, [.int (iI (fl)), .ref (rf 0), .int (iI (ln)), .int (iI (pl)), .int (iI (yy)), .int (iI (mm)), .int (iI (dd)), .int (iI (at0)), .ref (rf 1), .ref (rf 2), .ref (rf 3), .ref (rf 4), .ref (rf 5), .ref (rf 6), .int (iI (wa)), .int (iI (on)), .int (iI (tw)), .ref (rf 7), .ref (rf 8), .ref (rf 9), .int (iI (hc))])), (rf 1, .inl (g.2 6, 1, .inr (.inr (.inr (.inr (zaR sa)))))), (sa 0, .inl (g.2 5, 7, .inr (.inr (.inr (.inr (zaR sr)))))), (sr 0, .inl (g.2 1, 330, .inl (zaB (st 0)))), (sr 1, .inl (g.2 1, 330, .inl (zaB (st 1)))), (sr 2, .inl (g.2 1, 330, .inl (zaB (st 2)))), (sr 3, .inl (g.2 1, 330, .inl (zaB (st 3)))), (sr 4, .inl (g.2 1, 330, .inl (zaB (st 4)))), (sr 5, .inl (g.2 1, 330, .inl (zaB (st 5)))), (sr 6, .inl (g.2 1, 330, .inl (zaB (st 6)))), (rf 4, .inl (g.2 7, 1, .inr (.inr (.inr (.inr (zaR wya)))))), (wya 0, .inl (g.2 0, 2, .inl (zaI wf))), (rf 5, .inl (g.2 7, 1, .inr (.inr (.inr (.inr (zaR fa)))))), (fa 0, .inl (g.2 0, 2, .inl (zaI fi))), (rf 6, .inl (g.2 7, 1, .inr (.inr (.inr (.inr (zaR sea)))))), (sea 0, .inl (g.2 0, 2, .inl (zaI sf))), (rf 9, .inl (g.2 1, 120530, .inl (zaB hdf))), (rf 3, .inl (g.2 1, 1, .inl (zaB to)))] (True) (some (.long (lI (rr)))) (fun u => [(qq, .inr (5, [.int (iI (fl)), .ref (rf 0), .int (iI (ln)), .int (iI (pl)), .int (iI (u.1 0)), .int (iI (u.1 1)), .int (iI (u.1 2)), .int (iI (at0)), .ref (rf 1), .ref (rf 2), .ref (rf 3), .ref (rf 4), .ref (rf 5), .ref (rf 6), .int (iI (wa)), .int (iI (on)), .int (iI (tw)), .ref (rf 7), .ref (rf 8), .ref (rf 9), .int (iI (hc))])), (rf 1, .inl (g.2 6, 1, .inr (.inr (.inr (.inr (zaR sa)))))), (sa 0, .inl (g.2 5, 7, .inr (.inr (.inr (.inr (zaR sr)))))), (sr 0, .inl (g.2 1, 330, .inl (zaB (st 0)))), (sr 1, .inl (g.2 1, 330, .inl (zaB (st 1)))), (sr 2, .inl (g.2 1, 330, .inl (zaB (st 2)))), (sr 3, .inl (g.2 1, 330, .inl (zaB (st 3)))), (sr 4, .inl (g.2 1, 330, .inl (zaB (st 4)))), (sr 5, .inl (g.2 1, 330, .inl (zaB (st 5)))), (sr 6, .inl (g.2 1, 330, .inl (zaB (st 6)))), (rf 4, .inl (g.2 7, 1, .inr (.inr (.inr (.inr (zaR wya)))))), (wya 0, .inl (g.2 0, 2, .inl (zaI wf))), (rf 5, .inl (g.2 7, 1, .inr (.inr (.inr (.inr (zaR fa)))))), (fa 0, .inl (g.2 0, 2, .inl (zaI fi))), (rf 6, .inl (g.2 7, 1, .inr (.inr (.inr (.inr (zaR sea)))))), (sea 0, .inl (g.2 0, 2, .inl (zaI sf))), (rf 9, .inl (g.2 1, 120530, .inl (zaB hdf))), (rf 3, .inl (g.2 1, 1, .inl (zaB to)))]) "java/lang/UnsupportedOperationException" (fun u => [(qq, .inr (5, [.int (iI (fl)), .ref (rf 0), .int (iI (ln)), .int (iI (pl)), .int (iI (u.1 0)), .int (iI (u.1 1)), .int (iI (u.1 2)), .int (iI (at0)), .ref (rf 1), .ref (rf 2), .ref (rf 3), .ref (rf 4), .ref (rf 5), .ref (rf 6), .int (iI (wa)), .int (iI (on)), .int (iI (tw)), .ref (rf 7), .ref (rf 8), .ref (rf 9), .int (iI (hc))])), (rf 1, .inl (g.2 6, 1, .inr (.inr (.inr (.inr (zaR sa)))))), (sa 0, .inl (g.2 5, 7, .inr (.inr (.inr (.inr (zaR sr)))))), (sr 0, .inl (g.2 1, 330, .inl (zaB (st 0)))), (sr 1, .inl (g.2 1, 330, .inl (zaB (st 1)))), (sr 2, .inl (g.2 1, 330, .inl (zaB (st 2)))), (sr 3, .inl (g.2 1, 330, .inl (zaB (st 3)))), (sr 4, .inl (g.2 1, 330, .inl (zaB (st 4)))), (sr 5, .inl (g.2 1, 330, .inl (zaB (st 5)))), (sr 6, .inl (g.2 1, 330, .inl (zaB (st 6)))), (rf 4, .inl (g.2 7, 1, .inr (.inr (.inr (.inr (zaR wya)))))), (wya 0, .inl (g.2 0, 2, .inl (zaI wf))), (rf 5, .inl (g.2 7, 1, .inr (.inr (.inr (.inr (zaR fa)))))), (fa 0, .inl (g.2 0, 2, .inl (zaI fi))), (rf 6, .inl (g.2 7, 1, .inr (.inr (.inr (.inr (zaR sea)))))), (sea 0, .inl (g.2 0, 2, .inl (zaI sf))), (rf 9, .inl (g.2 1, 120530, .inl (zaB hdf))), (rf 3, .inl (g.2 1, 1, .inl (zaB to)))]) mc ms := by
  refine ze_open (by decide +kernel) (Nat.le_of_ble_eq_true rfl) ?_
  intro p e s m below meth c ls A hx hb hml hr hno hlk hown hw hK hT hP hD hS hA hl
  have hown : s.vm.findClass "CronFinderModel" = some m.cls := hown
  have hl : lv_has ls 7 [(0, .ref (qq)), (1, .long (lI (tm)))] := hl
  refine lv_aload_n hx hb zd_Q_upTo_0 rfl (lv_at hl 0 rfl) ?_
  refine va_get (D := g.1) (ci := 5) (v := .ref (rf 3)) (C := zR_Q) (T := zT_Q) (N := 21) hx hb hw zin_Q hown hK hP 0 rfl rfl 10 (by decide) (hw _ zw_3_208) (fun _ h9 => h9) rfl zd_Q_upTo_1 ?_
  refine zi_iconst hx hb zd_Q_upTo_4 ?_
  refine zi_zald hx hb hK hP 17 1 rfl rfl (by omega) zd_Q_upTo_5 ?_
  refine zb_eq (to 0) rfl ?_
  refine zb_if_ne (tgt := 13) hx hb zd_Q_upTo_6 (by decide) (fun c6 => ?_) (fun c6 => ?_)
  · exact absurd (hto.symm.trans c6) (by decide)
  · refine lv_ldc2 hx hb hown (hw _ zw_4_113) zd_Q_upTo_9 ?_
    refine zl_asx _ (-1) (by decide) ?_
    refine zl_as (rr) (hrr.symm) ?_
    have hok9 := trivial
    exact zq_lret hx hb hr hlk (zj [yy, mm, dd], fun _ _ => false) hP hS hok9 (zHm_y hmc hok9) zd_Q_upTo_12
noncomputable def qFt (to : Nat → Bool) (st : Nat → Nat → Bool) (wf fi sf : Nat → Int) (hdf : Nat → Bool) (n : Int) : Bool := to 0 && qF st wf fi sf hdf n
theorem qFt_t {to : Nat → Bool} {st : Nat → Nat → Bool} {wf fi sf : Nat → Int} {hdf : Nat → Bool} (h : to 0 = true) : qFt to st wf fi sf hdf = qF st wf fi sf hdf := by funext n; unfold qFt; rw [h]; rfl
theorem qFt_f {to : Nat → Bool} {st : Nat → Nat → Bool} {wf fi sf : Nat → Int} {hdf : Nat → Bool} (h : to 0 = false) (n : Int) : qFt to st wf fi sf hdf n = false := by unfold qFt; rw [h]; rfl
theorem tNF_no {F G : Int → Bool} {tm r : Int} (h0 : 0 ≤ tm) (hF : ∀ n, F n = false) (h : tNF F G tm r) : r = -1 := tNF_un h (Or.inl ⟨rfl, fun T _ _ => tOk_F (hF _)⟩) h0
theorem tNB_no {F G : Int → Bool} {tm r : Int} (hF : ∀ n, F n = false) (h : tNB F G tm r) : r = -1 := tNB_un h (Or.inl ⟨rfl, fun T _ _ => tOk_F (hF _)⟩)
theorem c_Q_after_t (l : Launch) (g : zGl) (hl0 : l.stackTraces = false) (qq : Nat) (rf : Nat → Nat) (fl ln pl yy mm dd at0 wa on tw hc : Int) (sa sr : Nat → Nat) (st : Nat → Nat → Bool) (fa wya sea : Nat → Nat) (fi wf sf : Nat → Int) (hdf : Nat → Bool) (to : Nat → Bool) (tm rr : Int) (hx0 : 0 ≤ tm ∧ tm ≤ 10413791999) (hfi : 0 ≤ fi 0 ∧ fi 0 ≤ 31) (hwf : 0 ≤ wf 0 ∧ wf 0 ≤ 4 ∧ (wf 0 = 4 → 1 ≤ fi 0)) (hf1 : 0 ≤ fi 1 ∧ fi 1 ≤ 31 ∧ 0 ≤ wf 1 ∧ wf 1 ≤ 6 ∧ 0 ≤ sf 1 ∧ sf 1 ≤ 5) (hj : tNF (qFt to st wf fi sf hdf) (sOk (st 0) (st 1) (st 2)) tm rr) (mc ms : Nat) (hmc : zHm True mc ms) : zEi l zy_Q_after zc_Q_after 7 (some .long) ({ frames := 5, cells := mc, slots := ms, locals := 113 }) g (fun _ => zN) [.ref qq, .long (lI tm)] [(qq, .inr (5, [.int (iI (fl)), .ref (rf 0), .int (iI (ln)), .int (iI (pl)), .int (iI (yy)), .int (iI (mm)), .int (iI (dd)), .int (iI (at0)), .ref (rf 1), .ref (rf 2), .ref (rf 3), .ref (rf 4), .ref (rf 5), .ref (rf 6), .int (iI (wa)), .int (iI (on)), .int (iI (tw)), .ref (rf 7), .ref (rf 8), .ref (rf 9), .int (iI (hc))])), (rf 1, .inl (g.2 6, 1, .inr (.inr (.inr (.inr (zaR sa)))))), (sa 0, .inl (g.2 5, 7, .inr (.inr (.inr (.inr (zaR sr)))))), (sr 0, .inl (g.2 1, 330, .inl (zaB (st 0)))), (sr 1, .inl (g.2 1, 330, .inl (zaB (st 1)))), (sr 2, .inl (g.2 1, 330, .inl (zaB (st 2)))), (sr 3, .inl (g.2 1, 330, .inl (zaB (st 3)))), (sr 4, .inl (g.2 1, 330, .inl (zaB (st 4)))), (sr 5, .inl (g.2 1, 330, .inl (zaB (st 5)))), (sr 6, .inl (g.2 1, 330, .inl (zaB (st 6)))), (rf 4, .inl (g.2 7, 1, .inr (.inr (.inr (.inr (zaR wya)))))), (wya 0, .inl (g.2 0, 2, .inl (zaI wf))), (rf 5, .inl (g.2 7, 1, .inr (.inr (.inr (.inr (zaR fa)))))), (fa 0, .inl (g.2 0, 2, .inl (zaI fi))), (rf 6, .inl (g.2 7, 1, .inr (.inr (.inr (.inr (zaR sea)))))), (sea 0, .inl (g.2 0, 2, .inl (zaI sf))), (rf 9, .inl (g.2 1, 120530, .inl (zaB hdf))), (rf 3, .inl (g.2 1, 1, .inl (zaB to)))] True (some (.long (lI rr))) (fun u => [(qq, .inr (5, [.int (iI (fl)), .ref (rf 0), .int (iI (ln)), .int (iI (pl)), .int (iI (u.1 0)), .int (iI (u.1 1)), .int (iI (u.1 2)), .int (iI (at0)), .ref (rf 1), .ref (rf 2), .ref (rf 3), .ref (rf 4), .ref (rf 5), .ref (rf 6), .int (iI (wa)), .int (iI (on)), .int (iI (tw)), .ref (rf 7), .ref (rf 8), .ref (rf 9), .int (iI (hc))])), (rf 1, .inl (g.2 6, 1, .inr (.inr (.inr (.inr (zaR sa)))))), (sa 0, .inl (g.2 5, 7, .inr (.inr (.inr (.inr (zaR sr)))))), (sr 0, .inl (g.2 1, 330, .inl (zaB (st 0)))), (sr 1, .inl (g.2 1, 330, .inl (zaB (st 1)))), (sr 2, .inl (g.2 1, 330, .inl (zaB (st 2)))), (sr 3, .inl (g.2 1, 330, .inl (zaB (st 3)))), (sr 4, .inl (g.2 1, 330, .inl (zaB (st 4)))), (sr 5, .inl (g.2 1, 330, .inl (zaB (st 5)))), (sr 6, .inl (g.2 1, 330, .inl (zaB (st 6)))), (rf 4, .inl (g.2 7, 1, .inr (.inr (.inr (.inr (zaR wya)))))), (wya 0, .inl (g.2 0, 2, .inl (zaI wf))), (rf 5, .inl (g.2 7, 1, .inr (.inr (.inr (.inr (zaR fa)))))), (fa 0, .inl (g.2 0, 2, .inl (zaI fi))), (rf 6, .inl (g.2 7, 1, .inr (.inr (.inr (.inr (zaR sea)))))), (sea 0, .inl (g.2 0, 2, .inl (zaI sf))), (rf 9, .inl (g.2 1, 120530, .inl (zaB hdf))), (rf 3, .inl (g.2 1, 1, .inl (zaB to)))]) "java/lang/UnsupportedOperationException" (fun u => [(qq, .inr (5, [.int (iI (fl)), .ref (rf 0), .int (iI (ln)), .int (iI (pl)), .int (iI (u.1 0)), .int (iI (u.1 1)), .int (iI (u.1 2)), .int (iI (at0)), .ref (rf 1), .ref (rf 2), .ref (rf 3), .ref (rf 4), .ref (rf 5), .ref (rf 6), .int (iI (wa)), .int (iI (on)), .int (iI (tw)), .ref (rf 7), .ref (rf 8), .ref (rf 9), .int (iI (hc))])), (rf 1, .inl (g.2 6, 1, .inr (.inr (.inr (.inr (zaR sa)))))), (sa 0, .inl (g.2 5, 7, .inr (.inr (.inr (.inr (zaR sr)))))), (sr 0, .inl (g.2 1, 330, .inl (zaB (st 0)))), (sr 1, .inl (g.2 1, 330, .inl (zaB (st 1)))), (sr 2, .inl (g.2 1, 330, .inl (zaB (st 2)))), (sr 3, .inl (g.2 1, 330, .inl (zaB (st 3)))), (sr 4, .inl (g.2 1, 330, .inl (zaB (st 4)))), (sr 5, .inl (g.2 1, 330, .inl (zaB (st 5)))), (sr 6, .inl (g.2 1, 330, .inl (zaB (st 6)))), (rf 4, .inl (g.2 7, 1, .inr (.inr (.inr (.inr (zaR wya)))))), (wya 0, .inl (g.2 0, 2, .inl (zaI wf))), (rf 5, .inl (g.2 7, 1, .inr (.inr (.inr (.inr (zaR fa)))))), (fa 0, .inl (g.2 0, 2, .inl (zaI fi))), (rf 6, .inl (g.2 7, 1, .inr (.inr (.inr (.inr (zaR sea)))))), (sea 0, .inl (g.2 0, 2, .inl (zaI sf))), (rf 9, .inl (g.2 1, 120530, .inl (zaB hdf))), (rf 3, .inl (g.2 1, 1, .inl (zaB to)))]) mc ms := by
  cases hto : to 0
  · exact c_Q_after_n l g hl0 qq rf fl ln pl yy mm dd at0 wa on tw hc sa sr st fa wya sea fi wf sf hdf to tm rr hto (tNF_no hx0.1 (qFt_f hto) hj) mc ms hmc
  · rw [qFt_t hto] at hj
    exact c_Q_after l g hl0 qq rf fl ln pl yy mm dd at0 wa on tw hc sa sr st fa wya sea fi wf sf hdf to tm rr hx0 hto hfi hwf hf1 hj mc ms hmc
theorem c_Q_upTo_t (l : Launch) (g : zGl) (hl0 : l.stackTraces = false) (qq : Nat) (rf : Nat → Nat) (fl ln pl yy mm dd at0 wa on tw hc : Int) (sa sr : Nat → Nat) (st : Nat → Nat → Bool) (fa wya sea : Nat → Nat) (fi wf sf : Nat → Int) (hdf : Nat → Bool) (to : Nat → Bool) (tm rr : Int) (hx0 : 0 ≤ tm ∧ tm ≤ 10413791999) (hfi : 0 ≤ fi 0 ∧ fi 0 ≤ 31) (hwf : 0 ≤ wf 0 ∧ wf 0 ≤ 4 ∧ (wf 0 = 4 → 1 ≤ fi 0)) (hf1 : 0 ≤ fi 1 ∧ fi 1 ≤ 31 ∧ 0 ≤ wf 1 ∧ wf 1 ≤ 6 ∧ 0 ≤ sf 1 ∧ sf 1 ≤ 5) (hj : tNB (qFt to st wf fi sf hdf) (sOk (st 0) (st 1) (st 2)) tm rr) (mc ms : Nat) (hmc : zHm True mc ms) : zEi l zy_Q_upTo zc_Q_upTo 7 (some .long) ({ frames := 5, cells := mc, slots := ms, locals := 113 }) g (fun _ => zN) [.ref qq, .long (lI tm)] [(qq, .inr (5, [.int (iI (fl)), .ref (rf 0), .int (iI (ln)), .int (iI (pl)), .int (iI (yy)), .int (iI (mm)), .int (iI (dd)), .int (iI (at0)), .ref (rf 1), .ref (rf 2), .ref (rf 3), .ref (rf 4), .ref (rf 5), .ref (rf 6), .int (iI (wa)), .int (iI (on)), .int (iI (tw)), .ref (rf 7), .ref (rf 8), .ref (rf 9), .int (iI (hc))])), (rf 1, .inl (g.2 6, 1, .inr (.inr (.inr (.inr (zaR sa)))))), (sa 0, .inl (g.2 5, 7, .inr (.inr (.inr (.inr (zaR sr)))))), (sr 0, .inl (g.2 1, 330, .inl (zaB (st 0)))), (sr 1, .inl (g.2 1, 330, .inl (zaB (st 1)))), (sr 2, .inl (g.2 1, 330, .inl (zaB (st 2)))), (sr 3, .inl (g.2 1, 330, .inl (zaB (st 3)))), (sr 4, .inl (g.2 1, 330, .inl (zaB (st 4)))), (sr 5, .inl (g.2 1, 330, .inl (zaB (st 5)))), (sr 6, .inl (g.2 1, 330, .inl (zaB (st 6)))), (rf 4, .inl (g.2 7, 1, .inr (.inr (.inr (.inr (zaR wya)))))), (wya 0, .inl (g.2 0, 2, .inl (zaI wf))), (rf 5, .inl (g.2 7, 1, .inr (.inr (.inr (.inr (zaR fa)))))), (fa 0, .inl (g.2 0, 2, .inl (zaI fi))), (rf 6, .inl (g.2 7, 1, .inr (.inr (.inr (.inr (zaR sea)))))), (sea 0, .inl (g.2 0, 2, .inl (zaI sf))), (rf 9, .inl (g.2 1, 120530, .inl (zaB hdf))), (rf 3, .inl (g.2 1, 1, .inl (zaB to)))] True (some (.long (lI rr))) (fun u => [(qq, .inr (5, [.int (iI (fl)), .ref (rf 0), .int (iI (ln)), .int (iI (pl)), .int (iI (u.1 0)), .int (iI (u.1 1)), .int (iI (u.1 2)), .int (iI (at0)), .ref (rf 1), .ref (rf 2), .ref (rf 3), .ref (rf 4), .ref (rf 5), .ref (rf 6), .int (iI (wa)), .int (iI (on)), .int (iI (tw)), .ref (rf 7), .ref (rf 8), .ref (rf 9), .int (iI (hc))])), (rf 1, .inl (g.2 6, 1, .inr (.inr (.inr (.inr (zaR sa)))))), (sa 0, .inl (g.2 5, 7, .inr (.inr (.inr (.inr (zaR sr)))))), (sr 0, .inl (g.2 1, 330, .inl (zaB (st 0)))), (sr 1, .inl (g.2 1, 330, .inl (zaB (st 1)))), (sr 2, .inl (g.2 1, 330, .inl (zaB (st 2)))), (sr 3, .inl (g.2 1, 330, .inl (zaB (st 3)))), (sr 4, .inl (g.2 1, 330, .inl (zaB (st 4)))), (sr 5, .inl (g.2 1, 330, .inl (zaB (st 5)))), (sr 6, .inl (g.2 1, 330, .inl (zaB (st 6)))), (rf 4, .inl (g.2 7, 1, .inr (.inr (.inr (.inr (zaR wya)))))), (wya 0, .inl (g.2 0, 2, .inl (zaI wf))), (rf 5, .inl (g.2 7, 1, .inr (.inr (.inr (.inr (zaR fa)))))), (fa 0, .inl (g.2 0, 2, .inl (zaI fi))), (rf 6, .inl (g.2 7, 1, .inr (.inr (.inr (.inr (zaR sea)))))), (sea 0, .inl (g.2 0, 2, .inl (zaI sf))), (rf 9, .inl (g.2 1, 120530, .inl (zaB hdf))), (rf 3, .inl (g.2 1, 1, .inl (zaB to)))]) "java/lang/UnsupportedOperationException" (fun u => [(qq, .inr (5, [.int (iI (fl)), .ref (rf 0), .int (iI (ln)), .int (iI (pl)), .int (iI (u.1 0)), .int (iI (u.1 1)), .int (iI (u.1 2)), .int (iI (at0)), .ref (rf 1), .ref (rf 2), .ref (rf 3), .ref (rf 4), .ref (rf 5), .ref (rf 6), .int (iI (wa)), .int (iI (on)), .int (iI (tw)), .ref (rf 7), .ref (rf 8), .ref (rf 9), .int (iI (hc))])), (rf 1, .inl (g.2 6, 1, .inr (.inr (.inr (.inr (zaR sa)))))), (sa 0, .inl (g.2 5, 7, .inr (.inr (.inr (.inr (zaR sr)))))), (sr 0, .inl (g.2 1, 330, .inl (zaB (st 0)))), (sr 1, .inl (g.2 1, 330, .inl (zaB (st 1)))), (sr 2, .inl (g.2 1, 330, .inl (zaB (st 2)))), (sr 3, .inl (g.2 1, 330, .inl (zaB (st 3)))), (sr 4, .inl (g.2 1, 330, .inl (zaB (st 4)))), (sr 5, .inl (g.2 1, 330, .inl (zaB (st 5)))), (sr 6, .inl (g.2 1, 330, .inl (zaB (st 6)))), (rf 4, .inl (g.2 7, 1, .inr (.inr (.inr (.inr (zaR wya)))))), (wya 0, .inl (g.2 0, 2, .inl (zaI wf))), (rf 5, .inl (g.2 7, 1, .inr (.inr (.inr (.inr (zaR fa)))))), (fa 0, .inl (g.2 0, 2, .inl (zaI fi))), (rf 6, .inl (g.2 7, 1, .inr (.inr (.inr (.inr (zaR sea)))))), (sea 0, .inl (g.2 0, 2, .inl (zaI sf))), (rf 9, .inl (g.2 1, 120530, .inl (zaB hdf))), (rf 3, .inl (g.2 1, 1, .inl (zaB to)))]) mc ms := by
  cases hto : to 0
  · exact c_Q_upTo_n l g hl0 qq rf fl ln pl yy mm dd at0 wa on tw hc sa sr st fa wya sea fi wf sf hdf to tm rr hto (tNB_no (qFt_f hto) hj) mc ms hmc
  · rw [qFt_t hto] at hj
    exact c_Q_upTo l g hl0 qq rf fl ln pl yy mm dd at0 wa on tw hc sa sr st fa wya sea fi wf sf hdf to tm rr hx0 hto hfi hwf hf1 hj mc ms hmc
def qOut (t : Int) : Bool := decide (t < 0) || decide (10413791999 < t)
theorem qOut_i (t : Int) : qOut t = true ↔ t < 0 ∨ 10413791999 < t := by simp [qOut]
set_option maxHeartbeats 4000000 in
set_option maxRecDepth 100000 in
theorem c_Q_out (l : Launch) (g : zGl) (qq : Nat) (t : Int) (hi : -9223372036854775808 ≤ t ∧ t < 9223372036854775808) : zSi l zy_Q_out zc_Q_out 3 (some .boolean) ({ frames := 0, cells := 0, slots := 0, locals := 0 }) g zN [.ref (qq), .long (lI (t))] [] (some (.int (iI (bI (qOut t))))) := by
  refine zs_open (by decide +kernel) (Nat.le_of_ble_eq_true rfl) ?_
  intro p e s m below meth c ls hx hb hml hr hlk hown hw hK hT hP hl
  have hown : s.vm.findClass "CronFinderModel" = some m.cls := hown
  have hl : lv_has ls 3 [(0, .ref (qq)), (1, .long (lI (t)))] := hl
  refine lv_lload_n hx hb zd_Q_out_0 rfl (lv_at hl 1 rfl) ?_
  refine zi_lconst (z := 0) hx hb zd_Q_out_1 (by decide) ?_
  refine zl_cmp_lt (tgt := 14) hx hb zd_Q_out_2 zd_Q_out_3 (by decide) (by omega) (fun c2 => ?_) (fun c2 => ?_)
  · refine zi_iconst hx hb zd_Q_out_14 ?_
    refine lv_goto (tgt := 19) hx hb zd_Q_out_15 (by decide) ?_
    refine zb_as (x := qOut t) (by first | exact bI_t ((qOut_i _).mpr (by omega)) | exact bI_f (bN (qOut_i _) (by omega))) ?_
    exact zs_zret hx hb hr hlk zd_Q_out_19
  · refine lv_lload_n hx hb zd_Q_out_6 rfl (lv_at hl 1 rfl) ?_
    refine lv_ldc2 hx hb hown (hw _ zw_4_108) zd_Q_out_7 ?_
    refine zl_asx _ 10413791999 (by decide) ?_
    refine zl_cmp_le (tgt := 18) hx hb zd_Q_out_10 zd_Q_out_11 (by decide) (by omega) (fun c10 => ?_) (fun c10 => ?_)
    · refine zi_iconst hx hb zd_Q_out_18 ?_
      refine zb_as (x := qOut t) (by first | exact bI_t ((qOut_i _).mpr (by omega)) | exact bI_f (bN (qOut_i _) (by omega))) ?_
      exact zs_zret hx hb hr hlk zd_Q_out_19
    · refine zi_iconst hx hb zd_Q_out_14 ?_
      refine lv_goto (tgt := 19) hx hb zd_Q_out_15 (by decide) ?_
      refine zb_as (x := qOut t) (by first | exact bI_t ((qOut_i _).mpr (by omega)) | exact bI_f (bN (qOut_i _) (by omega))) ?_
      exact zs_zret hx hb hr hlk zd_Q_out_19
