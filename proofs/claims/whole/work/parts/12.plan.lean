/-! Plan: clear, seal, the seconds of a day, the days of a month -/
theorem zd_P_clear_0 : decode zc_P_clear 0 = .ok (.iconst 0, 1) := by decide +kernel
theorem zd_P_clear_1 : decode zc_P_clear 1 = .ok (.istore_n 1, 1) := by decide +kernel
theorem zd_P_clear_2 : decode zc_P_clear 2 = .ok (.iload_n 1, 1) := by decide +kernel
theorem zd_P_clear_3 : decode zc_P_clear 3 = .ok (.bipush 7, 2) := by decide +kernel
theorem zd_P_clear_5 : decode zc_P_clear 5 = .ok (.if_icmp .ge 17, 3) := by decide +kernel
theorem zd_P_clear_8 : decode zc_P_clear 8 = .ok (.aload_n 0, 1) := by decide +kernel
theorem zd_P_clear_9 : decode zc_P_clear 9 = .ok (.iload_n 1, 1) := by decide +kernel
theorem zd_P_clear_10 : decode zc_P_clear 10 = .ok (.invokevirtual 61, 3) := by decide +kernel
theorem zd_P_clear_13 : decode zc_P_clear 13 = .ok (.invokevirtual 65, 3) := by decide +kernel
theorem zd_P_clear_16 : decode zc_P_clear 16 = .ok (.iinc 1 1, 3) := by decide +kernel
theorem zd_P_clear_19 : decode zc_P_clear 19 = .ok (.goto (-17), 3) := by decide +kernel
theorem zd_P_clear_22 : decode zc_P_clear 22 = .ok (.aload_n 0, 1) := by decide +kernel
theorem zd_P_clear_23 : decode zc_P_clear 23 = .ok (.getstatic 40, 3) := by decide +kernel
theorem zd_P_clear_26 : decode zc_P_clear 26 = .ok (.iconst 0, 1) := by decide +kernel
theorem zd_P_clear_27 : decode zc_P_clear 27 = .ok (.iconst 0, 1) := by decide +kernel
theorem zd_P_clear_28 : decode zc_P_clear 28 = .ok (.invokevirtual 68, 3) := by decide +kernel
theorem zd_P_clear_31 : decode zc_P_clear 31 = .ok (.return_, 1) := by decide +kernel
theorem zd_P_seal_0 : decode zc_P_seal 0 = .ok (.aload_n 0, 1) := by decide +kernel
theorem zd_P_seal_1 : decode zc_P_seal 1 = .ok (.iconst 0, 1) := by decide +kernel
theorem zd_P_seal_2 : decode zc_P_seal 2 = .ok (.putfield 56, 3) := by decide +kernel
theorem zd_P_seal_5 : decode zc_P_seal 5 = .ok (.iconst 1, 1) := by decide +kernel
theorem zd_P_seal_6 : decode zc_P_seal 6 = .ok (.istore_n 1, 1) := by decide +kernel
theorem zd_P_seal_7 : decode zc_P_seal 7 = .ok (.iload_n 1, 1) := by decide +kernel
theorem zd_P_seal_8 : decode zc_P_seal 8 = .ok (.bipush 31, 2) := by decide +kernel
theorem zd_P_seal_10 : decode zc_P_seal 10 = .ok (.if_icmp .gt 34, 3) := by decide +kernel
theorem zd_P_seal_13 : decode zc_P_seal 13 = .ok (.aload_n 0, 1) := by decide +kernel
theorem zd_P_seal_14 : decode zc_P_seal 14 = .ok (.getfield 26, 3) := by decide +kernel
theorem zd_P_seal_17 : decode zc_P_seal 17 = .ok (.iload_n 1, 1) := by decide +kernel
theorem zd_P_seal_18 : decode zc_P_seal 18 = .ok (.invokevirtual 72, 3) := by decide +kernel
theorem zd_P_seal_21 : decode zc_P_seal 21 = .ok (.ifCond .eq 17, 3) := by decide +kernel
theorem zd_P_seal_24 : decode zc_P_seal 24 = .ok (.aload_n 0, 1) := by decide +kernel
theorem zd_P_seal_25 : decode zc_P_seal 25 = .ok (.dup, 1) := by decide +kernel
theorem zd_P_seal_26 : decode zc_P_seal 26 = .ok (.getfield 56, 3) := by decide +kernel
theorem zd_P_seal_29 : decode zc_P_seal 29 = .ok (.iconst 1, 1) := by decide +kernel
theorem zd_P_seal_30 : decode zc_P_seal 30 = .ok (.iload_n 1, 1) := by decide +kernel
theorem zd_P_seal_31 : decode zc_P_seal 31 = .ok (.iconst 1, 1) := by decide +kernel
theorem zd_P_seal_32 : decode zc_P_seal 32 = .ok (.isub, 1) := by decide +kernel
theorem zd_P_seal_33 : decode zc_P_seal 33 = .ok (.ishl, 1) := by decide +kernel
theorem zd_P_seal_34 : decode zc_P_seal 34 = .ok (.ior, 1) := by decide +kernel
theorem zd_P_seal_35 : decode zc_P_seal 35 = .ok (.putfield 56, 3) := by decide +kernel
theorem zd_P_seal_38 : decode zc_P_seal 38 = .ok (.iinc 1 1, 3) := by decide +kernel
theorem zd_P_seal_41 : decode zc_P_seal 41 = .ok (.goto (-34), 3) := by decide +kernel
theorem zd_P_seal_44 : decode zc_P_seal 44 = .ok (.return_, 1) := by decide +kernel
theorem zd_P_secondFrom_0 : decode zc_P_secondFrom 0 = .ok (.iload_n 1, 1) := by decide +kernel
theorem zd_P_secondFrom_1 : decode zc_P_secondFrom 1 = .ok (.sipush 3600, 3) := by decide +kernel
theorem zd_P_secondFrom_4 : decode zc_P_secondFrom 4 = .ok (.idiv, 1) := by decide +kernel
theorem zd_P_secondFrom_5 : decode zc_P_secondFrom 5 = .ok (.istore_n 2, 1) := by decide +kernel
theorem zd_P_secondFrom_6 : decode zc_P_secondFrom 6 = .ok (.iload_n 1, 1) := by decide +kernel
theorem zd_P_secondFrom_7 : decode zc_P_secondFrom 7 = .ok (.bipush 60, 2) := by decide +kernel
theorem zd_P_secondFrom_9 : decode zc_P_secondFrom 9 = .ok (.idiv, 1) := by decide +kernel
theorem zd_P_secondFrom_10 : decode zc_P_secondFrom 10 = .ok (.bipush 60, 2) := by decide +kernel
theorem zd_P_secondFrom_12 : decode zc_P_secondFrom 12 = .ok (.irem, 1) := by decide +kernel
theorem zd_P_secondFrom_13 : decode zc_P_secondFrom 13 = .ok (.istore_n 3, 1) := by decide +kernel
theorem zd_P_secondFrom_14 : decode zc_P_secondFrom 14 = .ok (.aload_n 0, 1) := by decide +kernel
theorem zd_P_secondFrom_15 : decode zc_P_secondFrom 15 = .ok (.getfield 23, 3) := by decide +kernel
theorem zd_P_secondFrom_18 : decode zc_P_secondFrom 18 = .ok (.iload_n 2, 1) := by decide +kernel
theorem zd_P_secondFrom_19 : decode zc_P_secondFrom 19 = .ok (.invokevirtual 72, 3) := by decide +kernel
theorem zd_P_secondFrom_22 : decode zc_P_secondFrom 22 = .ok (.ifCond .eq 80, 3) := by decide +kernel
theorem zd_P_secondFrom_25 : decode zc_P_secondFrom 25 = .ok (.aload_n 0, 1) := by decide +kernel
theorem zd_P_secondFrom_26 : decode zc_P_secondFrom 26 = .ok (.getfield 20, 3) := by decide +kernel
theorem zd_P_secondFrom_29 : decode zc_P_secondFrom 29 = .ok (.iload_n 3, 1) := by decide +kernel
theorem zd_P_secondFrom_30 : decode zc_P_secondFrom 30 = .ok (.invokevirtual 72, 3) := by decide +kernel
theorem zd_P_secondFrom_33 : decode zc_P_secondFrom 33 = .ok (.ifCond .eq 17, 3) := by decide +kernel
theorem zd_P_secondFrom_36 : decode zc_P_secondFrom 36 = .ok (.aload_n 0, 1) := by decide +kernel
theorem zd_P_secondFrom_37 : decode zc_P_secondFrom 37 = .ok (.getfield 14, 3) := by decide +kernel
theorem zd_P_secondFrom_40 : decode zc_P_secondFrom 40 = .ok (.iload_n 1, 1) := by decide +kernel
theorem zd_P_secondFrom_41 : decode zc_P_secondFrom 41 = .ok (.bipush 60, 2) := by decide +kernel
theorem zd_P_secondFrom_43 : decode zc_P_secondFrom 43 = .ok (.irem, 1) := by decide +kernel
theorem zd_P_secondFrom_44 : decode zc_P_secondFrom 44 = .ok (.invokevirtual 76, 3) := by decide +kernel
theorem zd_P_secondFrom_47 : decode zc_P_secondFrom 47 = .ok (.goto 4, 3) := by decide +kernel
theorem zd_P_secondFrom_50 : decode zc_P_secondFrom 50 = .ok (.iconst (-1), 1) := by decide +kernel
theorem zd_P_secondFrom_51 : decode zc_P_secondFrom 51 = .ok (.istore 4, 2) := by decide +kernel
theorem zd_P_secondFrom_53 : decode zc_P_secondFrom 53 = .ok (.iload 4, 2) := by decide +kernel
theorem zd_P_secondFrom_55 : decode zc_P_secondFrom 55 = .ok (.iconst (-1), 1) := by decide +kernel
theorem zd_P_secondFrom_56 : decode zc_P_secondFrom 56 = .ok (.if_icmp .eq 12, 3) := by decide +kernel
theorem zd_P_secondFrom_59 : decode zc_P_secondFrom 59 = .ok (.aload_n 0, 1) := by decide +kernel
theorem zd_P_secondFrom_60 : decode zc_P_secondFrom 60 = .ok (.iload_n 2, 1) := by decide +kernel
theorem zd_P_secondFrom_61 : decode zc_P_secondFrom 61 = .ok (.iload_n 3, 1) := by decide +kernel
theorem zd_P_secondFrom_62 : decode zc_P_secondFrom 62 = .ok (.iload 4, 2) := by decide +kernel
theorem zd_P_secondFrom_64 : decode zc_P_secondFrom 64 = .ok (.invokevirtual 80, 3) := by decide +kernel
theorem zd_P_secondFrom_67 : decode zc_P_secondFrom 67 = .ok (.ireturn, 1) := by decide +kernel
theorem zd_P_secondFrom_68 : decode zc_P_secondFrom 68 = .ok (.aload_n 0, 1) := by decide +kernel
theorem zd_P_secondFrom_69 : decode zc_P_secondFrom 69 = .ok (.getfield 20, 3) := by decide +kernel
theorem zd_P_secondFrom_72 : decode zc_P_secondFrom 72 = .ok (.iload_n 3, 1) := by decide +kernel
theorem zd_P_secondFrom_73 : decode zc_P_secondFrom 73 = .ok (.iconst 1, 1) := by decide +kernel
theorem zd_P_secondFrom_74 : decode zc_P_secondFrom 74 = .ok (.iadd, 1) := by decide +kernel
theorem zd_P_secondFrom_75 : decode zc_P_secondFrom 75 = .ok (.invokevirtual 76, 3) := by decide +kernel
theorem zd_P_secondFrom_78 : decode zc_P_secondFrom 78 = .ok (.istore 5, 2) := by decide +kernel
theorem zd_P_secondFrom_80 : decode zc_P_secondFrom 80 = .ok (.iload 5, 2) := by decide +kernel
theorem zd_P_secondFrom_82 : decode zc_P_secondFrom 82 = .ok (.iconst (-1), 1) := by decide +kernel
theorem zd_P_secondFrom_83 : decode zc_P_secondFrom 83 = .ok (.if_icmp .eq 19, 3) := by decide +kernel
theorem zd_P_secondFrom_86 : decode zc_P_secondFrom 86 = .ok (.aload_n 0, 1) := by decide +kernel
theorem zd_P_secondFrom_87 : decode zc_P_secondFrom 87 = .ok (.iload_n 2, 1) := by decide +kernel
theorem zd_P_secondFrom_88 : decode zc_P_secondFrom 88 = .ok (.iload 5, 2) := by decide +kernel
theorem zd_P_secondFrom_90 : decode zc_P_secondFrom 90 = .ok (.aload_n 0, 1) := by decide +kernel
theorem zd_P_secondFrom_91 : decode zc_P_secondFrom 91 = .ok (.getfield 14, 3) := by decide +kernel
theorem zd_P_secondFrom_94 : decode zc_P_secondFrom 94 = .ok (.iconst 0, 1) := by decide +kernel
theorem zd_P_secondFrom_95 : decode zc_P_secondFrom 95 = .ok (.invokevirtual 76, 3) := by decide +kernel
theorem zd_P_secondFrom_98 : decode zc_P_secondFrom 98 = .ok (.invokevirtual 80, 3) := by decide +kernel
theorem zd_P_secondFrom_101 : decode zc_P_secondFrom 101 = .ok (.ireturn, 1) := by decide +kernel
theorem zd_P_secondFrom_102 : decode zc_P_secondFrom 102 = .ok (.aload_n 0, 1) := by decide +kernel
theorem zd_P_secondFrom_103 : decode zc_P_secondFrom 103 = .ok (.getfield 23, 3) := by decide +kernel
theorem zd_P_secondFrom_106 : decode zc_P_secondFrom 106 = .ok (.iload_n 2, 1) := by decide +kernel
theorem zd_P_secondFrom_107 : decode zc_P_secondFrom 107 = .ok (.iconst 1, 1) := by decide +kernel
theorem zd_P_secondFrom_108 : decode zc_P_secondFrom 108 = .ok (.iadd, 1) := by decide +kernel
theorem zd_P_secondFrom_109 : decode zc_P_secondFrom 109 = .ok (.invokevirtual 76, 3) := by decide +kernel
theorem zd_P_secondFrom_112 : decode zc_P_secondFrom 112 = .ok (.istore 4, 2) := by decide +kernel
theorem zd_P_secondFrom_114 : decode zc_P_secondFrom 114 = .ok (.iload 4, 2) := by decide +kernel
theorem zd_P_secondFrom_116 : decode zc_P_secondFrom 116 = .ok (.iconst (-1), 1) := by decide +kernel
theorem zd_P_secondFrom_117 : decode zc_P_secondFrom 117 = .ok (.if_icmp .ne 7, 3) := by decide +kernel
theorem zd_P_secondFrom_120 : decode zc_P_secondFrom 120 = .ok (.iconst (-1), 1) := by decide +kernel
theorem zd_P_secondFrom_121 : decode zc_P_secondFrom 121 = .ok (.goto 25, 3) := by decide +kernel
theorem zd_P_secondFrom_124 : decode zc_P_secondFrom 124 = .ok (.aload_n 0, 1) := by decide +kernel
theorem zd_P_secondFrom_125 : decode zc_P_secondFrom 125 = .ok (.iload 4, 2) := by decide +kernel
theorem zd_P_secondFrom_127 : decode zc_P_secondFrom 127 = .ok (.aload_n 0, 1) := by decide +kernel
theorem zd_P_secondFrom_128 : decode zc_P_secondFrom 128 = .ok (.getfield 20, 3) := by decide +kernel
theorem zd_P_secondFrom_131 : decode zc_P_secondFrom 131 = .ok (.iconst 0, 1) := by decide +kernel
theorem zd_P_secondFrom_132 : decode zc_P_secondFrom 132 = .ok (.invokevirtual 76, 3) := by decide +kernel
theorem zd_P_secondFrom_135 : decode zc_P_secondFrom 135 = .ok (.aload_n 0, 1) := by decide +kernel
theorem zd_P_secondFrom_136 : decode zc_P_secondFrom 136 = .ok (.getfield 14, 3) := by decide +kernel
theorem zd_P_secondFrom_139 : decode zc_P_secondFrom 139 = .ok (.iconst 0, 1) := by decide +kernel
theorem zd_P_secondFrom_140 : decode zc_P_secondFrom 140 = .ok (.invokevirtual 76, 3) := by decide +kernel
theorem zd_P_secondFrom_143 : decode zc_P_secondFrom 143 = .ok (.invokevirtual 80, 3) := by decide +kernel
theorem zd_P_secondFrom_146 : decode zc_P_secondFrom 146 = .ok (.ireturn, 1) := by decide +kernel
theorem zd_P_secondBackFrom_0 : decode zc_P_secondBackFrom 0 = .ok (.iload_n 1, 1) := by decide +kernel
theorem zd_P_secondBackFrom_1 : decode zc_P_secondBackFrom 1 = .ok (.sipush 3600, 3) := by decide +kernel
theorem zd_P_secondBackFrom_4 : decode zc_P_secondBackFrom 4 = .ok (.idiv, 1) := by decide +kernel
theorem zd_P_secondBackFrom_5 : decode zc_P_secondBackFrom 5 = .ok (.istore_n 2, 1) := by decide +kernel
theorem zd_P_secondBackFrom_6 : decode zc_P_secondBackFrom 6 = .ok (.iload_n 1, 1) := by decide +kernel
theorem zd_P_secondBackFrom_7 : decode zc_P_secondBackFrom 7 = .ok (.bipush 60, 2) := by decide +kernel
theorem zd_P_secondBackFrom_9 : decode zc_P_secondBackFrom 9 = .ok (.idiv, 1) := by decide +kernel
theorem zd_P_secondBackFrom_10 : decode zc_P_secondBackFrom 10 = .ok (.bipush 60, 2) := by decide +kernel
theorem zd_P_secondBackFrom_12 : decode zc_P_secondBackFrom 12 = .ok (.irem, 1) := by decide +kernel
theorem zd_P_secondBackFrom_13 : decode zc_P_secondBackFrom 13 = .ok (.istore_n 3, 1) := by decide +kernel
theorem zd_P_secondBackFrom_14 : decode zc_P_secondBackFrom 14 = .ok (.aload_n 0, 1) := by decide +kernel
theorem zd_P_secondBackFrom_15 : decode zc_P_secondBackFrom 15 = .ok (.getfield 23, 3) := by decide +kernel
theorem zd_P_secondBackFrom_18 : decode zc_P_secondBackFrom 18 = .ok (.iload_n 2, 1) := by decide +kernel
theorem zd_P_secondBackFrom_19 : decode zc_P_secondBackFrom 19 = .ok (.invokevirtual 72, 3) := by decide +kernel
theorem zd_P_secondBackFrom_22 : decode zc_P_secondBackFrom 22 = .ok (.ifCond .eq 81, 3) := by decide +kernel
theorem zd_P_secondBackFrom_25 : decode zc_P_secondBackFrom 25 = .ok (.aload_n 0, 1) := by decide +kernel
theorem zd_P_secondBackFrom_26 : decode zc_P_secondBackFrom 26 = .ok (.getfield 20, 3) := by decide +kernel
theorem zd_P_secondBackFrom_29 : decode zc_P_secondBackFrom 29 = .ok (.iload_n 3, 1) := by decide +kernel
theorem zd_P_secondBackFrom_30 : decode zc_P_secondBackFrom 30 = .ok (.invokevirtual 72, 3) := by decide +kernel
theorem zd_P_secondBackFrom_33 : decode zc_P_secondBackFrom 33 = .ok (.ifCond .eq 17, 3) := by decide +kernel
theorem zd_P_secondBackFrom_36 : decode zc_P_secondBackFrom 36 = .ok (.aload_n 0, 1) := by decide +kernel
theorem zd_P_secondBackFrom_37 : decode zc_P_secondBackFrom 37 = .ok (.getfield 14, 3) := by decide +kernel
theorem zd_P_secondBackFrom_40 : decode zc_P_secondBackFrom 40 = .ok (.iload_n 1, 1) := by decide +kernel
theorem zd_P_secondBackFrom_41 : decode zc_P_secondBackFrom 41 = .ok (.bipush 60, 2) := by decide +kernel
theorem zd_P_secondBackFrom_43 : decode zc_P_secondBackFrom 43 = .ok (.irem, 1) := by decide +kernel
theorem zd_P_secondBackFrom_44 : decode zc_P_secondBackFrom 44 = .ok (.invokevirtual 84, 3) := by decide +kernel
theorem zd_P_secondBackFrom_47 : decode zc_P_secondBackFrom 47 = .ok (.goto 4, 3) := by decide +kernel
theorem zd_P_secondBackFrom_50 : decode zc_P_secondBackFrom 50 = .ok (.iconst (-1), 1) := by decide +kernel
theorem zd_P_secondBackFrom_51 : decode zc_P_secondBackFrom 51 = .ok (.istore 4, 2) := by decide +kernel
theorem zd_P_secondBackFrom_53 : decode zc_P_secondBackFrom 53 = .ok (.iload 4, 2) := by decide +kernel
theorem zd_P_secondBackFrom_55 : decode zc_P_secondBackFrom 55 = .ok (.iconst (-1), 1) := by decide +kernel
theorem zd_P_secondBackFrom_56 : decode zc_P_secondBackFrom 56 = .ok (.if_icmp .eq 12, 3) := by decide +kernel
theorem zd_P_secondBackFrom_59 : decode zc_P_secondBackFrom 59 = .ok (.aload_n 0, 1) := by decide +kernel
theorem zd_P_secondBackFrom_60 : decode zc_P_secondBackFrom 60 = .ok (.iload_n 2, 1) := by decide +kernel
theorem zd_P_secondBackFrom_61 : decode zc_P_secondBackFrom 61 = .ok (.iload_n 3, 1) := by decide +kernel
theorem zd_P_secondBackFrom_62 : decode zc_P_secondBackFrom 62 = .ok (.iload 4, 2) := by decide +kernel
theorem zd_P_secondBackFrom_64 : decode zc_P_secondBackFrom 64 = .ok (.invokevirtual 80, 3) := by decide +kernel
theorem zd_P_secondBackFrom_67 : decode zc_P_secondBackFrom 67 = .ok (.ireturn, 1) := by decide +kernel
theorem zd_P_secondBackFrom_68 : decode zc_P_secondBackFrom 68 = .ok (.aload_n 0, 1) := by decide +kernel
theorem zd_P_secondBackFrom_69 : decode zc_P_secondBackFrom 69 = .ok (.getfield 20, 3) := by decide +kernel
theorem zd_P_secondBackFrom_72 : decode zc_P_secondBackFrom 72 = .ok (.iload_n 3, 1) := by decide +kernel
theorem zd_P_secondBackFrom_73 : decode zc_P_secondBackFrom 73 = .ok (.iconst 1, 1) := by decide +kernel
theorem zd_P_secondBackFrom_74 : decode zc_P_secondBackFrom 74 = .ok (.isub, 1) := by decide +kernel
theorem zd_P_secondBackFrom_75 : decode zc_P_secondBackFrom 75 = .ok (.invokevirtual 84, 3) := by decide +kernel
theorem zd_P_secondBackFrom_78 : decode zc_P_secondBackFrom 78 = .ok (.istore 5, 2) := by decide +kernel
theorem zd_P_secondBackFrom_80 : decode zc_P_secondBackFrom 80 = .ok (.iload 5, 2) := by decide +kernel
theorem zd_P_secondBackFrom_82 : decode zc_P_secondBackFrom 82 = .ok (.iconst (-1), 1) := by decide +kernel
theorem zd_P_secondBackFrom_83 : decode zc_P_secondBackFrom 83 = .ok (.if_icmp .eq 20, 3) := by decide +kernel
theorem zd_P_secondBackFrom_86 : decode zc_P_secondBackFrom 86 = .ok (.aload_n 0, 1) := by decide +kernel
theorem zd_P_secondBackFrom_87 : decode zc_P_secondBackFrom 87 = .ok (.iload_n 2, 1) := by decide +kernel
theorem zd_P_secondBackFrom_88 : decode zc_P_secondBackFrom 88 = .ok (.iload 5, 2) := by decide +kernel
theorem zd_P_secondBackFrom_90 : decode zc_P_secondBackFrom 90 = .ok (.aload_n 0, 1) := by decide +kernel
theorem zd_P_secondBackFrom_91 : decode zc_P_secondBackFrom 91 = .ok (.getfield 14, 3) := by decide +kernel
theorem zd_P_secondBackFrom_94 : decode zc_P_secondBackFrom 94 = .ok (.bipush 59, 2) := by decide +kernel
theorem zd_P_secondBackFrom_96 : decode zc_P_secondBackFrom 96 = .ok (.invokevirtual 84, 3) := by decide +kernel
theorem zd_P_secondBackFrom_99 : decode zc_P_secondBackFrom 99 = .ok (.invokevirtual 80, 3) := by decide +kernel
theorem zd_P_secondBackFrom_102 : decode zc_P_secondBackFrom 102 = .ok (.ireturn, 1) := by decide +kernel
theorem zd_P_secondBackFrom_103 : decode zc_P_secondBackFrom 103 = .ok (.aload_n 0, 1) := by decide +kernel
theorem zd_P_secondBackFrom_104 : decode zc_P_secondBackFrom 104 = .ok (.getfield 23, 3) := by decide +kernel
theorem zd_P_secondBackFrom_107 : decode zc_P_secondBackFrom 107 = .ok (.iload_n 2, 1) := by decide +kernel
theorem zd_P_secondBackFrom_108 : decode zc_P_secondBackFrom 108 = .ok (.iconst 1, 1) := by decide +kernel
theorem zd_P_secondBackFrom_109 : decode zc_P_secondBackFrom 109 = .ok (.isub, 1) := by decide +kernel
theorem zd_P_secondBackFrom_110 : decode zc_P_secondBackFrom 110 = .ok (.invokevirtual 84, 3) := by decide +kernel
theorem zd_P_secondBackFrom_113 : decode zc_P_secondBackFrom 113 = .ok (.istore 4, 2) := by decide +kernel
theorem zd_P_secondBackFrom_115 : decode zc_P_secondBackFrom 115 = .ok (.iload 4, 2) := by decide +kernel
theorem zd_P_secondBackFrom_117 : decode zc_P_secondBackFrom 117 = .ok (.iconst (-1), 1) := by decide +kernel
theorem zd_P_secondBackFrom_118 : decode zc_P_secondBackFrom 118 = .ok (.if_icmp .ne 7, 3) := by decide +kernel
theorem zd_P_secondBackFrom_121 : decode zc_P_secondBackFrom 121 = .ok (.iconst (-1), 1) := by decide +kernel
theorem zd_P_secondBackFrom_122 : decode zc_P_secondBackFrom 122 = .ok (.goto 27, 3) := by decide +kernel
theorem zd_P_secondBackFrom_125 : decode zc_P_secondBackFrom 125 = .ok (.aload_n 0, 1) := by decide +kernel
theorem zd_P_secondBackFrom_126 : decode zc_P_secondBackFrom 126 = .ok (.iload 4, 2) := by decide +kernel
theorem zd_P_secondBackFrom_128 : decode zc_P_secondBackFrom 128 = .ok (.aload_n 0, 1) := by decide +kernel
theorem zd_P_secondBackFrom_129 : decode zc_P_secondBackFrom 129 = .ok (.getfield 20, 3) := by decide +kernel
theorem zd_P_secondBackFrom_132 : decode zc_P_secondBackFrom 132 = .ok (.bipush 59, 2) := by decide +kernel
theorem zd_P_secondBackFrom_134 : decode zc_P_secondBackFrom 134 = .ok (.invokevirtual 84, 3) := by decide +kernel
theorem zd_P_secondBackFrom_137 : decode zc_P_secondBackFrom 137 = .ok (.aload_n 0, 1) := by decide +kernel
theorem zd_P_secondBackFrom_138 : decode zc_P_secondBackFrom 138 = .ok (.getfield 14, 3) := by decide +kernel
theorem zd_P_secondBackFrom_141 : decode zc_P_secondBackFrom 141 = .ok (.bipush 59, 2) := by decide +kernel
theorem zd_P_secondBackFrom_143 : decode zc_P_secondBackFrom 143 = .ok (.invokevirtual 84, 3) := by decide +kernel
theorem zd_P_secondBackFrom_146 : decode zc_P_secondBackFrom 146 = .ok (.invokevirtual 80, 3) := by decide +kernel
theorem zd_P_secondBackFrom_149 : decode zc_P_secondBackFrom 149 = .ok (.ireturn, 1) := by decide +kernel
theorem zd_P_daysOf_0 : decode zc_P_daysOf 0 = .ok (.aload_n 0, 1) := by decide +kernel
theorem zd_P_daysOf_1 : decode zc_P_daysOf 1 = .ok (.getfield 37, 3) := by decide +kernel
theorem zd_P_daysOf_4 : decode zc_P_daysOf 4 = .ok (.iload_n 1, 1) := by decide +kernel
theorem zd_P_daysOf_5 : decode zc_P_daysOf 5 = .ok (.invokestatic 96, 3) := by decide +kernel
theorem zd_P_daysOf_8 : decode zc_P_daysOf 8 = .ok (.invokevirtual 72, 3) := by decide +kernel
theorem zd_P_daysOf_11 : decode zc_P_daysOf 11 = .ok (.ifCond .eq 19, 3) := by decide +kernel
theorem zd_P_daysOf_14 : decode zc_P_daysOf 14 = .ok (.aload_n 0, 1) := by decide +kernel
theorem zd_P_daysOf_15 : decode zc_P_daysOf 15 = .ok (.getfield 29, 3) := by decide +kernel
theorem zd_P_daysOf_18 : decode zc_P_daysOf 18 = .ok (.iload_n 1, 1) := by decide +kernel
theorem zd_P_daysOf_19 : decode zc_P_daysOf 19 = .ok (.bipush 12, 2) := by decide +kernel
theorem zd_P_daysOf_21 : decode zc_P_daysOf 21 = .ok (.irem, 1) := by decide +kernel
theorem zd_P_daysOf_22 : decode zc_P_daysOf 22 = .ok (.iconst 1, 1) := by decide +kernel
theorem zd_P_daysOf_23 : decode zc_P_daysOf 23 = .ok (.iadd, 1) := by decide +kernel
theorem zd_P_daysOf_24 : decode zc_P_daysOf 24 = .ok (.invokevirtual 72, 3) := by decide +kernel
theorem zd_P_daysOf_27 : decode zc_P_daysOf 27 = .ok (.ifCond .ne 5, 3) := by decide +kernel
theorem zd_P_daysOf_30 : decode zc_P_daysOf 30 = .ok (.iconst 0, 1) := by decide +kernel
theorem zd_P_daysOf_31 : decode zc_P_daysOf 31 = .ok (.ireturn, 1) := by decide +kernel
theorem zd_P_daysOf_32 : decode zc_P_daysOf 32 = .ok (.iload_n 1, 1) := by decide +kernel
theorem zd_P_daysOf_33 : decode zc_P_daysOf 33 = .ok (.invokestatic 99, 3) := by decide +kernel
theorem zd_P_daysOf_36 : decode zc_P_daysOf 36 = .ok (.istore_n 2, 1) := by decide +kernel
theorem zd_P_daysOf_37 : decode zc_P_daysOf 37 = .ok (.iload_n 1, 1) := by decide +kernel
theorem zd_P_daysOf_38 : decode zc_P_daysOf 38 = .ok (.invokestatic 93, 3) := by decide +kernel
theorem zd_P_daysOf_41 : decode zc_P_daysOf 41 = .ok (.invokestatic 102, 3) := by decide +kernel
theorem zd_P_daysOf_44 : decode zc_P_daysOf 44 = .ok (.istore_n 3, 1) := by decide +kernel
theorem zd_P_daysOf_45 : decode zc_P_daysOf 45 = .ok (.getstatic 105, 3) := by decide +kernel
theorem zd_P_daysOf_48 : decode zc_P_daysOf 48 = .ok (.aload_n 0, 1) := by decide +kernel
theorem zd_P_daysOf_49 : decode zc_P_daysOf 49 = .ok (.getfield 46, 3) := by decide +kernel
theorem zd_P_daysOf_52 : decode zc_P_daysOf 52 = .ok (.invokevirtual 111, 3) := by decide +kernel
theorem zd_P_daysOf_55 : decode zc_P_daysOf 55 = .ok (.iaload, 1) := by decide +kernel
theorem zd_P_daysOf_56 : decode zc_P_daysOf 56 = .ok (.tableswitch 123 1 6 #[40, 51, 63, 76, 104, 111], 40) := by decide +kernel
theorem zd_P_daysOf_96 : decode zc_P_daysOf 96 = .ok (.aload_n 0, 1) := by decide +kernel
theorem zd_P_daysOf_97 : decode zc_P_daysOf 97 = .ok (.getfield 56, 3) := by decide +kernel
theorem zd_P_daysOf_100 : decode zc_P_daysOf 100 = .ok (.iconst 1, 1) := by decide +kernel
theorem zd_P_daysOf_101 : decode zc_P_daysOf 101 = .ok (.iload_n 2, 1) := by decide +kernel
theorem zd_P_daysOf_102 : decode zc_P_daysOf 102 = .ok (.ishl, 1) := by decide +kernel
theorem zd_P_daysOf_103 : decode zc_P_daysOf 103 = .ok (.iconst 1, 1) := by decide +kernel
theorem zd_P_daysOf_104 : decode zc_P_daysOf 104 = .ok (.isub, 1) := by decide +kernel
theorem zd_P_daysOf_105 : decode zc_P_daysOf 105 = .ok (.iand, 1) := by decide +kernel
theorem zd_P_daysOf_106 : decode zc_P_daysOf 106 = .ok (.ireturn, 1) := by decide +kernel
theorem zd_P_daysOf_107 : decode zc_P_daysOf 107 = .ok (.aload_n 0, 1) := by decide +kernel
theorem zd_P_daysOf_108 : decode zc_P_daysOf 108 = .ok (.iload_n 2, 1) := by decide +kernel
theorem zd_P_daysOf_109 : decode zc_P_daysOf 109 = .ok (.aload_n 0, 1) := by decide +kernel
theorem zd_P_daysOf_110 : decode zc_P_daysOf 110 = .ok (.getfield 49, 3) := by decide +kernel
theorem zd_P_daysOf_113 : decode zc_P_daysOf 113 = .ok (.isub, 1) := by decide +kernel
theorem zd_P_daysOf_114 : decode zc_P_daysOf 114 = .ok (.iload_n 2, 1) := by decide +kernel
theorem zd_P_daysOf_115 : decode zc_P_daysOf 115 = .ok (.invokevirtual 114, 3) := by decide +kernel
theorem zd_P_daysOf_118 : decode zc_P_daysOf 118 = .ok (.ireturn, 1) := by decide +kernel
theorem zd_P_daysOf_119 : decode zc_P_daysOf 119 = .ok (.aload_n 0, 1) := by decide +kernel
theorem zd_P_daysOf_120 : decode zc_P_daysOf 120 = .ok (.aload_n 0, 1) := by decide +kernel
theorem zd_P_daysOf_121 : decode zc_P_daysOf 121 = .ok (.iload_n 2, 1) := by decide +kernel
theorem zd_P_daysOf_122 : decode zc_P_daysOf 122 = .ok (.iload_n 3, 1) := by decide +kernel
theorem zd_P_daysOf_123 : decode zc_P_daysOf 123 = .ok (.iload_n 2, 1) := by decide +kernel
theorem zd_P_daysOf_124 : decode zc_P_daysOf 124 = .ok (.invokevirtual 118, 3) := by decide +kernel
theorem zd_P_daysOf_127 : decode zc_P_daysOf 127 = .ok (.iload_n 2, 1) := by decide +kernel
theorem zd_P_daysOf_128 : decode zc_P_daysOf 128 = .ok (.invokevirtual 114, 3) := by decide +kernel
theorem zd_P_daysOf_131 : decode zc_P_daysOf 131 = .ok (.ireturn, 1) := by decide +kernel
theorem zd_P_daysOf_132 : decode zc_P_daysOf 132 = .ok (.aload_n 0, 1) := by decide +kernel
theorem zd_P_daysOf_133 : decode zc_P_daysOf 133 = .ok (.getfield 49, 3) := by decide +kernel
theorem zd_P_daysOf_136 : decode zc_P_daysOf 136 = .ok (.iload_n 2, 1) := by decide +kernel
theorem zd_P_daysOf_137 : decode zc_P_daysOf 137 = .ok (.if_icmp .le 7, 3) := by decide +kernel
theorem zd_P_daysOf_140 : decode zc_P_daysOf 140 = .ok (.iconst 0, 1) := by decide +kernel
theorem zd_P_daysOf_141 : decode zc_P_daysOf 141 = .ok (.goto 18, 3) := by decide +kernel
theorem zd_P_daysOf_144 : decode zc_P_daysOf 144 = .ok (.aload_n 0, 1) := by decide +kernel
theorem zd_P_daysOf_145 : decode zc_P_daysOf 145 = .ok (.aload_n 0, 1) := by decide +kernel
theorem zd_P_daysOf_146 : decode zc_P_daysOf 146 = .ok (.aload_n 0, 1) := by decide +kernel
theorem zd_P_daysOf_147 : decode zc_P_daysOf 147 = .ok (.getfield 49, 3) := by decide +kernel
theorem zd_P_daysOf_150 : decode zc_P_daysOf 150 = .ok (.iload_n 3, 1) := by decide +kernel
theorem zd_P_daysOf_151 : decode zc_P_daysOf 151 = .ok (.iload_n 2, 1) := by decide +kernel
theorem zd_P_daysOf_152 : decode zc_P_daysOf 152 = .ok (.invokevirtual 118, 3) := by decide +kernel
theorem zd_P_daysOf_155 : decode zc_P_daysOf 155 = .ok (.iload_n 2, 1) := by decide +kernel
theorem zd_P_daysOf_156 : decode zc_P_daysOf 156 = .ok (.invokevirtual 114, 3) := by decide +kernel
theorem zd_P_daysOf_159 : decode zc_P_daysOf 159 = .ok (.ireturn, 1) := by decide +kernel
theorem zd_P_daysOf_160 : decode zc_P_daysOf 160 = .ok (.aload_n 0, 1) := by decide +kernel
theorem zd_P_daysOf_161 : decode zc_P_daysOf 161 = .ok (.iload_n 3, 1) := by decide +kernel
theorem zd_P_daysOf_162 : decode zc_P_daysOf 162 = .ok (.iload_n 2, 1) := by decide +kernel
theorem zd_P_daysOf_163 : decode zc_P_daysOf 163 = .ok (.invokevirtual 121, 3) := by decide +kernel
theorem zd_P_daysOf_166 : decode zc_P_daysOf 166 = .ok (.ireturn, 1) := by decide +kernel
theorem zd_P_daysOf_167 : decode zc_P_daysOf 167 = .ok (.aload_n 0, 1) := by decide +kernel
theorem zd_P_daysOf_168 : decode zc_P_daysOf 168 = .ok (.aload_n 0, 1) := by decide +kernel
theorem zd_P_daysOf_169 : decode zc_P_daysOf 169 = .ok (.iload_n 3, 1) := by decide +kernel
theorem zd_P_daysOf_170 : decode zc_P_daysOf 170 = .ok (.iload_n 2, 1) := by decide +kernel
theorem zd_P_daysOf_171 : decode zc_P_daysOf 171 = .ok (.invokevirtual 124, 3) := by decide +kernel
theorem zd_P_daysOf_174 : decode zc_P_daysOf 174 = .ok (.iload_n 2, 1) := by decide +kernel
theorem zd_P_daysOf_175 : decode zc_P_daysOf 175 = .ok (.invokevirtual 114, 3) := by decide +kernel
theorem zd_P_daysOf_178 : decode zc_P_daysOf 178 = .ok (.ireturn, 1) := by decide +kernel
theorem zd_P_daysOf_179 : decode zc_P_daysOf 179 = .ok (.aload_n 0, 1) := by decide +kernel
theorem zd_P_daysOf_180 : decode zc_P_daysOf 180 = .ok (.aload_n 0, 1) := by decide +kernel
theorem zd_P_daysOf_181 : decode zc_P_daysOf 181 = .ok (.iload_n 3, 1) := by decide +kernel
theorem zd_P_daysOf_182 : decode zc_P_daysOf 182 = .ok (.invokevirtual 127, 3) := by decide +kernel
theorem zd_P_daysOf_185 : decode zc_P_daysOf 185 = .ok (.aload_n 0, 1) := by decide +kernel
theorem zd_P_daysOf_186 : decode zc_P_daysOf 186 = .ok (.getfield 53, 3) := by decide +kernel
theorem zd_P_daysOf_189 : decode zc_P_daysOf 189 = .ok (.iconst 1, 1) := by decide +kernel
theorem zd_P_daysOf_190 : decode zc_P_daysOf 190 = .ok (.isub, 1) := by decide +kernel
theorem zd_P_daysOf_191 : decode zc_P_daysOf 191 = .ok (.bipush 7, 2) := by decide +kernel
theorem zd_P_daysOf_193 : decode zc_P_daysOf 193 = .ok (.imul, 1) := by decide +kernel
theorem zd_P_daysOf_194 : decode zc_P_daysOf 194 = .ok (.iadd, 1) := by decide +kernel
theorem zd_P_daysOf_195 : decode zc_P_daysOf 195 = .ok (.iload_n 2, 1) := by decide +kernel
theorem zd_P_daysOf_196 : decode zc_P_daysOf 196 = .ok (.invokevirtual 114, 3) := by decide +kernel
theorem zd_P_daysOf_199 : decode zc_P_daysOf 199 = .ok (.ireturn, 1) := by decide +kernel
theorem zd_P_firesOn_0 : decode zc_P_firesOn 0 = .ok (.iload_n 1, 1) := by decide +kernel
theorem zd_P_firesOn_1 : decode zc_P_firesOn 1 = .ok (.invokestatic 87, 3) := by decide +kernel
theorem zd_P_firesOn_4 : decode zc_P_firesOn 4 = .ok (.istore_n 2, 1) := by decide +kernel
theorem zd_P_firesOn_5 : decode zc_P_firesOn 5 = .ok (.aload_n 0, 1) := by decide +kernel
theorem zd_P_firesOn_6 : decode zc_P_firesOn 6 = .ok (.iload_n 2, 1) := by decide +kernel
theorem zd_P_firesOn_7 : decode zc_P_firesOn 7 = .ok (.invokevirtual 90, 3) := by decide +kernel
theorem zd_P_firesOn_10 : decode zc_P_firesOn 10 = .ok (.iload_n 1, 1) := by decide +kernel
theorem zd_P_firesOn_11 : decode zc_P_firesOn 11 = .ok (.iload_n 2, 1) := by decide +kernel
theorem zd_P_firesOn_12 : decode zc_P_firesOn 12 = .ok (.invokestatic 93, 3) := by decide +kernel
theorem zd_P_firesOn_15 : decode zc_P_firesOn 15 = .ok (.isub, 1) := by decide +kernel
theorem zd_P_firesOn_16 : decode zc_P_firesOn 16 = .ok (.iushr, 1) := by decide +kernel
theorem zd_P_firesOn_17 : decode zc_P_firesOn 17 = .ok (.iconst 1, 1) := by decide +kernel
theorem zd_P_firesOn_18 : decode zc_P_firesOn 18 = .ok (.iand, 1) := by decide +kernel
theorem zd_P_firesOn_19 : decode zc_P_firesOn 19 = .ok (.ifCond .eq 7, 3) := by decide +kernel
theorem zd_P_firesOn_22 : decode zc_P_firesOn 22 = .ok (.iconst 1, 1) := by decide +kernel
theorem zd_P_firesOn_23 : decode zc_P_firesOn 23 = .ok (.goto 4, 3) := by decide +kernel
theorem zd_P_firesOn_26 : decode zc_P_firesOn 26 = .ok (.iconst 0, 1) := by decide +kernel
theorem zd_P_firesOn_27 : decode zc_P_firesOn 27 = .ok (.ireturn, 1) := by decide +kernel
theorem zd_JE_ordinal_0 : decode zc_JE_ordinal 0 = .ok (.aload_n 0, 1) := by decide +kernel
theorem zd_JE_ordinal_1 : decode zc_JE_ordinal 1 = .ok (.getfield 7, 3) := by decide +kernel
theorem zd_JE_ordinal_4 : decode zc_JE_ordinal 4 = .ok (.ireturn, 1) := by decide +kernel
abbrev zEn : List String := ["LISTED_DAYS", "BEFORE_LAST_DAY", "LAST_WORKDAY", "NEAREST_WORKDAY", "LISTED_WEEKDAYS", "LAST_WEEKDAY", "ORDINAL_WEEKDAY"]
abbrev zEf : List (String × String × String × List Int32) := [("java/lang/Enum", "ordinal", "I", [0, 1, 2, 3, 4, 5, 6])]
def zSe (en : Nat → Nat) (A : Nat → Prop) : zStt := fun U H => va_En "CronFinder$DayRule" "LCronFinder$DayRule;" zEn zEf en A U H
theorem zSe_mv (en : Nat → Nat) (A : Nat → Prop) : zMv (zSe en A) := fun _ _ _ hvm h => va_En.moved hvm.alike h
theorem zSe_now {en : Nat → Nat} {A : Nat → Prop} {s : State} {H : Heap} {locs : List Loc} (h : zSe en A s s.heap) (hS : va_S A s.heap H locs) : zSe en A s H := va_En.kept h hS.2.1
theorem zSe_nar {en : Nat → Nat} {A B : Nat → Prop} {s : State} {H : Heap} (h : zSe en A s H) (hAB : ∀ q, B q → A q) : zSe en B s H := va_En.narrow h hAB
def pSw (j : Int) : Int := if j = 6 then 0 else j + 1
def zSw (t : Nat) (A : Nat → Prop) : zStt := fun U H => va_Z "CronFinder$1" "$SwitchMap$CronFinder$DayRule" "[I" (.ref t) A U H ∧ va_T .int t 7 (fun j => .int (iI (pSw (j : Int)))) A U H
theorem zSw_mv (t : Nat) (A : Nat → Prop) : zMv (zSw t A) := fun _ _ _ hvm h => ⟨va_Z.moved hvm.alike h.1, va_T.moved hvm.alike h.2⟩
theorem zSw_now {t : Nat} {A : Nat → Prop} {s : State} {H : Heap} {locs : List Loc} (h : zSw t A s s.heap) (hS : va_S A s.heap H locs) : zSw t A s H := ⟨h.1.kept hS.2.1, h.2.kept hS.2.1⟩
theorem zSw_nar {t : Nat} {A B : Nat → Prop} {s : State} {H : Heap} (h : zSw t A s H) (hAB : ∀ q, B q → A q) : zSw t B s H := ⟨h.1.narrow hAB, h.2.narrow hAB⟩
/-- what the days of a month take of the statics -/
def zS3 (t : Nat) (en : Nat → Nat) (tw : Nat) (A : Nat → Prop) : zStt := fun U H => zSd t A U H ∧ zSe en A U H ∧ zSw tw A U H
theorem zS3_mv (t : Nat) (en : Nat → Nat) (tw : Nat) (A : Nat → Prop) : zMv (zS3 t en tw A) := fun u U H hvm h => ⟨zSd_mv t A u U H hvm h.1, zSe_mv en A u U H hvm h.2.1, zSw_mv tw A u U H hvm h.2.2⟩
theorem zS3_now {t : Nat} {en : Nat → Nat} {tw : Nat} {A : Nat → Prop} {s : State} {H : Heap} {locs : List Loc} (h : zS3 t en tw A s s.heap) (hS : va_S A s.heap H locs) : zS3 t en tw A s H := ⟨zSd_now h.1 hS, zSe_now h.2.1 hS, zSw_now h.2.2 hS⟩
theorem zS3_nar {t : Nat} {en : Nat → Nat} {tw : Nat} {A B : Nat → Prop} {s : State} {H : Heap} (h : zS3 t en tw A s H) (hAB : ∀ q, B q → A q) : zS3 t en tw B s H := ⟨zSd_nar h.1 hAB, zSe_nar h.2.1 hAB, zSw_nar h.2.2 hAB⟩
section ZKU
variable {p : Program} {l : Launch} {e : Env} {R : Room} {s : State} {m : MethodId} {args : Array Value} {below : List Frame} {meth : Method} {c : Code} {H : Heap} {locs : List Loc} {cells slots : Nat} {Q : State → Prop}
variable {cc cy : ByteArray} {pc nL maxL index np : Nat} {ls : Array Slot} {rest st0 As : List Value} {wc : va_W} {own C owner : String} {x y : MethodName} {ret : Option FieldType} {rm : Room} {g : zGl} {v : Option Value} {b : Nat}
theorem zG_U {c0 : Cond} (h1 : Cond.methodLink own index x ∈ zW) (h2 : Cond.sameMethod x.cls owner x.name x.desc ∈ zW) (h3 : Cond.selects C x y ∈ zW) (h4 : Cond.instanceMethod y ∈ zW) (h5 : Cond.initialized y.cls ∈ zW) (h6 : Cond.code y cy maxL ret ∈ zW) : GoodIn (c0 :: zW) (va_wsU own index C owner x y (Cond.code y cy maxL ret :: zW)) := by
  intro w hw
  have : w ∈ zW := by
    simp only [va_wsU, List.cons_append, List.nil_append, List.mem_cons] at hw
    rcases hw with rfl | rfl | rfl | rfl | rfl | rfl | h <;> assumption
  exact ⟨List.mem_cons_of_mem _ this, good_of_word (zW_good w this)⟩
theorem zk_U {ST : zStt} (hx : p.tables.exec = Jvm.exec) (hb : c.code = cc) (hml : c.maxLocals = nL) (hown : s.vm.findClass own = some m.cls) (hw : ∀ w ∈ zW, w.before args s = true) (hM : zSi l y cy maxL ret rm g ST (.ref b :: As) wc v)
    (h1 : Cond.methodLink own index x ∈ zW) (h2 : Cond.sameMethod x.cls owner x.name x.desc ∈ zW) (h3 : Cond.selects C x y ∈ zW) (h4 : Cond.instanceMethod y ∈ zW) (h5 : Cond.initialized y.cls ∈ zW) (h6 : Cond.code y cy maxL ret ∈ zW) (hyx : y = ⟨owner, x.name, x.desc⟩)
    (hd : owner ≠ "java/lang/invoke/MethodHandle" ∧ owner ≠ "java/lang/invoke/VarHandle" ∧ (parseMethodDescriptor x.desc).map (fun d => d.parameters.length) = some np) (hnp : As.length = np)
    (hR : rm.cells = 0 ∧ rm.slots = 0 ∧ rm.frames + 1 ≤ R.frames ∧ 8 + (maxL + 11) + rm.locals ≤ R.locals) (hm : zMv ST) (hK : zK g s) (hT : ST s H) (hP : va_P g.1 zCl wc H) (hrc : ∃ cell : Cell, H[b]? = some cell ∧ cell.vm.isStatics = false ∧ s.vm.findClass C = some cell.cls) (hsz : ls.size = nL) (hst : st0 = As.reverse ++ .ref b :: rest) (hrm : (rest.map fun v => v.category).sum ≤ 8)
    (hf : cells ≤ R.cells ∧ slots ≤ R.slots) (hdg : decode cc pc = .ok (.invokevirtual index, 3)) (kk : W p l e R s m args below meth c H locs cells slots Q (F0 m (pc + 3) ls (v.toList ++ rest))) : W p l e R s m args below meth c H locs cells slots Q (F0 m pc ls st0) := by
  refine zs_call (va_runU (rest := rest) ⟨hx, hb, hml, hown, zW_all hw (hw _ h6)⟩ hM (va_cwU (owner := owner) np (zW_all hw (hw _ h6)) (zG_U h1 h2 h3 h4 h5 h6) rfl hR.1 hR.2.1 hyx hd hR.2.2) ⟨zPs_blind hm, hrc, zPs_at hm hK hT hP⟩ rfl hnp hsz hst (lv_room hrm) hdg hf) kk
end ZKU
set_option maxHeartbeats 4000000 in
set_option maxRecDepth 100000 in
theorem c_ord_0 (l : Launch) (g : zGl) (en : Nat → Nat) : zSi l zy_JE_ordinal zc_JE_ordinal 1 (some .int) ({ frames := 0, cells := 0, slots := 0, locals := 0 }) g (zSe en (fun _ => False)) [.ref (en 0)] [] (some (.int (iI (0)))) := by
  refine zs_open (by decide +kernel) (Nat.le_of_ble_eq_true rfl) ?_
  intro p e s m below meth c ls hx hb hml hr hlk hown hw hK hT hP hl
  have hown : s.vm.findClass "java/lang/Enum" = some m.cls := hown
  have hl : lv_has ls 1 [(0, .ref (en 0))] := hl
  refine lv_aload_n hx hb zd_JE_ordinal_0 rfl (lv_at hl 0 rfl) ?_
  refine va_getE hx hb (i := 0) (q := ("java/lang/Enum", "ordinal", "I", [0, 1, 2, 3, 4, 5, 6])) hT (by decide) va_S.rf hown (by simp) (hw _ zw_4_183) (fun _ h9 => h9) zd_JE_ordinal_1 ?_
  refine zi_asx _ 0 (by decide) ?_
  refine zi_as (0) (rfl) ?_
  exact zs_iret hx hb hr hlk zd_JE_ordinal_4
set_option maxHeartbeats 4000000 in
set_option maxRecDepth 100000 in
theorem c_ord_1 (l : Launch) (g : zGl) (en : Nat → Nat) : zSi l zy_JE_ordinal zc_JE_ordinal 1 (some .int) ({ frames := 0, cells := 0, slots := 0, locals := 0 }) g (zSe en (fun _ => False)) [.ref (en 1)] [] (some (.int (iI (1)))) := by
  refine zs_open (by decide +kernel) (Nat.le_of_ble_eq_true rfl) ?_
  intro p e s m below meth c ls hx hb hml hr hlk hown hw hK hT hP hl
  have hown : s.vm.findClass "java/lang/Enum" = some m.cls := hown
  have hl : lv_has ls 1 [(0, .ref (en 1))] := hl
  refine lv_aload_n hx hb zd_JE_ordinal_0 rfl (lv_at hl 0 rfl) ?_
  refine va_getE hx hb (i := 1) (q := ("java/lang/Enum", "ordinal", "I", [0, 1, 2, 3, 4, 5, 6])) hT (by decide) va_S.rf hown (by simp) (hw _ zw_4_183) (fun _ h9 => h9) zd_JE_ordinal_1 ?_
  refine zi_asx _ 1 (by decide) ?_
  refine zi_as (1) (rfl) ?_
  exact zs_iret hx hb hr hlk zd_JE_ordinal_4
set_option maxHeartbeats 4000000 in
set_option maxRecDepth 100000 in
theorem c_ord_2 (l : Launch) (g : zGl) (en : Nat → Nat) : zSi l zy_JE_ordinal zc_JE_ordinal 1 (some .int) ({ frames := 0, cells := 0, slots := 0, locals := 0 }) g (zSe en (fun _ => False)) [.ref (en 2)] [] (some (.int (iI (2)))) := by
  refine zs_open (by decide +kernel) (Nat.le_of_ble_eq_true rfl) ?_
  intro p e s m below meth c ls hx hb hml hr hlk hown hw hK hT hP hl
  have hown : s.vm.findClass "java/lang/Enum" = some m.cls := hown
  have hl : lv_has ls 1 [(0, .ref (en 2))] := hl
  refine lv_aload_n hx hb zd_JE_ordinal_0 rfl (lv_at hl 0 rfl) ?_
  refine va_getE hx hb (i := 2) (q := ("java/lang/Enum", "ordinal", "I", [0, 1, 2, 3, 4, 5, 6])) hT (by decide) va_S.rf hown (by simp) (hw _ zw_4_183) (fun _ h9 => h9) zd_JE_ordinal_1 ?_
  refine zi_asx _ 2 (by decide) ?_
  refine zi_as (2) (rfl) ?_
  exact zs_iret hx hb hr hlk zd_JE_ordinal_4
set_option maxHeartbeats 4000000 in
set_option maxRecDepth 100000 in
theorem c_ord_3 (l : Launch) (g : zGl) (en : Nat → Nat) : zSi l zy_JE_ordinal zc_JE_ordinal 1 (some .int) ({ frames := 0, cells := 0, slots := 0, locals := 0 }) g (zSe en (fun _ => False)) [.ref (en 3)] [] (some (.int (iI (3)))) := by
  refine zs_open (by decide +kernel) (Nat.le_of_ble_eq_true rfl) ?_
  intro p e s m below meth c ls hx hb hml hr hlk hown hw hK hT hP hl
  have hown : s.vm.findClass "java/lang/Enum" = some m.cls := hown
  have hl : lv_has ls 1 [(0, .ref (en 3))] := hl
  refine lv_aload_n hx hb zd_JE_ordinal_0 rfl (lv_at hl 0 rfl) ?_
  refine va_getE hx hb (i := 3) (q := ("java/lang/Enum", "ordinal", "I", [0, 1, 2, 3, 4, 5, 6])) hT (by decide) va_S.rf hown (by simp) (hw _ zw_4_183) (fun _ h9 => h9) zd_JE_ordinal_1 ?_
  refine zi_asx _ 3 (by decide) ?_
  refine zi_as (3) (rfl) ?_
  exact zs_iret hx hb hr hlk zd_JE_ordinal_4
set_option maxHeartbeats 4000000 in
set_option maxRecDepth 100000 in
theorem c_ord_4 (l : Launch) (g : zGl) (en : Nat → Nat) : zSi l zy_JE_ordinal zc_JE_ordinal 1 (some .int) ({ frames := 0, cells := 0, slots := 0, locals := 0 }) g (zSe en (fun _ => False)) [.ref (en 4)] [] (some (.int (iI (4)))) := by
  refine zs_open (by decide +kernel) (Nat.le_of_ble_eq_true rfl) ?_
  intro p e s m below meth c ls hx hb hml hr hlk hown hw hK hT hP hl
  have hown : s.vm.findClass "java/lang/Enum" = some m.cls := hown
  have hl : lv_has ls 1 [(0, .ref (en 4))] := hl
  refine lv_aload_n hx hb zd_JE_ordinal_0 rfl (lv_at hl 0 rfl) ?_
  refine va_getE hx hb (i := 4) (q := ("java/lang/Enum", "ordinal", "I", [0, 1, 2, 3, 4, 5, 6])) hT (by decide) va_S.rf hown (by simp) (hw _ zw_4_183) (fun _ h9 => h9) zd_JE_ordinal_1 ?_
  refine zi_asx _ 4 (by decide) ?_
  refine zi_as (4) (rfl) ?_
  exact zs_iret hx hb hr hlk zd_JE_ordinal_4
set_option maxHeartbeats 4000000 in
set_option maxRecDepth 100000 in
theorem c_ord_5 (l : Launch) (g : zGl) (en : Nat → Nat) : zSi l zy_JE_ordinal zc_JE_ordinal 1 (some .int) ({ frames := 0, cells := 0, slots := 0, locals := 0 }) g (zSe en (fun _ => False)) [.ref (en 5)] [] (some (.int (iI (5)))) := by
  refine zs_open (by decide +kernel) (Nat.le_of_ble_eq_true rfl) ?_
  intro p e s m below meth c ls hx hb hml hr hlk hown hw hK hT hP hl
  have hown : s.vm.findClass "java/lang/Enum" = some m.cls := hown
  have hl : lv_has ls 1 [(0, .ref (en 5))] := hl
  refine lv_aload_n hx hb zd_JE_ordinal_0 rfl (lv_at hl 0 rfl) ?_
  refine va_getE hx hb (i := 5) (q := ("java/lang/Enum", "ordinal", "I", [0, 1, 2, 3, 4, 5, 6])) hT (by decide) va_S.rf hown (by simp) (hw _ zw_4_183) (fun _ h9 => h9) zd_JE_ordinal_1 ?_
  refine zi_asx _ 5 (by decide) ?_
  refine zi_as (5) (rfl) ?_
  exact zs_iret hx hb hr hlk zd_JE_ordinal_4
set_option maxHeartbeats 4000000 in
set_option maxRecDepth 100000 in
theorem c_ord_6 (l : Launch) (g : zGl) (en : Nat → Nat) : zSi l zy_JE_ordinal zc_JE_ordinal 1 (some .int) ({ frames := 0, cells := 0, slots := 0, locals := 0 }) g (zSe en (fun _ => False)) [.ref (en 6)] [] (some (.int (iI (6)))) := by
  refine zs_open (by decide +kernel) (Nat.le_of_ble_eq_true rfl) ?_
  intro p e s m below meth c ls hx hb hml hr hlk hown hw hK hT hP hl
  have hown : s.vm.findClass "java/lang/Enum" = some m.cls := hown
  have hl : lv_has ls 1 [(0, .ref (en 6))] := hl
  refine lv_aload_n hx hb zd_JE_ordinal_0 rfl (lv_at hl 0 rfl) ?_
  refine va_getE hx hb (i := 6) (q := ("java/lang/Enum", "ordinal", "I", [0, 1, 2, 3, 4, 5, 6])) hT (by decide) va_S.rf hown (by simp) (hw _ zw_4_183) (fun _ h9 => h9) zd_JE_ordinal_1 ?_
  refine zi_asx _ 6 (by decide) ?_
  refine zi_as (6) (rfl) ?_
  exact zs_iret hx hb hr hlk zd_JE_ordinal_4
set_option maxHeartbeats 4000000 in
set_option maxRecDepth 100000 in
theorem c_P_clear (l : Launch) (g : zGl) (pq : Nat) (ra aa : Nat → Nat) (al : Nat → Nat → Bool) (rl : Nat) (sub od : Int) (bits : Nat → Bool) (en : Nat → Nat) : zWi l zy_P_clear zc_P_clear 2 none ({ frames := 1, cells := 0, slots := 0, locals := 23 }) g (zSe en) [.ref (pq)] [(pq, .inr (3, [.ref (ra 0), .ref (ra 1), .ref (ra 2), .ref (ra 3), .ref (ra 4), .ref (ra 5), .ref (ra 6), .ref (rl), .int (iI (sub)), .int (iI (od)), .int (zbits (bits))])), (ra 0, .inr (2, [.int (iI (0)), .int (iI (59)), .ref (aa 0)])), (aa 0, .inl (g.2 1, 60, .inl (zaB (al 0)))), (ra 1, .inr (2, [.int (iI (0)), .int (iI (59)), .ref (aa 1)])), (aa 1, .inl (g.2 1, 60, .inl (zaB (al 1)))), (ra 2, .inr (2, [.int (iI (0)), .int (iI (23)), .ref (aa 2)])), (aa 2, .inl (g.2 1, 24, .inl (zaB (al 2)))), (ra 3, .inr (2, [.int (iI (1)), .int (iI (31)), .ref (aa 3)])), (aa 3, .inl (g.2 1, 31, .inl (zaB (al 3)))), (ra 4, .inr (2, [.int (iI (1)), .int (iI (12)), .ref (aa 4)])), (aa 4, .inl (g.2 1, 12, .inl (zaB (al 4)))), (ra 5, .inr (2, [.int (iI (1)), .int (iI (7)), .ref (aa 5)])), (aa 5, .inl (g.2 1, 7, .inl (zaB (al 5)))), (ra 6, .inr (2, [.int (iI (1970)), .int (iI (2299)), .ref (aa 6)])), (aa 6, .inl (g.2 1, 330, .inl (zaB (al 6))))] (none) [(pq, .inr (3, [.ref (ra 0), .ref (ra 1), .ref (ra 2), .ref (ra 3), .ref (ra 4), .ref (ra 5), .ref (ra 6), .ref (en 0), .int (iI (0)), .int (iI (0)), .int (zbits (bits))])), (ra 0, .inr (2, [.int (iI (0)), .int (iI (59)), .ref (aa 0)])), (aa 0, .inl (g.2 1, 60, .inl (zaB (fun _ => false)))), (ra 1, .inr (2, [.int (iI (0)), .int (iI (59)), .ref (aa 1)])), (aa 1, .inl (g.2 1, 60, .inl (zaB (fun _ => false)))), (ra 2, .inr (2, [.int (iI (0)), .int (iI (23)), .ref (aa 2)])), (aa 2, .inl (g.2 1, 24, .inl (zaB (fun _ => false)))), (ra 3, .inr (2, [.int (iI (1)), .int (iI (31)), .ref (aa 3)])), (aa 3, .inl (g.2 1, 31, .inl (zaB (fun _ => false)))), (ra 4, .inr (2, [.int (iI (1)), .int (iI (12)), .ref (aa 4)])), (aa 4, .inl (g.2 1, 12, .inl (zaB (fun _ => false)))), (ra 5, .inr (2, [.int (iI (1)), .int (iI (7)), .ref (aa 5)])), (aa 5, .inl (g.2 1, 7, .inl (zaB (fun _ => false)))), (ra 6, .inr (2, [.int (iI (1970)), .int (iI (2299)), .ref (aa 6)])), (aa 6, .inl (g.2 1, 330, .inl (zaB (fun _ => false))))] 0 0 := by
  refine zw_open (by decide +kernel) (Nat.le_of_ble_eq_true rfl) ?_
  intro p e s m below meth c ls A hx hb hml hr hlk hown hin hw hK hT hP hD hS hA hl
  have hown : s.vm.findClass "CronFinder$Plan" = some m.cls := hown
  have hl : lv_has ls 2 [(0, .ref (pq))] := hl
  refine zi_iconst hx hb zd_P_clear_0 ?_
  refine lv_istore_n (lv' := [(1, .int (iI (0))), (0, .ref (pq))]) hx hb zd_P_clear_1 rfl hl (by decide) rfl (fun ls hl => ?_)
  refine lv_iload_n hx hb zd_P_clear_2 rfl (lv_at hl 0 rfl) ?_
  refine zi_bipush hx hb zd_P_clear_3 (by decide) ?_
  refine zi_icmp_ge (tgt := 22) hx hb zd_P_clear_5 (by decide) (by omega) (fun c5 => absurd c5 (by decide)) (fun _ => ?_)
  refine lv_aload_n hx hb zd_P_clear_8 rfl (lv_at hl 1 rfl) ?_
  refine lv_iload_n hx hb zd_P_clear_9 rfl (lv_at hl 0 rfl) ?_
  refine zk_V (As := [.int (iI (0))]) (b := pq) (own := "CronFinder$Plan") (nL := 2) (rest := []) hx hb hml hown hw (c_P_row_0 l g pq ra rl sub od (bits)) zw_2_34 zw_2_35 zw_2_36 zw_1_2 zw_2_37 (np := 1) (by decide +kernel) rfl (by decide) zN_mv hK trivial (hP.sub (ws' := [(pq, .inr (3, [.ref (ra 0), .ref (ra 1), .ref (ra 2), .ref (ra 3), .ref (ra 4), .ref (ra 5), .ref (ra 6), .ref (rl), .int (iI (sub)), .int (iI (od)), .int (zbits (bits))]))]) [0] rfl) (va_recv hK hP (ci := 3) (q0 := 0) rfl rfl) hl.1 rfl (Nat.le_of_ble_eq_true rfl) (by decide) zd_P_clear_10 ?_
  refine zk_W (As := []) (b := ra 0) (own := "CronFinder$Plan") (nL := 2) (rest := []) hx hb hml hown hw (c_O_clear l g (ra 0) (aa 0) 0 59 60 (al 0) (by decide)) zw_2_38 zw_2_39 zw_2_40 zw_1_3 zw_2_41 (np := 0) (by decide +kernel) rfl (by decide) (fun _ => zN_mv) hK trivial hP hD hS hA [1, 2] rfl (by decide) rfl (va_recv hK hP (ci := 2) (q0 := 1) rfl rfl) hl.1 rfl (Nat.le_of_ble_eq_true rfl) (by decide) zd_P_clear_13 (fun H locs hP hD hS => ?_)
  have hP : va_P g.1 zCl [(pq, .inr (3, [.ref (ra 0), .ref (ra 1), .ref (ra 2), .ref (ra 3), .ref (ra 4), .ref (ra 5), .ref (ra 6), .ref (rl), .int (iI (sub)), .int (iI (od)), .int (zbits (bits))])), (ra 0, .inr (2, [.int (iI (0)), .int (iI (59)), .ref (aa 0)])), (aa 0, .inl (g.2 1, 60, .inl (zaB (fun _ => false)))), (ra 1, .inr (2, [.int (iI (0)), .int (iI (59)), .ref (aa 1)])), (aa 1, .inl (g.2 1, 60, .inl (zaB (al 1)))), (ra 2, .inr (2, [.int (iI (0)), .int (iI (23)), .ref (aa 2)])), (aa 2, .inl (g.2 1, 24, .inl (zaB (al 2)))), (ra 3, .inr (2, [.int (iI (1)), .int (iI (31)), .ref (aa 3)])), (aa 3, .inl (g.2 1, 31, .inl (zaB (al 3)))), (ra 4, .inr (2, [.int (iI (1)), .int (iI (12)), .ref (aa 4)])), (aa 4, .inl (g.2 1, 12, .inl (zaB (al 4)))), (ra 5, .inr (2, [.int (iI (1)), .int (iI (7)), .ref (aa 5)])), (aa 5, .inl (g.2 1, 7, .inl (zaB (al 5)))), (ra 6, .inr (2, [.int (iI (1970)), .int (iI (2299)), .ref (aa 6)])), (aa 6, .inl (g.2 1, 330, .inl (zaB (al 6))))] H := hP
  have hD : va_D A [(pq, .inr (3, [.ref (ra 0), .ref (ra 1), .ref (ra 2), .ref (ra 3), .ref (ra 4), .ref (ra 5), .ref (ra 6), .ref (rl), .int (iI (sub)), .int (iI (od)), .int (zbits (bits))])), (ra 0, .inr (2, [.int (iI (0)), .int (iI (59)), .ref (aa 0)])), (aa 0, .inl (g.2 1, 60, .inl (zaB (fun _ => false)))), (ra 1, .inr (2, [.int (iI (0)), .int (iI (59)), .ref (aa 1)])), (aa 1, .inl (g.2 1, 60, .inl (zaB (al 1)))), (ra 2, .inr (2, [.int (iI (0)), .int (iI (23)), .ref (aa 2)])), (aa 2, .inl (g.2 1, 24, .inl (zaB (al 2)))), (ra 3, .inr (2, [.int (iI (1)), .int (iI (31)), .ref (aa 3)])), (aa 3, .inl (g.2 1, 31, .inl (zaB (al 3)))), (ra 4, .inr (2, [.int (iI (1)), .int (iI (12)), .ref (aa 4)])), (aa 4, .inl (g.2 1, 12, .inl (zaB (al 4)))), (ra 5, .inr (2, [.int (iI (1)), .int (iI (7)), .ref (aa 5)])), (aa 5, .inl (g.2 1, 7, .inl (zaB (al 5)))), (ra 6, .inr (2, [.int (iI (1970)), .int (iI (2299)), .ref (aa 6)])), (aa 6, .inl (g.2 1, 330, .inl (zaB (al 6))))] := hD
  refine lv_iinc (v := iI (1)) (lv' := [(1, .int (iI (1))), (0, .ref (pq))]) hx hb zd_P_clear_16 hl (k := 0) rfl (by decide) (by decide) rfl (fun ls hl => ?_)
  refine lv_goto (tgt := 2) hx hb zd_P_clear_19 (by decide) ?_
  refine lv_iload_n hx hb zd_P_clear_2 rfl (lv_at hl 0 rfl) ?_
  refine zi_bipush hx hb zd_P_clear_3 (by decide) ?_
  refine zi_icmp_ge (tgt := 22) hx hb zd_P_clear_5 (by decide) (by omega) (fun c5 => absurd c5 (by decide)) (fun _ => ?_)
  refine lv_aload_n hx hb zd_P_clear_8 rfl (lv_at hl 1 rfl) ?_
  refine lv_iload_n hx hb zd_P_clear_9 rfl (lv_at hl 0 rfl) ?_
  refine zk_V (As := [.int (iI (1))]) (b := pq) (own := "CronFinder$Plan") (nL := 2) (rest := []) hx hb hml hown hw (c_P_row_1 l g pq ra rl sub od (bits)) zw_2_34 zw_2_35 zw_2_36 zw_1_2 zw_2_37 (np := 1) (by decide +kernel) rfl (by decide) zN_mv hK trivial (hP.sub (ws' := [(pq, .inr (3, [.ref (ra 0), .ref (ra 1), .ref (ra 2), .ref (ra 3), .ref (ra 4), .ref (ra 5), .ref (ra 6), .ref (rl), .int (iI (sub)), .int (iI (od)), .int (zbits (bits))]))]) [0] rfl) (va_recv hK hP (ci := 3) (q0 := 0) rfl rfl) hl.1 rfl (Nat.le_of_ble_eq_true rfl) (by decide) zd_P_clear_10 ?_
  refine zk_W (As := []) (b := ra 1) (own := "CronFinder$Plan") (nL := 2) (rest := []) hx hb hml hown hw (c_O_clear l g (ra 1) (aa 1) 0 59 60 (al 1) (by decide)) zw_2_38 zw_2_39 zw_2_40 zw_1_3 zw_2_41 (np := 0) (by decide +kernel) rfl (by decide) (fun _ => zN_mv) hK trivial hP hD hS hA [3, 4] rfl (by decide) rfl (va_recv hK hP (ci := 2) (q0 := 3) rfl rfl) hl.1 rfl (Nat.le_of_ble_eq_true rfl) (by decide) zd_P_clear_13 (fun H locs hP hD hS => ?_)
  have hP : va_P g.1 zCl [(pq, .inr (3, [.ref (ra 0), .ref (ra 1), .ref (ra 2), .ref (ra 3), .ref (ra 4), .ref (ra 5), .ref (ra 6), .ref (rl), .int (iI (sub)), .int (iI (od)), .int (zbits (bits))])), (ra 0, .inr (2, [.int (iI (0)), .int (iI (59)), .ref (aa 0)])), (aa 0, .inl (g.2 1, 60, .inl (zaB (fun _ => false)))), (ra 1, .inr (2, [.int (iI (0)), .int (iI (59)), .ref (aa 1)])), (aa 1, .inl (g.2 1, 60, .inl (zaB (fun _ => false)))), (ra 2, .inr (2, [.int (iI (0)), .int (iI (23)), .ref (aa 2)])), (aa 2, .inl (g.2 1, 24, .inl (zaB (al 2)))), (ra 3, .inr (2, [.int (iI (1)), .int (iI (31)), .ref (aa 3)])), (aa 3, .inl (g.2 1, 31, .inl (zaB (al 3)))), (ra 4, .inr (2, [.int (iI (1)), .int (iI (12)), .ref (aa 4)])), (aa 4, .inl (g.2 1, 12, .inl (zaB (al 4)))), (ra 5, .inr (2, [.int (iI (1)), .int (iI (7)), .ref (aa 5)])), (aa 5, .inl (g.2 1, 7, .inl (zaB (al 5)))), (ra 6, .inr (2, [.int (iI (1970)), .int (iI (2299)), .ref (aa 6)])), (aa 6, .inl (g.2 1, 330, .inl (zaB (al 6))))] H := hP
  have hD : va_D A [(pq, .inr (3, [.ref (ra 0), .ref (ra 1), .ref (ra 2), .ref (ra 3), .ref (ra 4), .ref (ra 5), .ref (ra 6), .ref (rl), .int (iI (sub)), .int (iI (od)), .int (zbits (bits))])), (ra 0, .inr (2, [.int (iI (0)), .int (iI (59)), .ref (aa 0)])), (aa 0, .inl (g.2 1, 60, .inl (zaB (fun _ => false)))), (ra 1, .inr (2, [.int (iI (0)), .int (iI (59)), .ref (aa 1)])), (aa 1, .inl (g.2 1, 60, .inl (zaB (fun _ => false)))), (ra 2, .inr (2, [.int (iI (0)), .int (iI (23)), .ref (aa 2)])), (aa 2, .inl (g.2 1, 24, .inl (zaB (al 2)))), (ra 3, .inr (2, [.int (iI (1)), .int (iI (31)), .ref (aa 3)])), (aa 3, .inl (g.2 1, 31, .inl (zaB (al 3)))), (ra 4, .inr (2, [.int (iI (1)), .int (iI (12)), .ref (aa 4)])), (aa 4, .inl (g.2 1, 12, .inl (zaB (al 4)))), (ra 5, .inr (2, [.int (iI (1)), .int (iI (7)), .ref (aa 5)])), (aa 5, .inl (g.2 1, 7, .inl (zaB (al 5)))), (ra 6, .inr (2, [.int (iI (1970)), .int (iI (2299)), .ref (aa 6)])), (aa 6, .inl (g.2 1, 330, .inl (zaB (al 6))))] := hD
  refine lv_iinc (v := iI (2)) (lv' := [(1, .int (iI (2))), (0, .ref (pq))]) hx hb zd_P_clear_16 hl (k := 0) rfl (by decide) (by decide) rfl (fun ls hl => ?_)
  refine lv_goto (tgt := 2) hx hb zd_P_clear_19 (by decide) ?_
  refine lv_iload_n hx hb zd_P_clear_2 rfl (lv_at hl 0 rfl) ?_
  refine zi_bipush hx hb zd_P_clear_3 (by decide) ?_
  refine zi_icmp_ge (tgt := 22) hx hb zd_P_clear_5 (by decide) (by omega) (fun c5 => absurd c5 (by decide)) (fun _ => ?_)
  refine lv_aload_n hx hb zd_P_clear_8 rfl (lv_at hl 1 rfl) ?_
  refine lv_iload_n hx hb zd_P_clear_9 rfl (lv_at hl 0 rfl) ?_
  refine zk_V (As := [.int (iI (2))]) (b := pq) (own := "CronFinder$Plan") (nL := 2) (rest := []) hx hb hml hown hw (c_P_row_2 l g pq ra rl sub od (bits)) zw_2_34 zw_2_35 zw_2_36 zw_1_2 zw_2_37 (np := 1) (by decide +kernel) rfl (by decide) zN_mv hK trivial (hP.sub (ws' := [(pq, .inr (3, [.ref (ra 0), .ref (ra 1), .ref (ra 2), .ref (ra 3), .ref (ra 4), .ref (ra 5), .ref (ra 6), .ref (rl), .int (iI (sub)), .int (iI (od)), .int (zbits (bits))]))]) [0] rfl) (va_recv hK hP (ci := 3) (q0 := 0) rfl rfl) hl.1 rfl (Nat.le_of_ble_eq_true rfl) (by decide) zd_P_clear_10 ?_
  refine zk_W (As := []) (b := ra 2) (own := "CronFinder$Plan") (nL := 2) (rest := []) hx hb hml hown hw (c_O_clear l g (ra 2) (aa 2) 0 23 24 (al 2) (by decide)) zw_2_38 zw_2_39 zw_2_40 zw_1_3 zw_2_41 (np := 0) (by decide +kernel) rfl (by decide) (fun _ => zN_mv) hK trivial hP hD hS hA [5, 6] rfl (by decide) rfl (va_recv hK hP (ci := 2) (q0 := 5) rfl rfl) hl.1 rfl (Nat.le_of_ble_eq_true rfl) (by decide) zd_P_clear_13 (fun H locs hP hD hS => ?_)
  have hP : va_P g.1 zCl [(pq, .inr (3, [.ref (ra 0), .ref (ra 1), .ref (ra 2), .ref (ra 3), .ref (ra 4), .ref (ra 5), .ref (ra 6), .ref (rl), .int (iI (sub)), .int (iI (od)), .int (zbits (bits))])), (ra 0, .inr (2, [.int (iI (0)), .int (iI (59)), .ref (aa 0)])), (aa 0, .inl (g.2 1, 60, .inl (zaB (fun _ => false)))), (ra 1, .inr (2, [.int (iI (0)), .int (iI (59)), .ref (aa 1)])), (aa 1, .inl (g.2 1, 60, .inl (zaB (fun _ => false)))), (ra 2, .inr (2, [.int (iI (0)), .int (iI (23)), .ref (aa 2)])), (aa 2, .inl (g.2 1, 24, .inl (zaB (fun _ => false)))), (ra 3, .inr (2, [.int (iI (1)), .int (iI (31)), .ref (aa 3)])), (aa 3, .inl (g.2 1, 31, .inl (zaB (al 3)))), (ra 4, .inr (2, [.int (iI (1)), .int (iI (12)), .ref (aa 4)])), (aa 4, .inl (g.2 1, 12, .inl (zaB (al 4)))), (ra 5, .inr (2, [.int (iI (1)), .int (iI (7)), .ref (aa 5)])), (aa 5, .inl (g.2 1, 7, .inl (zaB (al 5)))), (ra 6, .inr (2, [.int (iI (1970)), .int (iI (2299)), .ref (aa 6)])), (aa 6, .inl (g.2 1, 330, .inl (zaB (al 6))))] H := hP
  have hD : va_D A [(pq, .inr (3, [.ref (ra 0), .ref (ra 1), .ref (ra 2), .ref (ra 3), .ref (ra 4), .ref (ra 5), .ref (ra 6), .ref (rl), .int (iI (sub)), .int (iI (od)), .int (zbits (bits))])), (ra 0, .inr (2, [.int (iI (0)), .int (iI (59)), .ref (aa 0)])), (aa 0, .inl (g.2 1, 60, .inl (zaB (fun _ => false)))), (ra 1, .inr (2, [.int (iI (0)), .int (iI (59)), .ref (aa 1)])), (aa 1, .inl (g.2 1, 60, .inl (zaB (fun _ => false)))), (ra 2, .inr (2, [.int (iI (0)), .int (iI (23)), .ref (aa 2)])), (aa 2, .inl (g.2 1, 24, .inl (zaB (fun _ => false)))), (ra 3, .inr (2, [.int (iI (1)), .int (iI (31)), .ref (aa 3)])), (aa 3, .inl (g.2 1, 31, .inl (zaB (al 3)))), (ra 4, .inr (2, [.int (iI (1)), .int (iI (12)), .ref (aa 4)])), (aa 4, .inl (g.2 1, 12, .inl (zaB (al 4)))), (ra 5, .inr (2, [.int (iI (1)), .int (iI (7)), .ref (aa 5)])), (aa 5, .inl (g.2 1, 7, .inl (zaB (al 5)))), (ra 6, .inr (2, [.int (iI (1970)), .int (iI (2299)), .ref (aa 6)])), (aa 6, .inl (g.2 1, 330, .inl (zaB (al 6))))] := hD
  refine lv_iinc (v := iI (3)) (lv' := [(1, .int (iI (3))), (0, .ref (pq))]) hx hb zd_P_clear_16 hl (k := 0) rfl (by decide) (by decide) rfl (fun ls hl => ?_)
  refine lv_goto (tgt := 2) hx hb zd_P_clear_19 (by decide) ?_
  refine lv_iload_n hx hb zd_P_clear_2 rfl (lv_at hl 0 rfl) ?_
  refine zi_bipush hx hb zd_P_clear_3 (by decide) ?_
  refine zi_icmp_ge (tgt := 22) hx hb zd_P_clear_5 (by decide) (by omega) (fun c5 => absurd c5 (by decide)) (fun _ => ?_)
  refine lv_aload_n hx hb zd_P_clear_8 rfl (lv_at hl 1 rfl) ?_
  refine lv_iload_n hx hb zd_P_clear_9 rfl (lv_at hl 0 rfl) ?_
  refine zk_V (As := [.int (iI (3))]) (b := pq) (own := "CronFinder$Plan") (nL := 2) (rest := []) hx hb hml hown hw (c_P_row_3 l g pq ra rl sub od (bits)) zw_2_34 zw_2_35 zw_2_36 zw_1_2 zw_2_37 (np := 1) (by decide +kernel) rfl (by decide) zN_mv hK trivial (hP.sub (ws' := [(pq, .inr (3, [.ref (ra 0), .ref (ra 1), .ref (ra 2), .ref (ra 3), .ref (ra 4), .ref (ra 5), .ref (ra 6), .ref (rl), .int (iI (sub)), .int (iI (od)), .int (zbits (bits))]))]) [0] rfl) (va_recv hK hP (ci := 3) (q0 := 0) rfl rfl) hl.1 rfl (Nat.le_of_ble_eq_true rfl) (by decide) zd_P_clear_10 ?_
  refine zk_W (As := []) (b := ra 3) (own := "CronFinder$Plan") (nL := 2) (rest := []) hx hb hml hown hw (c_O_clear l g (ra 3) (aa 3) 1 31 31 (al 3) (by decide)) zw_2_38 zw_2_39 zw_2_40 zw_1_3 zw_2_41 (np := 0) (by decide +kernel) rfl (by decide) (fun _ => zN_mv) hK trivial hP hD hS hA [7, 8] rfl (by decide) rfl (va_recv hK hP (ci := 2) (q0 := 7) rfl rfl) hl.1 rfl (Nat.le_of_ble_eq_true rfl) (by decide) zd_P_clear_13 (fun H locs hP hD hS => ?_)
  have hP : va_P g.1 zCl [(pq, .inr (3, [.ref (ra 0), .ref (ra 1), .ref (ra 2), .ref (ra 3), .ref (ra 4), .ref (ra 5), .ref (ra 6), .ref (rl), .int (iI (sub)), .int (iI (od)), .int (zbits (bits))])), (ra 0, .inr (2, [.int (iI (0)), .int (iI (59)), .ref (aa 0)])), (aa 0, .inl (g.2 1, 60, .inl (zaB (fun _ => false)))), (ra 1, .inr (2, [.int (iI (0)), .int (iI (59)), .ref (aa 1)])), (aa 1, .inl (g.2 1, 60, .inl (zaB (fun _ => false)))), (ra 2, .inr (2, [.int (iI (0)), .int (iI (23)), .ref (aa 2)])), (aa 2, .inl (g.2 1, 24, .inl (zaB (fun _ => false)))), (ra 3, .inr (2, [.int (iI (1)), .int (iI (31)), .ref (aa 3)])), (aa 3, .inl (g.2 1, 31, .inl (zaB (fun _ => false)))), (ra 4, .inr (2, [.int (iI (1)), .int (iI (12)), .ref (aa 4)])), (aa 4, .inl (g.2 1, 12, .inl (zaB (al 4)))), (ra 5, .inr (2, [.int (iI (1)), .int (iI (7)), .ref (aa 5)])), (aa 5, .inl (g.2 1, 7, .inl (zaB (al 5)))), (ra 6, .inr (2, [.int (iI (1970)), .int (iI (2299)), .ref (aa 6)])), (aa 6, .inl (g.2 1, 330, .inl (zaB (al 6))))] H := hP
  have hD : va_D A [(pq, .inr (3, [.ref (ra 0), .ref (ra 1), .ref (ra 2), .ref (ra 3), .ref (ra 4), .ref (ra 5), .ref (ra 6), .ref (rl), .int (iI (sub)), .int (iI (od)), .int (zbits (bits))])), (ra 0, .inr (2, [.int (iI (0)), .int (iI (59)), .ref (aa 0)])), (aa 0, .inl (g.2 1, 60, .inl (zaB (fun _ => false)))), (ra 1, .inr (2, [.int (iI (0)), .int (iI (59)), .ref (aa 1)])), (aa 1, .inl (g.2 1, 60, .inl (zaB (fun _ => false)))), (ra 2, .inr (2, [.int (iI (0)), .int (iI (23)), .ref (aa 2)])), (aa 2, .inl (g.2 1, 24, .inl (zaB (fun _ => false)))), (ra 3, .inr (2, [.int (iI (1)), .int (iI (31)), .ref (aa 3)])), (aa 3, .inl (g.2 1, 31, .inl (zaB (fun _ => false)))), (ra 4, .inr (2, [.int (iI (1)), .int (iI (12)), .ref (aa 4)])), (aa 4, .inl (g.2 1, 12, .inl (zaB (al 4)))), (ra 5, .inr (2, [.int (iI (1)), .int (iI (7)), .ref (aa 5)])), (aa 5, .inl (g.2 1, 7, .inl (zaB (al 5)))), (ra 6, .inr (2, [.int (iI (1970)), .int (iI (2299)), .ref (aa 6)])), (aa 6, .inl (g.2 1, 330, .inl (zaB (al 6))))] := hD
  refine lv_iinc (v := iI (4)) (lv' := [(1, .int (iI (4))), (0, .ref (pq))]) hx hb zd_P_clear_16 hl (k := 0) rfl (by decide) (by decide) rfl (fun ls hl => ?_)
  refine lv_goto (tgt := 2) hx hb zd_P_clear_19 (by decide) ?_
  refine lv_iload_n hx hb zd_P_clear_2 rfl (lv_at hl 0 rfl) ?_
  refine zi_bipush hx hb zd_P_clear_3 (by decide) ?_
  refine zi_icmp_ge (tgt := 22) hx hb zd_P_clear_5 (by decide) (by omega) (fun c5 => absurd c5 (by decide)) (fun _ => ?_)
  refine lv_aload_n hx hb zd_P_clear_8 rfl (lv_at hl 1 rfl) ?_
  refine lv_iload_n hx hb zd_P_clear_9 rfl (lv_at hl 0 rfl) ?_
  refine zk_V (As := [.int (iI (4))]) (b := pq) (own := "CronFinder$Plan") (nL := 2) (rest := []) hx hb hml hown hw (c_P_row_4 l g pq ra rl sub od (bits)) zw_2_34 zw_2_35 zw_2_36 zw_1_2 zw_2_37 (np := 1) (by decide +kernel) rfl (by decide) zN_mv hK trivial (hP.sub (ws' := [(pq, .inr (3, [.ref (ra 0), .ref (ra 1), .ref (ra 2), .ref (ra 3), .ref (ra 4), .ref (ra 5), .ref (ra 6), .ref (rl), .int (iI (sub)), .int (iI (od)), .int (zbits (bits))]))]) [0] rfl) (va_recv hK hP (ci := 3) (q0 := 0) rfl rfl) hl.1 rfl (Nat.le_of_ble_eq_true rfl) (by decide) zd_P_clear_10 ?_
  refine zk_W (As := []) (b := ra 4) (own := "CronFinder$Plan") (nL := 2) (rest := []) hx hb hml hown hw (c_O_clear l g (ra 4) (aa 4) 1 12 12 (al 4) (by decide)) zw_2_38 zw_2_39 zw_2_40 zw_1_3 zw_2_41 (np := 0) (by decide +kernel) rfl (by decide) (fun _ => zN_mv) hK trivial hP hD hS hA [9, 10] rfl (by decide) rfl (va_recv hK hP (ci := 2) (q0 := 9) rfl rfl) hl.1 rfl (Nat.le_of_ble_eq_true rfl) (by decide) zd_P_clear_13 (fun H locs hP hD hS => ?_)
  have hP : va_P g.1 zCl [(pq, .inr (3, [.ref (ra 0), .ref (ra 1), .ref (ra 2), .ref (ra 3), .ref (ra 4), .ref (ra 5), .ref (ra 6), .ref (rl), .int (iI (sub)), .int (iI (od)), .int (zbits (bits))])), (ra 0, .inr (2, [.int (iI (0)), .int (iI (59)), .ref (aa 0)])), (aa 0, .inl (g.2 1, 60, .inl (zaB (fun _ => false)))), (ra 1, .inr (2, [.int (iI (0)), .int (iI (59)), .ref (aa 1)])), (aa 1, .inl (g.2 1, 60, .inl (zaB (fun _ => false)))), (ra 2, .inr (2, [.int (iI (0)), .int (iI (23)), .ref (aa 2)])), (aa 2, .inl (g.2 1, 24, .inl (zaB (fun _ => false)))), (ra 3, .inr (2, [.int (iI (1)), .int (iI (31)), .ref (aa 3)])), (aa 3, .inl (g.2 1, 31, .inl (zaB (fun _ => false)))), (ra 4, .inr (2, [.int (iI (1)), .int (iI (12)), .ref (aa 4)])), (aa 4, .inl (g.2 1, 12, .inl (zaB (fun _ => false)))), (ra 5, .inr (2, [.int (iI (1)), .int (iI (7)), .ref (aa 5)])), (aa 5, .inl (g.2 1, 7, .inl (zaB (al 5)))), (ra 6, .inr (2, [.int (iI (1970)), .int (iI (2299)), .ref (aa 6)])), (aa 6, .inl (g.2 1, 330, .inl (zaB (al 6))))] H := hP
  have hD : va_D A [(pq, .inr (3, [.ref (ra 0), .ref (ra 1), .ref (ra 2), .ref (ra 3), .ref (ra 4), .ref (ra 5), .ref (ra 6), .ref (rl), .int (iI (sub)), .int (iI (od)), .int (zbits (bits))])), (ra 0, .inr (2, [.int (iI (0)), .int (iI (59)), .ref (aa 0)])), (aa 0, .inl (g.2 1, 60, .inl (zaB (fun _ => false)))), (ra 1, .inr (2, [.int (iI (0)), .int (iI (59)), .ref (aa 1)])), (aa 1, .inl (g.2 1, 60, .inl (zaB (fun _ => false)))), (ra 2, .inr (2, [.int (iI (0)), .int (iI (23)), .ref (aa 2)])), (aa 2, .inl (g.2 1, 24, .inl (zaB (fun _ => false)))), (ra 3, .inr (2, [.int (iI (1)), .int (iI (31)), .ref (aa 3)])), (aa 3, .inl (g.2 1, 31, .inl (zaB (fun _ => false)))), (ra 4, .inr (2, [.int (iI (1)), .int (iI (12)), .ref (aa 4)])), (aa 4, .inl (g.2 1, 12, .inl (zaB (fun _ => false)))), (ra 5, .inr (2, [.int (iI (1)), .int (iI (7)), .ref (aa 5)])), (aa 5, .inl (g.2 1, 7, .inl (zaB (al 5)))), (ra 6, .inr (2, [.int (iI (1970)), .int (iI (2299)), .ref (aa 6)])), (aa 6, .inl (g.2 1, 330, .inl (zaB (al 6))))] := hD
  refine lv_iinc (v := iI (5)) (lv' := [(1, .int (iI (5))), (0, .ref (pq))]) hx hb zd_P_clear_16 hl (k := 0) rfl (by decide) (by decide) rfl (fun ls hl => ?_)
  refine lv_goto (tgt := 2) hx hb zd_P_clear_19 (by decide) ?_
  refine lv_iload_n hx hb zd_P_clear_2 rfl (lv_at hl 0 rfl) ?_
  refine zi_bipush hx hb zd_P_clear_3 (by decide) ?_
  refine zi_icmp_ge (tgt := 22) hx hb zd_P_clear_5 (by decide) (by omega) (fun c5 => absurd c5 (by decide)) (fun _ => ?_)
  refine lv_aload_n hx hb zd_P_clear_8 rfl (lv_at hl 1 rfl) ?_
  refine lv_iload_n hx hb zd_P_clear_9 rfl (lv_at hl 0 rfl) ?_
  refine zk_V (As := [.int (iI (5))]) (b := pq) (own := "CronFinder$Plan") (nL := 2) (rest := []) hx hb hml hown hw (c_P_row_5 l g pq ra rl sub od (bits)) zw_2_34 zw_2_35 zw_2_36 zw_1_2 zw_2_37 (np := 1) (by decide +kernel) rfl (by decide) zN_mv hK trivial (hP.sub (ws' := [(pq, .inr (3, [.ref (ra 0), .ref (ra 1), .ref (ra 2), .ref (ra 3), .ref (ra 4), .ref (ra 5), .ref (ra 6), .ref (rl), .int (iI (sub)), .int (iI (od)), .int (zbits (bits))]))]) [0] rfl) (va_recv hK hP (ci := 3) (q0 := 0) rfl rfl) hl.1 rfl (Nat.le_of_ble_eq_true rfl) (by decide) zd_P_clear_10 ?_
  refine zk_W (As := []) (b := ra 5) (own := "CronFinder$Plan") (nL := 2) (rest := []) hx hb hml hown hw (c_O_clear l g (ra 5) (aa 5) 1 7 7 (al 5) (by decide)) zw_2_38 zw_2_39 zw_2_40 zw_1_3 zw_2_41 (np := 0) (by decide +kernel) rfl (by decide) (fun _ => zN_mv) hK trivial hP hD hS hA [11, 12] rfl (by decide) rfl (va_recv hK hP (ci := 2) (q0 := 11) rfl rfl) hl.1 rfl (Nat.le_of_ble_eq_true rfl) (by decide) zd_P_clear_13 (fun H locs hP hD hS => ?_)
  have hP : va_P g.1 zCl [(pq, .inr (3, [.ref (ra 0), .ref (ra 1), .ref (ra 2), .ref (ra 3), .ref (ra 4), .ref (ra 5), .ref (ra 6), .ref (rl), .int (iI (sub)), .int (iI (od)), .int (zbits (bits))])), (ra 0, .inr (2, [.int (iI (0)), .int (iI (59)), .ref (aa 0)])), (aa 0, .inl (g.2 1, 60, .inl (zaB (fun _ => false)))), (ra 1, .inr (2, [.int (iI (0)), .int (iI (59)), .ref (aa 1)])), (aa 1, .inl (g.2 1, 60, .inl (zaB (fun _ => false)))), (ra 2, .inr (2, [.int (iI (0)), .int (iI (23)), .ref (aa 2)])), (aa 2, .inl (g.2 1, 24, .inl (zaB (fun _ => false)))), (ra 3, .inr (2, [.int (iI (1)), .int (iI (31)), .ref (aa 3)])), (aa 3, .inl (g.2 1, 31, .inl (zaB (fun _ => false)))), (ra 4, .inr (2, [.int (iI (1)), .int (iI (12)), .ref (aa 4)])), (aa 4, .inl (g.2 1, 12, .inl (zaB (fun _ => false)))), (ra 5, .inr (2, [.int (iI (1)), .int (iI (7)), .ref (aa 5)])), (aa 5, .inl (g.2 1, 7, .inl (zaB (fun _ => false)))), (ra 6, .inr (2, [.int (iI (1970)), .int (iI (2299)), .ref (aa 6)])), (aa 6, .inl (g.2 1, 330, .inl (zaB (al 6))))] H := hP
  have hD : va_D A [(pq, .inr (3, [.ref (ra 0), .ref (ra 1), .ref (ra 2), .ref (ra 3), .ref (ra 4), .ref (ra 5), .ref (ra 6), .ref (rl), .int (iI (sub)), .int (iI (od)), .int (zbits (bits))])), (ra 0, .inr (2, [.int (iI (0)), .int (iI (59)), .ref (aa 0)])), (aa 0, .inl (g.2 1, 60, .inl (zaB (fun _ => false)))), (ra 1, .inr (2, [.int (iI (0)), .int (iI (59)), .ref (aa 1)])), (aa 1, .inl (g.2 1, 60, .inl (zaB (fun _ => false)))), (ra 2, .inr (2, [.int (iI (0)), .int (iI (23)), .ref (aa 2)])), (aa 2, .inl (g.2 1, 24, .inl (zaB (fun _ => false)))), (ra 3, .inr (2, [.int (iI (1)), .int (iI (31)), .ref (aa 3)])), (aa 3, .inl (g.2 1, 31, .inl (zaB (fun _ => false)))), (ra 4, .inr (2, [.int (iI (1)), .int (iI (12)), .ref (aa 4)])), (aa 4, .inl (g.2 1, 12, .inl (zaB (fun _ => false)))), (ra 5, .inr (2, [.int (iI (1)), .int (iI (7)), .ref (aa 5)])), (aa 5, .inl (g.2 1, 7, .inl (zaB (fun _ => false)))), (ra 6, .inr (2, [.int (iI (1970)), .int (iI (2299)), .ref (aa 6)])), (aa 6, .inl (g.2 1, 330, .inl (zaB (al 6))))] := hD
  refine lv_iinc (v := iI (6)) (lv' := [(1, .int (iI (6))), (0, .ref (pq))]) hx hb zd_P_clear_16 hl (k := 0) rfl (by decide) (by decide) rfl (fun ls hl => ?_)
  refine lv_goto (tgt := 2) hx hb zd_P_clear_19 (by decide) ?_
  refine lv_iload_n hx hb zd_P_clear_2 rfl (lv_at hl 0 rfl) ?_
  refine zi_bipush hx hb zd_P_clear_3 (by decide) ?_
  refine zi_icmp_ge (tgt := 22) hx hb zd_P_clear_5 (by decide) (by omega) (fun c5 => absurd c5 (by decide)) (fun _ => ?_)
  refine lv_aload_n hx hb zd_P_clear_8 rfl (lv_at hl 1 rfl) ?_
  refine lv_iload_n hx hb zd_P_clear_9 rfl (lv_at hl 0 rfl) ?_
  refine zk_V (As := [.int (iI (6))]) (b := pq) (own := "CronFinder$Plan") (nL := 2) (rest := []) hx hb hml hown hw (c_P_row_6 l g pq ra rl sub od (bits)) zw_2_34 zw_2_35 zw_2_36 zw_1_2 zw_2_37 (np := 1) (by decide +kernel) rfl (by decide) zN_mv hK trivial (hP.sub (ws' := [(pq, .inr (3, [.ref (ra 0), .ref (ra 1), .ref (ra 2), .ref (ra 3), .ref (ra 4), .ref (ra 5), .ref (ra 6), .ref (rl), .int (iI (sub)), .int (iI (od)), .int (zbits (bits))]))]) [0] rfl) (va_recv hK hP (ci := 3) (q0 := 0) rfl rfl) hl.1 rfl (Nat.le_of_ble_eq_true rfl) (by decide) zd_P_clear_10 ?_
  refine zk_W (As := []) (b := ra 6) (own := "CronFinder$Plan") (nL := 2) (rest := []) hx hb hml hown hw (c_O_clear l g (ra 6) (aa 6) 1970 2299 330 (al 6) (by decide)) zw_2_38 zw_2_39 zw_2_40 zw_1_3 zw_2_41 (np := 0) (by decide +kernel) rfl (by decide) (fun _ => zN_mv) hK trivial hP hD hS hA [13, 14] rfl (by decide) rfl (va_recv hK hP (ci := 2) (q0 := 13) rfl rfl) hl.1 rfl (Nat.le_of_ble_eq_true rfl) (by decide) zd_P_clear_13 (fun H locs hP hD hS => ?_)
  have hP : va_P g.1 zCl [(pq, .inr (3, [.ref (ra 0), .ref (ra 1), .ref (ra 2), .ref (ra 3), .ref (ra 4), .ref (ra 5), .ref (ra 6), .ref (rl), .int (iI (sub)), .int (iI (od)), .int (zbits (bits))])), (ra 0, .inr (2, [.int (iI (0)), .int (iI (59)), .ref (aa 0)])), (aa 0, .inl (g.2 1, 60, .inl (zaB (fun _ => false)))), (ra 1, .inr (2, [.int (iI (0)), .int (iI (59)), .ref (aa 1)])), (aa 1, .inl (g.2 1, 60, .inl (zaB (fun _ => false)))), (ra 2, .inr (2, [.int (iI (0)), .int (iI (23)), .ref (aa 2)])), (aa 2, .inl (g.2 1, 24, .inl (zaB (fun _ => false)))), (ra 3, .inr (2, [.int (iI (1)), .int (iI (31)), .ref (aa 3)])), (aa 3, .inl (g.2 1, 31, .inl (zaB (fun _ => false)))), (ra 4, .inr (2, [.int (iI (1)), .int (iI (12)), .ref (aa 4)])), (aa 4, .inl (g.2 1, 12, .inl (zaB (fun _ => false)))), (ra 5, .inr (2, [.int (iI (1)), .int (iI (7)), .ref (aa 5)])), (aa 5, .inl (g.2 1, 7, .inl (zaB (fun _ => false)))), (ra 6, .inr (2, [.int (iI (1970)), .int (iI (2299)), .ref (aa 6)])), (aa 6, .inl (g.2 1, 330, .inl (zaB (fun _ => false))))] H := hP
  have hD : va_D A [(pq, .inr (3, [.ref (ra 0), .ref (ra 1), .ref (ra 2), .ref (ra 3), .ref (ra 4), .ref (ra 5), .ref (ra 6), .ref (rl), .int (iI (sub)), .int (iI (od)), .int (zbits (bits))])), (ra 0, .inr (2, [.int (iI (0)), .int (iI (59)), .ref (aa 0)])), (aa 0, .inl (g.2 1, 60, .inl (zaB (fun _ => false)))), (ra 1, .inr (2, [.int (iI (0)), .int (iI (59)), .ref (aa 1)])), (aa 1, .inl (g.2 1, 60, .inl (zaB (fun _ => false)))), (ra 2, .inr (2, [.int (iI (0)), .int (iI (23)), .ref (aa 2)])), (aa 2, .inl (g.2 1, 24, .inl (zaB (fun _ => false)))), (ra 3, .inr (2, [.int (iI (1)), .int (iI (31)), .ref (aa 3)])), (aa 3, .inl (g.2 1, 31, .inl (zaB (fun _ => false)))), (ra 4, .inr (2, [.int (iI (1)), .int (iI (12)), .ref (aa 4)])), (aa 4, .inl (g.2 1, 12, .inl (zaB (fun _ => false)))), (ra 5, .inr (2, [.int (iI (1)), .int (iI (7)), .ref (aa 5)])), (aa 5, .inl (g.2 1, 7, .inl (zaB (fun _ => false)))), (ra 6, .inr (2, [.int (iI (1970)), .int (iI (2299)), .ref (aa 6)])), (aa 6, .inl (g.2 1, 330, .inl (zaB (fun _ => false))))] := hD
  refine lv_iinc (v := iI (7)) (lv' := [(1, .int (iI (7))), (0, .ref (pq))]) hx hb zd_P_clear_16 hl (k := 0) rfl (by decide) (by decide) rfl (fun ls hl => ?_)
  refine lv_goto (tgt := 2) hx hb zd_P_clear_19 (by decide) ?_
  refine lv_iload_n hx hb zd_P_clear_2 rfl (lv_at hl 0 rfl) ?_
  refine zi_bipush hx hb zd_P_clear_3 (by decide) ?_
  refine zi_icmp_ge (tgt := 22) hx hb zd_P_clear_5 (by decide) (by omega) (fun _ => ?_) (fun c5 => absurd c5 (by decide))
  refine lv_aload_n hx hb zd_P_clear_22 rfl (lv_at hl 1 rfl) ?_
  refine va_gets hx hb (hT.1 0 (by decide)).1 hS hown (hw _ zw_1_56) (fun _ h9 => h9) zd_P_clear_23 ?_
  refine zi_iconst hx hb zd_P_clear_26 ?_
  refine zi_iconst hx hb zd_P_clear_27 ?_
  refine zk_W (As := [.ref (en 0), .int (iI (0)), .int (iI (0))]) (b := pq) (own := "CronFinder$Plan") (nL := 2) (rest := []) hx hb hml hown hw (c_P_choose l g pq ra rl sub od (bits) (en 0) (0) (0)) zw_2_42 zw_2_43 zw_2_44 zw_1_2 zw_2_45 (np := 3) (by decide +kernel) rfl (by decide) (fun _ => zN_mv) hK trivial hP hD hS hA [0] rfl (by decide) rfl (va_recv hK hP (ci := 3) (q0 := 0) rfl rfl) hl.1 rfl (Nat.le_of_ble_eq_true rfl) (by decide) zd_P_clear_28 (fun H locs hP hD hS => ?_)
  have hP : va_P g.1 zCl [(pq, .inr (3, [.ref (ra 0), .ref (ra 1), .ref (ra 2), .ref (ra 3), .ref (ra 4), .ref (ra 5), .ref (ra 6), .ref (en 0), .int (iI (0)), .int (iI (0)), .int (zbits (bits))])), (ra 0, .inr (2, [.int (iI (0)), .int (iI (59)), .ref (aa 0)])), (aa 0, .inl (g.2 1, 60, .inl (zaB (fun _ => false)))), (ra 1, .inr (2, [.int (iI (0)), .int (iI (59)), .ref (aa 1)])), (aa 1, .inl (g.2 1, 60, .inl (zaB (fun _ => false)))), (ra 2, .inr (2, [.int (iI (0)), .int (iI (23)), .ref (aa 2)])), (aa 2, .inl (g.2 1, 24, .inl (zaB (fun _ => false)))), (ra 3, .inr (2, [.int (iI (1)), .int (iI (31)), .ref (aa 3)])), (aa 3, .inl (g.2 1, 31, .inl (zaB (fun _ => false)))), (ra 4, .inr (2, [.int (iI (1)), .int (iI (12)), .ref (aa 4)])), (aa 4, .inl (g.2 1, 12, .inl (zaB (fun _ => false)))), (ra 5, .inr (2, [.int (iI (1)), .int (iI (7)), .ref (aa 5)])), (aa 5, .inl (g.2 1, 7, .inl (zaB (fun _ => false)))), (ra 6, .inr (2, [.int (iI (1970)), .int (iI (2299)), .ref (aa 6)])), (aa 6, .inl (g.2 1, 330, .inl (zaB (fun _ => false))))] H := hP
  have hD : va_D A [(pq, .inr (3, [.ref (ra 0), .ref (ra 1), .ref (ra 2), .ref (ra 3), .ref (ra 4), .ref (ra 5), .ref (ra 6), .ref (en 0), .int (iI (0)), .int (iI (0)), .int (zbits (bits))])), (ra 0, .inr (2, [.int (iI (0)), .int (iI (59)), .ref (aa 0)])), (aa 0, .inl (g.2 1, 60, .inl (zaB (fun _ => false)))), (ra 1, .inr (2, [.int (iI (0)), .int (iI (59)), .ref (aa 1)])), (aa 1, .inl (g.2 1, 60, .inl (zaB (fun _ => false)))), (ra 2, .inr (2, [.int (iI (0)), .int (iI (23)), .ref (aa 2)])), (aa 2, .inl (g.2 1, 24, .inl (zaB (fun _ => false)))), (ra 3, .inr (2, [.int (iI (1)), .int (iI (31)), .ref (aa 3)])), (aa 3, .inl (g.2 1, 31, .inl (zaB (fun _ => false)))), (ra 4, .inr (2, [.int (iI (1)), .int (iI (12)), .ref (aa 4)])), (aa 4, .inl (g.2 1, 12, .inl (zaB (fun _ => false)))), (ra 5, .inr (2, [.int (iI (1)), .int (iI (7)), .ref (aa 5)])), (aa 5, .inl (g.2 1, 7, .inl (zaB (fun _ => false)))), (ra 6, .inr (2, [.int (iI (1970)), .int (iI (2299)), .ref (aa 6)])), (aa 6, .inl (g.2 1, 330, .inl (zaB (fun _ => false))))] := hD
  exact zw_vret hx hb hr hlk (ws := [(pq, .inr (3, [.ref (ra 0), .ref (ra 1), .ref (ra 2), .ref (ra 3), .ref (ra 4), .ref (ra 5), .ref (ra 6), .ref (en 0), .int (iI (0)), .int (iI (0)), .int (zbits (bits))])), (ra 0, .inr (2, [.int (iI (0)), .int (iI (59)), .ref (aa 0)])), (aa 0, .inl (g.2 1, 60, .inl (zaB (fun _ => false)))), (ra 1, .inr (2, [.int (iI (0)), .int (iI (59)), .ref (aa 1)])), (aa 1, .inl (g.2 1, 60, .inl (zaB (fun _ => false)))), (ra 2, .inr (2, [.int (iI (0)), .int (iI (23)), .ref (aa 2)])), (aa 2, .inl (g.2 1, 24, .inl (zaB (fun _ => false)))), (ra 3, .inr (2, [.int (iI (1)), .int (iI (31)), .ref (aa 3)])), (aa 3, .inl (g.2 1, 31, .inl (zaB (fun _ => false)))), (ra 4, .inr (2, [.int (iI (1)), .int (iI (12)), .ref (aa 4)])), (aa 4, .inl (g.2 1, 12, .inl (zaB (fun _ => false)))), (ra 5, .inr (2, [.int (iI (1)), .int (iI (7)), .ref (aa 5)])), (aa 5, .inl (g.2 1, 7, .inl (zaB (fun _ => false)))), (ra 6, .inr (2, [.int (iI (1970)), .int (iI (2299)), .ref (aa 6)])), (aa 6, .inl (g.2 1, 330, .inl (zaB (fun _ => false))))]) hP hS zd_P_clear_31
def pSeal (f : Nat → Bool) : Nat → Bool := fun i => decide (i < 31) && oHas f 1 31 ((i : Int) + 1)
theorem pSeal_nx {f ff : Nat → Bool} {dd : Int} (h : ∀ i : Nat, i < 32 → ff i = (decide ((i : Int) + 1 < dd) && oHas f 1 31 ((i : Int) + 1))) (hq : oHas f 1 31 dd = true) : ∀ i : Nat, i < 32 → (ff i || decide ((i : Int) = dd - 1)) = (decide ((i : Int) + 1 < dd + 1) && oHas f 1 31 ((i : Int) + 1)) := by
  intro i hi
  rw [h i hi]
  by_cases e : (i : Int) + 1 = dd
  · rw [decide_eq_false (by omega : ¬ (i : Int) + 1 < dd), decide_eq_true (by omega : (i : Int) = dd - 1), decide_eq_true (by omega : (i : Int) + 1 < dd + 1), e, hq]; rfl
  · rw [decide_eq_false (by omega : ¬ (i : Int) = dd - 1), Bool.or_false]
    congr 2
    simp only [eq_iff_iff]
    omega
theorem pSeal_no {f ff : Nat → Bool} {dd : Int} (h : ∀ i : Nat, i < 32 → ff i = (decide ((i : Int) + 1 < dd) && oHas f 1 31 ((i : Int) + 1))) (hq : oHas f 1 31 dd = false) : ∀ i : Nat, i < 32 → ff i = (decide ((i : Int) + 1 < dd + 1) && oHas f 1 31 ((i : Int) + 1)) := by
  intro i hi
  rw [h i hi]
  by_cases e : (i : Int) + 1 = dd
  · rw [e, hq, Bool.and_false, Bool.and_false]
  · congr 2
    simp only [eq_iff_iff]
    omega
set_option maxHeartbeats 4000000 in
set_option maxRecDepth 100000 in
theorem c_P_seal (l : Launch) (g : zGl) (pq : Nat) (ra aa : Nat → Nat) (al : Nat → Nat → Bool) (rl : Nat) (sub od : Int) (bits : Nat → Bool) : zWi l zy_P_seal zc_P_seal 2 none ({ frames := 1, cells := 0, slots := 0, locals := 21 }) g (fun _ => zN) [.ref (pq)] [(pq, .inr (3, [.ref (ra 0), .ref (ra 1), .ref (ra 2), .ref (ra 3), .ref (ra 4), .ref (ra 5), .ref (ra 6), .ref (rl), .int (iI (sub)), .int (iI (od)), .int (zbits (bits))])), (ra 3, .inr (2, [.int (iI (1)), .int (iI (31)), .ref (aa 3)])), (aa 3, .inl (g.2 1, 31, .inl (zaB (al 3))))] (none) [(pq, .inr (3, [.ref (ra 0), .ref (ra 1), .ref (ra 2), .ref (ra 3), .ref (ra 4), .ref (ra 5), .ref (ra 6), .ref (rl), .int (iI (sub)), .int (iI (od)), .int (zbits (pSeal (al 3)))])), (ra 3, .inr (2, [.int (iI (1)), .int (iI (31)), .ref (aa 3)])), (aa 3, .inl (g.2 1, 31, .inl (zaB (al 3))))] 0 0 := by
  refine zw_open (by decide +kernel) (Nat.le_of_ble_eq_true rfl) ?_
  intro p e s m below meth c ls A hx hb hml hr hlk hown hin hw hK hT hP hD hS hA hl
  have hown : s.vm.findClass "CronFinder$Plan" = some m.cls := hown
  have hl : lv_has ls 2 [(0, .ref (pq))] := hl
  refine lv_aload_n hx hb zd_P_seal_0 rfl (lv_at hl 0 rfl) ?_
  refine zi_iconst hx hb zd_P_seal_1 ?_
  refine zw_as _ zbits_0 ?_
  refine va_put (D := g.1) (ci := 3) (v := .int (zbits (fun _ => false))) (ty := .int) (C := zR_P) (T := zT_P) (N := 11) hx hb hw zin_P zt_P zto_P zn_P hown hK hP hD hS 0 rfl rfl 10 (by decide) (hw _ zw_1_68) (fun _ h9 => h9) rfl  (by decide +kernel) rfl rfl (Nat.le_of_ble_eq_true rfl) zd_P_seal_2 (fun H locs hP hD hS => ?_)
  have hP : va_P g.1 zCl [(pq, .inr (3, [.ref (ra 0), .ref (ra 1), .ref (ra 2), .ref (ra 3), .ref (ra 4), .ref (ra 5), .ref (ra 6), .ref (rl), .int (iI (sub)), .int (iI (od)), .int (zbits (fun _ => false))])), (ra 3, .inr (2, [.int (iI (1)), .int (iI (31)), .ref (aa 3)])), (aa 3, .inl (g.2 1, 31, .inl (zaB (al 3))))] H := hP
  have hD : va_D A [(pq, .inr (3, [.ref (ra 0), .ref (ra 1), .ref (ra 2), .ref (ra 3), .ref (ra 4), .ref (ra 5), .ref (ra 6), .ref (rl), .int (iI (sub)), .int (iI (od)), .int (zbits (fun _ => false))])), (ra 3, .inr (2, [.int (iI (1)), .int (iI (31)), .ref (aa 3)])), (aa 3, .inl (g.2 1, 31, .inl (zaB (al 3))))] := hD
  refine zi_iconst hx hb zd_P_seal_5 ?_
  refine lv_istore_n (lv' := [(1, .int (iI (1))), (0, .ref (pq))]) hx hb zd_P_seal_6 rfl hl (by decide) rfl (fun ls hl => ?_)
  have loop : ∀ (n : Nat) (dd : Int) (ff : Nat → Bool) (H : Heap) (locs : List Loc) (ls : Array Slot), (1 ≤ dd ∧ dd ≤ 32) → (∀ i : Nat, i < 32 → ff i = (decide ((i : Int) + 1 < dd) && oHas (al 3) 1 31 ((i : Int) + 1))) → ((32 - dd).toNat < n) → va_P g.1 zCl [(pq, .inr (3, [.ref (ra 0), .ref (ra 1), .ref (ra 2), .ref (ra 3), .ref (ra 4), .ref (ra 5), .ref (ra 6), .ref (rl), .int (iI (sub)), .int (iI (od)), .int (zbits (ff))])), (ra 3, .inr (2, [.int (iI (1)), .int (iI (31)), .ref (aa 3)])), (aa 3, .inl (g.2 1, 31, .inl (zaB (al 3))))] H → va_D A [(pq, .inr (3, [.ref (ra 0), .ref (ra 1), .ref (ra 2), .ref (ra 3), .ref (ra 4), .ref (ra 5), .ref (ra 6), .ref (rl), .int (iI (sub)), .int (iI (od)), .int (zbits (ff))])), (ra 3, .inr (2, [.int (iI (1)), .int (iI (31)), .ref (aa 3)])), (aa 3, .inl (g.2 1, 31, .inl (zaB (al 3))))] → va_S A s.heap H locs → lv_has ls 2 [(1, .int (iI (dd))), (0, .ref (pq))] → W p l e ({ frames := 1, cells := 0, slots := 0, locals := 21 }) s m [.ref (pq)].toArray below meth c H locs 0 0 (MQ below (zWr g.1 zCl (none) [(pq, .inr (3, [.ref (ra 0), .ref (ra 1), .ref (ra 2), .ref (ra 3), .ref (ra 4), .ref (ra 5), .ref (ra 6), .ref (rl), .int (iI (sub)), .int (iI (od)), .int (zbits (pSeal (al 3)))])), (ra 3, .inr (2, [.int (iI (1)), .int (iI (31)), .ref (aa 3)])), (aa 3, .inl (g.2 1, 31, .inl (zaB (al 3))))] A) [.ref (pq)].toArray s 0 0 A) (F0 m 7 ls []) := by
    intro n
    induction n with
    | zero =>
      intro dd ff H locs ls h1 h3 h2 hP hD hS hl
      exact absurd h2 (by omega)
    | succ n ih =>
      intro dd ff H locs ls h1 h3 h2 hP hD hS hl
      refine lv_iload_n hx hb zd_P_seal_7 rfl (lv_at hl 0 rfl) ?_
      refine zi_bipush hx hb zd_P_seal_8 (by decide) ?_
      refine zi_icmp_gt (tgt := 44) hx hb zd_P_seal_10 (by decide) (by omega) (fun c10 => ?_) (fun c10 => ?_)
      · have hff : zbits ff = zbits (pSeal (al 3)) := zbits_fe fun i hi => by rw [h3 i hi]; unfold pSeal; congr 2; simp only [eq_iff_iff]; omega
        rw [hff] at hP
        exact zw_vret hx hb hr hlk (ws := [(pq, .inr (3, [.ref (ra 0), .ref (ra 1), .ref (ra 2), .ref (ra 3), .ref (ra 4), .ref (ra 5), .ref (ra 6), .ref (rl), .int (iI (sub)), .int (iI (od)), .int (zbits (pSeal (al 3)))])), (ra 3, .inr (2, [.int (iI (1)), .int (iI (31)), .ref (aa 3)])), (aa 3, .inl (g.2 1, 31, .inl (zaB (al 3))))]) hP hS zd_P_seal_44
      · refine lv_aload_n hx hb zd_P_seal_13 rfl (lv_at hl 1 rfl) ?_
        refine va_get (D := g.1) (ci := 3) (v := .ref (ra 3)) (C := zR_P) (T := zT_P) (N := 11) hx hb hw zin_P hown hK hP 0 rfl rfl 3 (by decide) (hw _ zw_1_61) (fun _ h9 => h9) rfl zd_P_seal_14 ?_
        refine lv_iload_n hx hb zd_P_seal_17 rfl (lv_at hl 0 rfl) ?_
        refine zk_V (As := [.int (iI (dd))]) (b := ra 3) (own := "CronFinder$Plan") (nL := 2) (rest := []) hx hb hml hown hw (c_O_has l g (ra 3) (aa 3) 1 31 31 (al 3) (by decide) (dd) (by omega)) zw_2_188 zw_2_189 zw_2_190 zw_1_3 zw_2_191 (np := 1) (by decide +kernel) rfl (by decide) zN_mv hK trivial (hP.sub (ws' := [(ra 3, .inr (2, [.int (iI (1)), .int (iI (31)), .ref (aa 3)])), (aa 3, .inl (g.2 1, 31, .inl (zaB (al 3))))]) [1, 2] rfl) (va_recv hK hP (ci := 2) (q0 := 1) rfl rfl) hl.1 rfl (Nat.le_of_ble_eq_true rfl) (by decide) zd_P_seal_18 ?_
        refine zb_if_eq (tgt := 38) hx hb zd_P_seal_21 (by decide) (fun c21 => ?_) (fun c21 => ?_)
        · refine lv_iinc (v := iI (dd + 1)) (lv' := [(1, .int (iI (dd + 1))), (0, .ref (pq))]) hx hb zd_P_seal_38 hl (k := 0) rfl (iI_add _ _) (by decide) rfl (fun ls hl => ?_)
          refine lv_goto (tgt := 7) hx hb zd_P_seal_41 (by decide) ?_
          exact ih (dd + 1) _ H locs ls (by omega) (pSeal_no h3 c21) (by omega) hP hD hS (lv_sub hl [0, 1] rfl)
        · refine lv_aload_n hx hb zd_P_seal_24 rfl (lv_at hl 1 rfl) ?_
          refine lv_dup hx hb zd_P_seal_25 rfl ?_
          refine va_get (D := g.1) (ci := 3) (v := .int (zbits (ff))) (C := zR_P) (T := zT_P) (N := 11) hx hb hw zin_P hown hK hP 0 rfl rfl 10 (by decide) (hw _ zw_1_68) (fun _ h9 => h9) rfl zd_P_seal_26 ?_
          refine zi_iconst hx hb zd_P_seal_29 ?_
          refine lv_iload_n hx hb zd_P_seal_30 rfl (lv_at hl 0 rfl) ?_
          refine zi_iconst hx hb zd_P_seal_31 ?_
          refine zi_isub hx hb zd_P_seal_32 ?_
          refine lv_ishl hx hb zd_P_seal_33 ?_
          refine zw_as _ (zbits_shl (by omega)) ?_
          refine lv_ior hx hb zd_P_seal_34 ?_
          refine zw_as _ (zbits_or _ _) ?_
          refine va_put (D := g.1) (ci := 3) (v := .int (zbits (fun i => ff i || (fun i => decide ((i : Int) = dd - 1)) i))) (ty := .int) (C := zR_P) (T := zT_P) (N := 11) hx hb hw zin_P zt_P zto_P zn_P hown hK hP hD hS 0 rfl rfl 10 (by decide) (hw _ zw_1_68) (fun _ h9 => h9) rfl  (by decide +kernel) rfl rfl (Nat.le_of_ble_eq_true rfl) zd_P_seal_35 (fun H locs hP hD hS => ?_)
          have hP : va_P g.1 zCl [(pq, .inr (3, [.ref (ra 0), .ref (ra 1), .ref (ra 2), .ref (ra 3), .ref (ra 4), .ref (ra 5), .ref (ra 6), .ref (rl), .int (iI (sub)), .int (iI (od)), .int (zbits (fun i => ff i || (fun i => decide ((i : Int) = dd - 1)) i))])), (ra 3, .inr (2, [.int (iI (1)), .int (iI (31)), .ref (aa 3)])), (aa 3, .inl (g.2 1, 31, .inl (zaB (al 3))))] H := hP
          have hD : va_D A [(pq, .inr (3, [.ref (ra 0), .ref (ra 1), .ref (ra 2), .ref (ra 3), .ref (ra 4), .ref (ra 5), .ref (ra 6), .ref (rl), .int (iI (sub)), .int (iI (od)), .int (zbits (fun i => ff i || (fun i => decide ((i : Int) = dd - 1)) i))])), (ra 3, .inr (2, [.int (iI (1)), .int (iI (31)), .ref (aa 3)])), (aa 3, .inl (g.2 1, 31, .inl (zaB (al 3))))] := hD
          refine lv_iinc (v := iI (dd + 1)) (lv' := [(1, .int (iI (dd + 1))), (0, .ref (pq))]) hx hb zd_P_seal_38 hl (k := 0) rfl (iI_add _ _) (by decide) rfl (fun ls hl => ?_)
          refine lv_goto (tgt := 7) hx hb zd_P_seal_41 (by decide) ?_
          exact ih (dd + 1) _ H locs ls (by omega) (pSeal_nx h3 c21) (by omega) hP hD hS (lv_sub hl [0, 1] rfl)
  exact loop 40 1 (fun _ => false) H locs ls (by omega) (fun i hi => by rw [decide_eq_false (by omega), Bool.false_and]) (by omega) hP hD hS (lv_sub hl [0, 1] rfl)
