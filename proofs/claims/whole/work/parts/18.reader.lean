/-! Reader: signs, blanks, numbers, names -/
theorem zd_R_sees_0 : decode zc_R_sees 0 = .ok (.aload_n 0, 1) := by decide +kernel
theorem zd_R_sees_1 : decode zc_R_sees 1 = .ok (.getfield 23, 3) := by decide +kernel
theorem zd_R_sees_4 : decode zc_R_sees 4 = .ok (.aload_n 0, 1) := by decide +kernel
theorem zd_R_sees_5 : decode zc_R_sees 5 = .ok (.getfield 15, 3) := by decide +kernel
theorem zd_R_sees_8 : decode zc_R_sees 8 = .ok (.if_icmp .ge 20, 3) := by decide +kernel
theorem zd_R_sees_11 : decode zc_R_sees 11 = .ok (.aload_n 0, 1) := by decide +kernel
theorem zd_R_sees_12 : decode zc_R_sees 12 = .ok (.getfield 9, 3) := by decide +kernel
theorem zd_R_sees_15 : decode zc_R_sees 15 = .ok (.aload_n 0, 1) := by decide +kernel
theorem zd_R_sees_16 : decode zc_R_sees 16 = .ok (.getfield 23, 3) := by decide +kernel
theorem zd_R_sees_19 : decode zc_R_sees 19 = .ok (.caload, 1) := by decide +kernel
theorem zd_R_sees_20 : decode zc_R_sees 20 = .ok (.iload_n 1, 1) := by decide +kernel
theorem zd_R_sees_21 : decode zc_R_sees 21 = .ok (.if_icmp .ne 7, 3) := by decide +kernel
theorem zd_R_sees_24 : decode zc_R_sees 24 = .ok (.iconst 1, 1) := by decide +kernel
theorem zd_R_sees_25 : decode zc_R_sees 25 = .ok (.goto 4, 3) := by decide +kernel
theorem zd_R_sees_28 : decode zc_R_sees 28 = .ok (.iconst 0, 1) := by decide +kernel
theorem zd_R_sees_29 : decode zc_R_sees 29 = .ok (.ireturn, 1) := by decide +kernel
theorem zd_R_accept_0 : decode zc_R_accept 0 = .ok (.aload_n 0, 1) := by decide +kernel
theorem zd_R_accept_1 : decode zc_R_accept 1 = .ok (.iload_n 1, 1) := by decide +kernel
theorem zd_R_accept_2 : decode zc_R_accept 2 = .ok (.invokevirtual 120, 3) := by decide +kernel
theorem zd_R_accept_5 : decode zc_R_accept 5 = .ok (.ifCond .ne 5, 3) := by decide +kernel
theorem zd_R_accept_8 : decode zc_R_accept 8 = .ok (.iconst 0, 1) := by decide +kernel
theorem zd_R_accept_9 : decode zc_R_accept 9 = .ok (.ireturn, 1) := by decide +kernel
theorem zd_R_accept_10 : decode zc_R_accept 10 = .ok (.aload_n 0, 1) := by decide +kernel
theorem zd_R_accept_11 : decode zc_R_accept 11 = .ok (.dup, 1) := by decide +kernel
theorem zd_R_accept_12 : decode zc_R_accept 12 = .ok (.getfield 23, 3) := by decide +kernel
theorem zd_R_accept_15 : decode zc_R_accept 15 = .ok (.iconst 1, 1) := by decide +kernel
theorem zd_R_accept_16 : decode zc_R_accept 16 = .ok (.iadd, 1) := by decide +kernel
theorem zd_R_accept_17 : decode zc_R_accept 17 = .ok (.putfield 23, 3) := by decide +kernel
theorem zd_R_accept_20 : decode zc_R_accept 20 = .ok (.iconst 1, 1) := by decide +kernel
theorem zd_R_accept_21 : decode zc_R_accept 21 = .ok (.ireturn, 1) := by decide +kernel
theorem zd_R_readBlanks_0 : decode zc_R_readBlanks 0 = .ok (.aload_n 0, 1) := by decide +kernel
theorem zd_R_readBlanks_1 : decode zc_R_readBlanks 1 = .ok (.getfield 23, 3) := by decide +kernel
theorem zd_R_readBlanks_4 : decode zc_R_readBlanks 4 = .ok (.istore_n 1, 1) := by decide +kernel
theorem zd_R_readBlanks_5 : decode zc_R_readBlanks 5 = .ok (.aload_n 0, 1) := by decide +kernel
theorem zd_R_readBlanks_6 : decode zc_R_readBlanks 6 = .ok (.getfield 23, 3) := by decide +kernel
theorem zd_R_readBlanks_9 : decode zc_R_readBlanks 9 = .ok (.aload_n 0, 1) := by decide +kernel
theorem zd_R_readBlanks_10 : decode zc_R_readBlanks 10 = .ok (.getfield 15, 3) := by decide +kernel
theorem zd_R_readBlanks_13 : decode zc_R_readBlanks 13 = .ok (.if_icmp .ge 30, 3) := by decide +kernel
theorem zd_R_readBlanks_16 : decode zc_R_readBlanks 16 = .ok (.aload_n 0, 1) := by decide +kernel
theorem zd_R_readBlanks_17 : decode zc_R_readBlanks 17 = .ok (.getfield 9, 3) := by decide +kernel
theorem zd_R_readBlanks_20 : decode zc_R_readBlanks 20 = .ok (.aload_n 0, 1) := by decide +kernel
theorem zd_R_readBlanks_21 : decode zc_R_readBlanks 21 = .ok (.getfield 23, 3) := by decide +kernel
theorem zd_R_readBlanks_24 : decode zc_R_readBlanks 24 = .ok (.caload, 1) := by decide +kernel
theorem zd_R_readBlanks_25 : decode zc_R_readBlanks 25 = .ok (.bipush 32, 2) := by decide +kernel
theorem zd_R_readBlanks_27 : decode zc_R_readBlanks 27 = .ok (.if_icmp .ne 16, 3) := by decide +kernel
theorem zd_R_readBlanks_30 : decode zc_R_readBlanks 30 = .ok (.aload_n 0, 1) := by decide +kernel
theorem zd_R_readBlanks_31 : decode zc_R_readBlanks 31 = .ok (.dup, 1) := by decide +kernel
theorem zd_R_readBlanks_32 : decode zc_R_readBlanks 32 = .ok (.getfield 23, 3) := by decide +kernel
theorem zd_R_readBlanks_35 : decode zc_R_readBlanks 35 = .ok (.iconst 1, 1) := by decide +kernel
theorem zd_R_readBlanks_36 : decode zc_R_readBlanks 36 = .ok (.iadd, 1) := by decide +kernel
theorem zd_R_readBlanks_37 : decode zc_R_readBlanks 37 = .ok (.putfield 23, 3) := by decide +kernel
theorem zd_R_readBlanks_40 : decode zc_R_readBlanks 40 = .ok (.goto (-35), 3) := by decide +kernel
theorem zd_R_readBlanks_43 : decode zc_R_readBlanks 43 = .ok (.aload_n 0, 1) := by decide +kernel
theorem zd_R_readBlanks_44 : decode zc_R_readBlanks 44 = .ok (.getfield 23, 3) := by decide +kernel
theorem zd_R_readBlanks_47 : decode zc_R_readBlanks 47 = .ok (.iload_n 1, 1) := by decide +kernel
theorem zd_R_readBlanks_48 : decode zc_R_readBlanks 48 = .ok (.if_icmp .le 7, 3) := by decide +kernel
theorem zd_R_readBlanks_51 : decode zc_R_readBlanks 51 = .ok (.iconst 1, 1) := by decide +kernel
theorem zd_R_readBlanks_52 : decode zc_R_readBlanks 52 = .ok (.goto 4, 3) := by decide +kernel
theorem zd_R_readBlanks_55 : decode zc_R_readBlanks 55 = .ok (.iconst 0, 1) := by decide +kernel
theorem zd_R_readBlanks_56 : decode zc_R_readBlanks 56 = .ok (.ireturn, 1) := by decide +kernel
theorem zd_R_readNumber_0 : decode zc_R_readNumber 0 = .ok (.aload_n 0, 1) := by decide +kernel
theorem zd_R_readNumber_1 : decode zc_R_readNumber 1 = .ok (.getfield 23, 3) := by decide +kernel
theorem zd_R_readNumber_4 : decode zc_R_readNumber 4 = .ok (.istore_n 3, 1) := by decide +kernel
theorem zd_R_readNumber_5 : decode zc_R_readNumber 5 = .ok (.iconst 0, 1) := by decide +kernel
theorem zd_R_readNumber_6 : decode zc_R_readNumber 6 = .ok (.istore 4, 2) := by decide +kernel
theorem zd_R_readNumber_8 : decode zc_R_readNumber 8 = .ok (.aload_n 0, 1) := by decide +kernel
theorem zd_R_readNumber_9 : decode zc_R_readNumber 9 = .ok (.getfield 23, 3) := by decide +kernel
theorem zd_R_readNumber_12 : decode zc_R_readNumber 12 = .ok (.aload_n 0, 1) := by decide +kernel
theorem zd_R_readNumber_13 : decode zc_R_readNumber 13 = .ok (.getfield 15, 3) := by decide +kernel
theorem zd_R_readNumber_16 : decode zc_R_readNumber 16 = .ok (.if_icmp .ge 83, 3) := by decide +kernel
theorem zd_R_readNumber_19 : decode zc_R_readNumber 19 = .ok (.aload_n 0, 1) := by decide +kernel
theorem zd_R_readNumber_20 : decode zc_R_readNumber 20 = .ok (.getfield 9, 3) := by decide +kernel
theorem zd_R_readNumber_23 : decode zc_R_readNumber 23 = .ok (.aload_n 0, 1) := by decide +kernel
theorem zd_R_readNumber_24 : decode zc_R_readNumber 24 = .ok (.getfield 23, 3) := by decide +kernel
theorem zd_R_readNumber_27 : decode zc_R_readNumber 27 = .ok (.caload, 1) := by decide +kernel
theorem zd_R_readNumber_28 : decode zc_R_readNumber 28 = .ok (.bipush 48, 2) := by decide +kernel
theorem zd_R_readNumber_30 : decode zc_R_readNumber 30 = .ok (.if_icmp .lt 69, 3) := by decide +kernel
theorem zd_R_readNumber_33 : decode zc_R_readNumber 33 = .ok (.aload_n 0, 1) := by decide +kernel
theorem zd_R_readNumber_34 : decode zc_R_readNumber 34 = .ok (.getfield 9, 3) := by decide +kernel
theorem zd_R_readNumber_37 : decode zc_R_readNumber 37 = .ok (.aload_n 0, 1) := by decide +kernel
theorem zd_R_readNumber_38 : decode zc_R_readNumber 38 = .ok (.getfield 23, 3) := by decide +kernel
theorem zd_R_readNumber_41 : decode zc_R_readNumber 41 = .ok (.caload, 1) := by decide +kernel
theorem zd_R_readNumber_42 : decode zc_R_readNumber 42 = .ok (.bipush 57, 2) := by decide +kernel
theorem zd_R_readNumber_44 : decode zc_R_readNumber 44 = .ok (.if_icmp .gt 55, 3) := by decide +kernel
theorem zd_R_readNumber_47 : decode zc_R_readNumber 47 = .ok (.aload_n 0, 1) := by decide +kernel
theorem zd_R_readNumber_48 : decode zc_R_readNumber 48 = .ok (.getfield 23, 3) := by decide +kernel
theorem zd_R_readNumber_51 : decode zc_R_readNumber 51 = .ok (.iload_n 3, 1) := by decide +kernel
theorem zd_R_readNumber_52 : decode zc_R_readNumber 52 = .ok (.if_icmp .eq 8, 3) := by decide +kernel
theorem zd_R_readNumber_55 : decode zc_R_readNumber 55 = .ok (.iload 4, 2) := by decide +kernel
theorem zd_R_readNumber_57 : decode zc_R_readNumber 57 = .ok (.ifCond .le 42, 3) := by decide +kernel
theorem zd_R_readNumber_60 : decode zc_R_readNumber 60 = .ok (.iload 4, 2) := by decide +kernel
theorem zd_R_readNumber_62 : decode zc_R_readNumber 62 = .ok (.bipush 10, 2) := by decide +kernel
theorem zd_R_readNumber_64 : decode zc_R_readNumber 64 = .ok (.imul, 1) := by decide +kernel
theorem zd_R_readNumber_65 : decode zc_R_readNumber 65 = .ok (.aload_n 0, 1) := by decide +kernel
theorem zd_R_readNumber_66 : decode zc_R_readNumber 66 = .ok (.getfield 9, 3) := by decide +kernel
theorem zd_R_readNumber_69 : decode zc_R_readNumber 69 = .ok (.aload_n 0, 1) := by decide +kernel
theorem zd_R_readNumber_70 : decode zc_R_readNumber 70 = .ok (.getfield 23, 3) := by decide +kernel
theorem zd_R_readNumber_73 : decode zc_R_readNumber 73 = .ok (.caload, 1) := by decide +kernel
theorem zd_R_readNumber_74 : decode zc_R_readNumber 74 = .ok (.iadd, 1) := by decide +kernel
theorem zd_R_readNumber_75 : decode zc_R_readNumber 75 = .ok (.bipush 48, 2) := by decide +kernel
theorem zd_R_readNumber_77 : decode zc_R_readNumber 77 = .ok (.isub, 1) := by decide +kernel
theorem zd_R_readNumber_78 : decode zc_R_readNumber 78 = .ok (.sipush 10000, 3) := by decide +kernel
theorem zd_R_readNumber_81 : decode zc_R_readNumber 81 = .ok (.invokestatic 139, 3) := by decide +kernel
theorem zd_R_readNumber_84 : decode zc_R_readNumber 84 = .ok (.istore 4, 2) := by decide +kernel
theorem zd_R_readNumber_86 : decode zc_R_readNumber 86 = .ok (.aload_n 0, 1) := by decide +kernel
theorem zd_R_readNumber_87 : decode zc_R_readNumber 87 = .ok (.dup, 1) := by decide +kernel
theorem zd_R_readNumber_88 : decode zc_R_readNumber 88 = .ok (.getfield 23, 3) := by decide +kernel
theorem zd_R_readNumber_91 : decode zc_R_readNumber 91 = .ok (.iconst 1, 1) := by decide +kernel
theorem zd_R_readNumber_92 : decode zc_R_readNumber 92 = .ok (.iadd, 1) := by decide +kernel
theorem zd_R_readNumber_93 : decode zc_R_readNumber 93 = .ok (.putfield 23, 3) := by decide +kernel
theorem zd_R_readNumber_96 : decode zc_R_readNumber 96 = .ok (.goto (-88), 3) := by decide +kernel
theorem zd_R_readNumber_99 : decode zc_R_readNumber 99 = .ok (.aload_n 0, 1) := by decide +kernel
theorem zd_R_readNumber_100 : decode zc_R_readNumber 100 = .ok (.getfield 23, 3) := by decide +kernel
theorem zd_R_readNumber_103 : decode zc_R_readNumber 103 = .ok (.iload_n 3, 1) := by decide +kernel
theorem zd_R_readNumber_104 : decode zc_R_readNumber 104 = .ok (.if_icmp .eq 15, 3) := by decide +kernel
theorem zd_R_readNumber_107 : decode zc_R_readNumber 107 = .ok (.iload 4, 2) := by decide +kernel
theorem zd_R_readNumber_109 : decode zc_R_readNumber 109 = .ok (.iload_n 1, 1) := by decide +kernel
theorem zd_R_readNumber_110 : decode zc_R_readNumber 110 = .ok (.if_icmp .lt 9, 3) := by decide +kernel
theorem zd_R_readNumber_113 : decode zc_R_readNumber 113 = .ok (.iload 4, 2) := by decide +kernel
theorem zd_R_readNumber_115 : decode zc_R_readNumber 115 = .ok (.iload_n 2, 1) := by decide +kernel
theorem zd_R_readNumber_116 : decode zc_R_readNumber 116 = .ok (.if_icmp .le 10, 3) := by decide +kernel
theorem zd_R_readNumber_119 : decode zc_R_readNumber 119 = .ok (.aload_n 0, 1) := by decide +kernel
theorem zd_R_readNumber_120 : decode zc_R_readNumber 120 = .ok (.iload_n 3, 1) := by decide +kernel
theorem zd_R_readNumber_121 : decode zc_R_readNumber 121 = .ok (.putfield 23, 3) := by decide +kernel
theorem zd_R_readNumber_124 : decode zc_R_readNumber 124 = .ok (.iconst 0, 1) := by decide +kernel
theorem zd_R_readNumber_125 : decode zc_R_readNumber 125 = .ok (.ireturn, 1) := by decide +kernel
theorem zd_R_readNumber_126 : decode zc_R_readNumber 126 = .ok (.aload_n 0, 1) := by decide +kernel
theorem zd_R_readNumber_127 : decode zc_R_readNumber 127 = .ok (.iload 4, 2) := by decide +kernel
theorem zd_R_readNumber_129 : decode zc_R_readNumber 129 = .ok (.putfield 26, 3) := by decide +kernel
theorem zd_R_readNumber_132 : decode zc_R_readNumber 132 = .ok (.iconst 1, 1) := by decide +kernel
theorem zd_R_readNumber_133 : decode zc_R_readNumber 133 = .ok (.ireturn, 1) := by decide +kernel
theorem zd_R_readName_0 : decode zc_R_readName 0 = .ok (.aload_n 0, 1) := by decide +kernel
theorem zd_R_readName_1 : decode zc_R_readName 1 = .ok (.getfield 15, 3) := by decide +kernel
theorem zd_R_readName_4 : decode zc_R_readName 4 = .ok (.aload_n 0, 1) := by decide +kernel
theorem zd_R_readName_5 : decode zc_R_readName 5 = .ok (.getfield 23, 3) := by decide +kernel
theorem zd_R_readName_8 : decode zc_R_readName 8 = .ok (.isub, 1) := by decide +kernel
theorem zd_R_readName_9 : decode zc_R_readName 9 = .ok (.iconst 3, 1) := by decide +kernel
theorem zd_R_readName_10 : decode zc_R_readName 10 = .ok (.if_icmp .ge 5, 3) := by decide +kernel
theorem zd_R_readName_13 : decode zc_R_readName 13 = .ok (.iconst 0, 1) := by decide +kernel
theorem zd_R_readName_14 : decode zc_R_readName 14 = .ok (.ireturn, 1) := by decide +kernel
theorem zd_R_readName_15 : decode zc_R_readName 15 = .ok (.iconst 0, 1) := by decide +kernel
theorem zd_R_readName_16 : decode zc_R_readName 16 = .ok (.istore_n 2, 1) := by decide +kernel
theorem zd_R_readName_17 : decode zc_R_readName 17 = .ok (.iload_n 2, 1) := by decide +kernel
theorem zd_R_readName_18 : decode zc_R_readName 18 = .ok (.iconst 3, 1) := by decide +kernel
theorem zd_R_readName_19 : decode zc_R_readName 19 = .ok (.iadd, 1) := by decide +kernel
theorem zd_R_readName_20 : decode zc_R_readName 20 = .ok (.aload_n 1, 1) := by decide +kernel
theorem zd_R_readName_21 : decode zc_R_readName 21 = .ok (.invokevirtual 131, 3) := by decide +kernel
theorem zd_R_readName_24 : decode zc_R_readName 24 = .ok (.if_icmp .gt 89, 3) := by decide +kernel
theorem zd_R_readName_27 : decode zc_R_readName 27 = .ok (.aload_n 0, 1) := by decide +kernel
theorem zd_R_readName_28 : decode zc_R_readName 28 = .ok (.getfield 9, 3) := by decide +kernel
theorem zd_R_readName_31 : decode zc_R_readName 31 = .ok (.aload_n 0, 1) := by decide +kernel
theorem zd_R_readName_32 : decode zc_R_readName 32 = .ok (.getfield 23, 3) := by decide +kernel
theorem zd_R_readName_35 : decode zc_R_readName 35 = .ok (.caload, 1) := by decide +kernel
theorem zd_R_readName_36 : decode zc_R_readName 36 = .ok (.aload_n 1, 1) := by decide +kernel
theorem zd_R_readName_37 : decode zc_R_readName 37 = .ok (.iload_n 2, 1) := by decide +kernel
theorem zd_R_readName_38 : decode zc_R_readName 38 = .ok (.invokevirtual 135, 3) := by decide +kernel
theorem zd_R_readName_41 : decode zc_R_readName 41 = .ok (.if_icmp .ne 66, 3) := by decide +kernel
theorem zd_R_readName_44 : decode zc_R_readName 44 = .ok (.aload_n 0, 1) := by decide +kernel
theorem zd_R_readName_45 : decode zc_R_readName 45 = .ok (.getfield 9, 3) := by decide +kernel
theorem zd_R_readName_48 : decode zc_R_readName 48 = .ok (.aload_n 0, 1) := by decide +kernel
theorem zd_R_readName_49 : decode zc_R_readName 49 = .ok (.getfield 23, 3) := by decide +kernel
theorem zd_R_readName_52 : decode zc_R_readName 52 = .ok (.iconst 1, 1) := by decide +kernel
theorem zd_R_readName_53 : decode zc_R_readName 53 = .ok (.iadd, 1) := by decide +kernel
theorem zd_R_readName_54 : decode zc_R_readName 54 = .ok (.caload, 1) := by decide +kernel
theorem zd_R_readName_55 : decode zc_R_readName 55 = .ok (.aload_n 1, 1) := by decide +kernel
theorem zd_R_readName_56 : decode zc_R_readName 56 = .ok (.iload_n 2, 1) := by decide +kernel
theorem zd_R_readName_57 : decode zc_R_readName 57 = .ok (.iconst 1, 1) := by decide +kernel
theorem zd_R_readName_58 : decode zc_R_readName 58 = .ok (.iadd, 1) := by decide +kernel
theorem zd_R_readName_59 : decode zc_R_readName 59 = .ok (.invokevirtual 135, 3) := by decide +kernel
theorem zd_R_readName_62 : decode zc_R_readName 62 = .ok (.if_icmp .ne 45, 3) := by decide +kernel
theorem zd_R_readName_65 : decode zc_R_readName 65 = .ok (.aload_n 0, 1) := by decide +kernel
theorem zd_R_readName_66 : decode zc_R_readName 66 = .ok (.getfield 9, 3) := by decide +kernel
theorem zd_R_readName_69 : decode zc_R_readName 69 = .ok (.aload_n 0, 1) := by decide +kernel
theorem zd_R_readName_70 : decode zc_R_readName 70 = .ok (.getfield 23, 3) := by decide +kernel
theorem zd_R_readName_73 : decode zc_R_readName 73 = .ok (.iconst 2, 1) := by decide +kernel
theorem zd_R_readName_74 : decode zc_R_readName 74 = .ok (.iadd, 1) := by decide +kernel
theorem zd_R_readName_75 : decode zc_R_readName 75 = .ok (.caload, 1) := by decide +kernel
theorem zd_R_readName_76 : decode zc_R_readName 76 = .ok (.aload_n 1, 1) := by decide +kernel
theorem zd_R_readName_77 : decode zc_R_readName 77 = .ok (.iload_n 2, 1) := by decide +kernel
theorem zd_R_readName_78 : decode zc_R_readName 78 = .ok (.iconst 2, 1) := by decide +kernel
theorem zd_R_readName_79 : decode zc_R_readName 79 = .ok (.iadd, 1) := by decide +kernel
theorem zd_R_readName_80 : decode zc_R_readName 80 = .ok (.invokevirtual 135, 3) := by decide +kernel
theorem zd_R_readName_83 : decode zc_R_readName 83 = .ok (.if_icmp .ne 24, 3) := by decide +kernel
theorem zd_R_readName_86 : decode zc_R_readName 86 = .ok (.aload_n 0, 1) := by decide +kernel
theorem zd_R_readName_87 : decode zc_R_readName 87 = .ok (.dup, 1) := by decide +kernel
theorem zd_R_readName_88 : decode zc_R_readName 88 = .ok (.getfield 23, 3) := by decide +kernel
theorem zd_R_readName_91 : decode zc_R_readName 91 = .ok (.iconst 3, 1) := by decide +kernel
theorem zd_R_readName_92 : decode zc_R_readName 92 = .ok (.iadd, 1) := by decide +kernel
theorem zd_R_readName_93 : decode zc_R_readName 93 = .ok (.putfield 23, 3) := by decide +kernel
theorem zd_R_readName_96 : decode zc_R_readName 96 = .ok (.aload_n 0, 1) := by decide +kernel
theorem zd_R_readName_97 : decode zc_R_readName 97 = .ok (.iload_n 2, 1) := by decide +kernel
theorem zd_R_readName_98 : decode zc_R_readName 98 = .ok (.iconst 3, 1) := by decide +kernel
theorem zd_R_readName_99 : decode zc_R_readName 99 = .ok (.idiv, 1) := by decide +kernel
theorem zd_R_readName_100 : decode zc_R_readName 100 = .ok (.iconst 1, 1) := by decide +kernel
theorem zd_R_readName_101 : decode zc_R_readName 101 = .ok (.iadd, 1) := by decide +kernel
theorem zd_R_readName_102 : decode zc_R_readName 102 = .ok (.putfield 26, 3) := by decide +kernel
theorem zd_R_readName_105 : decode zc_R_readName 105 = .ok (.iconst 1, 1) := by decide +kernel
theorem zd_R_readName_106 : decode zc_R_readName 106 = .ok (.ireturn, 1) := by decide +kernel
theorem zd_R_readName_107 : decode zc_R_readName 107 = .ok (.iinc 2 3, 3) := by decide +kernel
theorem zd_R_readName_110 : decode zc_R_readName 110 = .ok (.goto (-93), 3) := by decide +kernel
theorem zd_R_readName_113 : decode zc_R_readName 113 = .ok (.iconst 0, 1) := by decide +kernel
theorem zd_R_readName_114 : decode zc_R_readName 114 = .ok (.ireturn, 1) := by decide +kernel
def rk (tf : Nat → Int) (ln a : Int) : Int := if a < ln then tf a.toNat else -1
theorem rk_in {tf : Nat → Int} {ln a : Int} (h : a < ln) : rk tf ln a = tf a.toNat := by unfold rk; rw [if_pos h]
theorem rk_out {tf : Nat → Int} {ln a : Int} (h : ln ≤ a) : rk tf ln a = -1 := by unfold rk; rw [if_neg (by omega)]
theorem rk_lt {tf : Nat → Int} {ln a ch : Int} (h : rk tf ln a = ch) (hc : 0 ≤ ch) : a < ln := by
  by_cases q : a < ln
  · exact q
  · rw [rk_out (by omega)] at h; omega
def bEnd (tf : Nat → Int) (ln : Int) : Nat → Int → Int
  | 0, a => a
  | n + 1, a => if rk tf ln a = 32 then bEnd tf ln n (a + 1) else a
theorem bEnd_y {tf : Nat → Int} {ln a : Int} {n : Nat} (h : rk tf ln a = 32) : bEnd tf ln (n + 1) a = bEnd tf ln n (a + 1) := by rw [bEnd, if_pos h]
theorem bEnd_n {tf : Nat → Int} {ln a : Int} {n : Nat} (h : ¬ rk tf ln a = 32) : bEnd tf ln (n + 1) a = a := by rw [bEnd, if_neg h]
theorem bEnd_ge (tf : Nat → Int) (ln : Int) (n : Nat) (a : Int) (h : a ≤ ln) : a ≤ bEnd tf ln n a ∧ bEnd tf ln n a ≤ ln := by
  induction n generalizing a with
  | zero => exact ⟨Int.le_refl _, h⟩
  | succ n ih =>
    by_cases q : rk tf ln a = 32
    · rw [bEnd_y q]
      have h1 := rk_lt q (by decide)
      have := ih (a + 1) (by omega)
      omega
    · rw [bEnd_n q]; exact ⟨Int.le_refl _, h⟩
def nEnd (tf : Nat → Int) (ln : Int) : Nat → Int → Int → Int × Int
  | 0, a, v => (a, v)
  | n + 1, a, v => if 48 ≤ rk tf ln a ∧ rk tf ln a ≤ 57 then nEnd tf ln n (a + 1) (10 * v + (rk tf ln a - 48)) else (a, v)
def num (tf : Nat → Int) (ln a : Int) : Int × Int := if rk tf ln a = 48 then (a + 1, 0) else nEnd tf ln 401 a 0
def rNm (tf : Nat → Int) (ln lo hi a : Int) : Prop := a < (num tf ln a).1 ∧ lo ≤ (num tf ln a).2 ∧ (num tf ln a).2 ≤ hi
theorem nEnd_d {tf : Nat → Int} {ln x v : Int} {n : Nat} (h : 48 ≤ rk tf ln x ∧ rk tf ln x ≤ 57) : nEnd tf ln (n + 1) x v = nEnd tf ln n (x + 1) (10 * v + (rk tf ln x - 48)) := by rw [nEnd, if_pos h]
theorem nEnd_x {tf : Nat → Int} {ln x v : Int} {n : Nat} (h : ¬ (48 ≤ rk tf ln x ∧ rk tf ln x ≤ 57)) : nEnd tf ln (n + 1) x v = (x, v) := by rw [nEnd, if_neg h]
theorem nEnd_le (tf : Nat → Int) (ln : Int) (n : Nat) (x v : Int) (h : x ≤ ln) : x ≤ (nEnd tf ln n x v).1 ∧ (nEnd tf ln n x v).1 ≤ ln := by
  induction n generalizing x v with
  | zero => exact ⟨Int.le_refl _, h⟩
  | succ n ih =>
    by_cases q : 48 ≤ rk tf ln x ∧ rk tf ln x ≤ 57
    · rw [nEnd_d q]
      have h1 : x < ln := by
        by_cases q2 : x < ln
        · exact q2
        · rw [rk_out (by omega)] at q; omega
      have := ih (x + 1) (10 * v + (rk tf ln x - 48)) (by omega)
      omega
    · rw [nEnd_x q]; exact ⟨Int.le_refl _, h⟩
theorem num_le {tf : Nat → Int} {ln a : Int} (h : a ≤ ln) : a ≤ (num tf ln a).1 ∧ (num tf ln a).1 ≤ ln := by
  unfold num
  by_cases q : rk tf ln a = 48
  · rw [if_pos q]
    have := rk_lt q (by decide)
    exact ⟨by show a ≤ a + 1; omega, by show a + 1 ≤ ln; omega⟩
  · rw [if_neg q]; exact nEnd_le tf ln 401 a 0 h
theorem rNm_rg {tf : Nat → Int} {ln lo hi a : Int} (h : rNm tf ln lo hi a) (ha : 0 ≤ a ∧ a ≤ ln) : a < (num tf ln a).1 ∧ (num tf ln a).1 ≤ ln ∧ lo ≤ (num tf ln a).2 ∧ (num tf ln a).2 ≤ hi := ⟨h.1, (num_le ha.2).2, h.2.1, h.2.2⟩
/-- where the loop of readNumber stands -/
def nmI (tf : Nat → Int) (ln at0 E Vv : Int) (n : Nat) (x v : Int) : Prop := (x = at0 ∧ v = 0 ∧ n = 401) ∨ (x = at0 + 1 ∧ v = 0 ∧ E = x ∧ Vv = 0) ∨ (at0 < x ∧ 0 < v ∧ nEnd tf ln n x v = (E, Vv))
theorem nm_step {tf : Nat → Int} {ln at0 E Vv x v nb : Int} {n : Nat} (hE : num tf ln at0 = (E, Vv)) (h3 : nmI tf ln at0 E Vv (n + 1) x v) (hd : 48 ≤ rk tf ln x ∧ rk tf ln x ≤ 57) (hc : x = at0 ∨ 0 < nb) (hnb : nb = min v 10000) : nmI tf ln at0 E Vv n (x + 1) (10 * v + (rk tf ln x - 48)) := by
  rcases h3 with ⟨h1, h2, h4⟩ | ⟨h1, h2, h4, h5⟩ | ⟨h1, h2, h4⟩
  · subst h1; subst h2
    unfold num at hE
    by_cases q : rk tf ln x = 48
    · rw [if_pos q] at hE
      cases hE
      exact Or.inr (Or.inl ⟨rfl, by omega, rfl, rfl⟩)
    · rw [if_neg q, nEnd_d hd] at hE
      have : n = 400 := by omega
      subst this
      exact Or.inr (Or.inr ⟨by omega, by omega, hE⟩)
  · omega
  · rw [nEnd_d hd] at h4
    exact Or.inr (Or.inr ⟨by omega, by omega, h4⟩)
theorem nm_exit {tf : Nat → Int} {ln at0 E Vv x v nb : Int} {n : Nat} (hE : num tf ln at0 = (E, Vv)) (h3 : nmI tf ln at0 E Vv (n + 1) x v) (hnb : nb = min v 10000) (hx : ¬ (48 ≤ rk tf ln x ∧ rk tf ln x ≤ 57) ∨ (¬ x = at0 ∧ nb ≤ 0)) : E = x ∧ nb = min Vv 10000 := by
  rcases h3 with ⟨h1, h2, h4⟩ | ⟨h1, h2, h4, h5⟩ | ⟨h1, h2, h4⟩
  · subst h1; subst h2
    rcases hx with hx | hx
    · unfold num at hE
      rw [if_neg (by omega), nEnd_x hx] at hE
      cases hE
      exact ⟨rfl, hnb⟩
    · omega
  · exact ⟨h4, by omega⟩
  · rcases hx with hx | hx
    · rw [nEnd_x hx] at h4
      cases h4
      exact ⟨rfl, hnb⟩
    · omega
theorem nm_v {tf : Nat → Int} {ln at0 E Vv x v : Int} {n : Nat} (h3 : nmI tf ln at0 E Vv n x v) : 0 ≤ v ∧ at0 ≤ x := by
  rcases h3 with ⟨h1, h2, h4⟩ | ⟨h1, h2, h4, h5⟩ | ⟨h1, h2, h4⟩ <;> omega
/-- names of three letters in f, n letters in all -/
def nmM (f : Int → Int) (tf : Nat → Int) (a k : Int) : Prop := tf a.toNat = f (3 * k) ∧ tf (a + 1).toNat = f (3 * k + 1) ∧ tf (a + 2).toNat = f (3 * k + 2)
def nmF (f : Int → Int) (n : Int) (tf : Nat → Int) (a : Int) : Nat → Int → Int
  | 0, _ => 0
  | q + 1, k => if 3 * k + 3 ≤ n then (if tf a.toNat = f (3 * k) ∧ tf (a + 1).toNat = f (3 * k + 1) ∧ tf (a + 2).toNat = f (3 * k + 2) then k + 1 else nmF f n tf a q (k + 1)) else 0
theorem nmF_y {f : Int → Int} {n a k : Int} {tf : Nat → Int} {q : Nat} (h : 3 * k + 3 ≤ n) (h1 : tf a.toNat = f (3 * k) ∧ tf (a + 1).toNat = f (3 * k + 1) ∧ tf (a + 2).toNat = f (3 * k + 2)) : nmF f n tf a (q + 1) k = k + 1 := by rw [nmF, if_pos h, if_pos h1]
theorem nmF_n {f : Int → Int} {n a k : Int} {tf : Nat → Int} {q : Nat} (h : 3 * k + 3 ≤ n) (h1 : ¬ (tf a.toNat = f (3 * k) ∧ tf (a + 1).toNat = f (3 * k + 1) ∧ tf (a + 2).toNat = f (3 * k + 2))) : nmF f n tf a (q + 1) k = nmF f n tf a q (k + 1) := by rw [nmF, if_pos h, if_neg h1]
theorem nmF_e {f : Int → Int} {n a k : Int} {tf : Nat → Int} {q : Nat} (h : n < 3 * k + 3) : nmF f n tf a (q + 1) k = 0 := by rw [nmF, if_neg (by omega)]
theorem nmF_rg (f : Int → Int) (n a : Int) (tf : Nat → Int) (q : Nat) (k : Int) (h : 0 ≤ k) : 0 ≤ nmF f n tf a q k ∧ (¬ nmF f n tf a q k = 0 → 3 * nmF f n tf a q k ≤ n) := by
  induction q generalizing k with
  | zero => exact ⟨Int.le_refl _, fun q => absurd rfl q⟩
  | succ q ih =>
    by_cases h1 : 3 * k + 3 ≤ n
    · by_cases h2 : tf a.toNat = f (3 * k) ∧ tf (a + 1).toNat = f (3 * k + 1) ∧ tf (a + 2).toNat = f (3 * k + 2)
      · rw [nmF_y h1 h2]; exact ⟨by omega, fun _ => by omega⟩
      · rw [nmF_n h1 h2]; exact ih (k + 1) (by omega)
    · rw [nmF_e (by omega)]; exact ⟨Int.le_refl _, fun q => absurd rfl q⟩
/-- the name at a: 0 for none, else its number from 1 on -/
def nmA (f : Int → Int) (n ln : Int) (tf : Nat → Int) (a : Int) : Int := if ln - a < 3 then 0 else nmF f n tf a 20 0
set_option maxHeartbeats 4000000 in
set_option maxRecDepth 100000 in
theorem c_R_sees_y (l : Launch) (g : zGl) (rq tx : Nat) (tf : Nat → Int) (ln : Int) (pq : Nat) (at0 vl : Int) (op : Bool) (hln : 0 ≤ ln ∧ ln ≤ 400) (hat : 0 ≤ at0 ∧ at0 ≤ ln) (hch : ∀ j : Nat, 0 ≤ tf j ∧ tf j < 256) (ch : Int) (hc : 0 ≤ ch ∧ ch < 65536) (h : rk tf ln at0 = ch) : zSi l zy_R_sees zc_R_sees 2 (some .boolean) ({ frames := 0, cells := 0, slots := 0, locals := 0 }) g zN [.ref (rq), .int (iI (ch))] [(rq, .inr (4, [.ref (tx), .int (iI (ln)), .ref (pq), .int (iI (at0)), .int (iI (vl)), .int (iI (bI (op)))])), (tx, .inl (g.2 2, 400, .inl (zaI tf)))] (some (.int (iI (bI (true))))) := by
  refine zs_open (by decide +kernel) (Nat.le_of_ble_eq_true rfl) ?_
  intro p e s m below meth c ls hx hb hml hr hlk hown hw hK hT hP hl
  have hown : s.vm.findClass "CronFinder$Reader" = some m.cls := hown
  have hl : lv_has ls 2 [(0, .ref (rq)), (1, .int (iI (ch)))] := hl
  have hc1 := hch (at0).toNat
  refine lv_aload_n hx hb zd_R_sees_0 rfl (lv_at hl 0 rfl) ?_
  refine va_get (D := g.1) (ci := 4) (v := .int (iI (at0))) (C := zR_R) (T := zT_R) (N := 6) hx hb hw zin_R hown hK hP 0 rfl rfl 3 (by decide) (hw _ zw_2_10) (fun _ h9 => h9) rfl zd_R_sees_1 ?_
  refine lv_aload_n hx hb zd_R_sees_4 rfl (lv_at hl 0 rfl) ?_
  refine va_get (D := g.1) (ci := 4) (v := .int (iI (ln))) (C := zR_R) (T := zT_R) (N := 6) hx hb hw zin_R hown hK hP 0 rfl rfl 1 (by decide) (hw _ zw_2_8) (fun _ h9 => h9) rfl zd_R_sees_5 ?_
  refine zi_icmp_ge (tgt := 28) hx hb zd_R_sees_8 (by decide) (by omega) (fun c8 => ?_) (fun c8 => ?_)
  · rw [rk_out c8] at h; omega
  · refine lv_aload_n hx hb zd_R_sees_11 rfl (lv_at hl 0 rfl) ?_
    refine va_get (D := g.1) (ci := 4) (v := .ref (tx)) (C := zR_R) (T := zT_R) (N := 6) hx hb hw zin_R hown hK hP 0 rfl rfl 0 (by decide) (hw _ zw_2_7) (fun _ h9 => h9) rfl zd_R_sees_12 ?_
    refine lv_aload_n hx hb zd_R_sees_15 rfl (lv_at hl 0 rfl) ?_
    refine va_get (D := g.1) (ci := 4) (v := .int (iI (at0))) (C := zR_R) (T := zT_R) (N := 6) hx hb hw zin_R hown hK hP 0 rfl rfl 3 (by decide) (hw _ zw_2_10) (fun _ h9 => h9) rfl zd_R_sees_16 ?_
    refine zi_cald hx hb hK hP 1 2 rfl rfl (by omega) zd_R_sees_19 ?_
    refine lv_iload_n hx hb zd_R_sees_20 rfl (lv_at hl 1 rfl) ?_
    refine zi_icmp_ne (tgt := 28) hx hb zd_R_sees_21 (by decide) (by omega) (fun c21 => ?_) (fun c21 => ?_)
    · rw [rk_in c8] at h; exact absurd h c21
    · refine zi_iconst hx hb zd_R_sees_24 ?_
      refine lv_goto (tgt := 29) hx hb zd_R_sees_25 (by decide) ?_
      refine zb_as (x := true) (rfl) ?_
      exact zs_zret hx hb hr hlk zd_R_sees_29
set_option maxHeartbeats 4000000 in
set_option maxRecDepth 100000 in
theorem c_R_sees_n (l : Launch) (g : zGl) (rq tx : Nat) (tf : Nat → Int) (ln : Int) (pq : Nat) (at0 vl : Int) (op : Bool) (hln : 0 ≤ ln ∧ ln ≤ 400) (hat : 0 ≤ at0 ∧ at0 ≤ ln) (hch : ∀ j : Nat, 0 ≤ tf j ∧ tf j < 256) (ch : Int) (hc : 0 ≤ ch ∧ ch < 65536) (h : ¬ rk tf ln at0 = ch) : zSi l zy_R_sees zc_R_sees 2 (some .boolean) ({ frames := 0, cells := 0, slots := 0, locals := 0 }) g zN [.ref (rq), .int (iI (ch))] [(rq, .inr (4, [.ref (tx), .int (iI (ln)), .ref (pq), .int (iI (at0)), .int (iI (vl)), .int (iI (bI (op)))])), (tx, .inl (g.2 2, 400, .inl (zaI tf)))] (some (.int (iI (bI (false))))) := by
  refine zs_open (by decide +kernel) (Nat.le_of_ble_eq_true rfl) ?_
  intro p e s m below meth c ls hx hb hml hr hlk hown hw hK hT hP hl
  have hown : s.vm.findClass "CronFinder$Reader" = some m.cls := hown
  have hl : lv_has ls 2 [(0, .ref (rq)), (1, .int (iI (ch)))] := hl
  have hc1 := hch (at0).toNat
  refine lv_aload_n hx hb zd_R_sees_0 rfl (lv_at hl 0 rfl) ?_
  refine va_get (D := g.1) (ci := 4) (v := .int (iI (at0))) (C := zR_R) (T := zT_R) (N := 6) hx hb hw zin_R hown hK hP 0 rfl rfl 3 (by decide) (hw _ zw_2_10) (fun _ h9 => h9) rfl zd_R_sees_1 ?_
  refine lv_aload_n hx hb zd_R_sees_4 rfl (lv_at hl 0 rfl) ?_
  refine va_get (D := g.1) (ci := 4) (v := .int (iI (ln))) (C := zR_R) (T := zT_R) (N := 6) hx hb hw zin_R hown hK hP 0 rfl rfl 1 (by decide) (hw _ zw_2_8) (fun _ h9 => h9) rfl zd_R_sees_5 ?_
  refine zi_icmp_ge (tgt := 28) hx hb zd_R_sees_8 (by decide) (by omega) (fun c8 => ?_) (fun c8 => ?_)
  · refine zi_iconst hx hb zd_R_sees_28 ?_
    refine zb_as (x := false) (rfl) ?_
    exact zs_zret hx hb hr hlk zd_R_sees_29
  · refine lv_aload_n hx hb zd_R_sees_11 rfl (lv_at hl 0 rfl) ?_
    refine va_get (D := g.1) (ci := 4) (v := .ref (tx)) (C := zR_R) (T := zT_R) (N := 6) hx hb hw zin_R hown hK hP 0 rfl rfl 0 (by decide) (hw _ zw_2_7) (fun _ h9 => h9) rfl zd_R_sees_12 ?_
    refine lv_aload_n hx hb zd_R_sees_15 rfl (lv_at hl 0 rfl) ?_
    refine va_get (D := g.1) (ci := 4) (v := .int (iI (at0))) (C := zR_R) (T := zT_R) (N := 6) hx hb hw zin_R hown hK hP 0 rfl rfl 3 (by decide) (hw _ zw_2_10) (fun _ h9 => h9) rfl zd_R_sees_16 ?_
    refine zi_cald hx hb hK hP 1 2 rfl rfl (by omega) zd_R_sees_19 ?_
    refine lv_iload_n hx hb zd_R_sees_20 rfl (lv_at hl 1 rfl) ?_
    refine zi_icmp_ne (tgt := 28) hx hb zd_R_sees_21 (by decide) (by omega) (fun c21 => ?_) (fun c21 => ?_)
    · refine zi_iconst hx hb zd_R_sees_28 ?_
      refine zb_as (x := false) (rfl) ?_
      exact zs_zret hx hb hr hlk zd_R_sees_29
    · rw [rk_in c8] at h; exact absurd c21 h
set_option maxHeartbeats 4000000 in
set_option maxRecDepth 100000 in
theorem c_R_accept_y (l : Launch) (g : zGl) (rq tx : Nat) (tf : Nat → Int) (ln : Int) (pq : Nat) (at0 vl : Int) (op : Bool) (hln : 0 ≤ ln ∧ ln ≤ 400) (hat : 0 ≤ at0 ∧ at0 ≤ ln) (hch : ∀ j : Nat, 0 ≤ tf j ∧ tf j < 256) (ch : Int) (hc : 0 ≤ ch ∧ ch < 65536) (h : rk tf ln at0 = ch) : zWi l zy_R_accept zc_R_accept 2 (some .boolean) ({ frames := 1, cells := 0, slots := 0, locals := 21 }) g (fun _ => zN) [.ref (rq), .int (iI (ch))] [(rq, .inr (4, [.ref (tx), .int (iI (ln)), .ref (pq), .int (iI (at0)), .int (iI (vl)), .int (iI (bI (op)))])), (tx, .inl (g.2 2, 400, .inl (zaI tf)))] (some (.int (iI (bI (true))))) [(rq, .inr (4, [.ref (tx), .int (iI (ln)), .ref (pq), .int (iI (at0 + 1)), .int (iI (vl)), .int (iI (bI (op)))])), (tx, .inl (g.2 2, 400, .inl (zaI tf)))] 0 0 := by
  refine zw_open (by decide +kernel) (Nat.le_of_ble_eq_true rfl) ?_
  intro p e s m below meth c ls A hx hb hml hr hlk hown hin hw hK hT hP hD hS hA hl
  have hown : s.vm.findClass "CronFinder$Reader" = some m.cls := hown
  have hl : lv_has ls 2 [(0, .ref (rq)), (1, .int (iI (ch)))] := hl
  refine lv_aload_n hx hb zd_R_accept_0 rfl (lv_at hl 0 rfl) ?_
  refine lv_iload_n hx hb zd_R_accept_1 rfl (lv_at hl 1 rfl) ?_
  refine zk_V (As := [.int (iI (ch))]) (b := rq) (own := "CronFinder$Reader") (nL := 2) (rest := []) hx hb hml hown hw (c_R_sees_y l g rq tx tf ln pq at0 vl op hln hat hch ch hc h) zw_2_73 zw_2_75 zw_0_5 zw_1_13 zw_2_76 (np := 1) (by decide +kernel) rfl (by decide) zN_mv hK trivial (hP.sub (ws' := [(rq, .inr (4, [.ref (tx), .int (iI (ln)), .ref (pq), .int (iI (at0)), .int (iI (vl)), .int (iI (bI (op)))])), (tx, .inl (g.2 2, 400, .inl (zaI tf)))]) [0, 1] rfl) (va_recv hK hP (ci := 4) (q0 := 0) rfl rfl) hl.1 rfl (Nat.le_of_ble_eq_true rfl) (by decide) zd_R_accept_2 ?_
  refine zb_if_ne (tgt := 10) hx hb zd_R_accept_5 (by decide) (fun _ => ?_) (fun c5 => by cases c5)
  refine lv_aload_n hx hb zd_R_accept_10 rfl (lv_at hl 0 rfl) ?_
  refine lv_dup hx hb zd_R_accept_11 rfl ?_
  refine va_get (D := g.1) (ci := 4) (v := .int (iI (at0))) (C := zR_R) (T := zT_R) (N := 6) hx hb hw zin_R hown hK hP 0 rfl rfl 3 (by decide) (hw _ zw_2_10) (fun _ h9 => h9) rfl zd_R_accept_12 ?_
  refine zi_iconst hx hb zd_R_accept_15 ?_
  refine zi_iadd hx hb zd_R_accept_16 ?_
  refine va_put (D := g.1) (ci := 4) (v := .int (iI (at0 + 1))) (ty := .int) (C := zR_R) (T := zT_R) (N := 6) hx hb hw zin_R zt_R zto_R zn_R hown hK hP hD hS 0 rfl rfl 3 (by decide) (hw _ zw_2_10) (fun _ h9 => h9) rfl  (by decide +kernel) rfl rfl (Nat.le_of_ble_eq_true rfl) zd_R_accept_17 (fun H locs hP hD hS => ?_)
  have hP : va_P g.1 zCl [(rq, .inr (4, [.ref (tx), .int (iI (ln)), .ref (pq), .int (iI (at0 + 1)), .int (iI (vl)), .int (iI (bI (op)))])), (tx, .inl (g.2 2, 400, .inl (zaI tf)))] H := hP
  have hD : va_D A [(rq, .inr (4, [.ref (tx), .int (iI (ln)), .ref (pq), .int (iI (at0 + 1)), .int (iI (vl)), .int (iI (bI (op)))])), (tx, .inl (g.2 2, 400, .inl (zaI tf)))] := hD
  refine zi_iconst hx hb zd_R_accept_20 ?_
  refine zb_as (x := true) (rfl) ?_
  exact zw_zret hx hb hr hlk (ws := [(rq, .inr (4, [.ref (tx), .int (iI (ln)), .ref (pq), .int (iI (at0 + 1)), .int (iI (vl)), .int (iI (bI (op)))])), (tx, .inl (g.2 2, 400, .inl (zaI tf)))]) hP hS zd_R_accept_21
set_option maxHeartbeats 4000000 in
set_option maxRecDepth 100000 in
theorem c_R_accept_n (l : Launch) (g : zGl) (rq tx : Nat) (tf : Nat → Int) (ln : Int) (pq : Nat) (at0 vl : Int) (op : Bool) (hln : 0 ≤ ln ∧ ln ≤ 400) (hat : 0 ≤ at0 ∧ at0 ≤ ln) (hch : ∀ j : Nat, 0 ≤ tf j ∧ tf j < 256) (ch : Int) (hc : 0 ≤ ch ∧ ch < 65536) (h : ¬ rk tf ln at0 = ch) : zSi l zy_R_accept zc_R_accept 2 (some .boolean) ({ frames := 1, cells := 0, slots := 0, locals := 21 }) g zN [.ref (rq), .int (iI (ch))] [(rq, .inr (4, [.ref (tx), .int (iI (ln)), .ref (pq), .int (iI (at0)), .int (iI (vl)), .int (iI (bI (op)))])), (tx, .inl (g.2 2, 400, .inl (zaI tf)))] (some (.int (iI (bI (false))))) := by
  refine zs_open (by decide +kernel) (Nat.le_of_ble_eq_true rfl) ?_
  intro p e s m below meth c ls hx hb hml hr hlk hown hw hK hT hP hl
  have hown : s.vm.findClass "CronFinder$Reader" = some m.cls := hown
  have hl : lv_has ls 2 [(0, .ref (rq)), (1, .int (iI (ch)))] := hl
  refine lv_aload_n hx hb zd_R_accept_0 rfl (lv_at hl 0 rfl) ?_
  refine lv_iload_n hx hb zd_R_accept_1 rfl (lv_at hl 1 rfl) ?_
  refine zk_V (As := [.int (iI (ch))]) (b := rq) (own := "CronFinder$Reader") (nL := 2) (rest := []) hx hb hml hown hw (c_R_sees_n l g rq tx tf ln pq at0 vl op hln hat hch ch hc h) zw_2_73 zw_2_75 zw_0_5 zw_1_13 zw_2_76 (np := 1) (by decide +kernel) rfl (by decide) zN_mv hK trivial (hP.sub (ws' := [(rq, .inr (4, [.ref (tx), .int (iI (ln)), .ref (pq), .int (iI (at0)), .int (iI (vl)), .int (iI (bI (op)))])), (tx, .inl (g.2 2, 400, .inl (zaI tf)))]) [0, 1] rfl) (va_recv hK hP (ci := 4) (q0 := 0) rfl rfl) hl.1 rfl (Nat.le_of_ble_eq_true rfl) (by decide) zd_R_accept_2 ?_
  refine zb_if_ne (tgt := 10) hx hb zd_R_accept_5 (by decide) (fun c5 => by cases c5) (fun _ => ?_)
  refine zi_iconst hx hb zd_R_accept_8 ?_
  refine zb_as (x := false) (rfl) ?_
  exact zs_zret hx hb hr hlk zd_R_accept_9
set_option maxHeartbeats 4000000 in
set_option maxRecDepth 100000 in
theorem c_R_readBlanks (l : Launch) (g : zGl) (rq tx : Nat) (tf : Nat → Int) (ln : Int) (pq : Nat) (at0 vl : Int) (op : Bool) (hln : 0 ≤ ln ∧ ln ≤ 400) (hat : 0 ≤ at0 ∧ at0 ≤ ln) (hch : ∀ j : Nat, 0 ≤ tf j ∧ tf j < 256) : zWi l zy_R_readBlanks zc_R_readBlanks 2 (some .boolean) ({ frames := 0, cells := 0, slots := 0, locals := 0 }) g (fun _ => zN) [.ref (rq)] [(rq, .inr (4, [.ref (tx), .int (iI (ln)), .ref (pq), .int (iI (at0)), .int (iI (vl)), .int (iI (bI (op)))])), (tx, .inl (g.2 2, 400, .inl (zaI tf)))] (some (.int (iI (bI (decide (at0 < bEnd tf ln 401 at0)))))) [(rq, .inr (4, [.ref (tx), .int (iI (ln)), .ref (pq), .int (iI (bEnd tf ln 401 at0)), .int (iI (vl)), .int (iI (bI (op)))])), (tx, .inl (g.2 2, 400, .inl (zaI tf)))] 0 0 := by
  refine zw_open (by decide +kernel) (Nat.le_of_ble_eq_true rfl) ?_
  intro p e s m below meth c ls A hx hb hml hr hlk hown hin hw hK hT hP hD hS hA hl
  have hown : s.vm.findClass "CronFinder$Reader" = some m.cls := hown
  have hl : lv_has ls 2 [(0, .ref (rq))] := hl
  refine lv_aload_n hx hb zd_R_readBlanks_0 rfl (lv_at hl 0 rfl) ?_
  refine va_get (D := g.1) (ci := 4) (v := .int (iI (at0))) (C := zR_R) (T := zT_R) (N := 6) hx hb hw zin_R hown hK hP 0 rfl rfl 3 (by decide) (hw _ zw_2_10) (fun _ h9 => h9) rfl zd_R_readBlanks_1 ?_
  refine lv_istore_n (lv' := [(1, .int (iI (at0))), (0, .ref (rq))]) hx hb zd_R_readBlanks_4 rfl hl (by decide) rfl (fun ls hl => ?_)
  have loop : ∀ (n : Nat) (x : Int) (H : Heap) (locs : List Loc) (ls : Array Slot), (at0 ≤ x ∧ x ≤ ln) → (bEnd tf ln n x = bEnd tf ln 401 at0) → ((ln - x).toNat < n) → va_P g.1 zCl [(rq, .inr (4, [.ref (tx), .int (iI (ln)), .ref (pq), .int (iI (x)), .int (iI (vl)), .int (iI (bI (op)))])), (tx, .inl (g.2 2, 400, .inl (zaI tf)))] H → va_D A [(rq, .inr (4, [.ref (tx), .int (iI (ln)), .ref (pq), .int (iI (x)), .int (iI (vl)), .int (iI (bI (op)))])), (tx, .inl (g.2 2, 400, .inl (zaI tf)))] → va_S A s.heap H locs → lv_has ls 2 [(1, .int (iI (at0))), (0, .ref (rq))] → W p l e ({ frames := 0, cells := 0, slots := 0, locals := 0 }) s m [.ref (rq)].toArray below meth c H locs 0 0 (MQ below (zWr g.1 zCl (some (.int (iI (bI (decide (at0 < bEnd tf ln 401 at0)))))) [(rq, .inr (4, [.ref (tx), .int (iI (ln)), .ref (pq), .int (iI (bEnd tf ln 401 at0)), .int (iI (vl)), .int (iI (bI (op)))])), (tx, .inl (g.2 2, 400, .inl (zaI tf)))] A) [.ref (rq)].toArray s 0 0 A) (F0 m 5 ls []) := by
    intro n
    induction n with
    | zero =>
      intro x H locs ls h1 hF h2 hP hD hS hl
      exact absurd h2 (by omega)
    | succ n ih =>
      intro x H locs ls h1 hF h2 hP hD hS hl
      refine lv_aload_n hx hb zd_R_readBlanks_5 rfl (lv_at hl 1 rfl) ?_
      refine va_get (D := g.1) (ci := 4) (v := .int (iI (x))) (C := zR_R) (T := zT_R) (N := 6) hx hb hw zin_R hown hK hP 0 rfl rfl 3 (by decide) (hw _ zw_2_10) (fun _ h9 => h9) rfl zd_R_readBlanks_6 ?_
      refine lv_aload_n hx hb zd_R_readBlanks_9 rfl (lv_at hl 1 rfl) ?_
      refine va_get (D := g.1) (ci := 4) (v := .int (iI (ln))) (C := zR_R) (T := zT_R) (N := 6) hx hb hw zin_R hown hK hP 0 rfl rfl 1 (by decide) (hw _ zw_2_8) (fun _ h9 => h9) rfl zd_R_readBlanks_10 ?_
      refine zi_icmp_ge (tgt := 43) hx hb zd_R_readBlanks_13 (by decide) (by omega) (fun c13 => ?_) (fun c13 => ?_)
      · refine lv_aload_n hx hb zd_R_readBlanks_43 rfl (lv_at hl 1 rfl) ?_
        refine va_get (D := g.1) (ci := 4) (v := .int (iI (x))) (C := zR_R) (T := zT_R) (N := 6) hx hb hw zin_R hown hK hP 0 rfl rfl 3 (by decide) (hw _ zw_2_10) (fun _ h9 => h9) rfl zd_R_readBlanks_44 ?_
        refine lv_iload_n hx hb zd_R_readBlanks_47 rfl (lv_at hl 0 rfl) ?_
        refine zi_icmp_le (tgt := 55) hx hb zd_R_readBlanks_48 (by decide) (by omega) (fun c48 => ?_) (fun c48 => ?_)
        · refine zi_iconst hx hb zd_R_readBlanks_55 ?_
          have hx1 : x = bEnd tf ln 401 at0 := by first | (rw [← hF, bEnd_n (by rw [rk_in (by omega)]; exact c27)]) | (rw [← hF, bEnd_n (by rw [rk_out (by omega)]; decide)])
          refine zb_as (x := decide (at0 < bEnd tf ln 401 at0)) (by rw [← hx1]; first | (rw [decide_eq_true (by omega)]; rfl) | (rw [decide_eq_false (by omega)]; rfl)) ?_
          rw [hx1] at hP
          exact zw_zret hx hb hr hlk (ws := [(rq, .inr (4, [.ref (tx), .int (iI (ln)), .ref (pq), .int (iI (bEnd tf ln 401 at0)), .int (iI (vl)), .int (iI (bI (op)))])), (tx, .inl (g.2 2, 400, .inl (zaI tf)))]) hP hS zd_R_readBlanks_56
        · refine zi_iconst hx hb zd_R_readBlanks_51 ?_
          refine lv_goto (tgt := 56) hx hb zd_R_readBlanks_52 (by decide) ?_
          have hx1 : x = bEnd tf ln 401 at0 := by first | (rw [← hF, bEnd_n (by rw [rk_in (by omega)]; exact c27)]) | (rw [← hF, bEnd_n (by rw [rk_out (by omega)]; decide)])
          refine zb_as (x := decide (at0 < bEnd tf ln 401 at0)) (by rw [← hx1]; first | (rw [decide_eq_true (by omega)]; rfl) | (rw [decide_eq_false (by omega)]; rfl)) ?_
          rw [hx1] at hP
          exact zw_zret hx hb hr hlk (ws := [(rq, .inr (4, [.ref (tx), .int (iI (ln)), .ref (pq), .int (iI (bEnd tf ln 401 at0)), .int (iI (vl)), .int (iI (bI (op)))])), (tx, .inl (g.2 2, 400, .inl (zaI tf)))]) hP hS zd_R_readBlanks_56
      · refine lv_aload_n hx hb zd_R_readBlanks_16 rfl (lv_at hl 1 rfl) ?_
        refine va_get (D := g.1) (ci := 4) (v := .ref (tx)) (C := zR_R) (T := zT_R) (N := 6) hx hb hw zin_R hown hK hP 0 rfl rfl 0 (by decide) (hw _ zw_2_7) (fun _ h9 => h9) rfl zd_R_readBlanks_17 ?_
        refine lv_aload_n hx hb zd_R_readBlanks_20 rfl (lv_at hl 1 rfl) ?_
        refine va_get (D := g.1) (ci := 4) (v := .int (iI (x))) (C := zR_R) (T := zT_R) (N := 6) hx hb hw zin_R hown hK hP 0 rfl rfl 3 (by decide) (hw _ zw_2_10) (fun _ h9 => h9) rfl zd_R_readBlanks_21 ?_
        have hc1 := hch (x).toNat
        refine zi_cald hx hb hK hP 1 2 rfl rfl (by omega) zd_R_readBlanks_24 ?_
        refine zi_bipush hx hb zd_R_readBlanks_25 (by decide) ?_
        refine zi_icmp_ne (tgt := 43) hx hb zd_R_readBlanks_27 (by decide) (by omega) (fun c27 => ?_) (fun c27 => ?_)
        · refine lv_aload_n hx hb zd_R_readBlanks_43 rfl (lv_at hl 1 rfl) ?_
          refine va_get (D := g.1) (ci := 4) (v := .int (iI (x))) (C := zR_R) (T := zT_R) (N := 6) hx hb hw zin_R hown hK hP 0 rfl rfl 3 (by decide) (hw _ zw_2_10) (fun _ h9 => h9) rfl zd_R_readBlanks_44 ?_
          refine lv_iload_n hx hb zd_R_readBlanks_47 rfl (lv_at hl 0 rfl) ?_
          refine zi_icmp_le (tgt := 55) hx hb zd_R_readBlanks_48 (by decide) (by omega) (fun c48 => ?_) (fun c48 => ?_)
          · refine zi_iconst hx hb zd_R_readBlanks_55 ?_
            have hx1 : x = bEnd tf ln 401 at0 := by first | (rw [← hF, bEnd_n (by rw [rk_in (by omega)]; exact c27)]) | (rw [← hF, bEnd_n (by rw [rk_out (by omega)]; decide)])
            refine zb_as (x := decide (at0 < bEnd tf ln 401 at0)) (by rw [← hx1]; first | (rw [decide_eq_true (by omega)]; rfl) | (rw [decide_eq_false (by omega)]; rfl)) ?_
            rw [hx1] at hP
            exact zw_zret hx hb hr hlk (ws := [(rq, .inr (4, [.ref (tx), .int (iI (ln)), .ref (pq), .int (iI (bEnd tf ln 401 at0)), .int (iI (vl)), .int (iI (bI (op)))])), (tx, .inl (g.2 2, 400, .inl (zaI tf)))]) hP hS zd_R_readBlanks_56
          · refine zi_iconst hx hb zd_R_readBlanks_51 ?_
            refine lv_goto (tgt := 56) hx hb zd_R_readBlanks_52 (by decide) ?_
            have hx1 : x = bEnd tf ln 401 at0 := by first | (rw [← hF, bEnd_n (by rw [rk_in (by omega)]; exact c27)]) | (rw [← hF, bEnd_n (by rw [rk_out (by omega)]; decide)])
            refine zb_as (x := decide (at0 < bEnd tf ln 401 at0)) (by rw [← hx1]; first | (rw [decide_eq_true (by omega)]; rfl) | (rw [decide_eq_false (by omega)]; rfl)) ?_
            rw [hx1] at hP
            exact zw_zret hx hb hr hlk (ws := [(rq, .inr (4, [.ref (tx), .int (iI (ln)), .ref (pq), .int (iI (bEnd tf ln 401 at0)), .int (iI (vl)), .int (iI (bI (op)))])), (tx, .inl (g.2 2, 400, .inl (zaI tf)))]) hP hS zd_R_readBlanks_56
        · refine lv_aload_n hx hb zd_R_readBlanks_30 rfl (lv_at hl 1 rfl) ?_
          refine lv_dup hx hb zd_R_readBlanks_31 rfl ?_
          refine va_get (D := g.1) (ci := 4) (v := .int (iI (x))) (C := zR_R) (T := zT_R) (N := 6) hx hb hw zin_R hown hK hP 0 rfl rfl 3 (by decide) (hw _ zw_2_10) (fun _ h9 => h9) rfl zd_R_readBlanks_32 ?_
          refine zi_iconst hx hb zd_R_readBlanks_35 ?_
          refine zi_iadd hx hb zd_R_readBlanks_36 ?_
          refine va_put (D := g.1) (ci := 4) (v := .int (iI (x + 1))) (ty := .int) (C := zR_R) (T := zT_R) (N := 6) hx hb hw zin_R zt_R zto_R zn_R hown hK hP hD hS 0 rfl rfl 3 (by decide) (hw _ zw_2_10) (fun _ h9 => h9) rfl  (by decide +kernel) rfl rfl (Nat.le_of_ble_eq_true rfl) zd_R_readBlanks_37 (fun H locs hP hD hS => ?_)
          have hP : va_P g.1 zCl [(rq, .inr (4, [.ref (tx), .int (iI (ln)), .ref (pq), .int (iI (x + 1)), .int (iI (vl)), .int (iI (bI (op)))])), (tx, .inl (g.2 2, 400, .inl (zaI tf)))] H := hP
          have hD : va_D A [(rq, .inr (4, [.ref (tx), .int (iI (ln)), .ref (pq), .int (iI (x + 1)), .int (iI (vl)), .int (iI (bI (op)))])), (tx, .inl (g.2 2, 400, .inl (zaI tf)))] := hD
          refine lv_goto (tgt := 5) hx hb zd_R_readBlanks_40 (by decide) ?_
          exact ih (x + 1) H locs ls ⟨by omega, by omega⟩ (by rw [← bEnd_y (by rw [rk_in (by omega)]; exact c27)]; exact hF) (by omega) hP hD hS (lv_sub hl [0, 1] rfl)
  exact loop 401 at0 s.heap [] ls ⟨by omega, by omega⟩ rfl (by omega) hP hD hS (lv_sub hl [0, 1] rfl)
set_option maxHeartbeats 4000000 in
set_option maxRecDepth 100000 in
theorem c_R_num_y (l : Launch) (g : zGl) (rq tx : Nat) (tf : Nat → Int) (ln : Int) (pq : Nat) (at0 vl : Int) (op : Bool) (hln : 0 ≤ ln ∧ ln ≤ 400) (hat : 0 ≤ at0 ∧ at0 ≤ ln) (hch : ∀ j : Nat, 0 ≤ tf j ∧ tf j < 256) (lo hi : Int) (hlh : 0 ≤ lo ∧ lo < 10000 ∧ 0 ≤ hi ∧ hi < 10000) (hy : rNm tf ln lo hi at0) : zWi l zy_R_readNumber zc_R_readNumber 5 (some .boolean) ({ frames := 1, cells := 0, slots := 0, locals := 21 }) g (fun _ => zN) [.ref (rq), .int (iI (lo)), .int (iI (hi))] [(rq, .inr (4, [.ref (tx), .int (iI (ln)), .ref (pq), .int (iI (at0)), .int (iI (vl)), .int (iI (bI (op)))])), (tx, .inl (g.2 2, 400, .inl (zaI tf)))] (some (.int (iI (bI (true))))) [(rq, .inr (4, [.ref (tx), .int (iI (ln)), .ref (pq), .int (iI ((num tf ln at0).1)), .int (iI ((num tf ln at0).2)), .int (iI (bI (op)))])), (tx, .inl (g.2 2, 400, .inl (zaI tf)))] 0 0 := by
  refine zw_open (by decide +kernel) (Nat.le_of_ble_eq_true rfl) ?_
  intro p e s m below meth c ls A hx hb hml hr hlk hown hin hw hK hT hP hD hS hA hl
  have hown : s.vm.findClass "CronFinder$Reader" = some m.cls := hown
  have hl : lv_has ls 5 [(0, .ref (rq)), (1, .int (iI (lo))), (2, .int (iI (hi)))] := hl
  refine lv_aload_n hx hb zd_R_readNumber_0 rfl (lv_at hl 0 rfl) ?_
  refine va_get (D := g.1) (ci := 4) (v := .int (iI (at0))) (C := zR_R) (T := zT_R) (N := 6) hx hb hw zin_R hown hK hP 0 rfl rfl 3 (by decide) (hw _ zw_2_10) (fun _ h9 => h9) rfl zd_R_readNumber_1 ?_
  refine lv_istore_n (lv' := [(3, .int (iI (at0))), (0, .ref (rq)), (1, .int (iI (lo))), (2, .int (iI (hi)))]) hx hb zd_R_readNumber_4 rfl hl (by decide) rfl (fun ls hl => ?_)
  refine zi_iconst hx hb zd_R_readNumber_5 ?_
  refine lv_istore (lv' := [(4, .int (iI (0))), (3, .int (iI (at0))), (0, .ref (rq)), (1, .int (iI (lo))), (2, .int (iI (hi)))]) hx hb zd_R_readNumber_6 hl (by decide) rfl (fun ls hl => ?_)
  have loop : ∀ (n : Nat) (x nb v : Int) (H : Heap) (locs : List Loc) (ls : Array Slot), (0 ≤ x ∧ x ≤ ln) → (nb = min v 10000) → (nmI tf ln at0 (num tf ln at0).1 (num tf ln at0).2 n x v) → ((ln - x).toNat < n) → va_P g.1 zCl [(rq, .inr (4, [.ref (tx), .int (iI (ln)), .ref (pq), .int (iI (x)), .int (iI (vl)), .int (iI (bI (op)))])), (tx, .inl (g.2 2, 400, .inl (zaI tf)))] H → va_D A [(rq, .inr (4, [.ref (tx), .int (iI (ln)), .ref (pq), .int (iI (x)), .int (iI (vl)), .int (iI (bI (op)))])), (tx, .inl (g.2 2, 400, .inl (zaI tf)))] → va_S A s.heap H locs → lv_has ls 5 [(4, .int (iI (nb))), (3, .int (iI (at0))), (0, .ref (rq)), (1, .int (iI (lo))), (2, .int (iI (hi)))] → W p l e ({ frames := 1, cells := 0, slots := 0, locals := 21 }) s m [.ref (rq), .int (iI (lo)), .int (iI (hi))].toArray below meth c H locs 0 0 (MQ below (zWr g.1 zCl (some (.int (iI (bI (true))))) [(rq, .inr (4, [.ref (tx), .int (iI (ln)), .ref (pq), .int (iI ((num tf ln at0).1)), .int (iI ((num tf ln at0).2)), .int (iI (bI (op)))])), (tx, .inl (g.2 2, 400, .inl (zaI tf)))] A) [.ref (rq), .int (iI (lo)), .int (iI (hi))].toArray s 0 0 A) (F0 m 8 ls []) := by
    intro n
    induction n with
    | zero =>
      intro x nb v H locs ls h1 hnb h3 h2 hP hD hS hl
      exact absurd h2 (by omega)
    | succ n ih =>
      intro x nb v H locs ls h1 hnb h3 h2 hP hD hS hl
      refine lv_aload_n hx hb zd_R_readNumber_8 rfl (lv_at hl 2 rfl) ?_
      refine va_get (D := g.1) (ci := 4) (v := .int (iI (x))) (C := zR_R) (T := zT_R) (N := 6) hx hb hw zin_R hown hK hP 0 rfl rfl 3 (by decide) (hw _ zw_2_10) (fun _ h9 => h9) rfl zd_R_readNumber_9 ?_
      refine lv_aload_n hx hb zd_R_readNumber_12 rfl (lv_at hl 2 rfl) ?_
      refine va_get (D := g.1) (ci := 4) (v := .int (iI (ln))) (C := zR_R) (T := zT_R) (N := 6) hx hb hw zin_R hown hK hP 0 rfl rfl 1 (by decide) (hw _ zw_2_8) (fun _ h9 => h9) rfl zd_R_readNumber_13 ?_
      refine zi_icmp_ge (tgt := 99) hx hb zd_R_readNumber_16 (by decide) (by omega) (fun c16 => ?_) (fun c16 => ?_)
      · have hv2 := nm_v h3
        have hE := nm_exit (E := (num tf ln at0).1) (Vv := (num tf ln at0).2) rfl h3 hnb (by first | exact Or.inl (by rw [rk_out (by omega)]; omega) | exact Or.inl (by rw [rk_in (by omega)]; omega) | exact Or.inr (by omega))
        refine lv_aload_n hx hb zd_R_readNumber_99 rfl (lv_at hl 2 rfl) ?_
        refine va_get (D := g.1) (ci := 4) (v := .int (iI (x))) (C := zR_R) (T := zT_R) (N := 6) hx hb hw zin_R hown hK hP 0 rfl rfl 3 (by decide) (hw _ zw_2_10) (fun _ h9 => h9) rfl zd_R_readNumber_100 ?_
        refine lv_iload_n hx hb zd_R_readNumber_103 rfl (lv_at hl 1 rfl) ?_
        refine zi_icmp_eq (tgt := 119) hx hb zd_R_readNumber_104 (by decide) (by omega) (fun c104 => ?_) (fun c104 => ?_)
        · refine lv_aload_n hx hb zd_R_readNumber_119 rfl (lv_at hl 2 rfl) ?_
          refine lv_iload_n hx hb zd_R_readNumber_120 rfl (lv_at hl 1 rfl) ?_
          refine va_put (D := g.1) (ci := 4) (v := .int (iI (at0))) (ty := .int) (C := zR_R) (T := zT_R) (N := 6) hx hb hw zin_R zt_R zto_R zn_R hown hK hP hD hS 0 rfl rfl 3 (by decide) (hw _ zw_2_10) (fun _ h9 => h9) rfl  (by decide +kernel) rfl rfl (Nat.le_of_ble_eq_true rfl) zd_R_readNumber_121 (fun H locs hP hD hS => ?_)
          have hP : va_P g.1 zCl [(rq, .inr (4, [.ref (tx), .int (iI (ln)), .ref (pq), .int (iI (at0)), .int (iI (vl)), .int (iI (bI (op)))])), (tx, .inl (g.2 2, 400, .inl (zaI tf)))] H := hP
          have hD : va_D A [(rq, .inr (4, [.ref (tx), .int (iI (ln)), .ref (pq), .int (iI (at0)), .int (iI (vl)), .int (iI (bI (op)))])), (tx, .inl (g.2 2, 400, .inl (zaI tf)))] := hD
          refine zi_iconst hx hb zd_R_readNumber_124 ?_
          exact absurd hy (fun q => by have := q.1; have := q.2.1; have := q.2.2; omega)
        · refine lv_iload hx hb zd_R_readNumber_107 (lv_at hl 0 rfl) ?_
          refine lv_iload_n hx hb zd_R_readNumber_109 rfl (lv_at hl 3 rfl) ?_
          refine zi_icmp_lt (tgt := 119) hx hb zd_R_readNumber_110 (by decide) (by omega) (fun c110 => ?_) (fun c110 => ?_)
          · refine lv_aload_n hx hb zd_R_readNumber_119 rfl (lv_at hl 2 rfl) ?_
            refine lv_iload_n hx hb zd_R_readNumber_120 rfl (lv_at hl 1 rfl) ?_
            refine va_put (D := g.1) (ci := 4) (v := .int (iI (at0))) (ty := .int) (C := zR_R) (T := zT_R) (N := 6) hx hb hw zin_R zt_R zto_R zn_R hown hK hP hD hS 0 rfl rfl 3 (by decide) (hw _ zw_2_10) (fun _ h9 => h9) rfl  (by decide +kernel) rfl rfl (Nat.le_of_ble_eq_true rfl) zd_R_readNumber_121 (fun H locs hP hD hS => ?_)
            have hP : va_P g.1 zCl [(rq, .inr (4, [.ref (tx), .int (iI (ln)), .ref (pq), .int (iI (at0)), .int (iI (vl)), .int (iI (bI (op)))])), (tx, .inl (g.2 2, 400, .inl (zaI tf)))] H := hP
            have hD : va_D A [(rq, .inr (4, [.ref (tx), .int (iI (ln)), .ref (pq), .int (iI (at0)), .int (iI (vl)), .int (iI (bI (op)))])), (tx, .inl (g.2 2, 400, .inl (zaI tf)))] := hD
            refine zi_iconst hx hb zd_R_readNumber_124 ?_
            exact absurd hy (fun q => by have := q.1; have := q.2.1; have := q.2.2; omega)
          · refine lv_iload hx hb zd_R_readNumber_113 (lv_at hl 0 rfl) ?_
            refine lv_iload_n hx hb zd_R_readNumber_115 rfl (lv_at hl 4 rfl) ?_
            refine zi_icmp_le (tgt := 126) hx hb zd_R_readNumber_116 (by decide) (by omega) (fun c116 => ?_) (fun c116 => ?_)
            · refine lv_aload_n hx hb zd_R_readNumber_126 rfl (lv_at hl 2 rfl) ?_
              refine lv_iload hx hb zd_R_readNumber_127 (lv_at hl 0 rfl) ?_
              refine va_put (D := g.1) (ci := 4) (v := .int (iI (nb))) (ty := .int) (C := zR_R) (T := zT_R) (N := 6) hx hb hw zin_R zt_R zto_R zn_R hown hK hP hD hS 0 rfl rfl 4 (by decide) (hw _ zw_2_11) (fun _ h9 => h9) rfl  (by decide +kernel) rfl rfl (Nat.le_of_ble_eq_true rfl) zd_R_readNumber_129 (fun H locs hP hD hS => ?_)
              have hP : va_P g.1 zCl [(rq, .inr (4, [.ref (tx), .int (iI (ln)), .ref (pq), .int (iI (x)), .int (iI (nb)), .int (iI (bI (op)))])), (tx, .inl (g.2 2, 400, .inl (zaI tf)))] H := hP
              have hD : va_D A [(rq, .inr (4, [.ref (tx), .int (iI (ln)), .ref (pq), .int (iI (x)), .int (iI (nb)), .int (iI (bI (op)))])), (tx, .inl (g.2 2, 400, .inl (zaI tf)))] := hD
              refine zi_iconst hx hb zd_R_readNumber_132 ?_
              refine zb_as (x := true) rfl ?_
              have e1 : x = (num tf ln at0).1 := hE.1.symm
              have e2 : nb = (num tf ln at0).2 := by have := hy.2.2; omega
              rw [e1, e2] at hP
              exact zw_zret hx hb hr hlk (ws := [(rq, .inr (4, [.ref (tx), .int (iI (ln)), .ref (pq), .int (iI ((num tf ln at0).1)), .int (iI ((num tf ln at0).2)), .int (iI (bI (op)))])), (tx, .inl (g.2 2, 400, .inl (zaI tf)))]) hP hS zd_R_readNumber_133
            · refine lv_aload_n hx hb zd_R_readNumber_119 rfl (lv_at hl 2 rfl) ?_
              refine lv_iload_n hx hb zd_R_readNumber_120 rfl (lv_at hl 1 rfl) ?_
              refine va_put (D := g.1) (ci := 4) (v := .int (iI (at0))) (ty := .int) (C := zR_R) (T := zT_R) (N := 6) hx hb hw zin_R zt_R zto_R zn_R hown hK hP hD hS 0 rfl rfl 3 (by decide) (hw _ zw_2_10) (fun _ h9 => h9) rfl  (by decide +kernel) rfl rfl (Nat.le_of_ble_eq_true rfl) zd_R_readNumber_121 (fun H locs hP hD hS => ?_)
              have hP : va_P g.1 zCl [(rq, .inr (4, [.ref (tx), .int (iI (ln)), .ref (pq), .int (iI (at0)), .int (iI (vl)), .int (iI (bI (op)))])), (tx, .inl (g.2 2, 400, .inl (zaI tf)))] H := hP
              have hD : va_D A [(rq, .inr (4, [.ref (tx), .int (iI (ln)), .ref (pq), .int (iI (at0)), .int (iI (vl)), .int (iI (bI (op)))])), (tx, .inl (g.2 2, 400, .inl (zaI tf)))] := hD
              refine zi_iconst hx hb zd_R_readNumber_124 ?_
              exact absurd hy (fun q => by have := q.1; have := q.2.1; have := q.2.2; omega)
      · refine lv_aload_n hx hb zd_R_readNumber_19 rfl (lv_at hl 2 rfl) ?_
        refine va_get (D := g.1) (ci := 4) (v := .ref (tx)) (C := zR_R) (T := zT_R) (N := 6) hx hb hw zin_R hown hK hP 0 rfl rfl 0 (by decide) (hw _ zw_2_7) (fun _ h9 => h9) rfl zd_R_readNumber_20 ?_
        refine lv_aload_n hx hb zd_R_readNumber_23 rfl (lv_at hl 2 rfl) ?_
        refine va_get (D := g.1) (ci := 4) (v := .int (iI (x))) (C := zR_R) (T := zT_R) (N := 6) hx hb hw zin_R hown hK hP 0 rfl rfl 3 (by decide) (hw _ zw_2_10) (fun _ h9 => h9) rfl zd_R_readNumber_24 ?_
        have hc1 := hch (x).toNat
        have hv3 := nm_v h3
        refine zi_cald hx hb hK hP 1 2 rfl rfl (by omega) zd_R_readNumber_27 ?_
        refine zi_bipush hx hb zd_R_readNumber_28 (by decide) ?_
        refine zi_icmp_lt (tgt := 99) hx hb zd_R_readNumber_30 (by decide) (by omega) (fun c30 => ?_) (fun c30 => ?_)
        · have hv2 := nm_v h3
          have hE := nm_exit (E := (num tf ln at0).1) (Vv := (num tf ln at0).2) rfl h3 hnb (by first | exact Or.inl (by rw [rk_out (by omega)]; omega) | exact Or.inl (by rw [rk_in (by omega)]; omega) | exact Or.inr (by omega))
          refine lv_aload_n hx hb zd_R_readNumber_99 rfl (lv_at hl 2 rfl) ?_
          refine va_get (D := g.1) (ci := 4) (v := .int (iI (x))) (C := zR_R) (T := zT_R) (N := 6) hx hb hw zin_R hown hK hP 0 rfl rfl 3 (by decide) (hw _ zw_2_10) (fun _ h9 => h9) rfl zd_R_readNumber_100 ?_
          refine lv_iload_n hx hb zd_R_readNumber_103 rfl (lv_at hl 1 rfl) ?_
          refine zi_icmp_eq (tgt := 119) hx hb zd_R_readNumber_104 (by decide) (by omega) (fun c104 => ?_) (fun c104 => ?_)
          · refine lv_aload_n hx hb zd_R_readNumber_119 rfl (lv_at hl 2 rfl) ?_
            refine lv_iload_n hx hb zd_R_readNumber_120 rfl (lv_at hl 1 rfl) ?_
            refine va_put (D := g.1) (ci := 4) (v := .int (iI (at0))) (ty := .int) (C := zR_R) (T := zT_R) (N := 6) hx hb hw zin_R zt_R zto_R zn_R hown hK hP hD hS 0 rfl rfl 3 (by decide) (hw _ zw_2_10) (fun _ h9 => h9) rfl  (by decide +kernel) rfl rfl (Nat.le_of_ble_eq_true rfl) zd_R_readNumber_121 (fun H locs hP hD hS => ?_)
            have hP : va_P g.1 zCl [(rq, .inr (4, [.ref (tx), .int (iI (ln)), .ref (pq), .int (iI (at0)), .int (iI (vl)), .int (iI (bI (op)))])), (tx, .inl (g.2 2, 400, .inl (zaI tf)))] H := hP
            have hD : va_D A [(rq, .inr (4, [.ref (tx), .int (iI (ln)), .ref (pq), .int (iI (at0)), .int (iI (vl)), .int (iI (bI (op)))])), (tx, .inl (g.2 2, 400, .inl (zaI tf)))] := hD
            refine zi_iconst hx hb zd_R_readNumber_124 ?_
            exact absurd hy (fun q => by have := q.1; have := q.2.1; have := q.2.2; omega)
          · refine lv_iload hx hb zd_R_readNumber_107 (lv_at hl 0 rfl) ?_
            refine lv_iload_n hx hb zd_R_readNumber_109 rfl (lv_at hl 3 rfl) ?_
            refine zi_icmp_lt (tgt := 119) hx hb zd_R_readNumber_110 (by decide) (by omega) (fun c110 => ?_) (fun c110 => ?_)
            · refine lv_aload_n hx hb zd_R_readNumber_119 rfl (lv_at hl 2 rfl) ?_
              refine lv_iload_n hx hb zd_R_readNumber_120 rfl (lv_at hl 1 rfl) ?_
              refine va_put (D := g.1) (ci := 4) (v := .int (iI (at0))) (ty := .int) (C := zR_R) (T := zT_R) (N := 6) hx hb hw zin_R zt_R zto_R zn_R hown hK hP hD hS 0 rfl rfl 3 (by decide) (hw _ zw_2_10) (fun _ h9 => h9) rfl  (by decide +kernel) rfl rfl (Nat.le_of_ble_eq_true rfl) zd_R_readNumber_121 (fun H locs hP hD hS => ?_)
              have hP : va_P g.1 zCl [(rq, .inr (4, [.ref (tx), .int (iI (ln)), .ref (pq), .int (iI (at0)), .int (iI (vl)), .int (iI (bI (op)))])), (tx, .inl (g.2 2, 400, .inl (zaI tf)))] H := hP
              have hD : va_D A [(rq, .inr (4, [.ref (tx), .int (iI (ln)), .ref (pq), .int (iI (at0)), .int (iI (vl)), .int (iI (bI (op)))])), (tx, .inl (g.2 2, 400, .inl (zaI tf)))] := hD
              refine zi_iconst hx hb zd_R_readNumber_124 ?_
              exact absurd hy (fun q => by have := q.1; have := q.2.1; have := q.2.2; omega)
            · refine lv_iload hx hb zd_R_readNumber_113 (lv_at hl 0 rfl) ?_
              refine lv_iload_n hx hb zd_R_readNumber_115 rfl (lv_at hl 4 rfl) ?_
              refine zi_icmp_le (tgt := 126) hx hb zd_R_readNumber_116 (by decide) (by omega) (fun c116 => ?_) (fun c116 => ?_)
              · refine lv_aload_n hx hb zd_R_readNumber_126 rfl (lv_at hl 2 rfl) ?_
                refine lv_iload hx hb zd_R_readNumber_127 (lv_at hl 0 rfl) ?_
                refine va_put (D := g.1) (ci := 4) (v := .int (iI (nb))) (ty := .int) (C := zR_R) (T := zT_R) (N := 6) hx hb hw zin_R zt_R zto_R zn_R hown hK hP hD hS 0 rfl rfl 4 (by decide) (hw _ zw_2_11) (fun _ h9 => h9) rfl  (by decide +kernel) rfl rfl (Nat.le_of_ble_eq_true rfl) zd_R_readNumber_129 (fun H locs hP hD hS => ?_)
                have hP : va_P g.1 zCl [(rq, .inr (4, [.ref (tx), .int (iI (ln)), .ref (pq), .int (iI (x)), .int (iI (nb)), .int (iI (bI (op)))])), (tx, .inl (g.2 2, 400, .inl (zaI tf)))] H := hP
                have hD : va_D A [(rq, .inr (4, [.ref (tx), .int (iI (ln)), .ref (pq), .int (iI (x)), .int (iI (nb)), .int (iI (bI (op)))])), (tx, .inl (g.2 2, 400, .inl (zaI tf)))] := hD
                refine zi_iconst hx hb zd_R_readNumber_132 ?_
                refine zb_as (x := true) rfl ?_
                have e1 : x = (num tf ln at0).1 := hE.1.symm
                have e2 : nb = (num tf ln at0).2 := by have := hy.2.2; omega
                rw [e1, e2] at hP
                exact zw_zret hx hb hr hlk (ws := [(rq, .inr (4, [.ref (tx), .int (iI (ln)), .ref (pq), .int (iI ((num tf ln at0).1)), .int (iI ((num tf ln at0).2)), .int (iI (bI (op)))])), (tx, .inl (g.2 2, 400, .inl (zaI tf)))]) hP hS zd_R_readNumber_133
              · refine lv_aload_n hx hb zd_R_readNumber_119 rfl (lv_at hl 2 rfl) ?_
                refine lv_iload_n hx hb zd_R_readNumber_120 rfl (lv_at hl 1 rfl) ?_
                refine va_put (D := g.1) (ci := 4) (v := .int (iI (at0))) (ty := .int) (C := zR_R) (T := zT_R) (N := 6) hx hb hw zin_R zt_R zto_R zn_R hown hK hP hD hS 0 rfl rfl 3 (by decide) (hw _ zw_2_10) (fun _ h9 => h9) rfl  (by decide +kernel) rfl rfl (Nat.le_of_ble_eq_true rfl) zd_R_readNumber_121 (fun H locs hP hD hS => ?_)
                have hP : va_P g.1 zCl [(rq, .inr (4, [.ref (tx), .int (iI (ln)), .ref (pq), .int (iI (at0)), .int (iI (vl)), .int (iI (bI (op)))])), (tx, .inl (g.2 2, 400, .inl (zaI tf)))] H := hP
                have hD : va_D A [(rq, .inr (4, [.ref (tx), .int (iI (ln)), .ref (pq), .int (iI (at0)), .int (iI (vl)), .int (iI (bI (op)))])), (tx, .inl (g.2 2, 400, .inl (zaI tf)))] := hD
                refine zi_iconst hx hb zd_R_readNumber_124 ?_
                exact absurd hy (fun q => by have := q.1; have := q.2.1; have := q.2.2; omega)
        · refine lv_aload_n hx hb zd_R_readNumber_33 rfl (lv_at hl 2 rfl) ?_
          refine va_get (D := g.1) (ci := 4) (v := .ref (tx)) (C := zR_R) (T := zT_R) (N := 6) hx hb hw zin_R hown hK hP 0 rfl rfl 0 (by decide) (hw _ zw_2_7) (fun _ h9 => h9) rfl zd_R_readNumber_34 ?_
          refine lv_aload_n hx hb zd_R_readNumber_37 rfl (lv_at hl 2 rfl) ?_
          refine va_get (D := g.1) (ci := 4) (v := .int (iI (x))) (C := zR_R) (T := zT_R) (N := 6) hx hb hw zin_R hown hK hP 0 rfl rfl 3 (by decide) (hw _ zw_2_10) (fun _ h9 => h9) rfl zd_R_readNumber_38 ?_
          refine zi_cald hx hb hK hP 1 2 rfl rfl (by omega) zd_R_readNumber_41 ?_
          refine zi_bipush hx hb zd_R_readNumber_42 (by decide) ?_
          refine zi_icmp_gt (tgt := 99) hx hb zd_R_readNumber_44 (by decide) (by omega) (fun c44 => ?_) (fun c44 => ?_)
          · have hv2 := nm_v h3
            have hE := nm_exit (E := (num tf ln at0).1) (Vv := (num tf ln at0).2) rfl h3 hnb (by first | exact Or.inl (by rw [rk_out (by omega)]; omega) | exact Or.inl (by rw [rk_in (by omega)]; omega) | exact Or.inr (by omega))
            refine lv_aload_n hx hb zd_R_readNumber_99 rfl (lv_at hl 2 rfl) ?_
            refine va_get (D := g.1) (ci := 4) (v := .int (iI (x))) (C := zR_R) (T := zT_R) (N := 6) hx hb hw zin_R hown hK hP 0 rfl rfl 3 (by decide) (hw _ zw_2_10) (fun _ h9 => h9) rfl zd_R_readNumber_100 ?_
            refine lv_iload_n hx hb zd_R_readNumber_103 rfl (lv_at hl 1 rfl) ?_
            refine zi_icmp_eq (tgt := 119) hx hb zd_R_readNumber_104 (by decide) (by omega) (fun c104 => ?_) (fun c104 => ?_)
            · refine lv_aload_n hx hb zd_R_readNumber_119 rfl (lv_at hl 2 rfl) ?_
              refine lv_iload_n hx hb zd_R_readNumber_120 rfl (lv_at hl 1 rfl) ?_
              refine va_put (D := g.1) (ci := 4) (v := .int (iI (at0))) (ty := .int) (C := zR_R) (T := zT_R) (N := 6) hx hb hw zin_R zt_R zto_R zn_R hown hK hP hD hS 0 rfl rfl 3 (by decide) (hw _ zw_2_10) (fun _ h9 => h9) rfl  (by decide +kernel) rfl rfl (Nat.le_of_ble_eq_true rfl) zd_R_readNumber_121 (fun H locs hP hD hS => ?_)
              have hP : va_P g.1 zCl [(rq, .inr (4, [.ref (tx), .int (iI (ln)), .ref (pq), .int (iI (at0)), .int (iI (vl)), .int (iI (bI (op)))])), (tx, .inl (g.2 2, 400, .inl (zaI tf)))] H := hP
              have hD : va_D A [(rq, .inr (4, [.ref (tx), .int (iI (ln)), .ref (pq), .int (iI (at0)), .int (iI (vl)), .int (iI (bI (op)))])), (tx, .inl (g.2 2, 400, .inl (zaI tf)))] := hD
              refine zi_iconst hx hb zd_R_readNumber_124 ?_
              exact absurd hy (fun q => by have := q.1; have := q.2.1; have := q.2.2; omega)
            · refine lv_iload hx hb zd_R_readNumber_107 (lv_at hl 0 rfl) ?_
              refine lv_iload_n hx hb zd_R_readNumber_109 rfl (lv_at hl 3 rfl) ?_
              refine zi_icmp_lt (tgt := 119) hx hb zd_R_readNumber_110 (by decide) (by omega) (fun c110 => ?_) (fun c110 => ?_)
              · refine lv_aload_n hx hb zd_R_readNumber_119 rfl (lv_at hl 2 rfl) ?_
                refine lv_iload_n hx hb zd_R_readNumber_120 rfl (lv_at hl 1 rfl) ?_
                refine va_put (D := g.1) (ci := 4) (v := .int (iI (at0))) (ty := .int) (C := zR_R) (T := zT_R) (N := 6) hx hb hw zin_R zt_R zto_R zn_R hown hK hP hD hS 0 rfl rfl 3 (by decide) (hw _ zw_2_10) (fun _ h9 => h9) rfl  (by decide +kernel) rfl rfl (Nat.le_of_ble_eq_true rfl) zd_R_readNumber_121 (fun H locs hP hD hS => ?_)
                have hP : va_P g.1 zCl [(rq, .inr (4, [.ref (tx), .int (iI (ln)), .ref (pq), .int (iI (at0)), .int (iI (vl)), .int (iI (bI (op)))])), (tx, .inl (g.2 2, 400, .inl (zaI tf)))] H := hP
                have hD : va_D A [(rq, .inr (4, [.ref (tx), .int (iI (ln)), .ref (pq), .int (iI (at0)), .int (iI (vl)), .int (iI (bI (op)))])), (tx, .inl (g.2 2, 400, .inl (zaI tf)))] := hD
                refine zi_iconst hx hb zd_R_readNumber_124 ?_
                exact absurd hy (fun q => by have := q.1; have := q.2.1; have := q.2.2; omega)
              · refine lv_iload hx hb zd_R_readNumber_113 (lv_at hl 0 rfl) ?_
                refine lv_iload_n hx hb zd_R_readNumber_115 rfl (lv_at hl 4 rfl) ?_
                refine zi_icmp_le (tgt := 126) hx hb zd_R_readNumber_116 (by decide) (by omega) (fun c116 => ?_) (fun c116 => ?_)
                · refine lv_aload_n hx hb zd_R_readNumber_126 rfl (lv_at hl 2 rfl) ?_
                  refine lv_iload hx hb zd_R_readNumber_127 (lv_at hl 0 rfl) ?_
                  refine va_put (D := g.1) (ci := 4) (v := .int (iI (nb))) (ty := .int) (C := zR_R) (T := zT_R) (N := 6) hx hb hw zin_R zt_R zto_R zn_R hown hK hP hD hS 0 rfl rfl 4 (by decide) (hw _ zw_2_11) (fun _ h9 => h9) rfl  (by decide +kernel) rfl rfl (Nat.le_of_ble_eq_true rfl) zd_R_readNumber_129 (fun H locs hP hD hS => ?_)
                  have hP : va_P g.1 zCl [(rq, .inr (4, [.ref (tx), .int (iI (ln)), .ref (pq), .int (iI (x)), .int (iI (nb)), .int (iI (bI (op)))])), (tx, .inl (g.2 2, 400, .inl (zaI tf)))] H := hP
                  have hD : va_D A [(rq, .inr (4, [.ref (tx), .int (iI (ln)), .ref (pq), .int (iI (x)), .int (iI (nb)), .int (iI (bI (op)))])), (tx, .inl (g.2 2, 400, .inl (zaI tf)))] := hD
                  refine zi_iconst hx hb zd_R_readNumber_132 ?_
                  refine zb_as (x := true) rfl ?_
                  have e1 : x = (num tf ln at0).1 := hE.1.symm
                  have e2 : nb = (num tf ln at0).2 := by have := hy.2.2; omega
                  rw [e1, e2] at hP
                  exact zw_zret hx hb hr hlk (ws := [(rq, .inr (4, [.ref (tx), .int (iI (ln)), .ref (pq), .int (iI ((num tf ln at0).1)), .int (iI ((num tf ln at0).2)), .int (iI (bI (op)))])), (tx, .inl (g.2 2, 400, .inl (zaI tf)))]) hP hS zd_R_readNumber_133
                · refine lv_aload_n hx hb zd_R_readNumber_119 rfl (lv_at hl 2 rfl) ?_
                  refine lv_iload_n hx hb zd_R_readNumber_120 rfl (lv_at hl 1 rfl) ?_
                  refine va_put (D := g.1) (ci := 4) (v := .int (iI (at0))) (ty := .int) (C := zR_R) (T := zT_R) (N := 6) hx hb hw zin_R zt_R zto_R zn_R hown hK hP hD hS 0 rfl rfl 3 (by decide) (hw _ zw_2_10) (fun _ h9 => h9) rfl  (by decide +kernel) rfl rfl (Nat.le_of_ble_eq_true rfl) zd_R_readNumber_121 (fun H locs hP hD hS => ?_)
                  have hP : va_P g.1 zCl [(rq, .inr (4, [.ref (tx), .int (iI (ln)), .ref (pq), .int (iI (at0)), .int (iI (vl)), .int (iI (bI (op)))])), (tx, .inl (g.2 2, 400, .inl (zaI tf)))] H := hP
                  have hD : va_D A [(rq, .inr (4, [.ref (tx), .int (iI (ln)), .ref (pq), .int (iI (at0)), .int (iI (vl)), .int (iI (bI (op)))])), (tx, .inl (g.2 2, 400, .inl (zaI tf)))] := hD
                  refine zi_iconst hx hb zd_R_readNumber_124 ?_
                  exact absurd hy (fun q => by have := q.1; have := q.2.1; have := q.2.2; omega)
          · refine lv_aload_n hx hb zd_R_readNumber_47 rfl (lv_at hl 2 rfl) ?_
            refine va_get (D := g.1) (ci := 4) (v := .int (iI (x))) (C := zR_R) (T := zT_R) (N := 6) hx hb hw zin_R hown hK hP 0 rfl rfl 3 (by decide) (hw _ zw_2_10) (fun _ h9 => h9) rfl zd_R_readNumber_48 ?_
            refine lv_iload_n hx hb zd_R_readNumber_51 rfl (lv_at hl 1 rfl) ?_
            refine zi_icmp_eq (tgt := 60) hx hb zd_R_readNumber_52 (by decide) (by omega) (fun c52 => ?_) (fun c52 => ?_)
            · refine lv_iload hx hb zd_R_readNumber_60 (lv_at hl 0 rfl) ?_
              refine zi_bipush hx hb zd_R_readNumber_62 (by decide) ?_
              refine zi_imul hx hb zd_R_readNumber_64 ?_
              refine lv_aload_n hx hb zd_R_readNumber_65 rfl (lv_at hl 2 rfl) ?_
              refine va_get (D := g.1) (ci := 4) (v := .ref (tx)) (C := zR_R) (T := zT_R) (N := 6) hx hb hw zin_R hown hK hP 0 rfl rfl 0 (by decide) (hw _ zw_2_7) (fun _ h9 => h9) rfl zd_R_readNumber_66 ?_
              refine lv_aload_n hx hb zd_R_readNumber_69 rfl (lv_at hl 2 rfl) ?_
              refine va_get (D := g.1) (ci := 4) (v := .int (iI (x))) (C := zR_R) (T := zT_R) (N := 6) hx hb hw zin_R hown hK hP 0 rfl rfl 3 (by decide) (hw _ zw_2_10) (fun _ h9 => h9) rfl zd_R_readNumber_70 ?_
              refine zi_cald hx hb hK hP 1 2 rfl rfl (by omega) zd_R_readNumber_73 ?_
              refine zi_iadd hx hb zd_R_readNumber_74 ?_
              refine zi_bipush hx hb zd_R_readNumber_75 (by decide) ?_
              refine zi_isub hx hb zd_R_readNumber_77 ?_
              refine zi_sipush hx hb zd_R_readNumber_78 (by decide) ?_
              refine zk_S (As := [.int (iI (((nb * 10) + (tf (x).toNat)) - 48)), .int (iI (10000))]) (own := "CronFinder$Reader") (nL := 5) (rest := []) hx hb hml hown hw (c_min l g (((nb * 10) + (tf (x).toNat)) - 48) (10000) (by omega)) zw_2_90 zw_2_91 zw_1_14 zw_2_92 (np := 2) (by decide +kernel) rfl (by decide) zN_mv hK trivial (hP.sub (ws' := []) [] rfl) hl.1 rfl (Nat.le_of_ble_eq_true rfl) (by decide) zd_R_readNumber_81 ?_
              refine lv_istore (lv' := [(4, .int (iI (min (((nb * 10) + (tf (x).toNat)) - 48) (10000)))), (3, .int (iI (at0))), (0, .ref (rq)), (1, .int (iI (lo))), (2, .int (iI (hi)))]) hx hb zd_R_readNumber_84 hl (by decide) rfl (fun ls hl => ?_)
              refine lv_aload_n hx hb zd_R_readNumber_86 rfl (lv_at hl 2 rfl) ?_
              refine lv_dup hx hb zd_R_readNumber_87 rfl ?_
              refine va_get (D := g.1) (ci := 4) (v := .int (iI (x))) (C := zR_R) (T := zT_R) (N := 6) hx hb hw zin_R hown hK hP 0 rfl rfl 3 (by decide) (hw _ zw_2_10) (fun _ h9 => h9) rfl zd_R_readNumber_88 ?_
              refine zi_iconst hx hb zd_R_readNumber_91 ?_
              refine zi_iadd hx hb zd_R_readNumber_92 ?_
              refine va_put (D := g.1) (ci := 4) (v := .int (iI (x + 1))) (ty := .int) (C := zR_R) (T := zT_R) (N := 6) hx hb hw zin_R zt_R zto_R zn_R hown hK hP hD hS 0 rfl rfl 3 (by decide) (hw _ zw_2_10) (fun _ h9 => h9) rfl  (by decide +kernel) rfl rfl (Nat.le_of_ble_eq_true rfl) zd_R_readNumber_93 (fun H locs hP hD hS => ?_)
              have hP : va_P g.1 zCl [(rq, .inr (4, [.ref (tx), .int (iI (ln)), .ref (pq), .int (iI (x + 1)), .int (iI (vl)), .int (iI (bI (op)))])), (tx, .inl (g.2 2, 400, .inl (zaI tf)))] H := hP
              have hD : va_D A [(rq, .inr (4, [.ref (tx), .int (iI (ln)), .ref (pq), .int (iI (x + 1)), .int (iI (vl)), .int (iI (bI (op)))])), (tx, .inl (g.2 2, 400, .inl (zaI tf)))] := hD
              refine lv_goto (tgt := 8) hx hb zd_R_readNumber_96 (by decide) ?_
              have hv2 := nm_v h3
              exact ih (x + 1) (min (((nb * 10) + (tf (x).toNat)) - 48) (10000)) (10 * v + (rk tf ln x - 48)) H locs ls ⟨by omega, by omega⟩ (by rw [rk_in (by omega)]; omega) (nm_step (E := (num tf ln at0).1) (Vv := (num tf ln at0).2) rfl h3 (by rw [rk_in (by omega)]; omega) (by omega) hnb) (by omega) hP hD hS (lv_sub hl [0, 1, 2, 3, 4] rfl)
            · refine lv_iload hx hb zd_R_readNumber_55 (lv_at hl 0 rfl) ?_
              refine zi_if_le (tgt := 99) hx hb zd_R_readNumber_57 (by decide) (by omega) (fun c57 => ?_) (fun c57 => ?_)
              · have hv2 := nm_v h3
                have hE := nm_exit (E := (num tf ln at0).1) (Vv := (num tf ln at0).2) rfl h3 hnb (by first | exact Or.inl (by rw [rk_out (by omega)]; omega) | exact Or.inl (by rw [rk_in (by omega)]; omega) | exact Or.inr (by omega))
                refine lv_aload_n hx hb zd_R_readNumber_99 rfl (lv_at hl 2 rfl) ?_
                refine va_get (D := g.1) (ci := 4) (v := .int (iI (x))) (C := zR_R) (T := zT_R) (N := 6) hx hb hw zin_R hown hK hP 0 rfl rfl 3 (by decide) (hw _ zw_2_10) (fun _ h9 => h9) rfl zd_R_readNumber_100 ?_
                refine lv_iload_n hx hb zd_R_readNumber_103 rfl (lv_at hl 1 rfl) ?_
                refine zi_icmp_eq (tgt := 119) hx hb zd_R_readNumber_104 (by decide) (by omega) (fun c104 => ?_) (fun c104 => ?_)
                · refine lv_aload_n hx hb zd_R_readNumber_119 rfl (lv_at hl 2 rfl) ?_
                  refine lv_iload_n hx hb zd_R_readNumber_120 rfl (lv_at hl 1 rfl) ?_
                  refine va_put (D := g.1) (ci := 4) (v := .int (iI (at0))) (ty := .int) (C := zR_R) (T := zT_R) (N := 6) hx hb hw zin_R zt_R zto_R zn_R hown hK hP hD hS 0 rfl rfl 3 (by decide) (hw _ zw_2_10) (fun _ h9 => h9) rfl  (by decide +kernel) rfl rfl (Nat.le_of_ble_eq_true rfl) zd_R_readNumber_121 (fun H locs hP hD hS => ?_)
                  have hP : va_P g.1 zCl [(rq, .inr (4, [.ref (tx), .int (iI (ln)), .ref (pq), .int (iI (at0)), .int (iI (vl)), .int (iI (bI (op)))])), (tx, .inl (g.2 2, 400, .inl (zaI tf)))] H := hP
                  have hD : va_D A [(rq, .inr (4, [.ref (tx), .int (iI (ln)), .ref (pq), .int (iI (at0)), .int (iI (vl)), .int (iI (bI (op)))])), (tx, .inl (g.2 2, 400, .inl (zaI tf)))] := hD
                  refine zi_iconst hx hb zd_R_readNumber_124 ?_
                  exact absurd hy (fun q => by have := q.1; have := q.2.1; have := q.2.2; omega)
                · refine lv_iload hx hb zd_R_readNumber_107 (lv_at hl 0 rfl) ?_
                  refine lv_iload_n hx hb zd_R_readNumber_109 rfl (lv_at hl 3 rfl) ?_
                  refine zi_icmp_lt (tgt := 119) hx hb zd_R_readNumber_110 (by decide) (by omega) (fun c110 => ?_) (fun c110 => ?_)
                  · refine lv_aload_n hx hb zd_R_readNumber_119 rfl (lv_at hl 2 rfl) ?_
                    refine lv_iload_n hx hb zd_R_readNumber_120 rfl (lv_at hl 1 rfl) ?_
                    refine va_put (D := g.1) (ci := 4) (v := .int (iI (at0))) (ty := .int) (C := zR_R) (T := zT_R) (N := 6) hx hb hw zin_R zt_R zto_R zn_R hown hK hP hD hS 0 rfl rfl 3 (by decide) (hw _ zw_2_10) (fun _ h9 => h9) rfl  (by decide +kernel) rfl rfl (Nat.le_of_ble_eq_true rfl) zd_R_readNumber_121 (fun H locs hP hD hS => ?_)
                    have hP : va_P g.1 zCl [(rq, .inr (4, [.ref (tx), .int (iI (ln)), .ref (pq), .int (iI (at0)), .int (iI (vl)), .int (iI (bI (op)))])), (tx, .inl (g.2 2, 400, .inl (zaI tf)))] H := hP
                    have hD : va_D A [(rq, .inr (4, [.ref (tx), .int (iI (ln)), .ref (pq), .int (iI (at0)), .int (iI (vl)), .int (iI (bI (op)))])), (tx, .inl (g.2 2, 400, .inl (zaI tf)))] := hD
                    refine zi_iconst hx hb zd_R_readNumber_124 ?_
                    exact absurd hy (fun q => by have := q.1; have := q.2.1; have := q.2.2; omega)
                  · refine lv_iload hx hb zd_R_readNumber_113 (lv_at hl 0 rfl) ?_
                    refine lv_iload_n hx hb zd_R_readNumber_115 rfl (lv_at hl 4 rfl) ?_
                    refine zi_icmp_le (tgt := 126) hx hb zd_R_readNumber_116 (by decide) (by omega) (fun c116 => ?_) (fun c116 => ?_)
                    · refine lv_aload_n hx hb zd_R_readNumber_126 rfl (lv_at hl 2 rfl) ?_
                      refine lv_iload hx hb zd_R_readNumber_127 (lv_at hl 0 rfl) ?_
                      refine va_put (D := g.1) (ci := 4) (v := .int (iI (nb))) (ty := .int) (C := zR_R) (T := zT_R) (N := 6) hx hb hw zin_R zt_R zto_R zn_R hown hK hP hD hS 0 rfl rfl 4 (by decide) (hw _ zw_2_11) (fun _ h9 => h9) rfl  (by decide +kernel) rfl rfl (Nat.le_of_ble_eq_true rfl) zd_R_readNumber_129 (fun H locs hP hD hS => ?_)
                      have hP : va_P g.1 zCl [(rq, .inr (4, [.ref (tx), .int (iI (ln)), .ref (pq), .int (iI (x)), .int (iI (nb)), .int (iI (bI (op)))])), (tx, .inl (g.2 2, 400, .inl (zaI tf)))] H := hP
                      have hD : va_D A [(rq, .inr (4, [.ref (tx), .int (iI (ln)), .ref (pq), .int (iI (x)), .int (iI (nb)), .int (iI (bI (op)))])), (tx, .inl (g.2 2, 400, .inl (zaI tf)))] := hD
                      refine zi_iconst hx hb zd_R_readNumber_132 ?_
                      refine zb_as (x := true) rfl ?_
                      have e1 : x = (num tf ln at0).1 := hE.1.symm
                      have e2 : nb = (num tf ln at0).2 := by have := hy.2.2; omega
                      rw [e1, e2] at hP
                      exact zw_zret hx hb hr hlk (ws := [(rq, .inr (4, [.ref (tx), .int (iI (ln)), .ref (pq), .int (iI ((num tf ln at0).1)), .int (iI ((num tf ln at0).2)), .int (iI (bI (op)))])), (tx, .inl (g.2 2, 400, .inl (zaI tf)))]) hP hS zd_R_readNumber_133
                    · refine lv_aload_n hx hb zd_R_readNumber_119 rfl (lv_at hl 2 rfl) ?_
                      refine lv_iload_n hx hb zd_R_readNumber_120 rfl (lv_at hl 1 rfl) ?_
                      refine va_put (D := g.1) (ci := 4) (v := .int (iI (at0))) (ty := .int) (C := zR_R) (T := zT_R) (N := 6) hx hb hw zin_R zt_R zto_R zn_R hown hK hP hD hS 0 rfl rfl 3 (by decide) (hw _ zw_2_10) (fun _ h9 => h9) rfl  (by decide +kernel) rfl rfl (Nat.le_of_ble_eq_true rfl) zd_R_readNumber_121 (fun H locs hP hD hS => ?_)
                      have hP : va_P g.1 zCl [(rq, .inr (4, [.ref (tx), .int (iI (ln)), .ref (pq), .int (iI (at0)), .int (iI (vl)), .int (iI (bI (op)))])), (tx, .inl (g.2 2, 400, .inl (zaI tf)))] H := hP
                      have hD : va_D A [(rq, .inr (4, [.ref (tx), .int (iI (ln)), .ref (pq), .int (iI (at0)), .int (iI (vl)), .int (iI (bI (op)))])), (tx, .inl (g.2 2, 400, .inl (zaI tf)))] := hD
                      refine zi_iconst hx hb zd_R_readNumber_124 ?_
                      exact absurd hy (fun q => by have := q.1; have := q.2.1; have := q.2.2; omega)
              · refine lv_iload hx hb zd_R_readNumber_60 (lv_at hl 0 rfl) ?_
                refine zi_bipush hx hb zd_R_readNumber_62 (by decide) ?_
                refine zi_imul hx hb zd_R_readNumber_64 ?_
                refine lv_aload_n hx hb zd_R_readNumber_65 rfl (lv_at hl 2 rfl) ?_
                refine va_get (D := g.1) (ci := 4) (v := .ref (tx)) (C := zR_R) (T := zT_R) (N := 6) hx hb hw zin_R hown hK hP 0 rfl rfl 0 (by decide) (hw _ zw_2_7) (fun _ h9 => h9) rfl zd_R_readNumber_66 ?_
                refine lv_aload_n hx hb zd_R_readNumber_69 rfl (lv_at hl 2 rfl) ?_
                refine va_get (D := g.1) (ci := 4) (v := .int (iI (x))) (C := zR_R) (T := zT_R) (N := 6) hx hb hw zin_R hown hK hP 0 rfl rfl 3 (by decide) (hw _ zw_2_10) (fun _ h9 => h9) rfl zd_R_readNumber_70 ?_
                refine zi_cald hx hb hK hP 1 2 rfl rfl (by omega) zd_R_readNumber_73 ?_
                refine zi_iadd hx hb zd_R_readNumber_74 ?_
                refine zi_bipush hx hb zd_R_readNumber_75 (by decide) ?_
                refine zi_isub hx hb zd_R_readNumber_77 ?_
                refine zi_sipush hx hb zd_R_readNumber_78 (by decide) ?_
                refine zk_S (As := [.int (iI (((nb * 10) + (tf (x).toNat)) - 48)), .int (iI (10000))]) (own := "CronFinder$Reader") (nL := 5) (rest := []) hx hb hml hown hw (c_min l g (((nb * 10) + (tf (x).toNat)) - 48) (10000) (by omega)) zw_2_90 zw_2_91 zw_1_14 zw_2_92 (np := 2) (by decide +kernel) rfl (by decide) zN_mv hK trivial (hP.sub (ws' := []) [] rfl) hl.1 rfl (Nat.le_of_ble_eq_true rfl) (by decide) zd_R_readNumber_81 ?_
                refine lv_istore (lv' := [(4, .int (iI (min (((nb * 10) + (tf (x).toNat)) - 48) (10000)))), (3, .int (iI (at0))), (0, .ref (rq)), (1, .int (iI (lo))), (2, .int (iI (hi)))]) hx hb zd_R_readNumber_84 hl (by decide) rfl (fun ls hl => ?_)
                refine lv_aload_n hx hb zd_R_readNumber_86 rfl (lv_at hl 2 rfl) ?_
                refine lv_dup hx hb zd_R_readNumber_87 rfl ?_
                refine va_get (D := g.1) (ci := 4) (v := .int (iI (x))) (C := zR_R) (T := zT_R) (N := 6) hx hb hw zin_R hown hK hP 0 rfl rfl 3 (by decide) (hw _ zw_2_10) (fun _ h9 => h9) rfl zd_R_readNumber_88 ?_
                refine zi_iconst hx hb zd_R_readNumber_91 ?_
                refine zi_iadd hx hb zd_R_readNumber_92 ?_
                refine va_put (D := g.1) (ci := 4) (v := .int (iI (x + 1))) (ty := .int) (C := zR_R) (T := zT_R) (N := 6) hx hb hw zin_R zt_R zto_R zn_R hown hK hP hD hS 0 rfl rfl 3 (by decide) (hw _ zw_2_10) (fun _ h9 => h9) rfl  (by decide +kernel) rfl rfl (Nat.le_of_ble_eq_true rfl) zd_R_readNumber_93 (fun H locs hP hD hS => ?_)
                have hP : va_P g.1 zCl [(rq, .inr (4, [.ref (tx), .int (iI (ln)), .ref (pq), .int (iI (x + 1)), .int (iI (vl)), .int (iI (bI (op)))])), (tx, .inl (g.2 2, 400, .inl (zaI tf)))] H := hP
                have hD : va_D A [(rq, .inr (4, [.ref (tx), .int (iI (ln)), .ref (pq), .int (iI (x + 1)), .int (iI (vl)), .int (iI (bI (op)))])), (tx, .inl (g.2 2, 400, .inl (zaI tf)))] := hD
                refine lv_goto (tgt := 8) hx hb zd_R_readNumber_96 (by decide) ?_
                have hv2 := nm_v h3
                exact ih (x + 1) (min (((nb * 10) + (tf (x).toNat)) - 48) (10000)) (10 * v + (rk tf ln x - 48)) H locs ls ⟨by omega, by omega⟩ (by rw [rk_in (by omega)]; omega) (nm_step (E := (num tf ln at0).1) (Vv := (num tf ln at0).2) rfl h3 (by rw [rk_in (by omega)]; omega) (by omega) hnb) (by omega) hP hD hS (lv_sub hl [0, 1, 2, 3, 4] rfl)
  exact loop 401 at0 0 0 s.heap [] ls ⟨by omega, by omega⟩ (by decide) (Or.inl ⟨rfl, rfl, rfl⟩) (by omega) hP hD hS (lv_sub hl [0, 1, 2, 3, 4] rfl)
set_option maxHeartbeats 4000000 in
set_option maxRecDepth 100000 in
theorem c_R_num_n (l : Launch) (g : zGl) (rq tx : Nat) (tf : Nat → Int) (ln : Int) (pq : Nat) (at0 vl : Int) (op : Bool) (hln : 0 ≤ ln ∧ ln ≤ 400) (hat : 0 ≤ at0 ∧ at0 ≤ ln) (hch : ∀ j : Nat, 0 ≤ tf j ∧ tf j < 256) (lo hi : Int) (hlh : 0 ≤ lo ∧ lo < 10000 ∧ 0 ≤ hi ∧ hi < 10000) (hy : ¬ rNm tf ln lo hi at0) : zWi l zy_R_readNumber zc_R_readNumber 5 (some .boolean) ({ frames := 1, cells := 0, slots := 0, locals := 21 }) g (fun _ => zN) [.ref (rq), .int (iI (lo)), .int (iI (hi))] [(rq, .inr (4, [.ref (tx), .int (iI (ln)), .ref (pq), .int (iI (at0)), .int (iI (vl)), .int (iI (bI (op)))])), (tx, .inl (g.2 2, 400, .inl (zaI tf)))] (some (.int (iI (bI (false))))) [(rq, .inr (4, [.ref (tx), .int (iI (ln)), .ref (pq), .int (iI (at0)), .int (iI (vl)), .int (iI (bI (op)))])), (tx, .inl (g.2 2, 400, .inl (zaI tf)))] 0 0 := by
  refine zw_open (by decide +kernel) (Nat.le_of_ble_eq_true rfl) ?_
  intro p e s m below meth c ls A hx hb hml hr hlk hown hin hw hK hT hP hD hS hA hl
  have hown : s.vm.findClass "CronFinder$Reader" = some m.cls := hown
  have hl : lv_has ls 5 [(0, .ref (rq)), (1, .int (iI (lo))), (2, .int (iI (hi)))] := hl
  refine lv_aload_n hx hb zd_R_readNumber_0 rfl (lv_at hl 0 rfl) ?_
  refine va_get (D := g.1) (ci := 4) (v := .int (iI (at0))) (C := zR_R) (T := zT_R) (N := 6) hx hb hw zin_R hown hK hP 0 rfl rfl 3 (by decide) (hw _ zw_2_10) (fun _ h9 => h9) rfl zd_R_readNumber_1 ?_
  refine lv_istore_n (lv' := [(3, .int (iI (at0))), (0, .ref (rq)), (1, .int (iI (lo))), (2, .int (iI (hi)))]) hx hb zd_R_readNumber_4 rfl hl (by decide) rfl (fun ls hl => ?_)
  refine zi_iconst hx hb zd_R_readNumber_5 ?_
  refine lv_istore (lv' := [(4, .int (iI (0))), (3, .int (iI (at0))), (0, .ref (rq)), (1, .int (iI (lo))), (2, .int (iI (hi)))]) hx hb zd_R_readNumber_6 hl (by decide) rfl (fun ls hl => ?_)
  have loop : ∀ (n : Nat) (x nb v : Int) (H : Heap) (locs : List Loc) (ls : Array Slot), (0 ≤ x ∧ x ≤ ln) → (nb = min v 10000) → (nmI tf ln at0 (num tf ln at0).1 (num tf ln at0).2 n x v) → ((ln - x).toNat < n) → va_P g.1 zCl [(rq, .inr (4, [.ref (tx), .int (iI (ln)), .ref (pq), .int (iI (x)), .int (iI (vl)), .int (iI (bI (op)))])), (tx, .inl (g.2 2, 400, .inl (zaI tf)))] H → va_D A [(rq, .inr (4, [.ref (tx), .int (iI (ln)), .ref (pq), .int (iI (x)), .int (iI (vl)), .int (iI (bI (op)))])), (tx, .inl (g.2 2, 400, .inl (zaI tf)))] → va_S A s.heap H locs → lv_has ls 5 [(4, .int (iI (nb))), (3, .int (iI (at0))), (0, .ref (rq)), (1, .int (iI (lo))), (2, .int (iI (hi)))] → W p l e ({ frames := 1, cells := 0, slots := 0, locals := 21 }) s m [.ref (rq), .int (iI (lo)), .int (iI (hi))].toArray below meth c H locs 0 0 (MQ below (zWr g.1 zCl (some (.int (iI (bI (false))))) [(rq, .inr (4, [.ref (tx), .int (iI (ln)), .ref (pq), .int (iI (at0)), .int (iI (vl)), .int (iI (bI (op)))])), (tx, .inl (g.2 2, 400, .inl (zaI tf)))] A) [.ref (rq), .int (iI (lo)), .int (iI (hi))].toArray s 0 0 A) (F0 m 8 ls []) := by
    intro n
    induction n with
    | zero =>
      intro x nb v H locs ls h1 hnb h3 h2 hP hD hS hl
      exact absurd h2 (by omega)
    | succ n ih =>
      intro x nb v H locs ls h1 hnb h3 h2 hP hD hS hl
      refine lv_aload_n hx hb zd_R_readNumber_8 rfl (lv_at hl 2 rfl) ?_
      refine va_get (D := g.1) (ci := 4) (v := .int (iI (x))) (C := zR_R) (T := zT_R) (N := 6) hx hb hw zin_R hown hK hP 0 rfl rfl 3 (by decide) (hw _ zw_2_10) (fun _ h9 => h9) rfl zd_R_readNumber_9 ?_
      refine lv_aload_n hx hb zd_R_readNumber_12 rfl (lv_at hl 2 rfl) ?_
      refine va_get (D := g.1) (ci := 4) (v := .int (iI (ln))) (C := zR_R) (T := zT_R) (N := 6) hx hb hw zin_R hown hK hP 0 rfl rfl 1 (by decide) (hw _ zw_2_8) (fun _ h9 => h9) rfl zd_R_readNumber_13 ?_
      refine zi_icmp_ge (tgt := 99) hx hb zd_R_readNumber_16 (by decide) (by omega) (fun c16 => ?_) (fun c16 => ?_)
      · have hv2 := nm_v h3
        have hE := nm_exit (E := (num tf ln at0).1) (Vv := (num tf ln at0).2) rfl h3 hnb (by first | exact Or.inl (by rw [rk_out (by omega)]; omega) | exact Or.inl (by rw [rk_in (by omega)]; omega) | exact Or.inr (by omega))
        refine lv_aload_n hx hb zd_R_readNumber_99 rfl (lv_at hl 2 rfl) ?_
        refine va_get (D := g.1) (ci := 4) (v := .int (iI (x))) (C := zR_R) (T := zT_R) (N := 6) hx hb hw zin_R hown hK hP 0 rfl rfl 3 (by decide) (hw _ zw_2_10) (fun _ h9 => h9) rfl zd_R_readNumber_100 ?_
        refine lv_iload_n hx hb zd_R_readNumber_103 rfl (lv_at hl 1 rfl) ?_
        refine zi_icmp_eq (tgt := 119) hx hb zd_R_readNumber_104 (by decide) (by omega) (fun c104 => ?_) (fun c104 => ?_)
        · refine lv_aload_n hx hb zd_R_readNumber_119 rfl (lv_at hl 2 rfl) ?_
          refine lv_iload_n hx hb zd_R_readNumber_120 rfl (lv_at hl 1 rfl) ?_
          refine va_put (D := g.1) (ci := 4) (v := .int (iI (at0))) (ty := .int) (C := zR_R) (T := zT_R) (N := 6) hx hb hw zin_R zt_R zto_R zn_R hown hK hP hD hS 0 rfl rfl 3 (by decide) (hw _ zw_2_10) (fun _ h9 => h9) rfl  (by decide +kernel) rfl rfl (Nat.le_of_ble_eq_true rfl) zd_R_readNumber_121 (fun H locs hP hD hS => ?_)
          have hP : va_P g.1 zCl [(rq, .inr (4, [.ref (tx), .int (iI (ln)), .ref (pq), .int (iI (at0)), .int (iI (vl)), .int (iI (bI (op)))])), (tx, .inl (g.2 2, 400, .inl (zaI tf)))] H := hP
          have hD : va_D A [(rq, .inr (4, [.ref (tx), .int (iI (ln)), .ref (pq), .int (iI (at0)), .int (iI (vl)), .int (iI (bI (op)))])), (tx, .inl (g.2 2, 400, .inl (zaI tf)))] := hD
          refine zi_iconst hx hb zd_R_readNumber_124 ?_
          refine zb_as (x := false) rfl ?_
          exact zw_zret hx hb hr hlk (ws := [(rq, .inr (4, [.ref (tx), .int (iI (ln)), .ref (pq), .int (iI (at0)), .int (iI (vl)), .int (iI (bI (op)))])), (tx, .inl (g.2 2, 400, .inl (zaI tf)))]) hP hS zd_R_readNumber_125
        · refine lv_iload hx hb zd_R_readNumber_107 (lv_at hl 0 rfl) ?_
          refine lv_iload_n hx hb zd_R_readNumber_109 rfl (lv_at hl 3 rfl) ?_
          refine zi_icmp_lt (tgt := 119) hx hb zd_R_readNumber_110 (by decide) (by omega) (fun c110 => ?_) (fun c110 => ?_)
          · refine lv_aload_n hx hb zd_R_readNumber_119 rfl (lv_at hl 2 rfl) ?_
            refine lv_iload_n hx hb zd_R_readNumber_120 rfl (lv_at hl 1 rfl) ?_
            refine va_put (D := g.1) (ci := 4) (v := .int (iI (at0))) (ty := .int) (C := zR_R) (T := zT_R) (N := 6) hx hb hw zin_R zt_R zto_R zn_R hown hK hP hD hS 0 rfl rfl 3 (by decide) (hw _ zw_2_10) (fun _ h9 => h9) rfl  (by decide +kernel) rfl rfl (Nat.le_of_ble_eq_true rfl) zd_R_readNumber_121 (fun H locs hP hD hS => ?_)
            have hP : va_P g.1 zCl [(rq, .inr (4, [.ref (tx), .int (iI (ln)), .ref (pq), .int (iI (at0)), .int (iI (vl)), .int (iI (bI (op)))])), (tx, .inl (g.2 2, 400, .inl (zaI tf)))] H := hP
            have hD : va_D A [(rq, .inr (4, [.ref (tx), .int (iI (ln)), .ref (pq), .int (iI (at0)), .int (iI (vl)), .int (iI (bI (op)))])), (tx, .inl (g.2 2, 400, .inl (zaI tf)))] := hD
            refine zi_iconst hx hb zd_R_readNumber_124 ?_
            refine zb_as (x := false) rfl ?_
            exact zw_zret hx hb hr hlk (ws := [(rq, .inr (4, [.ref (tx), .int (iI (ln)), .ref (pq), .int (iI (at0)), .int (iI (vl)), .int (iI (bI (op)))])), (tx, .inl (g.2 2, 400, .inl (zaI tf)))]) hP hS zd_R_readNumber_125
          · refine lv_iload hx hb zd_R_readNumber_113 (lv_at hl 0 rfl) ?_
            refine lv_iload_n hx hb zd_R_readNumber_115 rfl (lv_at hl 4 rfl) ?_
            refine zi_icmp_le (tgt := 126) hx hb zd_R_readNumber_116 (by decide) (by omega) (fun c116 => ?_) (fun c116 => ?_)
            · refine lv_aload_n hx hb zd_R_readNumber_126 rfl (lv_at hl 2 rfl) ?_
              refine lv_iload hx hb zd_R_readNumber_127 (lv_at hl 0 rfl) ?_
              refine va_put (D := g.1) (ci := 4) (v := .int (iI (nb))) (ty := .int) (C := zR_R) (T := zT_R) (N := 6) hx hb hw zin_R zt_R zto_R zn_R hown hK hP hD hS 0 rfl rfl 4 (by decide) (hw _ zw_2_11) (fun _ h9 => h9) rfl  (by decide +kernel) rfl rfl (Nat.le_of_ble_eq_true rfl) zd_R_readNumber_129 (fun H locs hP hD hS => ?_)
              have hP : va_P g.1 zCl [(rq, .inr (4, [.ref (tx), .int (iI (ln)), .ref (pq), .int (iI (x)), .int (iI (nb)), .int (iI (bI (op)))])), (tx, .inl (g.2 2, 400, .inl (zaI tf)))] H := hP
              have hD : va_D A [(rq, .inr (4, [.ref (tx), .int (iI (ln)), .ref (pq), .int (iI (x)), .int (iI (nb)), .int (iI (bI (op)))])), (tx, .inl (g.2 2, 400, .inl (zaI tf)))] := hD
              refine zi_iconst hx hb zd_R_readNumber_132 ?_
              exact absurd (show rNm tf ln lo hi at0 from ⟨by omega, by omega, by omega⟩) hy
            · refine lv_aload_n hx hb zd_R_readNumber_119 rfl (lv_at hl 2 rfl) ?_
              refine lv_iload_n hx hb zd_R_readNumber_120 rfl (lv_at hl 1 rfl) ?_
              refine va_put (D := g.1) (ci := 4) (v := .int (iI (at0))) (ty := .int) (C := zR_R) (T := zT_R) (N := 6) hx hb hw zin_R zt_R zto_R zn_R hown hK hP hD hS 0 rfl rfl 3 (by decide) (hw _ zw_2_10) (fun _ h9 => h9) rfl  (by decide +kernel) rfl rfl (Nat.le_of_ble_eq_true rfl) zd_R_readNumber_121 (fun H locs hP hD hS => ?_)
              have hP : va_P g.1 zCl [(rq, .inr (4, [.ref (tx), .int (iI (ln)), .ref (pq), .int (iI (at0)), .int (iI (vl)), .int (iI (bI (op)))])), (tx, .inl (g.2 2, 400, .inl (zaI tf)))] H := hP
              have hD : va_D A [(rq, .inr (4, [.ref (tx), .int (iI (ln)), .ref (pq), .int (iI (at0)), .int (iI (vl)), .int (iI (bI (op)))])), (tx, .inl (g.2 2, 400, .inl (zaI tf)))] := hD
              refine zi_iconst hx hb zd_R_readNumber_124 ?_
              refine zb_as (x := false) rfl ?_
              exact zw_zret hx hb hr hlk (ws := [(rq, .inr (4, [.ref (tx), .int (iI (ln)), .ref (pq), .int (iI (at0)), .int (iI (vl)), .int (iI (bI (op)))])), (tx, .inl (g.2 2, 400, .inl (zaI tf)))]) hP hS zd_R_readNumber_125
      · refine lv_aload_n hx hb zd_R_readNumber_19 rfl (lv_at hl 2 rfl) ?_
        refine va_get (D := g.1) (ci := 4) (v := .ref (tx)) (C := zR_R) (T := zT_R) (N := 6) hx hb hw zin_R hown hK hP 0 rfl rfl 0 (by decide) (hw _ zw_2_7) (fun _ h9 => h9) rfl zd_R_readNumber_20 ?_
        refine lv_aload_n hx hb zd_R_readNumber_23 rfl (lv_at hl 2 rfl) ?_
        refine va_get (D := g.1) (ci := 4) (v := .int (iI (x))) (C := zR_R) (T := zT_R) (N := 6) hx hb hw zin_R hown hK hP 0 rfl rfl 3 (by decide) (hw _ zw_2_10) (fun _ h9 => h9) rfl zd_R_readNumber_24 ?_
        have hc1 := hch (x).toNat
        have hv3 := nm_v h3
        refine zi_cald hx hb hK hP 1 2 rfl rfl (by omega) zd_R_readNumber_27 ?_
        refine zi_bipush hx hb zd_R_readNumber_28 (by decide) ?_
        refine zi_icmp_lt (tgt := 99) hx hb zd_R_readNumber_30 (by decide) (by omega) (fun c30 => ?_) (fun c30 => ?_)
        · have hv2 := nm_v h3
          have hE := nm_exit (E := (num tf ln at0).1) (Vv := (num tf ln at0).2) rfl h3 hnb (by first | exact Or.inl (by rw [rk_out (by omega)]; omega) | exact Or.inl (by rw [rk_in (by omega)]; omega) | exact Or.inr (by omega))
          refine lv_aload_n hx hb zd_R_readNumber_99 rfl (lv_at hl 2 rfl) ?_
          refine va_get (D := g.1) (ci := 4) (v := .int (iI (x))) (C := zR_R) (T := zT_R) (N := 6) hx hb hw zin_R hown hK hP 0 rfl rfl 3 (by decide) (hw _ zw_2_10) (fun _ h9 => h9) rfl zd_R_readNumber_100 ?_
          refine lv_iload_n hx hb zd_R_readNumber_103 rfl (lv_at hl 1 rfl) ?_
          refine zi_icmp_eq (tgt := 119) hx hb zd_R_readNumber_104 (by decide) (by omega) (fun c104 => ?_) (fun c104 => ?_)
          · refine lv_aload_n hx hb zd_R_readNumber_119 rfl (lv_at hl 2 rfl) ?_
            refine lv_iload_n hx hb zd_R_readNumber_120 rfl (lv_at hl 1 rfl) ?_
            refine va_put (D := g.1) (ci := 4) (v := .int (iI (at0))) (ty := .int) (C := zR_R) (T := zT_R) (N := 6) hx hb hw zin_R zt_R zto_R zn_R hown hK hP hD hS 0 rfl rfl 3 (by decide) (hw _ zw_2_10) (fun _ h9 => h9) rfl  (by decide +kernel) rfl rfl (Nat.le_of_ble_eq_true rfl) zd_R_readNumber_121 (fun H locs hP hD hS => ?_)
            have hP : va_P g.1 zCl [(rq, .inr (4, [.ref (tx), .int (iI (ln)), .ref (pq), .int (iI (at0)), .int (iI (vl)), .int (iI (bI (op)))])), (tx, .inl (g.2 2, 400, .inl (zaI tf)))] H := hP
            have hD : va_D A [(rq, .inr (4, [.ref (tx), .int (iI (ln)), .ref (pq), .int (iI (at0)), .int (iI (vl)), .int (iI (bI (op)))])), (tx, .inl (g.2 2, 400, .inl (zaI tf)))] := hD
            refine zi_iconst hx hb zd_R_readNumber_124 ?_
            refine zb_as (x := false) rfl ?_
            exact zw_zret hx hb hr hlk (ws := [(rq, .inr (4, [.ref (tx), .int (iI (ln)), .ref (pq), .int (iI (at0)), .int (iI (vl)), .int (iI (bI (op)))])), (tx, .inl (g.2 2, 400, .inl (zaI tf)))]) hP hS zd_R_readNumber_125
          · refine lv_iload hx hb zd_R_readNumber_107 (lv_at hl 0 rfl) ?_
            refine lv_iload_n hx hb zd_R_readNumber_109 rfl (lv_at hl 3 rfl) ?_
            refine zi_icmp_lt (tgt := 119) hx hb zd_R_readNumber_110 (by decide) (by omega) (fun c110 => ?_) (fun c110 => ?_)
            · refine lv_aload_n hx hb zd_R_readNumber_119 rfl (lv_at hl 2 rfl) ?_
              refine lv_iload_n hx hb zd_R_readNumber_120 rfl (lv_at hl 1 rfl) ?_
              refine va_put (D := g.1) (ci := 4) (v := .int (iI (at0))) (ty := .int) (C := zR_R) (T := zT_R) (N := 6) hx hb hw zin_R zt_R zto_R zn_R hown hK hP hD hS 0 rfl rfl 3 (by decide) (hw _ zw_2_10) (fun _ h9 => h9) rfl  (by decide +kernel) rfl rfl (Nat.le_of_ble_eq_true rfl) zd_R_readNumber_121 (fun H locs hP hD hS => ?_)
              have hP : va_P g.1 zCl [(rq, .inr (4, [.ref (tx), .int (iI (ln)), .ref (pq), .int (iI (at0)), .int (iI (vl)), .int (iI (bI (op)))])), (tx, .inl (g.2 2, 400, .inl (zaI tf)))] H := hP
              have hD : va_D A [(rq, .inr (4, [.ref (tx), .int (iI (ln)), .ref (pq), .int (iI (at0)), .int (iI (vl)), .int (iI (bI (op)))])), (tx, .inl (g.2 2, 400, .inl (zaI tf)))] := hD
              refine zi_iconst hx hb zd_R_readNumber_124 ?_
              refine zb_as (x := false) rfl ?_
              exact zw_zret hx hb hr hlk (ws := [(rq, .inr (4, [.ref (tx), .int (iI (ln)), .ref (pq), .int (iI (at0)), .int (iI (vl)), .int (iI (bI (op)))])), (tx, .inl (g.2 2, 400, .inl (zaI tf)))]) hP hS zd_R_readNumber_125
            · refine lv_iload hx hb zd_R_readNumber_113 (lv_at hl 0 rfl) ?_
              refine lv_iload_n hx hb zd_R_readNumber_115 rfl (lv_at hl 4 rfl) ?_
              refine zi_icmp_le (tgt := 126) hx hb zd_R_readNumber_116 (by decide) (by omega) (fun c116 => ?_) (fun c116 => ?_)
              · refine lv_aload_n hx hb zd_R_readNumber_126 rfl (lv_at hl 2 rfl) ?_
                refine lv_iload hx hb zd_R_readNumber_127 (lv_at hl 0 rfl) ?_
                refine va_put (D := g.1) (ci := 4) (v := .int (iI (nb))) (ty := .int) (C := zR_R) (T := zT_R) (N := 6) hx hb hw zin_R zt_R zto_R zn_R hown hK hP hD hS 0 rfl rfl 4 (by decide) (hw _ zw_2_11) (fun _ h9 => h9) rfl  (by decide +kernel) rfl rfl (Nat.le_of_ble_eq_true rfl) zd_R_readNumber_129 (fun H locs hP hD hS => ?_)
                have hP : va_P g.1 zCl [(rq, .inr (4, [.ref (tx), .int (iI (ln)), .ref (pq), .int (iI (x)), .int (iI (nb)), .int (iI (bI (op)))])), (tx, .inl (g.2 2, 400, .inl (zaI tf)))] H := hP
                have hD : va_D A [(rq, .inr (4, [.ref (tx), .int (iI (ln)), .ref (pq), .int (iI (x)), .int (iI (nb)), .int (iI (bI (op)))])), (tx, .inl (g.2 2, 400, .inl (zaI tf)))] := hD
                refine zi_iconst hx hb zd_R_readNumber_132 ?_
                exact absurd (show rNm tf ln lo hi at0 from ⟨by omega, by omega, by omega⟩) hy
              · refine lv_aload_n hx hb zd_R_readNumber_119 rfl (lv_at hl 2 rfl) ?_
                refine lv_iload_n hx hb zd_R_readNumber_120 rfl (lv_at hl 1 rfl) ?_
                refine va_put (D := g.1) (ci := 4) (v := .int (iI (at0))) (ty := .int) (C := zR_R) (T := zT_R) (N := 6) hx hb hw zin_R zt_R zto_R zn_R hown hK hP hD hS 0 rfl rfl 3 (by decide) (hw _ zw_2_10) (fun _ h9 => h9) rfl  (by decide +kernel) rfl rfl (Nat.le_of_ble_eq_true rfl) zd_R_readNumber_121 (fun H locs hP hD hS => ?_)
                have hP : va_P g.1 zCl [(rq, .inr (4, [.ref (tx), .int (iI (ln)), .ref (pq), .int (iI (at0)), .int (iI (vl)), .int (iI (bI (op)))])), (tx, .inl (g.2 2, 400, .inl (zaI tf)))] H := hP
                have hD : va_D A [(rq, .inr (4, [.ref (tx), .int (iI (ln)), .ref (pq), .int (iI (at0)), .int (iI (vl)), .int (iI (bI (op)))])), (tx, .inl (g.2 2, 400, .inl (zaI tf)))] := hD
                refine zi_iconst hx hb zd_R_readNumber_124 ?_
                refine zb_as (x := false) rfl ?_
                exact zw_zret hx hb hr hlk (ws := [(rq, .inr (4, [.ref (tx), .int (iI (ln)), .ref (pq), .int (iI (at0)), .int (iI (vl)), .int (iI (bI (op)))])), (tx, .inl (g.2 2, 400, .inl (zaI tf)))]) hP hS zd_R_readNumber_125
        · refine lv_aload_n hx hb zd_R_readNumber_33 rfl (lv_at hl 2 rfl) ?_
          refine va_get (D := g.1) (ci := 4) (v := .ref (tx)) (C := zR_R) (T := zT_R) (N := 6) hx hb hw zin_R hown hK hP 0 rfl rfl 0 (by decide) (hw _ zw_2_7) (fun _ h9 => h9) rfl zd_R_readNumber_34 ?_
          refine lv_aload_n hx hb zd_R_readNumber_37 rfl (lv_at hl 2 rfl) ?_
          refine va_get (D := g.1) (ci := 4) (v := .int (iI (x))) (C := zR_R) (T := zT_R) (N := 6) hx hb hw zin_R hown hK hP 0 rfl rfl 3 (by decide) (hw _ zw_2_10) (fun _ h9 => h9) rfl zd_R_readNumber_38 ?_
          refine zi_cald hx hb hK hP 1 2 rfl rfl (by omega) zd_R_readNumber_41 ?_
          refine zi_bipush hx hb zd_R_readNumber_42 (by decide) ?_
          refine zi_icmp_gt (tgt := 99) hx hb zd_R_readNumber_44 (by decide) (by omega) (fun c44 => ?_) (fun c44 => ?_)
          · have hv2 := nm_v h3
            have hE := nm_exit (E := (num tf ln at0).1) (Vv := (num tf ln at0).2) rfl h3 hnb (by first | exact Or.inl (by rw [rk_out (by omega)]; omega) | exact Or.inl (by rw [rk_in (by omega)]; omega) | exact Or.inr (by omega))
            refine lv_aload_n hx hb zd_R_readNumber_99 rfl (lv_at hl 2 rfl) ?_
            refine va_get (D := g.1) (ci := 4) (v := .int (iI (x))) (C := zR_R) (T := zT_R) (N := 6) hx hb hw zin_R hown hK hP 0 rfl rfl 3 (by decide) (hw _ zw_2_10) (fun _ h9 => h9) rfl zd_R_readNumber_100 ?_
            refine lv_iload_n hx hb zd_R_readNumber_103 rfl (lv_at hl 1 rfl) ?_
            refine zi_icmp_eq (tgt := 119) hx hb zd_R_readNumber_104 (by decide) (by omega) (fun c104 => ?_) (fun c104 => ?_)
            · refine lv_aload_n hx hb zd_R_readNumber_119 rfl (lv_at hl 2 rfl) ?_
              refine lv_iload_n hx hb zd_R_readNumber_120 rfl (lv_at hl 1 rfl) ?_
              refine va_put (D := g.1) (ci := 4) (v := .int (iI (at0))) (ty := .int) (C := zR_R) (T := zT_R) (N := 6) hx hb hw zin_R zt_R zto_R zn_R hown hK hP hD hS 0 rfl rfl 3 (by decide) (hw _ zw_2_10) (fun _ h9 => h9) rfl  (by decide +kernel) rfl rfl (Nat.le_of_ble_eq_true rfl) zd_R_readNumber_121 (fun H locs hP hD hS => ?_)
              have hP : va_P g.1 zCl [(rq, .inr (4, [.ref (tx), .int (iI (ln)), .ref (pq), .int (iI (at0)), .int (iI (vl)), .int (iI (bI (op)))])), (tx, .inl (g.2 2, 400, .inl (zaI tf)))] H := hP
              have hD : va_D A [(rq, .inr (4, [.ref (tx), .int (iI (ln)), .ref (pq), .int (iI (at0)), .int (iI (vl)), .int (iI (bI (op)))])), (tx, .inl (g.2 2, 400, .inl (zaI tf)))] := hD
              refine zi_iconst hx hb zd_R_readNumber_124 ?_
              refine zb_as (x := false) rfl ?_
              exact zw_zret hx hb hr hlk (ws := [(rq, .inr (4, [.ref (tx), .int (iI (ln)), .ref (pq), .int (iI (at0)), .int (iI (vl)), .int (iI (bI (op)))])), (tx, .inl (g.2 2, 400, .inl (zaI tf)))]) hP hS zd_R_readNumber_125
            · refine lv_iload hx hb zd_R_readNumber_107 (lv_at hl 0 rfl) ?_
              refine lv_iload_n hx hb zd_R_readNumber_109 rfl (lv_at hl 3 rfl) ?_
              refine zi_icmp_lt (tgt := 119) hx hb zd_R_readNumber_110 (by decide) (by omega) (fun c110 => ?_) (fun c110 => ?_)
              · refine lv_aload_n hx hb zd_R_readNumber_119 rfl (lv_at hl 2 rfl) ?_
                refine lv_iload_n hx hb zd_R_readNumber_120 rfl (lv_at hl 1 rfl) ?_
                refine va_put (D := g.1) (ci := 4) (v := .int (iI (at0))) (ty := .int) (C := zR_R) (T := zT_R) (N := 6) hx hb hw zin_R zt_R zto_R zn_R hown hK hP hD hS 0 rfl rfl 3 (by decide) (hw _ zw_2_10) (fun _ h9 => h9) rfl  (by decide +kernel) rfl rfl (Nat.le_of_ble_eq_true rfl) zd_R_readNumber_121 (fun H locs hP hD hS => ?_)
                have hP : va_P g.1 zCl [(rq, .inr (4, [.ref (tx), .int (iI (ln)), .ref (pq), .int (iI (at0)), .int (iI (vl)), .int (iI (bI (op)))])), (tx, .inl (g.2 2, 400, .inl (zaI tf)))] H := hP
                have hD : va_D A [(rq, .inr (4, [.ref (tx), .int (iI (ln)), .ref (pq), .int (iI (at0)), .int (iI (vl)), .int (iI (bI (op)))])), (tx, .inl (g.2 2, 400, .inl (zaI tf)))] := hD
                refine zi_iconst hx hb zd_R_readNumber_124 ?_
                refine zb_as (x := false) rfl ?_
                exact zw_zret hx hb hr hlk (ws := [(rq, .inr (4, [.ref (tx), .int (iI (ln)), .ref (pq), .int (iI (at0)), .int (iI (vl)), .int (iI (bI (op)))])), (tx, .inl (g.2 2, 400, .inl (zaI tf)))]) hP hS zd_R_readNumber_125
              · refine lv_iload hx hb zd_R_readNumber_113 (lv_at hl 0 rfl) ?_
                refine lv_iload_n hx hb zd_R_readNumber_115 rfl (lv_at hl 4 rfl) ?_
                refine zi_icmp_le (tgt := 126) hx hb zd_R_readNumber_116 (by decide) (by omega) (fun c116 => ?_) (fun c116 => ?_)
                · refine lv_aload_n hx hb zd_R_readNumber_126 rfl (lv_at hl 2 rfl) ?_
                  refine lv_iload hx hb zd_R_readNumber_127 (lv_at hl 0 rfl) ?_
                  refine va_put (D := g.1) (ci := 4) (v := .int (iI (nb))) (ty := .int) (C := zR_R) (T := zT_R) (N := 6) hx hb hw zin_R zt_R zto_R zn_R hown hK hP hD hS 0 rfl rfl 4 (by decide) (hw _ zw_2_11) (fun _ h9 => h9) rfl  (by decide +kernel) rfl rfl (Nat.le_of_ble_eq_true rfl) zd_R_readNumber_129 (fun H locs hP hD hS => ?_)
                  have hP : va_P g.1 zCl [(rq, .inr (4, [.ref (tx), .int (iI (ln)), .ref (pq), .int (iI (x)), .int (iI (nb)), .int (iI (bI (op)))])), (tx, .inl (g.2 2, 400, .inl (zaI tf)))] H := hP
                  have hD : va_D A [(rq, .inr (4, [.ref (tx), .int (iI (ln)), .ref (pq), .int (iI (x)), .int (iI (nb)), .int (iI (bI (op)))])), (tx, .inl (g.2 2, 400, .inl (zaI tf)))] := hD
                  refine zi_iconst hx hb zd_R_readNumber_132 ?_
                  exact absurd (show rNm tf ln lo hi at0 from ⟨by omega, by omega, by omega⟩) hy
                · refine lv_aload_n hx hb zd_R_readNumber_119 rfl (lv_at hl 2 rfl) ?_
                  refine lv_iload_n hx hb zd_R_readNumber_120 rfl (lv_at hl 1 rfl) ?_
                  refine va_put (D := g.1) (ci := 4) (v := .int (iI (at0))) (ty := .int) (C := zR_R) (T := zT_R) (N := 6) hx hb hw zin_R zt_R zto_R zn_R hown hK hP hD hS 0 rfl rfl 3 (by decide) (hw _ zw_2_10) (fun _ h9 => h9) rfl  (by decide +kernel) rfl rfl (Nat.le_of_ble_eq_true rfl) zd_R_readNumber_121 (fun H locs hP hD hS => ?_)
                  have hP : va_P g.1 zCl [(rq, .inr (4, [.ref (tx), .int (iI (ln)), .ref (pq), .int (iI (at0)), .int (iI (vl)), .int (iI (bI (op)))])), (tx, .inl (g.2 2, 400, .inl (zaI tf)))] H := hP
                  have hD : va_D A [(rq, .inr (4, [.ref (tx), .int (iI (ln)), .ref (pq), .int (iI (at0)), .int (iI (vl)), .int (iI (bI (op)))])), (tx, .inl (g.2 2, 400, .inl (zaI tf)))] := hD
                  refine zi_iconst hx hb zd_R_readNumber_124 ?_
                  refine zb_as (x := false) rfl ?_
                  exact zw_zret hx hb hr hlk (ws := [(rq, .inr (4, [.ref (tx), .int (iI (ln)), .ref (pq), .int (iI (at0)), .int (iI (vl)), .int (iI (bI (op)))])), (tx, .inl (g.2 2, 400, .inl (zaI tf)))]) hP hS zd_R_readNumber_125
          · refine lv_aload_n hx hb zd_R_readNumber_47 rfl (lv_at hl 2 rfl) ?_
            refine va_get (D := g.1) (ci := 4) (v := .int (iI (x))) (C := zR_R) (T := zT_R) (N := 6) hx hb hw zin_R hown hK hP 0 rfl rfl 3 (by decide) (hw _ zw_2_10) (fun _ h9 => h9) rfl zd_R_readNumber_48 ?_
            refine lv_iload_n hx hb zd_R_readNumber_51 rfl (lv_at hl 1 rfl) ?_
            refine zi_icmp_eq (tgt := 60) hx hb zd_R_readNumber_52 (by decide) (by omega) (fun c52 => ?_) (fun c52 => ?_)
            · refine lv_iload hx hb zd_R_readNumber_60 (lv_at hl 0 rfl) ?_
              refine zi_bipush hx hb zd_R_readNumber_62 (by decide) ?_
              refine zi_imul hx hb zd_R_readNumber_64 ?_
              refine lv_aload_n hx hb zd_R_readNumber_65 rfl (lv_at hl 2 rfl) ?_
              refine va_get (D := g.1) (ci := 4) (v := .ref (tx)) (C := zR_R) (T := zT_R) (N := 6) hx hb hw zin_R hown hK hP 0 rfl rfl 0 (by decide) (hw _ zw_2_7) (fun _ h9 => h9) rfl zd_R_readNumber_66 ?_
              refine lv_aload_n hx hb zd_R_readNumber_69 rfl (lv_at hl 2 rfl) ?_
              refine va_get (D := g.1) (ci := 4) (v := .int (iI (x))) (C := zR_R) (T := zT_R) (N := 6) hx hb hw zin_R hown hK hP 0 rfl rfl 3 (by decide) (hw _ zw_2_10) (fun _ h9 => h9) rfl zd_R_readNumber_70 ?_
              refine zi_cald hx hb hK hP 1 2 rfl rfl (by omega) zd_R_readNumber_73 ?_
              refine zi_iadd hx hb zd_R_readNumber_74 ?_
              refine zi_bipush hx hb zd_R_readNumber_75 (by decide) ?_
              refine zi_isub hx hb zd_R_readNumber_77 ?_
              refine zi_sipush hx hb zd_R_readNumber_78 (by decide) ?_
              refine zk_S (As := [.int (iI (((nb * 10) + (tf (x).toNat)) - 48)), .int (iI (10000))]) (own := "CronFinder$Reader") (nL := 5) (rest := []) hx hb hml hown hw (c_min l g (((nb * 10) + (tf (x).toNat)) - 48) (10000) (by omega)) zw_2_90 zw_2_91 zw_1_14 zw_2_92 (np := 2) (by decide +kernel) rfl (by decide) zN_mv hK trivial (hP.sub (ws' := []) [] rfl) hl.1 rfl (Nat.le_of_ble_eq_true rfl) (by decide) zd_R_readNumber_81 ?_
              refine lv_istore (lv' := [(4, .int (iI (min (((nb * 10) + (tf (x).toNat)) - 48) (10000)))), (3, .int (iI (at0))), (0, .ref (rq)), (1, .int (iI (lo))), (2, .int (iI (hi)))]) hx hb zd_R_readNumber_84 hl (by decide) rfl (fun ls hl => ?_)
              refine lv_aload_n hx hb zd_R_readNumber_86 rfl (lv_at hl 2 rfl) ?_
              refine lv_dup hx hb zd_R_readNumber_87 rfl ?_
              refine va_get (D := g.1) (ci := 4) (v := .int (iI (x))) (C := zR_R) (T := zT_R) (N := 6) hx hb hw zin_R hown hK hP 0 rfl rfl 3 (by decide) (hw _ zw_2_10) (fun _ h9 => h9) rfl zd_R_readNumber_88 ?_
              refine zi_iconst hx hb zd_R_readNumber_91 ?_
              refine zi_iadd hx hb zd_R_readNumber_92 ?_
              refine va_put (D := g.1) (ci := 4) (v := .int (iI (x + 1))) (ty := .int) (C := zR_R) (T := zT_R) (N := 6) hx hb hw zin_R zt_R zto_R zn_R hown hK hP hD hS 0 rfl rfl 3 (by decide) (hw _ zw_2_10) (fun _ h9 => h9) rfl  (by decide +kernel) rfl rfl (Nat.le_of_ble_eq_true rfl) zd_R_readNumber_93 (fun H locs hP hD hS => ?_)
              have hP : va_P g.1 zCl [(rq, .inr (4, [.ref (tx), .int (iI (ln)), .ref (pq), .int (iI (x + 1)), .int (iI (vl)), .int (iI (bI (op)))])), (tx, .inl (g.2 2, 400, .inl (zaI tf)))] H := hP
              have hD : va_D A [(rq, .inr (4, [.ref (tx), .int (iI (ln)), .ref (pq), .int (iI (x + 1)), .int (iI (vl)), .int (iI (bI (op)))])), (tx, .inl (g.2 2, 400, .inl (zaI tf)))] := hD
              refine lv_goto (tgt := 8) hx hb zd_R_readNumber_96 (by decide) ?_
              have hv2 := nm_v h3
              exact ih (x + 1) (min (((nb * 10) + (tf (x).toNat)) - 48) (10000)) (10 * v + (rk tf ln x - 48)) H locs ls ⟨by omega, by omega⟩ (by rw [rk_in (by omega)]; omega) (nm_step (E := (num tf ln at0).1) (Vv := (num tf ln at0).2) rfl h3 (by rw [rk_in (by omega)]; omega) (by omega) hnb) (by omega) hP hD hS (lv_sub hl [0, 1, 2, 3, 4] rfl)
            · refine lv_iload hx hb zd_R_readNumber_55 (lv_at hl 0 rfl) ?_
              refine zi_if_le (tgt := 99) hx hb zd_R_readNumber_57 (by decide) (by omega) (fun c57 => ?_) (fun c57 => ?_)
              · have hv2 := nm_v h3
                have hE := nm_exit (E := (num tf ln at0).1) (Vv := (num tf ln at0).2) rfl h3 hnb (by first | exact Or.inl (by rw [rk_out (by omega)]; omega) | exact Or.inl (by rw [rk_in (by omega)]; omega) | exact Or.inr (by omega))
                refine lv_aload_n hx hb zd_R_readNumber_99 rfl (lv_at hl 2 rfl) ?_
                refine va_get (D := g.1) (ci := 4) (v := .int (iI (x))) (C := zR_R) (T := zT_R) (N := 6) hx hb hw zin_R hown hK hP 0 rfl rfl 3 (by decide) (hw _ zw_2_10) (fun _ h9 => h9) rfl zd_R_readNumber_100 ?_
                refine lv_iload_n hx hb zd_R_readNumber_103 rfl (lv_at hl 1 rfl) ?_
                refine zi_icmp_eq (tgt := 119) hx hb zd_R_readNumber_104 (by decide) (by omega) (fun c104 => ?_) (fun c104 => ?_)
                · refine lv_aload_n hx hb zd_R_readNumber_119 rfl (lv_at hl 2 rfl) ?_
                  refine lv_iload_n hx hb zd_R_readNumber_120 rfl (lv_at hl 1 rfl) ?_
                  refine va_put (D := g.1) (ci := 4) (v := .int (iI (at0))) (ty := .int) (C := zR_R) (T := zT_R) (N := 6) hx hb hw zin_R zt_R zto_R zn_R hown hK hP hD hS 0 rfl rfl 3 (by decide) (hw _ zw_2_10) (fun _ h9 => h9) rfl  (by decide +kernel) rfl rfl (Nat.le_of_ble_eq_true rfl) zd_R_readNumber_121 (fun H locs hP hD hS => ?_)
                  have hP : va_P g.1 zCl [(rq, .inr (4, [.ref (tx), .int (iI (ln)), .ref (pq), .int (iI (at0)), .int (iI (vl)), .int (iI (bI (op)))])), (tx, .inl (g.2 2, 400, .inl (zaI tf)))] H := hP
                  have hD : va_D A [(rq, .inr (4, [.ref (tx), .int (iI (ln)), .ref (pq), .int (iI (at0)), .int (iI (vl)), .int (iI (bI (op)))])), (tx, .inl (g.2 2, 400, .inl (zaI tf)))] := hD
                  refine zi_iconst hx hb zd_R_readNumber_124 ?_
                  refine zb_as (x := false) rfl ?_
                  exact zw_zret hx hb hr hlk (ws := [(rq, .inr (4, [.ref (tx), .int (iI (ln)), .ref (pq), .int (iI (at0)), .int (iI (vl)), .int (iI (bI (op)))])), (tx, .inl (g.2 2, 400, .inl (zaI tf)))]) hP hS zd_R_readNumber_125
                · refine lv_iload hx hb zd_R_readNumber_107 (lv_at hl 0 rfl) ?_
                  refine lv_iload_n hx hb zd_R_readNumber_109 rfl (lv_at hl 3 rfl) ?_
                  refine zi_icmp_lt (tgt := 119) hx hb zd_R_readNumber_110 (by decide) (by omega) (fun c110 => ?_) (fun c110 => ?_)
                  · refine lv_aload_n hx hb zd_R_readNumber_119 rfl (lv_at hl 2 rfl) ?_
                    refine lv_iload_n hx hb zd_R_readNumber_120 rfl (lv_at hl 1 rfl) ?_
                    refine va_put (D := g.1) (ci := 4) (v := .int (iI (at0))) (ty := .int) (C := zR_R) (T := zT_R) (N := 6) hx hb hw zin_R zt_R zto_R zn_R hown hK hP hD hS 0 rfl rfl 3 (by decide) (hw _ zw_2_10) (fun _ h9 => h9) rfl  (by decide +kernel) rfl rfl (Nat.le_of_ble_eq_true rfl) zd_R_readNumber_121 (fun H locs hP hD hS => ?_)
                    have hP : va_P g.1 zCl [(rq, .inr (4, [.ref (tx), .int (iI (ln)), .ref (pq), .int (iI (at0)), .int (iI (vl)), .int (iI (bI (op)))])), (tx, .inl (g.2 2, 400, .inl (zaI tf)))] H := hP
                    have hD : va_D A [(rq, .inr (4, [.ref (tx), .int (iI (ln)), .ref (pq), .int (iI (at0)), .int (iI (vl)), .int (iI (bI (op)))])), (tx, .inl (g.2 2, 400, .inl (zaI tf)))] := hD
                    refine zi_iconst hx hb zd_R_readNumber_124 ?_
                    refine zb_as (x := false) rfl ?_
                    exact zw_zret hx hb hr hlk (ws := [(rq, .inr (4, [.ref (tx), .int (iI (ln)), .ref (pq), .int (iI (at0)), .int (iI (vl)), .int (iI (bI (op)))])), (tx, .inl (g.2 2, 400, .inl (zaI tf)))]) hP hS zd_R_readNumber_125
                  · refine lv_iload hx hb zd_R_readNumber_113 (lv_at hl 0 rfl) ?_
                    refine lv_iload_n hx hb zd_R_readNumber_115 rfl (lv_at hl 4 rfl) ?_
                    refine zi_icmp_le (tgt := 126) hx hb zd_R_readNumber_116 (by decide) (by omega) (fun c116 => ?_) (fun c116 => ?_)
                    · refine lv_aload_n hx hb zd_R_readNumber_126 rfl (lv_at hl 2 rfl) ?_
                      refine lv_iload hx hb zd_R_readNumber_127 (lv_at hl 0 rfl) ?_
                      refine va_put (D := g.1) (ci := 4) (v := .int (iI (nb))) (ty := .int) (C := zR_R) (T := zT_R) (N := 6) hx hb hw zin_R zt_R zto_R zn_R hown hK hP hD hS 0 rfl rfl 4 (by decide) (hw _ zw_2_11) (fun _ h9 => h9) rfl  (by decide +kernel) rfl rfl (Nat.le_of_ble_eq_true rfl) zd_R_readNumber_129 (fun H locs hP hD hS => ?_)
                      have hP : va_P g.1 zCl [(rq, .inr (4, [.ref (tx), .int (iI (ln)), .ref (pq), .int (iI (x)), .int (iI (nb)), .int (iI (bI (op)))])), (tx, .inl (g.2 2, 400, .inl (zaI tf)))] H := hP
                      have hD : va_D A [(rq, .inr (4, [.ref (tx), .int (iI (ln)), .ref (pq), .int (iI (x)), .int (iI (nb)), .int (iI (bI (op)))])), (tx, .inl (g.2 2, 400, .inl (zaI tf)))] := hD
                      refine zi_iconst hx hb zd_R_readNumber_132 ?_
                      exact absurd (show rNm tf ln lo hi at0 from ⟨by omega, by omega, by omega⟩) hy
                    · refine lv_aload_n hx hb zd_R_readNumber_119 rfl (lv_at hl 2 rfl) ?_
                      refine lv_iload_n hx hb zd_R_readNumber_120 rfl (lv_at hl 1 rfl) ?_
                      refine va_put (D := g.1) (ci := 4) (v := .int (iI (at0))) (ty := .int) (C := zR_R) (T := zT_R) (N := 6) hx hb hw zin_R zt_R zto_R zn_R hown hK hP hD hS 0 rfl rfl 3 (by decide) (hw _ zw_2_10) (fun _ h9 => h9) rfl  (by decide +kernel) rfl rfl (Nat.le_of_ble_eq_true rfl) zd_R_readNumber_121 (fun H locs hP hD hS => ?_)
                      have hP : va_P g.1 zCl [(rq, .inr (4, [.ref (tx), .int (iI (ln)), .ref (pq), .int (iI (at0)), .int (iI (vl)), .int (iI (bI (op)))])), (tx, .inl (g.2 2, 400, .inl (zaI tf)))] H := hP
                      have hD : va_D A [(rq, .inr (4, [.ref (tx), .int (iI (ln)), .ref (pq), .int (iI (at0)), .int (iI (vl)), .int (iI (bI (op)))])), (tx, .inl (g.2 2, 400, .inl (zaI tf)))] := hD
                      refine zi_iconst hx hb zd_R_readNumber_124 ?_
                      refine zb_as (x := false) rfl ?_
                      exact zw_zret hx hb hr hlk (ws := [(rq, .inr (4, [.ref (tx), .int (iI (ln)), .ref (pq), .int (iI (at0)), .int (iI (vl)), .int (iI (bI (op)))])), (tx, .inl (g.2 2, 400, .inl (zaI tf)))]) hP hS zd_R_readNumber_125
              · refine lv_iload hx hb zd_R_readNumber_60 (lv_at hl 0 rfl) ?_
                refine zi_bipush hx hb zd_R_readNumber_62 (by decide) ?_
                refine zi_imul hx hb zd_R_readNumber_64 ?_
                refine lv_aload_n hx hb zd_R_readNumber_65 rfl (lv_at hl 2 rfl) ?_
                refine va_get (D := g.1) (ci := 4) (v := .ref (tx)) (C := zR_R) (T := zT_R) (N := 6) hx hb hw zin_R hown hK hP 0 rfl rfl 0 (by decide) (hw _ zw_2_7) (fun _ h9 => h9) rfl zd_R_readNumber_66 ?_
                refine lv_aload_n hx hb zd_R_readNumber_69 rfl (lv_at hl 2 rfl) ?_
                refine va_get (D := g.1) (ci := 4) (v := .int (iI (x))) (C := zR_R) (T := zT_R) (N := 6) hx hb hw zin_R hown hK hP 0 rfl rfl 3 (by decide) (hw _ zw_2_10) (fun _ h9 => h9) rfl zd_R_readNumber_70 ?_
                refine zi_cald hx hb hK hP 1 2 rfl rfl (by omega) zd_R_readNumber_73 ?_
                refine zi_iadd hx hb zd_R_readNumber_74 ?_
                refine zi_bipush hx hb zd_R_readNumber_75 (by decide) ?_
                refine zi_isub hx hb zd_R_readNumber_77 ?_
                refine zi_sipush hx hb zd_R_readNumber_78 (by decide) ?_
                refine zk_S (As := [.int (iI (((nb * 10) + (tf (x).toNat)) - 48)), .int (iI (10000))]) (own := "CronFinder$Reader") (nL := 5) (rest := []) hx hb hml hown hw (c_min l g (((nb * 10) + (tf (x).toNat)) - 48) (10000) (by omega)) zw_2_90 zw_2_91 zw_1_14 zw_2_92 (np := 2) (by decide +kernel) rfl (by decide) zN_mv hK trivial (hP.sub (ws' := []) [] rfl) hl.1 rfl (Nat.le_of_ble_eq_true rfl) (by decide) zd_R_readNumber_81 ?_
                refine lv_istore (lv' := [(4, .int (iI (min (((nb * 10) + (tf (x).toNat)) - 48) (10000)))), (3, .int (iI (at0))), (0, .ref (rq)), (1, .int (iI (lo))), (2, .int (iI (hi)))]) hx hb zd_R_readNumber_84 hl (by decide) rfl (fun ls hl => ?_)
                refine lv_aload_n hx hb zd_R_readNumber_86 rfl (lv_at hl 2 rfl) ?_
                refine lv_dup hx hb zd_R_readNumber_87 rfl ?_
                refine va_get (D := g.1) (ci := 4) (v := .int (iI (x))) (C := zR_R) (T := zT_R) (N := 6) hx hb hw zin_R hown hK hP 0 rfl rfl 3 (by decide) (hw _ zw_2_10) (fun _ h9 => h9) rfl zd_R_readNumber_88 ?_
                refine zi_iconst hx hb zd_R_readNumber_91 ?_
                refine zi_iadd hx hb zd_R_readNumber_92 ?_
                refine va_put (D := g.1) (ci := 4) (v := .int (iI (x + 1))) (ty := .int) (C := zR_R) (T := zT_R) (N := 6) hx hb hw zin_R zt_R zto_R zn_R hown hK hP hD hS 0 rfl rfl 3 (by decide) (hw _ zw_2_10) (fun _ h9 => h9) rfl  (by decide +kernel) rfl rfl (Nat.le_of_ble_eq_true rfl) zd_R_readNumber_93 (fun H locs hP hD hS => ?_)
                have hP : va_P g.1 zCl [(rq, .inr (4, [.ref (tx), .int (iI (ln)), .ref (pq), .int (iI (x + 1)), .int (iI (vl)), .int (iI (bI (op)))])), (tx, .inl (g.2 2, 400, .inl (zaI tf)))] H := hP
                have hD : va_D A [(rq, .inr (4, [.ref (tx), .int (iI (ln)), .ref (pq), .int (iI (x + 1)), .int (iI (vl)), .int (iI (bI (op)))])), (tx, .inl (g.2 2, 400, .inl (zaI tf)))] := hD
                refine lv_goto (tgt := 8) hx hb zd_R_readNumber_96 (by decide) ?_
                have hv2 := nm_v h3
                exact ih (x + 1) (min (((nb * 10) + (tf (x).toNat)) - 48) (10000)) (10 * v + (rk tf ln x - 48)) H locs ls ⟨by omega, by omega⟩ (by rw [rk_in (by omega)]; omega) (nm_step (E := (num tf ln at0).1) (Vv := (num tf ln at0).2) rfl h3 (by rw [rk_in (by omega)]; omega) (by omega) hnb) (by omega) hP hD hS (lv_sub hl [0, 1, 2, 3, 4] rfl)
  exact loop 401 at0 0 0 s.heap [] ls ⟨by omega, by omega⟩ (by decide) (Or.inl ⟨rfl, rfl, rfl⟩) (by omega) hP hD hS (lv_sub hl [0, 1, 2, 3, 4] rfl)
set_option maxHeartbeats 4000000 in
set_option maxRecDepth 100000 in
theorem c_R_name_n (l : Launch) (g : zGl) (rq tx : Nat) (tf : Nat → Int) (ln : Int) (pq : Nat) (at0 vl : Int) (op : Bool) (hln : 0 ≤ ln ∧ ln ≤ 400) (hat : 0 ≤ at0 ∧ at0 ≤ ln) (hch : ∀ j : Nat, 0 ≤ tf j ∧ tf j < 256) (q v n : Nat) (f : Int → Int) (hn : (n : Int) = 36 ∨ (n : Int) = 21) (hf : ∀ j : Int, 0 ≤ j ∧ j < (n : Int) → 0 ≤ f j ∧ f j < 128) (h0 : nmA f (n : Int) ln tf at0 = 0) : zSi l zy_R_readName zc_R_readName 3 (some .boolean) ({ frames := 5, cells := 0, slots := 0, locals := 106 }) g (zStr q v n f (fun _ => False)) [.ref (rq), .ref (q)] [(rq, .inr (4, [.ref (tx), .int (iI (ln)), .ref (pq), .int (iI (at0)), .int (iI (vl)), .int (iI (bI (op)))])), (tx, .inl (g.2 2, 400, .inl (zaI tf)))] (some (.int (iI (bI (false))))) := by
  refine zs_open (by decide +kernel) (Nat.le_of_ble_eq_true rfl) ?_
  intro p e s m below meth c ls hx hb hml hr hlk hown hw hK hT hP hl
  have hown : s.vm.findClass "CronFinder$Reader" = some m.cls := hown
  have hl : lv_has ls 3 [(0, .ref (rq)), (1, .ref (q))] := hl
  refine lv_aload_n hx hb zd_R_readName_0 rfl (lv_at hl 0 rfl) ?_
  refine va_get (D := g.1) (ci := 4) (v := .int (iI (ln))) (C := zR_R) (T := zT_R) (N := 6) hx hb hw zin_R hown hK hP 0 rfl rfl 1 (by decide) (hw _ zw_2_8) (fun _ h9 => h9) rfl zd_R_readName_1 ?_
  refine lv_aload_n hx hb zd_R_readName_4 rfl (lv_at hl 0 rfl) ?_
  refine va_get (D := g.1) (ci := 4) (v := .int (iI (at0))) (C := zR_R) (T := zT_R) (N := 6) hx hb hw zin_R hown hK hP 0 rfl rfl 3 (by decide) (hw _ zw_2_10) (fun _ h9 => h9) rfl zd_R_readName_5 ?_
  refine zi_isub hx hb zd_R_readName_8 ?_
  refine zi_iconst hx hb zd_R_readName_9 ?_
  refine zi_icmp_ge (tgt := 15) hx hb zd_R_readName_10 (by decide) (by omega) (fun c10 => ?_) (fun c10 => ?_)
  · refine zi_iconst hx hb zd_R_readName_15 ?_
    refine lv_istore_n (lv' := [(2, .int (iI (0))), (0, .ref (rq)), (1, .ref (q))]) hx hb zd_R_readName_16 rfl hl (by decide) rfl (fun ls hl => ?_)
    have loop : ∀ (n9 : Nat) (k : Int) (ls : Array Slot), (0 ≤ k ∧ k < 20) → (nmF f (n : Int) tf at0 n9 k = nmA f (n : Int) ln tf at0) → ((19 - k).toNat < n9) → lv_has ls 3 [(2, .int (iI (3 * k))), (0, .ref (rq)), (1, .ref (q))] → W p l e ({ frames := 5, cells := 0, slots := 0, locals := 106 }) s m [.ref (rq), .ref (q)].toArray below meth c s.heap [] 0 0 (MQ below (zSil (some (.int (iI (bI (false)))))) [.ref (rq), .ref (q)].toArray s 0 0 (fun _ => False)) (F0 m 17 ls []) := by
      intro n9
      induction n9 with
      | zero =>
        intro k ls h1 hF h2 hl
        exact absurd h2 (by omega)
      | succ n9 ih =>
        intro k ls h1 hF h2 hl
        refine lv_iload_n hx hb zd_R_readName_17 rfl (lv_at hl 0 rfl) ?_
        refine zi_iconst hx hb zd_R_readName_18 ?_
        refine zi_iadd hx hb zd_R_readName_19 ?_
        refine lv_aload_n hx hb zd_R_readName_20 rfl (lv_at hl 2 rfl) ?_
        refine zk_V (As := []) (b := q) (own := "CronFinder$Reader") (nL := 3) (rest := [.int (iI ((3 * k) + 3))]) hx hb hml hown hw (c_S_length l g q v n f) zw_2_102 zw_2_103 zw_2_104 zw_1_15 zw_2_105 (np := 0) (by decide +kernel) rfl (by decide) (zStr_mv q v n f _) hK hT (hP.sub (ws' := []) [] rfl) (zStr_recv hT) hl.1 rfl (Nat.le_of_ble_eq_true rfl) (by decide) zd_R_readName_21 ?_
        refine zi_icmp_gt (tgt := 113) hx hb zd_R_readName_24 (by decide) (by omega) (fun c24 => ?_) (fun c24 => ?_)
        · refine zi_iconst hx hb zd_R_readName_113 ?_
          refine zb_as (x := false) rfl ?_
          exact zs_zret hx hb hr hlk zd_R_readName_114
        · refine lv_aload_n hx hb zd_R_readName_27 rfl (lv_at hl 1 rfl) ?_
          refine va_get (D := g.1) (ci := 4) (v := .ref (tx)) (C := zR_R) (T := zT_R) (N := 6) hx hb hw zin_R hown hK hP 0 rfl rfl 0 (by decide) (hw _ zw_2_7) (fun _ h9 => h9) rfl zd_R_readName_28 ?_
          have hc1 := hch (at0).toNat
          refine lv_aload_n hx hb zd_R_readName_31 rfl (lv_at hl 1 rfl) ?_
          refine va_get (D := g.1) (ci := 4) (v := .int (iI (at0))) (C := zR_R) (T := zT_R) (N := 6) hx hb hw zin_R hown hK hP 0 rfl rfl 3 (by decide) (hw _ zw_2_10) (fun _ h9 => h9) rfl zd_R_readName_32 ?_
          refine zi_cald hx hb hK hP 1 2 rfl rfl (by omega) zd_R_readName_35 ?_
          refine lv_aload_n hx hb zd_R_readName_36 rfl (lv_at hl 2 rfl) ?_
          refine lv_iload_n hx hb zd_R_readName_37 rfl (lv_at hl 0 rfl) ?_
          refine zk_V (As := [.int (iI (3 * k))]) (b := q) (own := "CronFinder$Reader") (nL := 3) (rest := [.int (iI (tf (at0).toNat))]) hx hb hml hown hw (c_S_charAt l g q v n f (3 * k) (by omega) hf) zw_2_112 zw_2_113 zw_2_114 zw_1_15 zw_2_115 (np := 1) (by decide +kernel) rfl (by decide) (zStr_mv q v n f _) hK hT (hP.sub (ws' := []) [] rfl) (zStr_recv hT) hl.1 rfl (Nat.le_of_ble_eq_true rfl) (by decide) zd_R_readName_38 ?_
          have hf38 := hf (3 * k) (by omega)
          refine zi_icmp_ne (tgt := 107) hx hb zd_R_readName_41 (by decide) (by omega) (fun c41 => ?_) (fun c41 => ?_)
          · refine lv_iinc (v := iI (3 * k + 3)) (lv' := [(2, .int (iI (3 * k + 3))), (0, .ref (rq)), (1, .ref (q))]) hx hb zd_R_readName_107 hl (k := 0) rfl (iI_add _ _) (by decide) rfl (fun ls hl => ?_)
            refine lv_goto (tgt := 17) hx hb zd_R_readName_110 (by decide) ?_
            exact ih (k + 1) ls ⟨by omega, by omega⟩ (by rw [← nmF_n (by omega) (by first | exact (fun q9 => c83 q9.2.2) | exact (fun q9 => c62 q9.2.1) | exact (fun q9 => c41 q9.1))]; exact hF) (by omega) (lv_sub hl [0, 1, 2] (by rw [show 3 * (k + 1) = 3 * k + 3 by omega]; rfl))
          · refine lv_aload_n hx hb zd_R_readName_44 rfl (lv_at hl 1 rfl) ?_
            refine va_get (D := g.1) (ci := 4) (v := .ref (tx)) (C := zR_R) (T := zT_R) (N := 6) hx hb hw zin_R hown hK hP 0 rfl rfl 0 (by decide) (hw _ zw_2_7) (fun _ h9 => h9) rfl zd_R_readName_45 ?_
            have hc2 := hch (at0 + 1).toNat
            refine lv_aload_n hx hb zd_R_readName_48 rfl (lv_at hl 1 rfl) ?_
            refine va_get (D := g.1) (ci := 4) (v := .int (iI (at0))) (C := zR_R) (T := zT_R) (N := 6) hx hb hw zin_R hown hK hP 0 rfl rfl 3 (by decide) (hw _ zw_2_10) (fun _ h9 => h9) rfl zd_R_readName_49 ?_
            refine zi_iconst hx hb zd_R_readName_52 ?_
            refine zi_iadd hx hb zd_R_readName_53 ?_
            refine zi_cald hx hb hK hP 1 2 rfl rfl (by omega) zd_R_readName_54 ?_
            refine lv_aload_n hx hb zd_R_readName_55 rfl (lv_at hl 2 rfl) ?_
            refine lv_iload_n hx hb zd_R_readName_56 rfl (lv_at hl 0 rfl) ?_
            refine zi_iconst hx hb zd_R_readName_57 ?_
            refine zi_iadd hx hb zd_R_readName_58 ?_
            refine zk_V (As := [.int (iI ((3 * k) + 1))]) (b := q) (own := "CronFinder$Reader") (nL := 3) (rest := [.int (iI (tf (at0 + 1).toNat))]) hx hb hml hown hw (c_S_charAt l g q v n f ((3 * k) + 1) (by omega) hf) zw_2_112 zw_2_113 zw_2_114 zw_1_15 zw_2_115 (np := 1) (by decide +kernel) rfl (by decide) (zStr_mv q v n f _) hK hT (hP.sub (ws' := []) [] rfl) (zStr_recv hT) hl.1 rfl (Nat.le_of_ble_eq_true rfl) (by decide) zd_R_readName_59 ?_
            have hf59 := hf ((3 * k) + 1) (by omega)
            refine zi_icmp_ne (tgt := 107) hx hb zd_R_readName_62 (by decide) (by omega) (fun c62 => ?_) (fun c62 => ?_)
            · refine lv_iinc (v := iI (3 * k + 3)) (lv' := [(2, .int (iI (3 * k + 3))), (0, .ref (rq)), (1, .ref (q))]) hx hb zd_R_readName_107 hl (k := 0) rfl (iI_add _ _) (by decide) rfl (fun ls hl => ?_)
              refine lv_goto (tgt := 17) hx hb zd_R_readName_110 (by decide) ?_
              exact ih (k + 1) ls ⟨by omega, by omega⟩ (by rw [← nmF_n (by omega) (by first | exact (fun q9 => c83 q9.2.2) | exact (fun q9 => c62 q9.2.1) | exact (fun q9 => c41 q9.1))]; exact hF) (by omega) (lv_sub hl [0, 1, 2] (by rw [show 3 * (k + 1) = 3 * k + 3 by omega]; rfl))
            · refine lv_aload_n hx hb zd_R_readName_65 rfl (lv_at hl 1 rfl) ?_
              refine va_get (D := g.1) (ci := 4) (v := .ref (tx)) (C := zR_R) (T := zT_R) (N := 6) hx hb hw zin_R hown hK hP 0 rfl rfl 0 (by decide) (hw _ zw_2_7) (fun _ h9 => h9) rfl zd_R_readName_66 ?_
              have hc3 := hch (at0 + 2).toNat
              refine lv_aload_n hx hb zd_R_readName_69 rfl (lv_at hl 1 rfl) ?_
              refine va_get (D := g.1) (ci := 4) (v := .int (iI (at0))) (C := zR_R) (T := zT_R) (N := 6) hx hb hw zin_R hown hK hP 0 rfl rfl 3 (by decide) (hw _ zw_2_10) (fun _ h9 => h9) rfl zd_R_readName_70 ?_
              refine zi_iconst hx hb zd_R_readName_73 ?_
              refine zi_iadd hx hb zd_R_readName_74 ?_
              refine zi_cald hx hb hK hP 1 2 rfl rfl (by omega) zd_R_readName_75 ?_
              refine lv_aload_n hx hb zd_R_readName_76 rfl (lv_at hl 2 rfl) ?_
              refine lv_iload_n hx hb zd_R_readName_77 rfl (lv_at hl 0 rfl) ?_
              refine zi_iconst hx hb zd_R_readName_78 ?_
              refine zi_iadd hx hb zd_R_readName_79 ?_
              refine zk_V (As := [.int (iI ((3 * k) + 2))]) (b := q) (own := "CronFinder$Reader") (nL := 3) (rest := [.int (iI (tf (at0 + 2).toNat))]) hx hb hml hown hw (c_S_charAt l g q v n f ((3 * k) + 2) (by omega) hf) zw_2_112 zw_2_113 zw_2_114 zw_1_15 zw_2_115 (np := 1) (by decide +kernel) rfl (by decide) (zStr_mv q v n f _) hK hT (hP.sub (ws' := []) [] rfl) (zStr_recv hT) hl.1 rfl (Nat.le_of_ble_eq_true rfl) (by decide) zd_R_readName_80 ?_
              have hf80 := hf ((3 * k) + 2) (by omega)
              refine zi_icmp_ne (tgt := 107) hx hb zd_R_readName_83 (by decide) (by omega) (fun c83 => ?_) (fun c83 => ?_)
              · refine lv_iinc (v := iI (3 * k + 3)) (lv' := [(2, .int (iI (3 * k + 3))), (0, .ref (rq)), (1, .ref (q))]) hx hb zd_R_readName_107 hl (k := 0) rfl (iI_add _ _) (by decide) rfl (fun ls hl => ?_)
                refine lv_goto (tgt := 17) hx hb zd_R_readName_110 (by decide) ?_
                exact ih (k + 1) ls ⟨by omega, by omega⟩ (by rw [← nmF_n (by omega) (by first | exact (fun q9 => c83 q9.2.2) | exact (fun q9 => c62 q9.2.1) | exact (fun q9 => c41 q9.1))]; exact hF) (by omega) (lv_sub hl [0, 1, 2] (by rw [show 3 * (k + 1) = 3 * k + 3 by omega]; rfl))
              · exact absurd ((nmF_y (by omega) ⟨c41, c62, c83⟩).symm.trans hF) (by rw [h0]; omega)
    exact loop 20 0 ls ⟨by omega, by omega⟩ (by unfold nmA; rw [if_neg (by omega)]) (by omega) (lv_sub hl [0, 1, 2] rfl)
  · refine zi_iconst hx hb zd_R_readName_13 ?_
    refine zb_as (x := false) rfl ?_
    exact zs_zret hx hb hr hlk zd_R_readName_14
set_option maxHeartbeats 4000000 in
set_option maxRecDepth 100000 in
theorem c_R_name_y (l : Launch) (g : zGl) (rq tx : Nat) (tf : Nat → Int) (ln : Int) (pq : Nat) (at0 vl : Int) (op : Bool) (hln : 0 ≤ ln ∧ ln ≤ 400) (hat : 0 ≤ at0 ∧ at0 ≤ ln) (hch : ∀ j : Nat, 0 ≤ tf j ∧ tf j < 256) (q v n : Nat) (f : Int → Int) (hn : (n : Int) = 36 ∨ (n : Int) = 21) (hf : ∀ j : Int, 0 ≤ j ∧ j < (n : Int) → 0 ≤ f j ∧ f j < 128) (h0 : ¬ nmA f (n : Int) ln tf at0 = 0) : zWi l zy_R_readName zc_R_readName 3 (some .boolean) ({ frames := 5, cells := 0, slots := 0, locals := 106 }) g (zStr q v n f) [.ref (rq), .ref (q)] [(rq, .inr (4, [.ref (tx), .int (iI (ln)), .ref (pq), .int (iI (at0)), .int (iI (vl)), .int (iI (bI (op)))])), (tx, .inl (g.2 2, 400, .inl (zaI tf)))] (some (.int (iI (bI (true))))) [(rq, .inr (4, [.ref (tx), .int (iI (ln)), .ref (pq), .int (iI (at0 + 3)), .int (iI (nmA f (n : Int) ln tf at0)), .int (iI (bI (op)))])), (tx, .inl (g.2 2, 400, .inl (zaI tf)))] 0 0 := by
  refine zw_open (by decide +kernel) (Nat.le_of_ble_eq_true rfl) ?_
  intro p e s m below meth c ls A hx hb hml hr hlk hown hin hw hK hT hP hD hS hA hl
  have hown : s.vm.findClass "CronFinder$Reader" = some m.cls := hown
  have hl : lv_has ls 3 [(0, .ref (rq)), (1, .ref (q))] := hl
  refine lv_aload_n hx hb zd_R_readName_0 rfl (lv_at hl 0 rfl) ?_
  refine va_get (D := g.1) (ci := 4) (v := .int (iI (ln))) (C := zR_R) (T := zT_R) (N := 6) hx hb hw zin_R hown hK hP 0 rfl rfl 1 (by decide) (hw _ zw_2_8) (fun _ h9 => h9) rfl zd_R_readName_1 ?_
  refine lv_aload_n hx hb zd_R_readName_4 rfl (lv_at hl 0 rfl) ?_
  refine va_get (D := g.1) (ci := 4) (v := .int (iI (at0))) (C := zR_R) (T := zT_R) (N := 6) hx hb hw zin_R hown hK hP 0 rfl rfl 3 (by decide) (hw _ zw_2_10) (fun _ h9 => h9) rfl zd_R_readName_5 ?_
  refine zi_isub hx hb zd_R_readName_8 ?_
  refine zi_iconst hx hb zd_R_readName_9 ?_
  refine zi_icmp_ge (tgt := 15) hx hb zd_R_readName_10 (by decide) (by omega) (fun c10 => ?_) (fun c10 => ?_)
  · refine zi_iconst hx hb zd_R_readName_15 ?_
    refine lv_istore_n (lv' := [(2, .int (iI (0))), (0, .ref (rq)), (1, .ref (q))]) hx hb zd_R_readName_16 rfl hl (by decide) rfl (fun ls hl => ?_)
    have loop : ∀ (n9 : Nat) (k : Int) (H : Heap) (locs : List Loc) (ls : Array Slot), (0 ≤ k ∧ k < 20) → (nmF f (n : Int) tf at0 n9 k = nmA f (n : Int) ln tf at0) → ((19 - k).toNat < n9) → va_P g.1 zCl [(rq, .inr (4, [.ref (tx), .int (iI (ln)), .ref (pq), .int (iI (at0)), .int (iI (vl)), .int (iI (bI (op)))])), (tx, .inl (g.2 2, 400, .inl (zaI tf)))] H → va_D A [(rq, .inr (4, [.ref (tx), .int (iI (ln)), .ref (pq), .int (iI (at0)), .int (iI (vl)), .int (iI (bI (op)))])), (tx, .inl (g.2 2, 400, .inl (zaI tf)))] → va_S A s.heap H locs → lv_has ls 3 [(2, .int (iI (3 * k))), (0, .ref (rq)), (1, .ref (q))] → W p l e ({ frames := 5, cells := 0, slots := 0, locals := 106 }) s m [.ref (rq), .ref (q)].toArray below meth c H locs 0 0 (MQ below (zWr g.1 zCl (some (.int (iI (bI (true))))) [(rq, .inr (4, [.ref (tx), .int (iI (ln)), .ref (pq), .int (iI (at0 + 3)), .int (iI (nmA f (n : Int) ln tf at0)), .int (iI (bI (op)))])), (tx, .inl (g.2 2, 400, .inl (zaI tf)))] A) [.ref (rq), .ref (q)].toArray s 0 0 A) (F0 m 17 ls []) := by
      intro n9
      induction n9 with
      | zero =>
        intro k H locs ls h1 hF h2 hP hD hS hl
        exact absurd h2 (by omega)
      | succ n9 ih =>
        intro k H locs ls h1 hF h2 hP hD hS hl
        refine lv_iload_n hx hb zd_R_readName_17 rfl (lv_at hl 0 rfl) ?_
        refine zi_iconst hx hb zd_R_readName_18 ?_
        refine zi_iadd hx hb zd_R_readName_19 ?_
        refine lv_aload_n hx hb zd_R_readName_20 rfl (lv_at hl 2 rfl) ?_
        refine zk_V (As := []) (b := q) (own := "CronFinder$Reader") (nL := 3) (rest := [.int (iI ((3 * k) + 3))]) hx hb hml hown hw (c_S_length l g q v n f) zw_2_102 zw_2_103 zw_2_104 zw_1_15 zw_2_105 (np := 0) (by decide +kernel) rfl (by decide) (zStr_mv q v n f _) hK (zStr_nar (B := fun _ => False) (zStr_now hT hS) (fun _ h => h.elim)) (hP.sub (ws' := []) [] rfl) (zStr_recv (zStr_nar (B := fun _ => False) (zStr_now hT hS) (fun _ h => h.elim))) hl.1 rfl (Nat.le_of_ble_eq_true rfl) (by decide) zd_R_readName_21 ?_
        refine zi_icmp_gt (tgt := 113) hx hb zd_R_readName_24 (by decide) (by omega) (fun c24 => ?_) (fun c24 => ?_)
        · refine zi_iconst hx hb zd_R_readName_113 ?_
          exact absurd ((nmF_e (by omega)).symm.trans hF).symm h0
        · refine lv_aload_n hx hb zd_R_readName_27 rfl (lv_at hl 1 rfl) ?_
          refine va_get (D := g.1) (ci := 4) (v := .ref (tx)) (C := zR_R) (T := zT_R) (N := 6) hx hb hw zin_R hown hK hP 0 rfl rfl 0 (by decide) (hw _ zw_2_7) (fun _ h9 => h9) rfl zd_R_readName_28 ?_
          have hc1 := hch (at0).toNat
          refine lv_aload_n hx hb zd_R_readName_31 rfl (lv_at hl 1 rfl) ?_
          refine va_get (D := g.1) (ci := 4) (v := .int (iI (at0))) (C := zR_R) (T := zT_R) (N := 6) hx hb hw zin_R hown hK hP 0 rfl rfl 3 (by decide) (hw _ zw_2_10) (fun _ h9 => h9) rfl zd_R_readName_32 ?_
          refine zi_cald hx hb hK hP 1 2 rfl rfl (by omega) zd_R_readName_35 ?_
          refine lv_aload_n hx hb zd_R_readName_36 rfl (lv_at hl 2 rfl) ?_
          refine lv_iload_n hx hb zd_R_readName_37 rfl (lv_at hl 0 rfl) ?_
          refine zk_V (As := [.int (iI (3 * k))]) (b := q) (own := "CronFinder$Reader") (nL := 3) (rest := [.int (iI (tf (at0).toNat))]) hx hb hml hown hw (c_S_charAt l g q v n f (3 * k) (by omega) hf) zw_2_112 zw_2_113 zw_2_114 zw_1_15 zw_2_115 (np := 1) (by decide +kernel) rfl (by decide) (zStr_mv q v n f _) hK (zStr_nar (B := fun _ => False) (zStr_now hT hS) (fun _ h => h.elim)) (hP.sub (ws' := []) [] rfl) (zStr_recv (zStr_nar (B := fun _ => False) (zStr_now hT hS) (fun _ h => h.elim))) hl.1 rfl (Nat.le_of_ble_eq_true rfl) (by decide) zd_R_readName_38 ?_
          have hf38 := hf (3 * k) (by omega)
          refine zi_icmp_ne (tgt := 107) hx hb zd_R_readName_41 (by decide) (by omega) (fun c41 => ?_) (fun c41 => ?_)
          · refine lv_iinc (v := iI (3 * k + 3)) (lv' := [(2, .int (iI (3 * k + 3))), (0, .ref (rq)), (1, .ref (q))]) hx hb zd_R_readName_107 hl (k := 0) rfl (iI_add _ _) (by decide) rfl (fun ls hl => ?_)
            refine lv_goto (tgt := 17) hx hb zd_R_readName_110 (by decide) ?_
            exact ih (k + 1) H locs ls ⟨by omega, by omega⟩ (by rw [← nmF_n (by omega) (by first | exact (fun q9 => c83 q9.2.2) | exact (fun q9 => c62 q9.2.1) | exact (fun q9 => c41 q9.1))]; exact hF) (by omega) hP hD hS (lv_sub hl [0, 1, 2] (by rw [show 3 * (k + 1) = 3 * k + 3 by omega]; rfl))
          · refine lv_aload_n hx hb zd_R_readName_44 rfl (lv_at hl 1 rfl) ?_
            refine va_get (D := g.1) (ci := 4) (v := .ref (tx)) (C := zR_R) (T := zT_R) (N := 6) hx hb hw zin_R hown hK hP 0 rfl rfl 0 (by decide) (hw _ zw_2_7) (fun _ h9 => h9) rfl zd_R_readName_45 ?_
            have hc2 := hch (at0 + 1).toNat
            refine lv_aload_n hx hb zd_R_readName_48 rfl (lv_at hl 1 rfl) ?_
            refine va_get (D := g.1) (ci := 4) (v := .int (iI (at0))) (C := zR_R) (T := zT_R) (N := 6) hx hb hw zin_R hown hK hP 0 rfl rfl 3 (by decide) (hw _ zw_2_10) (fun _ h9 => h9) rfl zd_R_readName_49 ?_
            refine zi_iconst hx hb zd_R_readName_52 ?_
            refine zi_iadd hx hb zd_R_readName_53 ?_
            refine zi_cald hx hb hK hP 1 2 rfl rfl (by omega) zd_R_readName_54 ?_
            refine lv_aload_n hx hb zd_R_readName_55 rfl (lv_at hl 2 rfl) ?_
            refine lv_iload_n hx hb zd_R_readName_56 rfl (lv_at hl 0 rfl) ?_
            refine zi_iconst hx hb zd_R_readName_57 ?_
            refine zi_iadd hx hb zd_R_readName_58 ?_
            refine zk_V (As := [.int (iI ((3 * k) + 1))]) (b := q) (own := "CronFinder$Reader") (nL := 3) (rest := [.int (iI (tf (at0 + 1).toNat))]) hx hb hml hown hw (c_S_charAt l g q v n f ((3 * k) + 1) (by omega) hf) zw_2_112 zw_2_113 zw_2_114 zw_1_15 zw_2_115 (np := 1) (by decide +kernel) rfl (by decide) (zStr_mv q v n f _) hK (zStr_nar (B := fun _ => False) (zStr_now hT hS) (fun _ h => h.elim)) (hP.sub (ws' := []) [] rfl) (zStr_recv (zStr_nar (B := fun _ => False) (zStr_now hT hS) (fun _ h => h.elim))) hl.1 rfl (Nat.le_of_ble_eq_true rfl) (by decide) zd_R_readName_59 ?_
            have hf59 := hf ((3 * k) + 1) (by omega)
            refine zi_icmp_ne (tgt := 107) hx hb zd_R_readName_62 (by decide) (by omega) (fun c62 => ?_) (fun c62 => ?_)
            · refine lv_iinc (v := iI (3 * k + 3)) (lv' := [(2, .int (iI (3 * k + 3))), (0, .ref (rq)), (1, .ref (q))]) hx hb zd_R_readName_107 hl (k := 0) rfl (iI_add _ _) (by decide) rfl (fun ls hl => ?_)
              refine lv_goto (tgt := 17) hx hb zd_R_readName_110 (by decide) ?_
              exact ih (k + 1) H locs ls ⟨by omega, by omega⟩ (by rw [← nmF_n (by omega) (by first | exact (fun q9 => c83 q9.2.2) | exact (fun q9 => c62 q9.2.1) | exact (fun q9 => c41 q9.1))]; exact hF) (by omega) hP hD hS (lv_sub hl [0, 1, 2] (by rw [show 3 * (k + 1) = 3 * k + 3 by omega]; rfl))
            · refine lv_aload_n hx hb zd_R_readName_65 rfl (lv_at hl 1 rfl) ?_
              refine va_get (D := g.1) (ci := 4) (v := .ref (tx)) (C := zR_R) (T := zT_R) (N := 6) hx hb hw zin_R hown hK hP 0 rfl rfl 0 (by decide) (hw _ zw_2_7) (fun _ h9 => h9) rfl zd_R_readName_66 ?_
              have hc3 := hch (at0 + 2).toNat
              refine lv_aload_n hx hb zd_R_readName_69 rfl (lv_at hl 1 rfl) ?_
              refine va_get (D := g.1) (ci := 4) (v := .int (iI (at0))) (C := zR_R) (T := zT_R) (N := 6) hx hb hw zin_R hown hK hP 0 rfl rfl 3 (by decide) (hw _ zw_2_10) (fun _ h9 => h9) rfl zd_R_readName_70 ?_
              refine zi_iconst hx hb zd_R_readName_73 ?_
              refine zi_iadd hx hb zd_R_readName_74 ?_
              refine zi_cald hx hb hK hP 1 2 rfl rfl (by omega) zd_R_readName_75 ?_
              refine lv_aload_n hx hb zd_R_readName_76 rfl (lv_at hl 2 rfl) ?_
              refine lv_iload_n hx hb zd_R_readName_77 rfl (lv_at hl 0 rfl) ?_
              refine zi_iconst hx hb zd_R_readName_78 ?_
              refine zi_iadd hx hb zd_R_readName_79 ?_
              refine zk_V (As := [.int (iI ((3 * k) + 2))]) (b := q) (own := "CronFinder$Reader") (nL := 3) (rest := [.int (iI (tf (at0 + 2).toNat))]) hx hb hml hown hw (c_S_charAt l g q v n f ((3 * k) + 2) (by omega) hf) zw_2_112 zw_2_113 zw_2_114 zw_1_15 zw_2_115 (np := 1) (by decide +kernel) rfl (by decide) (zStr_mv q v n f _) hK (zStr_nar (B := fun _ => False) (zStr_now hT hS) (fun _ h => h.elim)) (hP.sub (ws' := []) [] rfl) (zStr_recv (zStr_nar (B := fun _ => False) (zStr_now hT hS) (fun _ h => h.elim))) hl.1 rfl (Nat.le_of_ble_eq_true rfl) (by decide) zd_R_readName_80 ?_
              have hf80 := hf ((3 * k) + 2) (by omega)
              refine zi_icmp_ne (tgt := 107) hx hb zd_R_readName_83 (by decide) (by omega) (fun c83 => ?_) (fun c83 => ?_)
              · refine lv_iinc (v := iI (3 * k + 3)) (lv' := [(2, .int (iI (3 * k + 3))), (0, .ref (rq)), (1, .ref (q))]) hx hb zd_R_readName_107 hl (k := 0) rfl (iI_add _ _) (by decide) rfl (fun ls hl => ?_)
                refine lv_goto (tgt := 17) hx hb zd_R_readName_110 (by decide) ?_
                exact ih (k + 1) H locs ls ⟨by omega, by omega⟩ (by rw [← nmF_n (by omega) (by first | exact (fun q9 => c83 q9.2.2) | exact (fun q9 => c62 q9.2.1) | exact (fun q9 => c41 q9.1))]; exact hF) (by omega) hP hD hS (lv_sub hl [0, 1, 2] (by rw [show 3 * (k + 1) = 3 * k + 3 by omega]; rfl))
              · refine lv_aload_n hx hb zd_R_readName_86 rfl (lv_at hl 1 rfl) ?_
                refine lv_dup hx hb zd_R_readName_87 rfl ?_
                refine va_get (D := g.1) (ci := 4) (v := .int (iI (at0))) (C := zR_R) (T := zT_R) (N := 6) hx hb hw zin_R hown hK hP 0 rfl rfl 3 (by decide) (hw _ zw_2_10) (fun _ h9 => h9) rfl zd_R_readName_88 ?_
                refine zi_iconst hx hb zd_R_readName_91 ?_
                refine zi_iadd hx hb zd_R_readName_92 ?_
                refine va_put (D := g.1) (ci := 4) (v := .int (iI (at0 + 3))) (ty := .int) (C := zR_R) (T := zT_R) (N := 6) hx hb hw zin_R zt_R zto_R zn_R hown hK hP hD hS 0 rfl rfl 3 (by decide) (hw _ zw_2_10) (fun _ h9 => h9) rfl  (by decide +kernel) rfl rfl (Nat.le_of_ble_eq_true rfl) zd_R_readName_93 (fun H locs hP hD hS => ?_)
                have hP : va_P g.1 zCl [(rq, .inr (4, [.ref (tx), .int (iI (ln)), .ref (pq), .int (iI (at0 + 3)), .int (iI (vl)), .int (iI (bI (op)))])), (tx, .inl (g.2 2, 400, .inl (zaI tf)))] H := hP
                have hD : va_D A [(rq, .inr (4, [.ref (tx), .int (iI (ln)), .ref (pq), .int (iI (at0 + 3)), .int (iI (vl)), .int (iI (bI (op)))])), (tx, .inl (g.2 2, 400, .inl (zaI tf)))] := hD
                refine lv_aload_n hx hb zd_R_readName_96 rfl (lv_at hl 1 rfl) ?_
                refine lv_iload_n hx hb zd_R_readName_97 rfl (lv_at hl 0 rfl) ?_
                refine zi_iconst hx hb zd_R_readName_98 ?_
                refine zi_idiv hx hb zd_R_readName_99 (by omega) ?_
                refine zi_iconst hx hb zd_R_readName_100 ?_
                refine zi_iadd hx hb zd_R_readName_101 ?_
                refine va_put (D := g.1) (ci := 4) (v := .int (iI (((3 * k) / 3) + 1))) (ty := .int) (C := zR_R) (T := zT_R) (N := 6) hx hb hw zin_R zt_R zto_R zn_R hown hK hP hD hS 0 rfl rfl 4 (by decide) (hw _ zw_2_11) (fun _ h9 => h9) rfl  (by decide +kernel) rfl rfl (Nat.le_of_ble_eq_true rfl) zd_R_readName_102 (fun H locs hP hD hS => ?_)
                have hP : va_P g.1 zCl [(rq, .inr (4, [.ref (tx), .int (iI (ln)), .ref (pq), .int (iI (at0 + 3)), .int (iI (((3 * k) / 3) + 1)), .int (iI (bI (op)))])), (tx, .inl (g.2 2, 400, .inl (zaI tf)))] H := hP
                have hD : va_D A [(rq, .inr (4, [.ref (tx), .int (iI (ln)), .ref (pq), .int (iI (at0 + 3)), .int (iI (((3 * k) / 3) + 1)), .int (iI (bI (op)))])), (tx, .inl (g.2 2, 400, .inl (zaI tf)))] := hD
                refine zi_iconst hx hb zd_R_readName_105 ?_
                refine zb_as (x := true) rfl ?_
                have e1 : 3 * k / 3 + 1 = nmA f (n : Int) ln tf at0 := by rw [show 3 * k / 3 = k by omega]; exact (nmF_y (by omega) ⟨c41, c62, c83⟩).symm.trans hF
                rw [e1] at hP
                exact zw_zret hx hb hr hlk (ws := [(rq, .inr (4, [.ref (tx), .int (iI (ln)), .ref (pq), .int (iI (at0 + 3)), .int (iI (nmA f (n : Int) ln tf at0)), .int (iI (bI (op)))])), (tx, .inl (g.2 2, 400, .inl (zaI tf)))]) hP hS zd_R_readName_106
    exact loop 20 0 s.heap [] ls ⟨by omega, by omega⟩ (by unfold nmA; rw [if_neg (by omega)]) (by omega) hP hD hS (lv_sub hl [0, 1, 2] rfl)
  · refine zi_iconst hx hb zd_R_readName_13 ?_
    exact absurd (show nmA f (n : Int) ln tf at0 = 0 by unfold nmA; rw [if_pos (by omega)]) h0
