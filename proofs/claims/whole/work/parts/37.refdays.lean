/-! the reference: special of a month, dayFits -/
theorem zd_Q_special1_0 : decode zc_Q_special1 0 = .ok (.aload_n 0, 1) := by decide +kernel
theorem zd_Q_special1_1 : decode zc_Q_special1 1 = .ok (.getfield 109, 3) := by decide +kernel
theorem zd_Q_special1_4 : decode zc_Q_special1 4 = .ok (.aload_n 0, 1) := by decide +kernel
theorem zd_Q_special1_5 : decode zc_Q_special1 5 = .ok (.getfield 115, 3) := by decide +kernel
theorem zd_Q_special1_8 : decode zc_Q_special1 8 = .ok (.invokestatic 100, 3) := by decide +kernel
theorem zd_Q_special1_11 : decode zc_Q_special1 11 = .ok (.istore_n 2, 1) := by decide +kernel
theorem zd_Q_special1_12 : decode zc_Q_special1 12 = .ok (.aload_n 0, 1) := by decide +kernel
theorem zd_Q_special1_13 : decode zc_Q_special1 13 = .ok (.getfield 109, 3) := by decide +kernel
theorem zd_Q_special1_16 : decode zc_Q_special1 16 = .ok (.aload_n 0, 1) := by decide +kernel
theorem zd_Q_special1_17 : decode zc_Q_special1 17 = .ok (.getfield 115, 3) := by decide +kernel
theorem zd_Q_special1_20 : decode zc_Q_special1 20 = .ok (.invokestatic 112, 3) := by decide +kernel
theorem zd_Q_special1_23 : decode zc_Q_special1 23 = .ok (.istore_n 3, 1) := by decide +kernel
theorem zd_Q_special1_24 : decode zc_Q_special1 24 = .ok (.aload_n 0, 1) := by decide +kernel
theorem zd_Q_special1_25 : decode zc_Q_special1 25 = .ok (.getfield 36, 3) := by decide +kernel
theorem zd_Q_special1_28 : decode zc_Q_special1 28 = .ok (.iload_n 1, 1) := by decide +kernel
theorem zd_Q_special1_29 : decode zc_Q_special1 29 = .ok (.aaload, 1) := by decide +kernel
theorem zd_Q_special1_30 : decode zc_Q_special1 30 = .ok (.iconst 0, 1) := by decide +kernel
theorem zd_Q_special1_31 : decode zc_Q_special1 31 = .ok (.iaload, 1) := by decide +kernel
theorem zd_Q_special1_32 : decode zc_Q_special1 32 = .ok (.istore 4, 2) := by decide +kernel
theorem zd_Q_special1_34 : decode zc_Q_special1 34 = .ok (.aload_n 0, 1) := by decide +kernel
theorem zd_Q_special1_35 : decode zc_Q_special1 35 = .ok (.getfield 33, 3) := by decide +kernel
theorem zd_Q_special1_38 : decode zc_Q_special1 38 = .ok (.iload_n 1, 1) := by decide +kernel
theorem zd_Q_special1_39 : decode zc_Q_special1 39 = .ok (.aaload, 1) := by decide +kernel
theorem zd_Q_special1_40 : decode zc_Q_special1 40 = .ok (.iconst 0, 1) := by decide +kernel
theorem zd_Q_special1_41 : decode zc_Q_special1 41 = .ok (.iaload, 1) := by decide +kernel
theorem zd_Q_special1_42 : decode zc_Q_special1 42 = .ok (.iconst 2, 1) := by decide +kernel
theorem zd_Q_special1_43 : decode zc_Q_special1 43 = .ok (.if_icmp .ne 19, 3) := by decide +kernel
theorem zd_Q_special1_46 : decode zc_Q_special1 46 = .ok (.iload_n 2, 1) := by decide +kernel
theorem zd_Q_special1_47 : decode zc_Q_special1 47 = .ok (.iload 4, 2) := by decide +kernel
theorem zd_Q_special1_49 : decode zc_Q_special1 49 = .ok (.isub, 1) := by decide +kernel
theorem zd_Q_special1_50 : decode zc_Q_special1 50 = .ok (.ifCond .le 10, 3) := by decide +kernel
theorem zd_Q_special1_53 : decode zc_Q_special1 53 = .ok (.iload_n 2, 1) := by decide +kernel
theorem zd_Q_special1_54 : decode zc_Q_special1 54 = .ok (.iload 4, 2) := by decide +kernel
theorem zd_Q_special1_56 : decode zc_Q_special1 56 = .ok (.isub, 1) := by decide +kernel
theorem zd_Q_special1_57 : decode zc_Q_special1 57 = .ok (.goto 4, 3) := by decide +kernel
theorem zd_Q_special1_60 : decode zc_Q_special1 60 = .ok (.iconst 0, 1) := by decide +kernel
theorem zd_Q_special1_61 : decode zc_Q_special1 61 = .ok (.ireturn, 1) := by decide +kernel
theorem zd_Q_special1_62 : decode zc_Q_special1 62 = .ok (.aload_n 0, 1) := by decide +kernel
theorem zd_Q_special1_63 : decode zc_Q_special1 63 = .ok (.getfield 33, 3) := by decide +kernel
theorem zd_Q_special1_66 : decode zc_Q_special1 66 = .ok (.iload_n 1, 1) := by decide +kernel
theorem zd_Q_special1_67 : decode zc_Q_special1 67 = .ok (.aaload, 1) := by decide +kernel
theorem zd_Q_special1_68 : decode zc_Q_special1 68 = .ok (.iconst 0, 1) := by decide +kernel
theorem zd_Q_special1_69 : decode zc_Q_special1 69 = .ok (.iaload, 1) := by decide +kernel
theorem zd_Q_special1_70 : decode zc_Q_special1 70 = .ok (.iconst 3, 1) := by decide +kernel
theorem zd_Q_special1_71 : decode zc_Q_special1 71 = .ok (.if_icmp .ne 40, 3) := by decide +kernel
theorem zd_Q_special1_74 : decode zc_Q_special1 74 = .ok (.iload_n 3, 1) := by decide +kernel
theorem zd_Q_special1_75 : decode zc_Q_special1 75 = .ok (.iload_n 2, 1) := by decide +kernel
theorem zd_Q_special1_76 : decode zc_Q_special1 76 = .ok (.iadd, 1) := by decide +kernel
theorem zd_Q_special1_77 : decode zc_Q_special1 77 = .ok (.iconst 1, 1) := by decide +kernel
theorem zd_Q_special1_78 : decode zc_Q_special1 78 = .ok (.isub, 1) := by decide +kernel
theorem zd_Q_special1_79 : decode zc_Q_special1 79 = .ok (.invokestatic 191, 3) := by decide +kernel
theorem zd_Q_special1_82 : decode zc_Q_special1 82 = .ok (.istore 5, 2) := by decide +kernel
theorem zd_Q_special1_84 : decode zc_Q_special1 84 = .ok (.iload 5, 2) := by decide +kernel
theorem zd_Q_special1_86 : decode zc_Q_special1 86 = .ok (.bipush 7, 2) := by decide +kernel
theorem zd_Q_special1_88 : decode zc_Q_special1 88 = .ok (.if_icmp .ne 9, 3) := by decide +kernel
theorem zd_Q_special1_91 : decode zc_Q_special1 91 = .ok (.iload_n 2, 1) := by decide +kernel
theorem zd_Q_special1_92 : decode zc_Q_special1 92 = .ok (.iconst 1, 1) := by decide +kernel
theorem zd_Q_special1_93 : decode zc_Q_special1 93 = .ok (.isub, 1) := by decide +kernel
theorem zd_Q_special1_94 : decode zc_Q_special1 94 = .ok (.goto 16, 3) := by decide +kernel
theorem zd_Q_special1_97 : decode zc_Q_special1 97 = .ok (.iload 5, 2) := by decide +kernel
theorem zd_Q_special1_99 : decode zc_Q_special1 99 = .ok (.iconst 1, 1) := by decide +kernel
theorem zd_Q_special1_100 : decode zc_Q_special1 100 = .ok (.if_icmp .ne 9, 3) := by decide +kernel
theorem zd_Q_special1_103 : decode zc_Q_special1 103 = .ok (.iload_n 2, 1) := by decide +kernel
theorem zd_Q_special1_104 : decode zc_Q_special1 104 = .ok (.iconst 2, 1) := by decide +kernel
theorem zd_Q_special1_105 : decode zc_Q_special1 105 = .ok (.isub, 1) := by decide +kernel
theorem zd_Q_special1_106 : decode zc_Q_special1 106 = .ok (.goto 4, 3) := by decide +kernel
theorem zd_Q_special1_109 : decode zc_Q_special1 109 = .ok (.iload_n 2, 1) := by decide +kernel
theorem zd_Q_special1_110 : decode zc_Q_special1 110 = .ok (.ireturn, 1) := by decide +kernel
theorem zd_Q_special1_111 : decode zc_Q_special1 111 = .ok (.iload 4, 2) := by decide +kernel
theorem zd_Q_special1_113 : decode zc_Q_special1 113 = .ok (.iload_n 2, 1) := by decide +kernel
theorem zd_Q_special1_114 : decode zc_Q_special1 114 = .ok (.if_icmp .le 5, 3) := by decide +kernel
theorem zd_Q_special1_117 : decode zc_Q_special1 117 = .ok (.iconst 0, 1) := by decide +kernel
theorem zd_Q_special1_118 : decode zc_Q_special1 118 = .ok (.ireturn, 1) := by decide +kernel
theorem zd_Q_special1_119 : decode zc_Q_special1 119 = .ok (.iload_n 3, 1) := by decide +kernel
theorem zd_Q_special1_120 : decode zc_Q_special1 120 = .ok (.iload 4, 2) := by decide +kernel
theorem zd_Q_special1_122 : decode zc_Q_special1 122 = .ok (.iadd, 1) := by decide +kernel
theorem zd_Q_special1_123 : decode zc_Q_special1 123 = .ok (.iconst 1, 1) := by decide +kernel
theorem zd_Q_special1_124 : decode zc_Q_special1 124 = .ok (.isub, 1) := by decide +kernel
theorem zd_Q_special1_125 : decode zc_Q_special1 125 = .ok (.invokestatic 191, 3) := by decide +kernel
theorem zd_Q_special1_128 : decode zc_Q_special1 128 = .ok (.istore 5, 2) := by decide +kernel
theorem zd_Q_special1_130 : decode zc_Q_special1 130 = .ok (.iload 5, 2) := by decide +kernel
theorem zd_Q_special1_132 : decode zc_Q_special1 132 = .ok (.bipush 7, 2) := by decide +kernel
theorem zd_Q_special1_134 : decode zc_Q_special1 134 = .ok (.if_icmp .ne 21, 3) := by decide +kernel
theorem zd_Q_special1_137 : decode zc_Q_special1 137 = .ok (.iload 4, 2) := by decide +kernel
theorem zd_Q_special1_139 : decode zc_Q_special1 139 = .ok (.iconst 1, 1) := by decide +kernel
theorem zd_Q_special1_140 : decode zc_Q_special1 140 = .ok (.if_icmp .le 10, 3) := by decide +kernel
theorem zd_Q_special1_143 : decode zc_Q_special1 143 = .ok (.iload 4, 2) := by decide +kernel
theorem zd_Q_special1_145 : decode zc_Q_special1 145 = .ok (.iconst 1, 1) := by decide +kernel
theorem zd_Q_special1_146 : decode zc_Q_special1 146 = .ok (.isub, 1) := by decide +kernel
theorem zd_Q_special1_147 : decode zc_Q_special1 147 = .ok (.goto 7, 3) := by decide +kernel
theorem zd_Q_special1_150 : decode zc_Q_special1 150 = .ok (.iload 4, 2) := by decide +kernel
theorem zd_Q_special1_152 : decode zc_Q_special1 152 = .ok (.iconst 2, 1) := by decide +kernel
theorem zd_Q_special1_153 : decode zc_Q_special1 153 = .ok (.iadd, 1) := by decide +kernel
theorem zd_Q_special1_154 : decode zc_Q_special1 154 = .ok (.ireturn, 1) := by decide +kernel
theorem zd_Q_special1_155 : decode zc_Q_special1 155 = .ok (.iload 5, 2) := by decide +kernel
theorem zd_Q_special1_157 : decode zc_Q_special1 157 = .ok (.iconst 1, 1) := by decide +kernel
theorem zd_Q_special1_158 : decode zc_Q_special1 158 = .ok (.if_icmp .ne 21, 3) := by decide +kernel
theorem zd_Q_special1_161 : decode zc_Q_special1 161 = .ok (.iload 4, 2) := by decide +kernel
theorem zd_Q_special1_163 : decode zc_Q_special1 163 = .ok (.iload_n 2, 1) := by decide +kernel
theorem zd_Q_special1_164 : decode zc_Q_special1 164 = .ok (.if_icmp .ge 10, 3) := by decide +kernel
theorem zd_Q_special1_167 : decode zc_Q_special1 167 = .ok (.iload 4, 2) := by decide +kernel
theorem zd_Q_special1_169 : decode zc_Q_special1 169 = .ok (.iconst 1, 1) := by decide +kernel
theorem zd_Q_special1_170 : decode zc_Q_special1 170 = .ok (.iadd, 1) := by decide +kernel
theorem zd_Q_special1_171 : decode zc_Q_special1 171 = .ok (.goto 7, 3) := by decide +kernel
theorem zd_Q_special1_174 : decode zc_Q_special1 174 = .ok (.iload 4, 2) := by decide +kernel
theorem zd_Q_special1_176 : decode zc_Q_special1 176 = .ok (.iconst 2, 1) := by decide +kernel
theorem zd_Q_special1_177 : decode zc_Q_special1 177 = .ok (.isub, 1) := by decide +kernel
theorem zd_Q_special1_178 : decode zc_Q_special1 178 = .ok (.ireturn, 1) := by decide +kernel
theorem zd_Q_special1_179 : decode zc_Q_special1 179 = .ok (.iload 4, 2) := by decide +kernel
theorem zd_Q_special1_181 : decode zc_Q_special1 181 = .ok (.ireturn, 1) := by decide +kernel
theorem zd_Q_dayFits_0 : decode zc_Q_dayFits 0 = .ok (.aload_n 0, 1) := by decide +kernel
theorem zd_Q_dayFits_1 : decode zc_Q_dayFits 1 = .ok (.iload_n 2, 1) := by decide +kernel
theorem zd_Q_dayFits_2 : decode zc_Q_dayFits 2 = .ok (.invokevirtual 194, 3) := by decide +kernel
theorem zd_Q_dayFits_5 : decode zc_Q_dayFits 5 = .ok (.aload_n 0, 1) := by decide +kernel
theorem zd_Q_dayFits_6 : decode zc_Q_dayFits 6 = .ok (.getfield 109, 3) := by decide +kernel
theorem zd_Q_dayFits_9 : decode zc_Q_dayFits 9 = .ok (.sipush 1970, 3) := by decide +kernel
theorem zd_Q_dayFits_12 : decode zc_Q_dayFits 12 = .ok (.if_icmp .lt 52, 3) := by decide +kernel
theorem zd_Q_dayFits_15 : decode zc_Q_dayFits 15 = .ok (.aload_n 0, 1) := by decide +kernel
theorem zd_Q_dayFits_16 : decode zc_Q_dayFits 16 = .ok (.getfield 109, 3) := by decide +kernel
theorem zd_Q_dayFits_19 : decode zc_Q_dayFits 19 = .ok (.sipush 2299, 3) := by decide +kernel
theorem zd_Q_dayFits_22 : decode zc_Q_dayFits 22 = .ok (.if_icmp .gt 42, 3) := by decide +kernel
theorem zd_Q_dayFits_25 : decode zc_Q_dayFits 25 = .ok (.aload_n 0, 1) := by decide +kernel
theorem zd_Q_dayFits_26 : decode zc_Q_dayFits 26 = .ok (.getfield 19, 3) := by decide +kernel
theorem zd_Q_dayFits_29 : decode zc_Q_dayFits 29 = .ok (.iload_n 1, 1) := by decide +kernel
theorem zd_Q_dayFits_30 : decode zc_Q_dayFits 30 = .ok (.aaload, 1) := by decide +kernel
theorem zd_Q_dayFits_31 : decode zc_Q_dayFits 31 = .ok (.bipush 6, 2) := by decide +kernel
theorem zd_Q_dayFits_33 : decode zc_Q_dayFits 33 = .ok (.aaload, 1) := by decide +kernel
theorem zd_Q_dayFits_34 : decode zc_Q_dayFits 34 = .ok (.aload_n 0, 1) := by decide +kernel
theorem zd_Q_dayFits_35 : decode zc_Q_dayFits 35 = .ok (.getfield 109, 3) := by decide +kernel
theorem zd_Q_dayFits_38 : decode zc_Q_dayFits 38 = .ok (.sipush 1970, 3) := by decide +kernel
theorem zd_Q_dayFits_41 : decode zc_Q_dayFits 41 = .ok (.isub, 1) := by decide +kernel
theorem zd_Q_dayFits_42 : decode zc_Q_dayFits 42 = .ok (.baload, 1) := by decide +kernel
theorem zd_Q_dayFits_43 : decode zc_Q_dayFits 43 = .ok (.ifCond .eq 21, 3) := by decide +kernel
theorem zd_Q_dayFits_46 : decode zc_Q_dayFits 46 = .ok (.aload_n 0, 1) := by decide +kernel
theorem zd_Q_dayFits_47 : decode zc_Q_dayFits 47 = .ok (.getfield 19, 3) := by decide +kernel
theorem zd_Q_dayFits_50 : decode zc_Q_dayFits 50 = .ok (.iload_n 1, 1) := by decide +kernel
theorem zd_Q_dayFits_51 : decode zc_Q_dayFits 51 = .ok (.aaload, 1) := by decide +kernel
theorem zd_Q_dayFits_52 : decode zc_Q_dayFits 52 = .ok (.iconst 4, 1) := by decide +kernel
theorem zd_Q_dayFits_53 : decode zc_Q_dayFits 53 = .ok (.aaload, 1) := by decide +kernel
theorem zd_Q_dayFits_54 : decode zc_Q_dayFits 54 = .ok (.aload_n 0, 1) := by decide +kernel
theorem zd_Q_dayFits_55 : decode zc_Q_dayFits 55 = .ok (.getfield 115, 3) := by decide +kernel
theorem zd_Q_dayFits_58 : decode zc_Q_dayFits 58 = .ok (.iconst 1, 1) := by decide +kernel
theorem zd_Q_dayFits_59 : decode zc_Q_dayFits 59 = .ok (.isub, 1) := by decide +kernel
theorem zd_Q_dayFits_60 : decode zc_Q_dayFits 60 = .ok (.baload, 1) := by decide +kernel
theorem zd_Q_dayFits_61 : decode zc_Q_dayFits 61 = .ok (.ifCond .ne 5, 3) := by decide +kernel
theorem zd_Q_dayFits_64 : decode zc_Q_dayFits 64 = .ok (.iconst 0, 1) := by decide +kernel
theorem zd_Q_dayFits_65 : decode zc_Q_dayFits 65 = .ok (.ireturn, 1) := by decide +kernel
theorem zd_Q_dayFits_66 : decode zc_Q_dayFits 66 = .ok (.iload_n 2, 1) := by decide +kernel
theorem zd_Q_dayFits_67 : decode zc_Q_dayFits 67 = .ok (.ifCond .lt 20, 3) := by decide +kernel
theorem zd_Q_dayFits_70 : decode zc_Q_dayFits 70 = .ok (.iload_n 2, 1) := by decide +kernel
theorem zd_Q_dayFits_71 : decode zc_Q_dayFits 71 = .ok (.ldc 197, 2) := by decide +kernel
theorem zd_Q_dayFits_73 : decode zc_Q_dayFits 73 = .ok (.if_icmp .gt 14, 3) := by decide +kernel
theorem zd_Q_dayFits_76 : decode zc_Q_dayFits 76 = .ok (.aload_n 0, 1) := by decide +kernel
theorem zd_Q_dayFits_77 : decode zc_Q_dayFits 77 = .ok (.getfield 90, 3) := by decide +kernel
theorem zd_Q_dayFits_80 : decode zc_Q_dayFits 80 = .ok (.iload_n 2, 1) := by decide +kernel
theorem zd_Q_dayFits_81 : decode zc_Q_dayFits 81 = .ok (.baload, 1) := by decide +kernel
theorem zd_Q_dayFits_82 : decode zc_Q_dayFits 82 = .ok (.ifCond .eq 5, 3) := by decide +kernel
theorem zd_Q_dayFits_85 : decode zc_Q_dayFits 85 = .ok (.iconst 0, 1) := by decide +kernel
theorem zd_Q_dayFits_86 : decode zc_Q_dayFits 86 = .ok (.ireturn, 1) := by decide +kernel
theorem zd_Q_dayFits_87 : decode zc_Q_dayFits 87 = .ok (.aload_n 0, 1) := by decide +kernel
theorem zd_Q_dayFits_88 : decode zc_Q_dayFits 88 = .ok (.getfield 33, 3) := by decide +kernel
theorem zd_Q_dayFits_91 : decode zc_Q_dayFits 91 = .ok (.iload_n 1, 1) := by decide +kernel
theorem zd_Q_dayFits_92 : decode zc_Q_dayFits 92 = .ok (.aaload, 1) := by decide +kernel
theorem zd_Q_dayFits_93 : decode zc_Q_dayFits 93 = .ok (.iconst 0, 1) := by decide +kernel
theorem zd_Q_dayFits_94 : decode zc_Q_dayFits 94 = .ok (.iaload, 1) := by decide +kernel
theorem zd_Q_dayFits_95 : decode zc_Q_dayFits 95 = .ok (.ifCond .ne 23, 3) := by decide +kernel
theorem zd_Q_dayFits_98 : decode zc_Q_dayFits 98 = .ok (.aload_n 0, 1) := by decide +kernel
theorem zd_Q_dayFits_99 : decode zc_Q_dayFits 99 = .ok (.getfield 19, 3) := by decide +kernel
theorem zd_Q_dayFits_102 : decode zc_Q_dayFits 102 = .ok (.iload_n 1, 1) := by decide +kernel
theorem zd_Q_dayFits_103 : decode zc_Q_dayFits 103 = .ok (.aaload, 1) := by decide +kernel
theorem zd_Q_dayFits_104 : decode zc_Q_dayFits 104 = .ok (.iconst 3, 1) := by decide +kernel
theorem zd_Q_dayFits_105 : decode zc_Q_dayFits 105 = .ok (.aaload, 1) := by decide +kernel
theorem zd_Q_dayFits_106 : decode zc_Q_dayFits 106 = .ok (.aload_n 0, 1) := by decide +kernel
theorem zd_Q_dayFits_107 : decode zc_Q_dayFits 107 = .ok (.getfield 118, 3) := by decide +kernel
theorem zd_Q_dayFits_110 : decode zc_Q_dayFits 110 = .ok (.iconst 1, 1) := by decide +kernel
theorem zd_Q_dayFits_111 : decode zc_Q_dayFits 111 = .ok (.isub, 1) := by decide +kernel
theorem zd_Q_dayFits_112 : decode zc_Q_dayFits 112 = .ok (.baload, 1) := by decide +kernel
theorem zd_Q_dayFits_113 : decode zc_Q_dayFits 113 = .ok (.ifCond .ne 5, 3) := by decide +kernel
theorem zd_Q_dayFits_116 : decode zc_Q_dayFits 116 = .ok (.iconst 0, 1) := by decide +kernel
theorem zd_Q_dayFits_117 : decode zc_Q_dayFits 117 = .ok (.ireturn, 1) := by decide +kernel
theorem zd_Q_dayFits_118 : decode zc_Q_dayFits 118 = .ok (.aload_n 0, 1) := by decide +kernel
theorem zd_Q_dayFits_119 : decode zc_Q_dayFits 119 = .ok (.getfield 33, 3) := by decide +kernel
theorem zd_Q_dayFits_122 : decode zc_Q_dayFits 122 = .ok (.iload_n 1, 1) := by decide +kernel
theorem zd_Q_dayFits_123 : decode zc_Q_dayFits 123 = .ok (.aaload, 1) := by decide +kernel
theorem zd_Q_dayFits_124 : decode zc_Q_dayFits 124 = .ok (.iconst 0, 1) := by decide +kernel
theorem zd_Q_dayFits_125 : decode zc_Q_dayFits 125 = .ok (.iaload, 1) := by decide +kernel
theorem zd_Q_dayFits_126 : decode zc_Q_dayFits 126 = .ok (.iconst 1, 1) := by decide +kernel
theorem zd_Q_dayFits_127 : decode zc_Q_dayFits 127 = .ok (.if_icmp .le 17, 3) := by decide +kernel
theorem zd_Q_dayFits_130 : decode zc_Q_dayFits 130 = .ok (.aload_n 0, 1) := by decide +kernel
theorem zd_Q_dayFits_131 : decode zc_Q_dayFits 131 = .ok (.iload_n 1, 1) := by decide +kernel
theorem zd_Q_dayFits_132 : decode zc_Q_dayFits 132 = .ok (.invokevirtual 198, 3) := by decide +kernel
theorem zd_Q_dayFits_135 : decode zc_Q_dayFits 135 = .ok (.aload_n 0, 1) := by decide +kernel
theorem zd_Q_dayFits_136 : decode zc_Q_dayFits 136 = .ok (.getfield 118, 3) := by decide +kernel
theorem zd_Q_dayFits_139 : decode zc_Q_dayFits 139 = .ok (.if_icmp .eq 5, 3) := by decide +kernel
theorem zd_Q_dayFits_142 : decode zc_Q_dayFits 142 = .ok (.iconst 0, 1) := by decide +kernel
theorem zd_Q_dayFits_143 : decode zc_Q_dayFits 143 = .ok (.ireturn, 1) := by decide +kernel
theorem zd_Q_dayFits_144 : decode zc_Q_dayFits 144 = .ok (.iload_n 2, 1) := by decide +kernel
theorem zd_Q_dayFits_145 : decode zc_Q_dayFits 145 = .ok (.invokestatic 191, 3) := by decide +kernel
theorem zd_Q_dayFits_148 : decode zc_Q_dayFits 148 = .ok (.istore_n 3, 1) := by decide +kernel
theorem zd_Q_dayFits_149 : decode zc_Q_dayFits 149 = .ok (.aload_n 0, 1) := by decide +kernel
theorem zd_Q_dayFits_150 : decode zc_Q_dayFits 150 = .ok (.getfield 33, 3) := by decide +kernel
theorem zd_Q_dayFits_153 : decode zc_Q_dayFits 153 = .ok (.iload_n 1, 1) := by decide +kernel
theorem zd_Q_dayFits_154 : decode zc_Q_dayFits 154 = .ok (.aaload, 1) := by decide +kernel
theorem zd_Q_dayFits_155 : decode zc_Q_dayFits 155 = .ok (.iconst 1, 1) := by decide +kernel
theorem zd_Q_dayFits_156 : decode zc_Q_dayFits 156 = .ok (.iaload, 1) := by decide +kernel
theorem zd_Q_dayFits_157 : decode zc_Q_dayFits 157 = .ok (.ifCond .ne 16, 3) := by decide +kernel
theorem zd_Q_dayFits_160 : decode zc_Q_dayFits 160 = .ok (.aload_n 0, 1) := by decide +kernel
theorem zd_Q_dayFits_161 : decode zc_Q_dayFits 161 = .ok (.getfield 19, 3) := by decide +kernel
theorem zd_Q_dayFits_164 : decode zc_Q_dayFits 164 = .ok (.iload_n 1, 1) := by decide +kernel
theorem zd_Q_dayFits_165 : decode zc_Q_dayFits 165 = .ok (.aaload, 1) := by decide +kernel
theorem zd_Q_dayFits_166 : decode zc_Q_dayFits 166 = .ok (.iconst 5, 1) := by decide +kernel
theorem zd_Q_dayFits_167 : decode zc_Q_dayFits 167 = .ok (.aaload, 1) := by decide +kernel
theorem zd_Q_dayFits_168 : decode zc_Q_dayFits 168 = .ok (.iload_n 3, 1) := by decide +kernel
theorem zd_Q_dayFits_169 : decode zc_Q_dayFits 169 = .ok (.iconst 1, 1) := by decide +kernel
theorem zd_Q_dayFits_170 : decode zc_Q_dayFits 170 = .ok (.isub, 1) := by decide +kernel
theorem zd_Q_dayFits_171 : decode zc_Q_dayFits 171 = .ok (.baload, 1) := by decide +kernel
theorem zd_Q_dayFits_172 : decode zc_Q_dayFits 172 = .ok (.ireturn, 1) := by decide +kernel
theorem zd_Q_dayFits_173 : decode zc_Q_dayFits 173 = .ok (.aload_n 0, 1) := by decide +kernel
theorem zd_Q_dayFits_174 : decode zc_Q_dayFits 174 = .ok (.getfield 33, 3) := by decide +kernel
theorem zd_Q_dayFits_177 : decode zc_Q_dayFits 177 = .ok (.iload_n 1, 1) := by decide +kernel
theorem zd_Q_dayFits_178 : decode zc_Q_dayFits 178 = .ok (.aaload, 1) := by decide +kernel
theorem zd_Q_dayFits_179 : decode zc_Q_dayFits 179 = .ok (.iconst 1, 1) := by decide +kernel
theorem zd_Q_dayFits_180 : decode zc_Q_dayFits 180 = .ok (.iaload, 1) := by decide +kernel
theorem zd_Q_dayFits_181 : decode zc_Q_dayFits 181 = .ok (.iconst 1, 1) := by decide +kernel
theorem zd_Q_dayFits_182 : decode zc_Q_dayFits 182 = .ok (.if_icmp .ne 5, 3) := by decide +kernel
theorem zd_Q_dayFits_185 : decode zc_Q_dayFits 185 = .ok (.iconst 1, 1) := by decide +kernel
theorem zd_Q_dayFits_186 : decode zc_Q_dayFits 186 = .ok (.ireturn, 1) := by decide +kernel
theorem zd_Q_dayFits_187 : decode zc_Q_dayFits 187 = .ok (.iload_n 3, 1) := by decide +kernel
theorem zd_Q_dayFits_188 : decode zc_Q_dayFits 188 = .ok (.aload_n 0, 1) := by decide +kernel
theorem zd_Q_dayFits_189 : decode zc_Q_dayFits 189 = .ok (.getfield 36, 3) := by decide +kernel
theorem zd_Q_dayFits_192 : decode zc_Q_dayFits 192 = .ok (.iload_n 1, 1) := by decide +kernel
theorem zd_Q_dayFits_193 : decode zc_Q_dayFits 193 = .ok (.aaload, 1) := by decide +kernel
theorem zd_Q_dayFits_194 : decode zc_Q_dayFits 194 = .ok (.iconst 1, 1) := by decide +kernel
theorem zd_Q_dayFits_195 : decode zc_Q_dayFits 195 = .ok (.iaload, 1) := by decide +kernel
theorem zd_Q_dayFits_196 : decode zc_Q_dayFits 196 = .ok (.if_icmp .eq 5, 3) := by decide +kernel
theorem zd_Q_dayFits_199 : decode zc_Q_dayFits 199 = .ok (.iconst 0, 1) := by decide +kernel
theorem zd_Q_dayFits_200 : decode zc_Q_dayFits 200 = .ok (.ireturn, 1) := by decide +kernel
theorem zd_Q_dayFits_201 : decode zc_Q_dayFits 201 = .ok (.aload_n 0, 1) := by decide +kernel
theorem zd_Q_dayFits_202 : decode zc_Q_dayFits 202 = .ok (.getfield 33, 3) := by decide +kernel
theorem zd_Q_dayFits_205 : decode zc_Q_dayFits 205 = .ok (.iload_n 1, 1) := by decide +kernel
theorem zd_Q_dayFits_206 : decode zc_Q_dayFits 206 = .ok (.aaload, 1) := by decide +kernel
theorem zd_Q_dayFits_207 : decode zc_Q_dayFits 207 = .ok (.iconst 1, 1) := by decide +kernel
theorem zd_Q_dayFits_208 : decode zc_Q_dayFits 208 = .ok (.iaload, 1) := by decide +kernel
theorem zd_Q_dayFits_209 : decode zc_Q_dayFits 209 = .ok (.iconst 5, 1) := by decide +kernel
theorem zd_Q_dayFits_210 : decode zc_Q_dayFits 210 = .ok (.if_icmp .ne 32, 3) := by decide +kernel
theorem zd_Q_dayFits_213 : decode zc_Q_dayFits 213 = .ok (.aload_n 0, 1) := by decide +kernel
theorem zd_Q_dayFits_214 : decode zc_Q_dayFits 214 = .ok (.getfield 118, 3) := by decide +kernel
theorem zd_Q_dayFits_217 : decode zc_Q_dayFits 217 = .ok (.bipush 7, 2) := by decide +kernel
theorem zd_Q_dayFits_219 : decode zc_Q_dayFits 219 = .ok (.iadd, 1) := by decide +kernel
theorem zd_Q_dayFits_220 : decode zc_Q_dayFits 220 = .ok (.aload_n 0, 1) := by decide +kernel
theorem zd_Q_dayFits_221 : decode zc_Q_dayFits 221 = .ok (.getfield 109, 3) := by decide +kernel
theorem zd_Q_dayFits_224 : decode zc_Q_dayFits 224 = .ok (.aload_n 0, 1) := by decide +kernel
theorem zd_Q_dayFits_225 : decode zc_Q_dayFits 225 = .ok (.getfield 115, 3) := by decide +kernel
theorem zd_Q_dayFits_228 : decode zc_Q_dayFits 228 = .ok (.invokestatic 100, 3) := by decide +kernel
theorem zd_Q_dayFits_231 : decode zc_Q_dayFits 231 = .ok (.if_icmp .le 7, 3) := by decide +kernel
theorem zd_Q_dayFits_234 : decode zc_Q_dayFits 234 = .ok (.iconst 1, 1) := by decide +kernel
theorem zd_Q_dayFits_235 : decode zc_Q_dayFits 235 = .ok (.goto 34, 3) := by decide +kernel
theorem zd_Q_dayFits_238 : decode zc_Q_dayFits 238 = .ok (.iconst 0, 1) := by decide +kernel
theorem zd_Q_dayFits_239 : decode zc_Q_dayFits 239 = .ok (.goto 30, 3) := by decide +kernel
theorem zd_Q_dayFits_242 : decode zc_Q_dayFits 242 = .ok (.aload_n 0, 1) := by decide +kernel
theorem zd_Q_dayFits_243 : decode zc_Q_dayFits 243 = .ok (.getfield 118, 3) := by decide +kernel
theorem zd_Q_dayFits_246 : decode zc_Q_dayFits 246 = .ok (.iconst 1, 1) := by decide +kernel
theorem zd_Q_dayFits_247 : decode zc_Q_dayFits 247 = .ok (.isub, 1) := by decide +kernel
theorem zd_Q_dayFits_248 : decode zc_Q_dayFits 248 = .ok (.bipush 7, 2) := by decide +kernel
theorem zd_Q_dayFits_250 : decode zc_Q_dayFits 250 = .ok (.idiv, 1) := by decide +kernel
theorem zd_Q_dayFits_251 : decode zc_Q_dayFits 251 = .ok (.iconst 1, 1) := by decide +kernel
theorem zd_Q_dayFits_252 : decode zc_Q_dayFits 252 = .ok (.iadd, 1) := by decide +kernel
theorem zd_Q_dayFits_253 : decode zc_Q_dayFits 253 = .ok (.aload_n 0, 1) := by decide +kernel
theorem zd_Q_dayFits_254 : decode zc_Q_dayFits 254 = .ok (.getfield 39, 3) := by decide +kernel
theorem zd_Q_dayFits_257 : decode zc_Q_dayFits 257 = .ok (.iload_n 1, 1) := by decide +kernel
theorem zd_Q_dayFits_258 : decode zc_Q_dayFits 258 = .ok (.aaload, 1) := by decide +kernel
theorem zd_Q_dayFits_259 : decode zc_Q_dayFits 259 = .ok (.iconst 1, 1) := by decide +kernel
theorem zd_Q_dayFits_260 : decode zc_Q_dayFits 260 = .ok (.iaload, 1) := by decide +kernel
theorem zd_Q_dayFits_261 : decode zc_Q_dayFits 261 = .ok (.if_icmp .ne 7, 3) := by decide +kernel
theorem zd_Q_dayFits_264 : decode zc_Q_dayFits 264 = .ok (.iconst 1, 1) := by decide +kernel
theorem zd_Q_dayFits_265 : decode zc_Q_dayFits 265 = .ok (.goto 4, 3) := by decide +kernel
theorem zd_Q_dayFits_268 : decode zc_Q_dayFits 268 = .ok (.iconst 0, 1) := by decide +kernel
theorem zd_Q_dayFits_269 : decode zc_Q_dayFits 269 = .ok (.ireturn, 1) := by decide +kernel
def qSp (way v L B : Int) : Int := if way = 2 then (if 0 < L - v then L - v else 0) else if way = 3 then pNear L ((B + 4) % 7 + 1) L else if L < v then 0 else pNear v ((B + 4) % 7 + 1) L
theorem qL (mo : Int) : dMl (1970 + mo / 12) (mo % 12 + 1 - 1) = dM0 (mo + 1) - dM0 mo := by
  rw [dM0_s, show mo % 12 + 1 - 1 = mo % 12 by omega]; omega
theorem qB (mo : Int) : dM0 ((1970 + mo / 12 - 1970) * 12 + (mo % 12 + 1 - 1)) = dM0 mo := by
  rw [show (1970 + mo / 12 - 1970) * 12 + (mo % 12 + 1 - 1) = mo by omega]
theorem qSp_rg {way v L B : Int} (h : 0 ≤ v ∧ v ≤ 31 ∧ 0 ≤ L ∧ L ≤ 31) : -10 ≤ qSp way v L B ∧ qSp way v L B ≤ 100 := by
  unfold qSp pNear
  repeat' split
  all_goals omega
/-- the reference's own word on a day -/
def qDF (st : Nat → Nat → Bool) (wf fi sf : Nat → Int) (hdf : Nat → Bool) (mo n : Int) : Bool :=
  if st 6 (mo / 12).toNat = false ∨ st 4 (mo % 12).toNat = false then false
  else if hdf n.toNat = true then false
  else if wf 0 = 0 ∧ st 3 (n - dM0 mo).toNat = false then false
  else if 1 < wf 0 ∧ ¬ qSp (wf 0) (fi 0) (dM0 (mo + 1) - dM0 mo) (dM0 mo) = n - dM0 mo + 1 then false
  else if wf 1 = 0 then st 5 ((n + 4) % 7).toNat
  else if wf 1 = 1 then true
  else if ¬ (n + 4) % 7 + 1 = fi 1 then false
  else if wf 1 = 5 then decide (dM0 (mo + 1) - dM0 mo < n - dM0 mo + 1 + 7)
  else decide ((n - dM0 mo) / 7 + 1 = sf 1)
section QDF
variable {st : Nat → Nat → Bool} {wf fi sf : Nat → Int} {hdf : Nat → Bool} {mo n : Int}
theorem qDF_1 (h : st 6 (mo / 12).toNat = false ∨ st 4 (mo % 12).toNat = false) : qDF st wf fi sf hdf mo n = false := by rw [qDF, if_pos h]
variable (h1 : ¬ (st 6 (mo / 12).toNat = false ∨ st 4 (mo % 12).toNat = false))
theorem qDF_2 (h1 : ¬ (st 6 (mo / 12).toNat = false ∨ st 4 (mo % 12).toNat = false)) (h : hdf n.toNat = true) : qDF st wf fi sf hdf mo n = false := by rw [qDF, if_neg h1, if_pos h]
theorem qDF_3 (h1 : ¬ (st 6 (mo / 12).toNat = false ∨ st 4 (mo % 12).toNat = false)) (h2 : ¬ hdf n.toNat = true) (h : wf 0 = 0 ∧ st 3 (n - dM0 mo).toNat = false) : qDF st wf fi sf hdf mo n = false := by rw [qDF, if_neg h1, if_neg h2, if_pos h]
theorem qDF_4 (h1 : ¬ (st 6 (mo / 12).toNat = false ∨ st 4 (mo % 12).toNat = false)) (h2 : ¬ hdf n.toNat = true) (h3 : ¬ (wf 0 = 0 ∧ st 3 (n - dM0 mo).toNat = false)) (h : 1 < wf 0 ∧ ¬ qSp (wf 0) (fi 0) (dM0 (mo + 1) - dM0 mo) (dM0 mo) = n - dM0 mo + 1) : qDF st wf fi sf hdf mo n = false := by rw [qDF, if_neg h1, if_neg h2, if_neg h3, if_pos h]
theorem qDF_r (h1 : ¬ (st 6 (mo / 12).toNat = false ∨ st 4 (mo % 12).toNat = false)) (h2 : ¬ hdf n.toNat = true) (h3 : ¬ (wf 0 = 0 ∧ st 3 (n - dM0 mo).toNat = false)) (h4 : ¬ (1 < wf 0 ∧ ¬ qSp (wf 0) (fi 0) (dM0 (mo + 1) - dM0 mo) (dM0 mo) = n - dM0 mo + 1)) : qDF st wf fi sf hdf mo n = (if wf 1 = 0 then st 5 ((n + 4) % 7).toNat else if wf 1 = 1 then true else if ¬ (n + 4) % 7 + 1 = fi 1 then false else if wf 1 = 5 then decide (dM0 (mo + 1) - dM0 mo < n - dM0 mo + 1 + 7) else decide ((n - dM0 mo) / 7 + 1 = sf 1)) := by rw [qDF, if_neg h1, if_neg h2, if_neg h3, if_neg h4]
theorem b2n {x : Bool} (h : x = true) : ¬ x = false := by rw [h]; decide
theorem b2f {x : Bool} (h : x = false) : ¬ x = true := by rw [h]; decide
end QDF
set_option maxHeartbeats 4000000 in
set_option maxRecDepth 100000 in
theorem c_Q_special1 (l : Launch) (g : zGl) (qq : Nat) (rf : Nat → Nat) (fl ln pl yy mm dd at0 wa on tw hc : Int) (fa wya : Nat → Nat) (fi wf : Nat → Int) (mo : Int) (hmo : 0 ≤ mo ∧ mo < 3960) (hfi : 0 ≤ fi 0 ∧ fi 0 ≤ 31) (hwf : 2 ≤ wf 0 ∧ wf 0 ≤ 4 ∧ (wf 0 = 4 → 1 ≤ fi 0)) : zSi l zy_Q_special1 zc_Q_special1 6 (some .int) ({ frames := 3, cells := 0, slots := 0, locals := 65 }) g zN [.ref (qq), .int (iI (0))] [(qq, .inr (5, [.int (iI (fl)), .ref (rf 0), .int (iI (ln)), .int (iI (pl)), .int (iI (1970 + mo / 12)), .int (iI (mo % 12 + 1)), .int (iI (dd)), .int (iI (at0)), .ref (rf 1), .ref (rf 2), .ref (rf 3), .ref (rf 4), .ref (rf 5), .ref (rf 6), .int (iI (wa)), .int (iI (on)), .int (iI (tw)), .ref (rf 7), .ref (rf 8), .ref (rf 9), .int (iI (hc))])), (rf 5, .inl (g.2 7, 1, .inr (.inr (.inr (.inr (zaR fa)))))), (fa 0, .inl (g.2 0, 2, .inl (zaI fi))), (rf 4, .inl (g.2 7, 1, .inr (.inr (.inr (.inr (zaR wya)))))), (wya 0, .inl (g.2 0, 2, .inl (zaI wf)))] (some (.int (iI (qSp (wf 0) (fi 0) (dM0 (mo + 1) - dM0 mo) (dM0 mo))))) := by
  refine zs_open (by decide +kernel) (Nat.le_of_ble_eq_true rfl) ?_
  intro p e s m below meth c ls hx hb hml hr hlk hown hw hK hT hP hl
  have hown : s.vm.findClass "CronFinderModel" = some m.cls := hown
  have hl : lv_has ls 6 [(0, .ref (qq)), (1, .int (iI (0)))] := hl
  refine lv_aload_n hx hb zd_Q_special1_0 rfl (lv_at hl 0 rfl) ?_
  refine va_get (D := g.1) (ci := 5) (v := .int (iI (1970 + mo / 12))) (C := zR_Q) (T := zT_Q) (N := 21) hx hb hw zin_Q hown hK hP 0 rfl rfl 4 (by decide) (hw _ zw_3_202) (fun _ h9 => h9) rfl zd_Q_special1_1 ?_
  refine lv_aload_n hx hb zd_Q_special1_4 rfl (lv_at hl 0 rfl) ?_
  refine va_get (D := g.1) (ci := 5) (v := .int (iI (mo % 12 + 1))) (C := zR_Q) (T := zT_Q) (N := 21) hx hb hw zin_Q hown hK hP 0 rfl rfl 5 (by decide) (hw _ zw_3_203) (fun _ h9 => h9) rfl zd_Q_special1_5 ?_
  refine zk_S (As := [.int (iI (1970 + mo / 12)), .int (iI (mo % 12 + 1))]) (own := "CronFinderModel") (nL := 6) (rest := []) hx hb hml hown hw (c_Q_length l g (1970 + mo / 12) (mo % 12 + 1) (by omega)) zw_4_129 zw_4_130 zw_1_7 zw_4_131 (np := 2) (by decide +kernel) rfl (by decide) zN_mv hK trivial (hP.sub (ws' := []) [] rfl) hl.1 rfl (Nat.le_of_ble_eq_true rfl) (by decide) zd_Q_special1_8 ?_
  have hq8 := dMl_rg (1970 + mo / 12) ((mo % 12 + 1) - 1)
  refine zi_as (dM0 (mo + 1) - dM0 mo) (qL mo) ?_
  refine lv_istore_n (lv' := [(2, .int (iI (dM0 (mo + 1) - dM0 mo))), (0, .ref (qq)), (1, .int (iI (0)))]) hx hb zd_Q_special1_11 rfl hl (by decide) rfl (fun ls hl => ?_)
  refine lv_aload_n hx hb zd_Q_special1_12 rfl (lv_at hl 1 rfl) ?_
  refine va_get (D := g.1) (ci := 5) (v := .int (iI (1970 + mo / 12))) (C := zR_Q) (T := zT_Q) (N := 21) hx hb hw zin_Q hown hK hP 0 rfl rfl 4 (by decide) (hw _ zw_3_202) (fun _ h9 => h9) rfl zd_Q_special1_13 ?_
  refine lv_aload_n hx hb zd_Q_special1_16 rfl (lv_at hl 1 rfl) ?_
  refine va_get (D := g.1) (ci := 5) (v := .int (iI (mo % 12 + 1))) (C := zR_Q) (T := zT_Q) (N := 21) hx hb hw zin_Q hown hK hP 0 rfl rfl 5 (by decide) (hw _ zw_3_203) (fun _ h9 => h9) rfl zd_Q_special1_17 ?_
  refine zk_S (As := [.int (iI (1970 + mo / 12)), .int (iI (mo % 12 + 1))]) (own := "CronFinderModel") (nL := 6) (rest := []) hx hb hml hown hw (c_Q_number l g (1970 + mo / 12) (mo % 12 + 1) (by omega)) zw_4_126 zw_4_127 zw_1_7 zw_4_128 (np := 2) (by decide +kernel) rfl (by decide) zN_mv hK trivial (hP.sub (ws' := []) [] rfl) hl.1 rfl (Nat.le_of_ble_eq_true rfl) (by decide) zd_Q_special1_20 ?_
  have hn20 := qN_rg (y := 1970 + mo / 12) (m := mo % 12 + 1) (by omega)
  refine zi_as (dM0 mo) (qB mo) ?_
  refine lv_istore_n (lv' := [(3, .int (iI (dM0 mo))), (2, .int (iI (dM0 (mo + 1) - dM0 mo))), (0, .ref (qq)), (1, .int (iI (0)))]) hx hb zd_Q_special1_23 rfl hl (by decide) rfl (fun ls hl => ?_)
  have hr1 := dM0_rg (m := mo) (by omega)
  have hr2 := dM0_le (show mo ≤ mo + 1 by omega)
  refine lv_aload_n hx hb zd_Q_special1_24 rfl (lv_at hl 2 rfl) ?_
  refine va_get (D := g.1) (ci := 5) (v := .ref (rf 5)) (C := zR_Q) (T := zT_Q) (N := 21) hx hb hw zin_Q hown hK hP 0 rfl rfl 12 (by decide) (hw _ zw_3_210) (fun _ h9 => h9) rfl zd_Q_special1_25 ?_
  refine lv_iload_n hx hb zd_Q_special1_28 rfl (lv_at hl 3 rfl) ?_
  refine zi_aald (k := 0) hx hb hK hP 1 7 rfl rfl (by omega) rfl zd_Q_special1_29 ?_
  refine zi_iconst hx hb zd_Q_special1_30 ?_
  refine zi_iald hx hb hK hP 2 0 rfl rfl (by omega) zd_Q_special1_31 ?_
  refine zi_as (fi 0) rfl ?_
  refine lv_istore (lv' := [(4, .int (iI (fi 0))), (3, .int (iI (dM0 mo))), (2, .int (iI (dM0 (mo + 1) - dM0 mo))), (0, .ref (qq)), (1, .int (iI (0)))]) hx hb zd_Q_special1_32 hl (by decide) rfl (fun ls hl => ?_)
  refine lv_aload_n hx hb zd_Q_special1_34 rfl (lv_at hl 3 rfl) ?_
  refine va_get (D := g.1) (ci := 5) (v := .ref (rf 4)) (C := zR_Q) (T := zT_Q) (N := 21) hx hb hw zin_Q hown hK hP 0 rfl rfl 11 (by decide) (hw _ zw_3_209) (fun _ h9 => h9) rfl zd_Q_special1_35 ?_
  refine lv_iload_n hx hb zd_Q_special1_38 rfl (lv_at hl 4 rfl) ?_
  refine zi_aald (k := 0) hx hb hK hP 3 7 rfl rfl (by omega) rfl zd_Q_special1_39 ?_
  refine zi_iconst hx hb zd_Q_special1_40 ?_
  refine zi_iald hx hb hK hP 4 0 rfl rfl (by omega) zd_Q_special1_41 ?_
  refine zi_as (wf 0) rfl ?_
  refine zi_iconst hx hb zd_Q_special1_42 ?_
  refine zi_icmp_ne (tgt := 62) hx hb zd_Q_special1_43 (by decide) (by omega) (fun c43 => ?_) (fun c43 => ?_)
  · refine lv_aload_n hx hb zd_Q_special1_62 rfl (lv_at hl 3 rfl) ?_
    refine va_get (D := g.1) (ci := 5) (v := .ref (rf 4)) (C := zR_Q) (T := zT_Q) (N := 21) hx hb hw zin_Q hown hK hP 0 rfl rfl 11 (by decide) (hw _ zw_3_209) (fun _ h9 => h9) rfl zd_Q_special1_63 ?_
    refine lv_iload_n hx hb zd_Q_special1_66 rfl (lv_at hl 4 rfl) ?_
    refine zi_aald (k := 0) hx hb hK hP 3 7 rfl rfl (by omega) rfl zd_Q_special1_67 ?_
    refine zi_iconst hx hb zd_Q_special1_68 ?_
    refine zi_iald hx hb hK hP 4 0 rfl rfl (by omega) zd_Q_special1_69 ?_
    refine zi_as (wf 0) rfl ?_
    refine zi_iconst hx hb zd_Q_special1_70 ?_
    refine zi_icmp_ne (tgt := 111) hx hb zd_Q_special1_71 (by decide) (by omega) (fun c71 => ?_) (fun c71 => ?_)
    · refine lv_iload hx hb zd_Q_special1_111 (lv_at hl 0 rfl) ?_
      refine lv_iload_n hx hb zd_Q_special1_113 rfl (lv_at hl 2 rfl) ?_
      refine zi_icmp_le (tgt := 119) hx hb zd_Q_special1_114 (by decide) (by omega) (fun c114 => ?_) (fun c114 => ?_)
      · refine lv_iload_n hx hb zd_Q_special1_119 rfl (lv_at hl 1 rfl) ?_
        refine lv_iload hx hb zd_Q_special1_120 (lv_at hl 0 rfl) ?_
        refine zi_iadd hx hb zd_Q_special1_122 ?_
        refine zi_iconst hx hb zd_Q_special1_123 ?_
        refine zi_isub hx hb zd_Q_special1_124 ?_
        refine zk_S (As := [.int (iI (((dM0 mo) + (fi 0)) - 1))]) (own := "CronFinderModel") (nL := 6) (rest := []) hx hb hml hown hw (c_Q_weekday l g (((dM0 mo) + (fi 0)) - 1) (by omega)) zw_4_139 zw_4_140 zw_1_7 zw_4_141 (np := 1) (by decide +kernel) rfl (by decide) zN_mv hK trivial (hP.sub (ws' := []) [] rfl) hl.1 rfl (Nat.le_of_ble_eq_true rfl) (by decide) zd_Q_special1_125 ?_
        refine lv_istore (lv' := [(5, .int (iI (((((dM0 mo) + (fi 0)) - 1) + 4) % 7 + 1))), (4, .int (iI (fi 0))), (3, .int (iI (dM0 mo))), (2, .int (iI (dM0 (mo + 1) - dM0 mo))), (0, .ref (qq)), (1, .int (iI (0)))]) hx hb zd_Q_special1_128 hl (by decide) rfl (fun ls hl => ?_)
        refine lv_iload hx hb zd_Q_special1_130 (lv_at hl 0 rfl) ?_
        refine zi_bipush hx hb zd_Q_special1_132 (by decide) ?_
        refine zi_icmp_ne (tgt := 155) hx hb zd_Q_special1_134 (by decide) (by omega) (fun c134 => ?_) (fun c134 => ?_)
        · refine lv_iload hx hb zd_Q_special1_155 (lv_at hl 0 rfl) ?_
          refine zi_iconst hx hb zd_Q_special1_157 ?_
          refine zi_icmp_ne (tgt := 179) hx hb zd_Q_special1_158 (by decide) (by omega) (fun c158 => ?_) (fun c158 => ?_)
          · refine lv_iload hx hb zd_Q_special1_179 (lv_at hl 1 rfl) ?_
            refine zi_as (qSp (wf 0) (fi 0) (dM0 (mo + 1) - dM0 mo) (dM0 mo)) (by unfold qSp pNear; (repeat' split) <;> omega) ?_
            exact zs_iret hx hb hr hlk zd_Q_special1_181
          · refine lv_iload hx hb zd_Q_special1_161 (lv_at hl 1 rfl) ?_
            refine lv_iload_n hx hb zd_Q_special1_163 rfl (lv_at hl 3 rfl) ?_
            refine zi_icmp_ge (tgt := 174) hx hb zd_Q_special1_164 (by decide) (by omega) (fun c164 => ?_) (fun c164 => ?_)
            · refine lv_iload hx hb zd_Q_special1_174 (lv_at hl 1 rfl) ?_
              refine zi_iconst hx hb zd_Q_special1_176 ?_
              refine zi_isub hx hb zd_Q_special1_177 ?_
              refine zi_as (qSp (wf 0) (fi 0) (dM0 (mo + 1) - dM0 mo) (dM0 mo)) (by unfold qSp pNear; (repeat' split) <;> omega) ?_
              exact zs_iret hx hb hr hlk zd_Q_special1_178
            · refine lv_iload hx hb zd_Q_special1_167 (lv_at hl 1 rfl) ?_
              refine zi_iconst hx hb zd_Q_special1_169 ?_
              refine zi_iadd hx hb zd_Q_special1_170 ?_
              refine lv_goto (tgt := 178) hx hb zd_Q_special1_171 (by decide) ?_
              refine zi_as (qSp (wf 0) (fi 0) (dM0 (mo + 1) - dM0 mo) (dM0 mo)) (by unfold qSp pNear; (repeat' split) <;> omega) ?_
              exact zs_iret hx hb hr hlk zd_Q_special1_178
        · refine lv_iload hx hb zd_Q_special1_137 (lv_at hl 1 rfl) ?_
          refine zi_iconst hx hb zd_Q_special1_139 ?_
          refine zi_icmp_le (tgt := 150) hx hb zd_Q_special1_140 (by decide) (by omega) (fun c140 => ?_) (fun c140 => ?_)
          · refine lv_iload hx hb zd_Q_special1_150 (lv_at hl 1 rfl) ?_
            refine zi_iconst hx hb zd_Q_special1_152 ?_
            refine zi_iadd hx hb zd_Q_special1_153 ?_
            refine zi_as (qSp (wf 0) (fi 0) (dM0 (mo + 1) - dM0 mo) (dM0 mo)) (by unfold qSp pNear; (repeat' split) <;> omega) ?_
            exact zs_iret hx hb hr hlk zd_Q_special1_154
          · refine lv_iload hx hb zd_Q_special1_143 (lv_at hl 1 rfl) ?_
            refine zi_iconst hx hb zd_Q_special1_145 ?_
            refine zi_isub hx hb zd_Q_special1_146 ?_
            refine lv_goto (tgt := 154) hx hb zd_Q_special1_147 (by decide) ?_
            refine zi_as (qSp (wf 0) (fi 0) (dM0 (mo + 1) - dM0 mo) (dM0 mo)) (by unfold qSp pNear; (repeat' split) <;> omega) ?_
            exact zs_iret hx hb hr hlk zd_Q_special1_154
      · refine zi_iconst hx hb zd_Q_special1_117 ?_
        refine zi_as (qSp (wf 0) (fi 0) (dM0 (mo + 1) - dM0 mo) (dM0 mo)) (by unfold qSp pNear; (repeat' split) <;> omega) ?_
        exact zs_iret hx hb hr hlk zd_Q_special1_118
    · refine lv_iload_n hx hb zd_Q_special1_74 rfl (lv_at hl 1 rfl) ?_
      refine lv_iload_n hx hb zd_Q_special1_75 rfl (lv_at hl 2 rfl) ?_
      refine zi_iadd hx hb zd_Q_special1_76 ?_
      refine zi_iconst hx hb zd_Q_special1_77 ?_
      refine zi_isub hx hb zd_Q_special1_78 ?_
      refine zk_S (As := [.int (iI (((dM0 mo) + (dM0 (mo + 1) - dM0 mo)) - 1))]) (own := "CronFinderModel") (nL := 6) (rest := []) hx hb hml hown hw (c_Q_weekday l g (((dM0 mo) + (dM0 (mo + 1) - dM0 mo)) - 1) (by omega)) zw_4_139 zw_4_140 zw_1_7 zw_4_141 (np := 1) (by decide +kernel) rfl (by decide) zN_mv hK trivial (hP.sub (ws' := []) [] rfl) hl.1 rfl (Nat.le_of_ble_eq_true rfl) (by decide) zd_Q_special1_79 ?_
      refine lv_istore (lv' := [(5, .int (iI (((((dM0 mo) + (dM0 (mo + 1) - dM0 mo)) - 1) + 4) % 7 + 1))), (4, .int (iI (fi 0))), (3, .int (iI (dM0 mo))), (2, .int (iI (dM0 (mo + 1) - dM0 mo))), (0, .ref (qq)), (1, .int (iI (0)))]) hx hb zd_Q_special1_82 hl (by decide) rfl (fun ls hl => ?_)
      refine lv_iload hx hb zd_Q_special1_84 (lv_at hl 0 rfl) ?_
      refine zi_bipush hx hb zd_Q_special1_86 (by decide) ?_
      refine zi_icmp_ne (tgt := 97) hx hb zd_Q_special1_88 (by decide) (by omega) (fun c88 => ?_) (fun c88 => ?_)
      · refine lv_iload hx hb zd_Q_special1_97 (lv_at hl 0 rfl) ?_
        refine zi_iconst hx hb zd_Q_special1_99 ?_
        refine zi_icmp_ne (tgt := 109) hx hb zd_Q_special1_100 (by decide) (by omega) (fun c100 => ?_) (fun c100 => ?_)
        · refine lv_iload_n hx hb zd_Q_special1_109 rfl (lv_at hl 3 rfl) ?_
          refine zi_as (qSp (wf 0) (fi 0) (dM0 (mo + 1) - dM0 mo) (dM0 mo)) (by unfold qSp pNear; (repeat' split) <;> omega) ?_
          exact zs_iret hx hb hr hlk zd_Q_special1_110
        · refine lv_iload_n hx hb zd_Q_special1_103 rfl (lv_at hl 3 rfl) ?_
          refine zi_iconst hx hb zd_Q_special1_104 ?_
          refine zi_isub hx hb zd_Q_special1_105 ?_
          refine lv_goto (tgt := 110) hx hb zd_Q_special1_106 (by decide) ?_
          refine zi_as (qSp (wf 0) (fi 0) (dM0 (mo + 1) - dM0 mo) (dM0 mo)) (by unfold qSp pNear; (repeat' split) <;> omega) ?_
          exact zs_iret hx hb hr hlk zd_Q_special1_110
      · refine lv_iload_n hx hb zd_Q_special1_91 rfl (lv_at hl 3 rfl) ?_
        refine zi_iconst hx hb zd_Q_special1_92 ?_
        refine zi_isub hx hb zd_Q_special1_93 ?_
        refine lv_goto (tgt := 110) hx hb zd_Q_special1_94 (by decide) ?_
        refine zi_as (qSp (wf 0) (fi 0) (dM0 (mo + 1) - dM0 mo) (dM0 mo)) (by unfold qSp pNear; (repeat' split) <;> omega) ?_
        exact zs_iret hx hb hr hlk zd_Q_special1_110
  · refine lv_iload_n hx hb zd_Q_special1_46 rfl (lv_at hl 2 rfl) ?_
    refine lv_iload hx hb zd_Q_special1_47 (lv_at hl 0 rfl) ?_
    refine zi_isub hx hb zd_Q_special1_49 ?_
    refine zi_if_le (tgt := 60) hx hb zd_Q_special1_50 (by decide) (by omega) (fun c50 => ?_) (fun c50 => ?_)
    · refine zi_iconst hx hb zd_Q_special1_60 ?_
      refine zi_as (qSp (wf 0) (fi 0) (dM0 (mo + 1) - dM0 mo) (dM0 mo)) (by unfold qSp pNear; (repeat' split) <;> omega) ?_
      exact zs_iret hx hb hr hlk zd_Q_special1_61
    · refine lv_iload_n hx hb zd_Q_special1_53 rfl (lv_at hl 2 rfl) ?_
      refine lv_iload hx hb zd_Q_special1_54 (lv_at hl 0 rfl) ?_
      refine zi_isub hx hb zd_Q_special1_56 ?_
      refine lv_goto (tgt := 61) hx hb zd_Q_special1_57 (by decide) ?_
      refine zi_as (qSp (wf 0) (fi 0) (dM0 (mo + 1) - dM0 mo) (dM0 mo)) (by unfold qSp pNear; (repeat' split) <;> omega) ?_
      exact zs_iret hx hb hr hlk zd_Q_special1_61
set_option maxHeartbeats 4000000 in
set_option maxRecDepth 100000 in
theorem c_Q_dayFits (l : Launch) (g : zGl) (qq : Nat) (rf : Nat → Nat) (fl ln pl yy mm dd at0 wa on tw hc : Int) (sa sr : Nat → Nat) (st : Nat → Nat → Bool) (fa wya sea : Nat → Nat) (fi wf sf : Nat → Int) (hdf : Nat → Bool) (mo n : Int) (hmo : 0 ≤ mo ∧ mo < 3960) (hn : dM0 mo ≤ n ∧ n < dM0 (mo + 1)) (hfi : 0 ≤ fi 0 ∧ fi 0 ≤ 31) (hwf : 0 ≤ wf 0 ∧ wf 0 ≤ 4 ∧ (wf 0 = 4 → 1 ≤ fi 0)) (hf1 : 0 ≤ fi 1 ∧ fi 1 ≤ 31 ∧ 0 ≤ wf 1 ∧ wf 1 ≤ 6 ∧ 0 ≤ sf 1 ∧ sf 1 ≤ 5) : zWi l zy_Q_dayFits zc_Q_dayFits 4 (some .boolean) ({ frames := 4, cells := 0, slots := 0, locals := 90 }) g (fun _ => zN) [.ref (qq), .int (iI (0)), .int (iI (n))] [(qq, .inr (5, [.int (iI (fl)), .ref (rf 0), .int (iI (ln)), .int (iI (pl)), .int (iI (yy)), .int (iI (mm)), .int (iI (dd)), .int (iI (at0)), .ref (rf 1), .ref (rf 2), .ref (rf 3), .ref (rf 4), .ref (rf 5), .ref (rf 6), .int (iI (wa)), .int (iI (on)), .int (iI (tw)), .ref (rf 7), .ref (rf 8), .ref (rf 9), .int (iI (hc))])), (rf 1, .inl (g.2 6, 1, .inr (.inr (.inr (.inr (zaR sa)))))), (sa 0, .inl (g.2 5, 7, .inr (.inr (.inr (.inr (zaR sr)))))), (sr 3, .inl (g.2 1, 330, .inl (zaB (st 3)))), (sr 4, .inl (g.2 1, 330, .inl (zaB (st 4)))), (sr 5, .inl (g.2 1, 330, .inl (zaB (st 5)))), (sr 6, .inl (g.2 1, 330, .inl (zaB (st 6)))), (rf 4, .inl (g.2 7, 1, .inr (.inr (.inr (.inr (zaR wya)))))), (wya 0, .inl (g.2 0, 2, .inl (zaI wf))), (rf 5, .inl (g.2 7, 1, .inr (.inr (.inr (.inr (zaR fa)))))), (fa 0, .inl (g.2 0, 2, .inl (zaI fi))), (rf 6, .inl (g.2 7, 1, .inr (.inr (.inr (.inr (zaR sea)))))), (sea 0, .inl (g.2 0, 2, .inl (zaI sf))), (rf 9, .inl (g.2 1, 120530, .inl (zaB hdf)))] (some (.int (iI (bI (qDF st wf fi sf hdf mo n))))) [(qq, .inr (5, [.int (iI (fl)), .ref (rf 0), .int (iI (ln)), .int (iI (pl)), .int (iI (1970 + mo / 12)), .int (iI (mo % 12 + 1)), .int (iI (n - dM0 mo + 1)), .int (iI (at0)), .ref (rf 1), .ref (rf 2), .ref (rf 3), .ref (rf 4), .ref (rf 5), .ref (rf 6), .int (iI (wa)), .int (iI (on)), .int (iI (tw)), .ref (rf 7), .ref (rf 8), .ref (rf 9), .int (iI (hc))])), (rf 1, .inl (g.2 6, 1, .inr (.inr (.inr (.inr (zaR sa)))))), (sa 0, .inl (g.2 5, 7, .inr (.inr (.inr (.inr (zaR sr)))))), (sr 3, .inl (g.2 1, 330, .inl (zaB (st 3)))), (sr 4, .inl (g.2 1, 330, .inl (zaB (st 4)))), (sr 5, .inl (g.2 1, 330, .inl (zaB (st 5)))), (sr 6, .inl (g.2 1, 330, .inl (zaB (st 6)))), (rf 4, .inl (g.2 7, 1, .inr (.inr (.inr (.inr (zaR wya)))))), (wya 0, .inl (g.2 0, 2, .inl (zaI wf))), (rf 5, .inl (g.2 7, 1, .inr (.inr (.inr (.inr (zaR fa)))))), (fa 0, .inl (g.2 0, 2, .inl (zaI fi))), (rf 6, .inl (g.2 7, 1, .inr (.inr (.inr (.inr (zaR sea)))))), (sea 0, .inl (g.2 0, 2, .inl (zaI sf))), (rf 9, .inl (g.2 1, 120530, .inl (zaB hdf)))] 0 0 := by
  refine zw_open (by decide +kernel) (Nat.le_of_ble_eq_true rfl) ?_
  intro p e s m below meth c ls A hx hb hml hr hlk hown hin hw hK hT hP hD hS hA hl
  have hown : s.vm.findClass "CronFinderModel" = some m.cls := hown
  have hl : lv_has ls 4 [(0, .ref (qq)), (1, .int (iI (0))), (2, .int (iI (n)))] := hl
  have hr1 := dM0_rg (m := mo) (by omega)
  have hr2 := dM0_rg (m := mo + 1) (by omega)
  have hem : dMon n = mo := dMon_eq (by omega) hn.1 hn.2
  have hr3 := dM0_le (show mo ≤ mo + 1 by omega)
  refine lv_aload_n hx hb zd_Q_dayFits_0 rfl (lv_at hl 0 rfl) ?_
  refine lv_iload_n hx hb zd_Q_dayFits_1 rfl (lv_at hl 2 rfl) ?_
  refine zk_W (As := [.int (iI (n))]) (b := qq) (own := "CronFinderModel") (nL := 4) (rest := []) hx hb hml hown hw (c_Q_date l g qq rf (fl) (ln) (pl) (yy) (mm) (dd) (at0) (wa) (on) (tw) (hc) (n) (by omega)) zw_4_119 zw_4_121 zw_0_41 zw_1_7 zw_4_122 (np := 1) (by decide +kernel) rfl (by decide) (fun _ => zN_mv) hK trivial hP hD hS hA [0] rfl (by decide) rfl (va_recv hK hP (ci := 5) (q0 := 0) rfl rfl) hl.1 rfl (Nat.le_of_ble_eq_true rfl) (by decide) zd_Q_dayFits_2 (fun H locs hP hD hS => ?_)
  have hP : va_P g.1 zCl [(qq, .inr (5, [.int (iI (fl)), .ref (rf 0), .int (iI (ln)), .int (iI (pl)), .int (iI (1970 + dMon n / 12)), .int (iI (dMon n % 12 + 1)), .int (iI (n - dM0 (dMon n) + 1)), .int (iI (at0)), .ref (rf 1), .ref (rf 2), .ref (rf 3), .ref (rf 4), .ref (rf 5), .ref (rf 6), .int (iI (wa)), .int (iI (on)), .int (iI (tw)), .ref (rf 7), .ref (rf 8), .ref (rf 9), .int (iI (hc))])), (rf 1, .inl (g.2 6, 1, .inr (.inr (.inr (.inr (zaR sa)))))), (sa 0, .inl (g.2 5, 7, .inr (.inr (.inr (.inr (zaR sr)))))), (sr 3, .inl (g.2 1, 330, .inl (zaB (st 3)))), (sr 4, .inl (g.2 1, 330, .inl (zaB (st 4)))), (sr 5, .inl (g.2 1, 330, .inl (zaB (st 5)))), (sr 6, .inl (g.2 1, 330, .inl (zaB (st 6)))), (rf 4, .inl (g.2 7, 1, .inr (.inr (.inr (.inr (zaR wya)))))), (wya 0, .inl (g.2 0, 2, .inl (zaI wf))), (rf 5, .inl (g.2 7, 1, .inr (.inr (.inr (.inr (zaR fa)))))), (fa 0, .inl (g.2 0, 2, .inl (zaI fi))), (rf 6, .inl (g.2 7, 1, .inr (.inr (.inr (.inr (zaR sea)))))), (sea 0, .inl (g.2 0, 2, .inl (zaI sf))), (rf 9, .inl (g.2 1, 120530, .inl (zaB hdf)))] H := hP
  have hD : va_D A [(qq, .inr (5, [.int (iI (fl)), .ref (rf 0), .int (iI (ln)), .int (iI (pl)), .int (iI (1970 + dMon n / 12)), .int (iI (dMon n % 12 + 1)), .int (iI (n - dM0 (dMon n) + 1)), .int (iI (at0)), .ref (rf 1), .ref (rf 2), .ref (rf 3), .ref (rf 4), .ref (rf 5), .ref (rf 6), .int (iI (wa)), .int (iI (on)), .int (iI (tw)), .ref (rf 7), .ref (rf 8), .ref (rf 9), .int (iI (hc))])), (rf 1, .inl (g.2 6, 1, .inr (.inr (.inr (.inr (zaR sa)))))), (sa 0, .inl (g.2 5, 7, .inr (.inr (.inr (.inr (zaR sr)))))), (sr 3, .inl (g.2 1, 330, .inl (zaB (st 3)))), (sr 4, .inl (g.2 1, 330, .inl (zaB (st 4)))), (sr 5, .inl (g.2 1, 330, .inl (zaB (st 5)))), (sr 6, .inl (g.2 1, 330, .inl (zaB (st 6)))), (rf 4, .inl (g.2 7, 1, .inr (.inr (.inr (.inr (zaR wya)))))), (wya 0, .inl (g.2 0, 2, .inl (zaI wf))), (rf 5, .inl (g.2 7, 1, .inr (.inr (.inr (.inr (zaR fa)))))), (fa 0, .inl (g.2 0, 2, .inl (zaI fi))), (rf 6, .inl (g.2 7, 1, .inr (.inr (.inr (.inr (zaR sea)))))), (sea 0, .inl (g.2 0, 2, .inl (zaI sf))), (rf 9, .inl (g.2 1, 120530, .inl (zaB hdf)))] := hD
  rw [hem] at hP hD
  have hP : va_P g.1 zCl [(qq, .inr (5, [.int (iI (fl)), .ref (rf 0), .int (iI (ln)), .int (iI (pl)), .int (iI (1970 + mo / 12)), .int (iI (mo % 12 + 1)), .int (iI (n - dM0 mo + 1)), .int (iI (at0)), .ref (rf 1), .ref (rf 2), .ref (rf 3), .ref (rf 4), .ref (rf 5), .ref (rf 6), .int (iI (wa)), .int (iI (on)), .int (iI (tw)), .ref (rf 7), .ref (rf 8), .ref (rf 9), .int (iI (hc))])), (rf 1, .inl (g.2 6, 1, .inr (.inr (.inr (.inr (zaR sa)))))), (sa 0, .inl (g.2 5, 7, .inr (.inr (.inr (.inr (zaR sr)))))), (sr 3, .inl (g.2 1, 330, .inl (zaB (st 3)))), (sr 4, .inl (g.2 1, 330, .inl (zaB (st 4)))), (sr 5, .inl (g.2 1, 330, .inl (zaB (st 5)))), (sr 6, .inl (g.2 1, 330, .inl (zaB (st 6)))), (rf 4, .inl (g.2 7, 1, .inr (.inr (.inr (.inr (zaR wya)))))), (wya 0, .inl (g.2 0, 2, .inl (zaI wf))), (rf 5, .inl (g.2 7, 1, .inr (.inr (.inr (.inr (zaR fa)))))), (fa 0, .inl (g.2 0, 2, .inl (zaI fi))), (rf 6, .inl (g.2 7, 1, .inr (.inr (.inr (.inr (zaR sea)))))), (sea 0, .inl (g.2 0, 2, .inl (zaI sf))), (rf 9, .inl (g.2 1, 120530, .inl (zaB hdf)))] H := hP
  have hD : va_D A [(qq, .inr (5, [.int (iI (fl)), .ref (rf 0), .int (iI (ln)), .int (iI (pl)), .int (iI (1970 + mo / 12)), .int (iI (mo % 12 + 1)), .int (iI (n - dM0 mo + 1)), .int (iI (at0)), .ref (rf 1), .ref (rf 2), .ref (rf 3), .ref (rf 4), .ref (rf 5), .ref (rf 6), .int (iI (wa)), .int (iI (on)), .int (iI (tw)), .ref (rf 7), .ref (rf 8), .ref (rf 9), .int (iI (hc))])), (rf 1, .inl (g.2 6, 1, .inr (.inr (.inr (.inr (zaR sa)))))), (sa 0, .inl (g.2 5, 7, .inr (.inr (.inr (.inr (zaR sr)))))), (sr 3, .inl (g.2 1, 330, .inl (zaB (st 3)))), (sr 4, .inl (g.2 1, 330, .inl (zaB (st 4)))), (sr 5, .inl (g.2 1, 330, .inl (zaB (st 5)))), (sr 6, .inl (g.2 1, 330, .inl (zaB (st 6)))), (rf 4, .inl (g.2 7, 1, .inr (.inr (.inr (.inr (zaR wya)))))), (wya 0, .inl (g.2 0, 2, .inl (zaI wf))), (rf 5, .inl (g.2 7, 1, .inr (.inr (.inr (.inr (zaR fa)))))), (fa 0, .inl (g.2 0, 2, .inl (zaI fi))), (rf 6, .inl (g.2 7, 1, .inr (.inr (.inr (.inr (zaR sea)))))), (sea 0, .inl (g.2 0, 2, .inl (zaI sf))), (rf 9, .inl (g.2 1, 120530, .inl (zaB hdf)))] := hD
  refine lv_aload_n hx hb zd_Q_dayFits_5 rfl (lv_at hl 0 rfl) ?_
  refine va_get (D := g.1) (ci := 5) (v := .int (iI (1970 + mo / 12))) (C := zR_Q) (T := zT_Q) (N := 21) hx hb hw zin_Q hown hK hP 0 rfl rfl 4 (by decide) (hw _ zw_3_202) (fun _ h9 => h9) rfl zd_Q_dayFits_6 ?_
  refine zi_sipush hx hb zd_Q_dayFits_9 (by decide) ?_
  refine zi_icmp_lt (tgt := 64) hx hb zd_Q_dayFits_12 (by decide) (by omega) (fun c12 => ?_) (fun c12 => ?_)
  · omega
  · refine lv_aload_n hx hb zd_Q_dayFits_15 rfl (lv_at hl 0 rfl) ?_
    refine va_get (D := g.1) (ci := 5) (v := .int (iI (1970 + mo / 12))) (C := zR_Q) (T := zT_Q) (N := 21) hx hb hw zin_Q hown hK hP 0 rfl rfl 4 (by decide) (hw _ zw_3_202) (fun _ h9 => h9) rfl zd_Q_dayFits_16 ?_
    refine zi_sipush hx hb zd_Q_dayFits_19 (by decide) ?_
    refine zi_icmp_gt (tgt := 64) hx hb zd_Q_dayFits_22 (by decide) (by omega) (fun c22 => ?_) (fun c22 => ?_)
    · omega
    · refine lv_aload_n hx hb zd_Q_dayFits_25 rfl (lv_at hl 0 rfl) ?_
      refine va_get (D := g.1) (ci := 5) (v := .ref (rf 1)) (C := zR_Q) (T := zT_Q) (N := 21) hx hb hw zin_Q hown hK hP 0 rfl rfl 8 (by decide) (hw _ zw_3_206) (fun _ h9 => h9) rfl zd_Q_dayFits_26 ?_
      refine lv_iload_n hx hb zd_Q_dayFits_29 rfl (lv_at hl 1 rfl) ?_
      refine zi_aald (k := 0) hx hb hK hP 1 6 rfl rfl (by omega) rfl zd_Q_dayFits_30 ?_
      refine zi_bipush hx hb zd_Q_dayFits_31 (by decide) ?_
      refine zi_aald (k := 6) hx hb hK hP 2 5 rfl rfl (by omega) rfl zd_Q_dayFits_33 ?_
      refine lv_aload_n hx hb zd_Q_dayFits_34 rfl (lv_at hl 0 rfl) ?_
      refine va_get (D := g.1) (ci := 5) (v := .int (iI (1970 + mo / 12))) (C := zR_Q) (T := zT_Q) (N := 21) hx hb hw zin_Q hown hK hP 0 rfl rfl 4 (by decide) (hw _ zw_3_202) (fun _ h9 => h9) rfl zd_Q_dayFits_35 ?_
      refine zi_sipush hx hb zd_Q_dayFits_38 (by decide) ?_
      refine zi_isub hx hb zd_Q_dayFits_41 ?_
      refine zi_zald hx hb hK hP 6 1 rfl rfl (by omega) zd_Q_dayFits_42 ?_
      refine zb_eq (st 6 (mo / 12).toNat) (by first | rfl | (congr 1; omega)) ?_
      refine zb_if_eq (tgt := 64) hx hb zd_Q_dayFits_43 (by decide) (fun c43 => ?_) (fun c43 => ?_)
      · refine zi_iconst hx hb zd_Q_dayFits_64 ?_
        refine zb_as (x := qDF st wf fi sf hdf mo n) (bI_f (qDF_1 (by first | exact Or.inr c61 | exact Or.inl c43))) ?_
        exact zw_zret hx hb hr hlk hP hS zd_Q_dayFits_65
      · refine lv_aload_n hx hb zd_Q_dayFits_46 rfl (lv_at hl 0 rfl) ?_
        refine va_get (D := g.1) (ci := 5) (v := .ref (rf 1)) (C := zR_Q) (T := zT_Q) (N := 21) hx hb hw zin_Q hown hK hP 0 rfl rfl 8 (by decide) (hw _ zw_3_206) (fun _ h9 => h9) rfl zd_Q_dayFits_47 ?_
        refine lv_iload_n hx hb zd_Q_dayFits_50 rfl (lv_at hl 1 rfl) ?_
        refine zi_aald (k := 0) hx hb hK hP 1 6 rfl rfl (by omega) rfl zd_Q_dayFits_51 ?_
        refine zi_iconst hx hb zd_Q_dayFits_52 ?_
        refine zi_aald (k := 4) hx hb hK hP 2 5 rfl rfl (by omega) rfl zd_Q_dayFits_53 ?_
        refine lv_aload_n hx hb zd_Q_dayFits_54 rfl (lv_at hl 0 rfl) ?_
        refine va_get (D := g.1) (ci := 5) (v := .int (iI (mo % 12 + 1))) (C := zR_Q) (T := zT_Q) (N := 21) hx hb hw zin_Q hown hK hP 0 rfl rfl 5 (by decide) (hw _ zw_3_203) (fun _ h9 => h9) rfl zd_Q_dayFits_55 ?_
        refine zi_iconst hx hb zd_Q_dayFits_58 ?_
        refine zi_isub hx hb zd_Q_dayFits_59 ?_
        refine zi_zald hx hb hK hP 4 1 rfl rfl (by omega) zd_Q_dayFits_60 ?_
        refine zb_eq (st 4 (mo % 12).toNat) (by first | rfl | (congr 1; omega)) ?_
        refine zb_if_ne (tgt := 66) hx hb zd_Q_dayFits_61 (by decide) (fun c61 => ?_) (fun c61 => ?_)
        · refine lv_iload_n hx hb zd_Q_dayFits_66 rfl (lv_at hl 2 rfl) ?_
          refine zi_if_lt (tgt := 87) hx hb zd_Q_dayFits_67 (by decide) (by omega) (fun c67 => ?_) (fun c67 => ?_)
          · omega
          · refine lv_iload_n hx hb zd_Q_dayFits_70 rfl (lv_at hl 2 rfl) ?_
            refine lv_ldc hx hb hown (hw _ zw_4_95) zd_Q_dayFits_71 ?_
            refine zi_asx _ 120529 (by decide) ?_
            refine zi_icmp_gt (tgt := 87) hx hb zd_Q_dayFits_73 (by decide) (by omega) (fun c73 => ?_) (fun c73 => ?_)
            · refine lv_aload_n hx hb zd_Q_dayFits_87 rfl (lv_at hl 0 rfl) ?_
              refine va_get (D := g.1) (ci := 5) (v := .ref (rf 4)) (C := zR_Q) (T := zT_Q) (N := 21) hx hb hw zin_Q hown hK hP 0 rfl rfl 11 (by decide) (hw _ zw_3_209) (fun _ h9 => h9) rfl zd_Q_dayFits_88 ?_
              refine lv_iload_n hx hb zd_Q_dayFits_91 rfl (lv_at hl 1 rfl) ?_
              refine zi_aald (k := 0) hx hb hK hP 7 7 rfl rfl (by omega) rfl zd_Q_dayFits_92 ?_
              refine zi_iconst hx hb zd_Q_dayFits_93 ?_
              refine zi_iald hx hb hK hP 8 0 rfl rfl (by omega) zd_Q_dayFits_94 ?_
              refine zi_as (wf 0) rfl ?_
              refine zi_if_ne (tgt := 118) hx hb zd_Q_dayFits_95 (by decide) (by omega) (fun c95 => ?_) (fun c95 => ?_)
              · refine lv_aload_n hx hb zd_Q_dayFits_118 rfl (lv_at hl 0 rfl) ?_
                refine va_get (D := g.1) (ci := 5) (v := .ref (rf 4)) (C := zR_Q) (T := zT_Q) (N := 21) hx hb hw zin_Q hown hK hP 0 rfl rfl 11 (by decide) (hw _ zw_3_209) (fun _ h9 => h9) rfl zd_Q_dayFits_119 ?_
                refine lv_iload_n hx hb zd_Q_dayFits_122 rfl (lv_at hl 1 rfl) ?_
                refine zi_aald (k := 0) hx hb hK hP 7 7 rfl rfl (by omega) rfl zd_Q_dayFits_123 ?_
                refine zi_iconst hx hb zd_Q_dayFits_124 ?_
                refine zi_iald hx hb hK hP 8 0 rfl rfl (by omega) zd_Q_dayFits_125 ?_
                refine zi_as (wf 0) rfl ?_
                refine zi_iconst hx hb zd_Q_dayFits_126 ?_
                refine zi_icmp_le (tgt := 144) hx hb zd_Q_dayFits_127 (by decide) (by omega) (fun c127 => ?_) (fun c127 => ?_)
                · refine lv_iload_n hx hb zd_Q_dayFits_144 rfl (lv_at hl 2 rfl) ?_
                  refine zk_S (As := [.int (iI (n))]) (own := "CronFinderModel") (nL := 4) (rest := []) hx hb hml hown hw (c_Q_weekday l g (n) (by omega)) zw_4_139 zw_4_140 zw_1_7 zw_4_141 (np := 1) (by decide +kernel) rfl (by decide) zN_mv hK trivial (hP.sub (ws' := []) [] rfl) hl.1 rfl (Nat.le_of_ble_eq_true rfl) (by decide) zd_Q_dayFits_145 ?_
                  refine lv_istore_n (lv' := [(3, .int (iI ((n + 4) % 7 + 1))), (0, .ref (qq)), (1, .int (iI (0))), (2, .int (iI (n)))]) hx hb zd_Q_dayFits_148 rfl hl (by decide) rfl (fun ls hl => ?_)
                  refine lv_aload_n hx hb zd_Q_dayFits_149 rfl (lv_at hl 1 rfl) ?_
                  refine va_get (D := g.1) (ci := 5) (v := .ref (rf 4)) (C := zR_Q) (T := zT_Q) (N := 21) hx hb hw zin_Q hown hK hP 0 rfl rfl 11 (by decide) (hw _ zw_3_209) (fun _ h9 => h9) rfl zd_Q_dayFits_150 ?_
                  refine lv_iload_n hx hb zd_Q_dayFits_153 rfl (lv_at hl 2 rfl) ?_
                  refine zi_aald (k := 0) hx hb hK hP 7 7 rfl rfl (by omega) rfl zd_Q_dayFits_154 ?_
                  refine zi_iconst hx hb zd_Q_dayFits_155 ?_
                  refine zi_iald hx hb hK hP 8 0 rfl rfl (by omega) zd_Q_dayFits_156 ?_
                  refine zi_as (wf 1) rfl ?_
                  refine zi_if_ne (tgt := 173) hx hb zd_Q_dayFits_157 (by decide) (by omega) (fun c157 => ?_) (fun c157 => ?_)
                  · refine lv_aload_n hx hb zd_Q_dayFits_173 rfl (lv_at hl 1 rfl) ?_
                    refine va_get (D := g.1) (ci := 5) (v := .ref (rf 4)) (C := zR_Q) (T := zT_Q) (N := 21) hx hb hw zin_Q hown hK hP 0 rfl rfl 11 (by decide) (hw _ zw_3_209) (fun _ h9 => h9) rfl zd_Q_dayFits_174 ?_
                    refine lv_iload_n hx hb zd_Q_dayFits_177 rfl (lv_at hl 2 rfl) ?_
                    refine zi_aald (k := 0) hx hb hK hP 7 7 rfl rfl (by omega) rfl zd_Q_dayFits_178 ?_
                    refine zi_iconst hx hb zd_Q_dayFits_179 ?_
                    refine zi_iald hx hb hK hP 8 0 rfl rfl (by omega) zd_Q_dayFits_180 ?_
                    refine zi_as (wf 1) rfl ?_
                    refine zi_iconst hx hb zd_Q_dayFits_181 ?_
                    refine zi_icmp_ne (tgt := 187) hx hb zd_Q_dayFits_182 (by decide) (by omega) (fun c182 => ?_) (fun c182 => ?_)
                    · refine lv_iload_n hx hb zd_Q_dayFits_187 rfl (lv_at hl 0 rfl) ?_
                      refine lv_aload_n hx hb zd_Q_dayFits_188 rfl (lv_at hl 1 rfl) ?_
                      refine va_get (D := g.1) (ci := 5) (v := .ref (rf 5)) (C := zR_Q) (T := zT_Q) (N := 21) hx hb hw zin_Q hown hK hP 0 rfl rfl 12 (by decide) (hw _ zw_3_210) (fun _ h9 => h9) rfl zd_Q_dayFits_189 ?_
                      refine lv_iload_n hx hb zd_Q_dayFits_192 rfl (lv_at hl 2 rfl) ?_
                      refine zi_aald (k := 0) hx hb hK hP 9 7 rfl rfl (by omega) rfl zd_Q_dayFits_193 ?_
                      refine zi_iconst hx hb zd_Q_dayFits_194 ?_
                      refine zi_iald hx hb hK hP 10 0 rfl rfl (by omega) zd_Q_dayFits_195 ?_
                      refine zi_as (fi 1) rfl ?_
                      refine zi_icmp_eq (tgt := 201) hx hb zd_Q_dayFits_196 (by decide) (by omega) (fun c196 => ?_) (fun c196 => ?_)
                      · refine lv_aload_n hx hb zd_Q_dayFits_201 rfl (lv_at hl 1 rfl) ?_
                        refine va_get (D := g.1) (ci := 5) (v := .ref (rf 4)) (C := zR_Q) (T := zT_Q) (N := 21) hx hb hw zin_Q hown hK hP 0 rfl rfl 11 (by decide) (hw _ zw_3_209) (fun _ h9 => h9) rfl zd_Q_dayFits_202 ?_
                        refine lv_iload_n hx hb zd_Q_dayFits_205 rfl (lv_at hl 2 rfl) ?_
                        refine zi_aald (k := 0) hx hb hK hP 7 7 rfl rfl (by omega) rfl zd_Q_dayFits_206 ?_
                        refine zi_iconst hx hb zd_Q_dayFits_207 ?_
                        refine zi_iald hx hb hK hP 8 0 rfl rfl (by omega) zd_Q_dayFits_208 ?_
                        refine zi_as (wf 1) rfl ?_
                        refine zi_iconst hx hb zd_Q_dayFits_209 ?_
                        refine zi_icmp_ne (tgt := 242) hx hb zd_Q_dayFits_210 (by decide) (by omega) (fun c210 => ?_) (fun c210 => ?_)
                        · refine lv_aload_n hx hb zd_Q_dayFits_242 rfl (lv_at hl 1 rfl) ?_
                          refine va_get (D := g.1) (ci := 5) (v := .int (iI (n - dM0 mo + 1))) (C := zR_Q) (T := zT_Q) (N := 21) hx hb hw zin_Q hown hK hP 0 rfl rfl 6 (by decide) (hw _ zw_3_204) (fun _ h9 => h9) rfl zd_Q_dayFits_243 ?_
                          refine zi_iconst hx hb zd_Q_dayFits_246 ?_
                          refine zi_isub hx hb zd_Q_dayFits_247 ?_
                          refine zi_bipush hx hb zd_Q_dayFits_248 (by decide) ?_
                          refine zi_idiv hx hb zd_Q_dayFits_250 (by omega) ?_
                          refine zi_iconst hx hb zd_Q_dayFits_251 ?_
                          refine zi_iadd hx hb zd_Q_dayFits_252 ?_
                          refine lv_aload_n hx hb zd_Q_dayFits_253 rfl (lv_at hl 1 rfl) ?_
                          refine va_get (D := g.1) (ci := 5) (v := .ref (rf 6)) (C := zR_Q) (T := zT_Q) (N := 21) hx hb hw zin_Q hown hK hP 0 rfl rfl 13 (by decide) (hw _ zw_3_211) (fun _ h9 => h9) rfl zd_Q_dayFits_254 ?_
                          refine lv_iload_n hx hb zd_Q_dayFits_257 rfl (lv_at hl 2 rfl) ?_
                          refine zi_aald (k := 0) hx hb hK hP 11 7 rfl rfl (by omega) rfl zd_Q_dayFits_258 ?_
                          refine zi_iconst hx hb zd_Q_dayFits_259 ?_
                          refine zi_iald hx hb hK hP 12 0 rfl rfl (by omega) zd_Q_dayFits_260 ?_
                          refine zi_as (sf 1) rfl ?_
                          refine zi_icmp_ne (tgt := 268) hx hb zd_Q_dayFits_261 (by decide) (by omega) (fun c261 => ?_) (fun c261 => ?_)
                          · refine zi_iconst hx hb zd_Q_dayFits_268 ?_
                            refine zb_as (x := qDF st wf fi sf hdf mo n) (by first | exact bI_t (by rw [qDF_r (fun q => q.elim (b2n c43) (b2n c61)) (by first | exact b2f c82 | exact fun _ => absurd c71 (by omega) | exact fun _ => absurd c67 (by omega)) (fun q => by first | exact absurd q.1 c95 | (rw [c113] at q; exact absurd q.2 (by decide))) (fun q => by first | exact q.2 c139 | exact absurd q.1 (by omega)), if_neg c157, if_neg c182, if_neg (fun q => q c196), if_pos c210]; exact decide_eq_true (by omega)) | exact bI_f (by rw [qDF_r (fun q => q.elim (b2n c43) (b2n c61)) (by first | exact b2f c82 | exact fun _ => absurd c71 (by omega) | exact fun _ => absurd c67 (by omega)) (fun q => by first | exact absurd q.1 c95 | (rw [c113] at q; exact absurd q.2 (by decide))) (fun q => by first | exact q.2 c139 | exact absurd q.1 (by omega)), if_neg c157, if_neg c182, if_neg (fun q => q c196), if_pos c210]; exact decide_eq_false (by omega)) | exact bI_t (by rw [qDF_r (fun q => q.elim (b2n c43) (b2n c61)) (by first | exact b2f c82 | exact fun _ => absurd c71 (by omega) | exact fun _ => absurd c67 (by omega)) (fun q => by first | exact absurd q.1 c95 | (rw [c113] at q; exact absurd q.2 (by decide))) (fun q => by first | exact q.2 c139 | exact absurd q.1 (by omega)), if_neg c157, if_neg c182, if_neg (fun q => q c196), if_neg c210]; exact decide_eq_true (by omega)) | exact bI_f (by rw [qDF_r (fun q => q.elim (b2n c43) (b2n c61)) (by first | exact b2f c82 | exact fun _ => absurd c71 (by omega) | exact fun _ => absurd c67 (by omega)) (fun q => by first | exact absurd q.1 c95 | (rw [c113] at q; exact absurd q.2 (by decide))) (fun q => by first | exact q.2 c139 | exact absurd q.1 (by omega)), if_neg c157, if_neg c182, if_neg (fun q => q c196), if_neg c210]; exact decide_eq_false (by omega))) ?_
                            exact zw_zret hx hb hr hlk hP hS zd_Q_dayFits_269
                          · refine zi_iconst hx hb zd_Q_dayFits_264 ?_
                            refine lv_goto (tgt := 269) hx hb zd_Q_dayFits_265 (by decide) ?_
                            refine zb_as (x := qDF st wf fi sf hdf mo n) (by first | exact bI_t (by rw [qDF_r (fun q => q.elim (b2n c43) (b2n c61)) (by first | exact b2f c82 | exact fun _ => absurd c71 (by omega) | exact fun _ => absurd c67 (by omega)) (fun q => by first | exact absurd q.1 c95 | (rw [c113] at q; exact absurd q.2 (by decide))) (fun q => by first | exact q.2 c139 | exact absurd q.1 (by omega)), if_neg c157, if_neg c182, if_neg (fun q => q c196), if_pos c210]; exact decide_eq_true (by omega)) | exact bI_f (by rw [qDF_r (fun q => q.elim (b2n c43) (b2n c61)) (by first | exact b2f c82 | exact fun _ => absurd c71 (by omega) | exact fun _ => absurd c67 (by omega)) (fun q => by first | exact absurd q.1 c95 | (rw [c113] at q; exact absurd q.2 (by decide))) (fun q => by first | exact q.2 c139 | exact absurd q.1 (by omega)), if_neg c157, if_neg c182, if_neg (fun q => q c196), if_pos c210]; exact decide_eq_false (by omega)) | exact bI_t (by rw [qDF_r (fun q => q.elim (b2n c43) (b2n c61)) (by first | exact b2f c82 | exact fun _ => absurd c71 (by omega) | exact fun _ => absurd c67 (by omega)) (fun q => by first | exact absurd q.1 c95 | (rw [c113] at q; exact absurd q.2 (by decide))) (fun q => by first | exact q.2 c139 | exact absurd q.1 (by omega)), if_neg c157, if_neg c182, if_neg (fun q => q c196), if_neg c210]; exact decide_eq_true (by omega)) | exact bI_f (by rw [qDF_r (fun q => q.elim (b2n c43) (b2n c61)) (by first | exact b2f c82 | exact fun _ => absurd c71 (by omega) | exact fun _ => absurd c67 (by omega)) (fun q => by first | exact absurd q.1 c95 | (rw [c113] at q; exact absurd q.2 (by decide))) (fun q => by first | exact q.2 c139 | exact absurd q.1 (by omega)), if_neg c157, if_neg c182, if_neg (fun q => q c196), if_neg c210]; exact decide_eq_false (by omega))) ?_
                            exact zw_zret hx hb hr hlk hP hS zd_Q_dayFits_269
                        · refine lv_aload_n hx hb zd_Q_dayFits_213 rfl (lv_at hl 1 rfl) ?_
                          refine va_get (D := g.1) (ci := 5) (v := .int (iI (n - dM0 mo + 1))) (C := zR_Q) (T := zT_Q) (N := 21) hx hb hw zin_Q hown hK hP 0 rfl rfl 6 (by decide) (hw _ zw_3_204) (fun _ h9 => h9) rfl zd_Q_dayFits_214 ?_
                          refine zi_bipush hx hb zd_Q_dayFits_217 (by decide) ?_
                          refine zi_iadd hx hb zd_Q_dayFits_219 ?_
                          refine lv_aload_n hx hb zd_Q_dayFits_220 rfl (lv_at hl 1 rfl) ?_
                          refine va_get (D := g.1) (ci := 5) (v := .int (iI (1970 + mo / 12))) (C := zR_Q) (T := zT_Q) (N := 21) hx hb hw zin_Q hown hK hP 0 rfl rfl 4 (by decide) (hw _ zw_3_202) (fun _ h9 => h9) rfl zd_Q_dayFits_221 ?_
                          refine lv_aload_n hx hb zd_Q_dayFits_224 rfl (lv_at hl 1 rfl) ?_
                          refine va_get (D := g.1) (ci := 5) (v := .int (iI (mo % 12 + 1))) (C := zR_Q) (T := zT_Q) (N := 21) hx hb hw zin_Q hown hK hP 0 rfl rfl 5 (by decide) (hw _ zw_3_203) (fun _ h9 => h9) rfl zd_Q_dayFits_225 ?_
                          refine zk_S (As := [.int (iI (1970 + mo / 12)), .int (iI (mo % 12 + 1))]) (own := "CronFinderModel") (nL := 4) (rest := [.int (iI ((n - dM0 mo + 1) + 7))]) hx hb hml hown hw (c_Q_length l g (1970 + mo / 12) (mo % 12 + 1) (by omega)) zw_4_129 zw_4_130 zw_1_7 zw_4_131 (np := 2) (by decide +kernel) rfl (by decide) zN_mv hK trivial (hP.sub (ws' := []) [] rfl) hl.1 rfl (Nat.le_of_ble_eq_true rfl) (by decide) zd_Q_dayFits_228 ?_
                          have hq228 := dMl_rg (1970 + mo / 12) ((mo % 12 + 1) - 1)
                          refine zi_as (dM0 (mo + 1) - dM0 mo) (qL mo) ?_
                          refine zi_icmp_le (tgt := 238) hx hb zd_Q_dayFits_231 (by decide) (by omega) (fun c231 => ?_) (fun c231 => ?_)
                          · refine zi_iconst hx hb zd_Q_dayFits_238 ?_
                            refine lv_goto (tgt := 269) hx hb zd_Q_dayFits_239 (by decide) ?_
                            refine zb_as (x := qDF st wf fi sf hdf mo n) (by first | exact bI_t (by rw [qDF_r (fun q => q.elim (b2n c43) (b2n c61)) (by first | exact b2f c82 | exact fun _ => absurd c71 (by omega) | exact fun _ => absurd c67 (by omega)) (fun q => by first | exact absurd q.1 c95 | (rw [c113] at q; exact absurd q.2 (by decide))) (fun q => by first | exact q.2 c139 | exact absurd q.1 (by omega)), if_neg c157, if_neg c182, if_neg (fun q => q c196), if_pos c210]; exact decide_eq_true (by omega)) | exact bI_f (by rw [qDF_r (fun q => q.elim (b2n c43) (b2n c61)) (by first | exact b2f c82 | exact fun _ => absurd c71 (by omega) | exact fun _ => absurd c67 (by omega)) (fun q => by first | exact absurd q.1 c95 | (rw [c113] at q; exact absurd q.2 (by decide))) (fun q => by first | exact q.2 c139 | exact absurd q.1 (by omega)), if_neg c157, if_neg c182, if_neg (fun q => q c196), if_pos c210]; exact decide_eq_false (by omega)) | exact bI_t (by rw [qDF_r (fun q => q.elim (b2n c43) (b2n c61)) (by first | exact b2f c82 | exact fun _ => absurd c71 (by omega) | exact fun _ => absurd c67 (by omega)) (fun q => by first | exact absurd q.1 c95 | (rw [c113] at q; exact absurd q.2 (by decide))) (fun q => by first | exact q.2 c139 | exact absurd q.1 (by omega)), if_neg c157, if_neg c182, if_neg (fun q => q c196), if_neg c210]; exact decide_eq_true (by omega)) | exact bI_f (by rw [qDF_r (fun q => q.elim (b2n c43) (b2n c61)) (by first | exact b2f c82 | exact fun _ => absurd c71 (by omega) | exact fun _ => absurd c67 (by omega)) (fun q => by first | exact absurd q.1 c95 | (rw [c113] at q; exact absurd q.2 (by decide))) (fun q => by first | exact q.2 c139 | exact absurd q.1 (by omega)), if_neg c157, if_neg c182, if_neg (fun q => q c196), if_neg c210]; exact decide_eq_false (by omega))) ?_
                            exact zw_zret hx hb hr hlk hP hS zd_Q_dayFits_269
                          · refine zi_iconst hx hb zd_Q_dayFits_234 ?_
                            refine lv_goto (tgt := 269) hx hb zd_Q_dayFits_235 (by decide) ?_
                            refine zb_as (x := qDF st wf fi sf hdf mo n) (by first | exact bI_t (by rw [qDF_r (fun q => q.elim (b2n c43) (b2n c61)) (by first | exact b2f c82 | exact fun _ => absurd c71 (by omega) | exact fun _ => absurd c67 (by omega)) (fun q => by first | exact absurd q.1 c95 | (rw [c113] at q; exact absurd q.2 (by decide))) (fun q => by first | exact q.2 c139 | exact absurd q.1 (by omega)), if_neg c157, if_neg c182, if_neg (fun q => q c196), if_pos c210]; exact decide_eq_true (by omega)) | exact bI_f (by rw [qDF_r (fun q => q.elim (b2n c43) (b2n c61)) (by first | exact b2f c82 | exact fun _ => absurd c71 (by omega) | exact fun _ => absurd c67 (by omega)) (fun q => by first | exact absurd q.1 c95 | (rw [c113] at q; exact absurd q.2 (by decide))) (fun q => by first | exact q.2 c139 | exact absurd q.1 (by omega)), if_neg c157, if_neg c182, if_neg (fun q => q c196), if_pos c210]; exact decide_eq_false (by omega)) | exact bI_t (by rw [qDF_r (fun q => q.elim (b2n c43) (b2n c61)) (by first | exact b2f c82 | exact fun _ => absurd c71 (by omega) | exact fun _ => absurd c67 (by omega)) (fun q => by first | exact absurd q.1 c95 | (rw [c113] at q; exact absurd q.2 (by decide))) (fun q => by first | exact q.2 c139 | exact absurd q.1 (by omega)), if_neg c157, if_neg c182, if_neg (fun q => q c196), if_neg c210]; exact decide_eq_true (by omega)) | exact bI_f (by rw [qDF_r (fun q => q.elim (b2n c43) (b2n c61)) (by first | exact b2f c82 | exact fun _ => absurd c71 (by omega) | exact fun _ => absurd c67 (by omega)) (fun q => by first | exact absurd q.1 c95 | (rw [c113] at q; exact absurd q.2 (by decide))) (fun q => by first | exact q.2 c139 | exact absurd q.1 (by omega)), if_neg c157, if_neg c182, if_neg (fun q => q c196), if_neg c210]; exact decide_eq_false (by omega))) ?_
                            exact zw_zret hx hb hr hlk hP hS zd_Q_dayFits_269
                      · refine zi_iconst hx hb zd_Q_dayFits_199 ?_
                        refine zb_as (x := qDF st wf fi sf hdf mo n) (bI_f (by rw [qDF_r (fun q => q.elim (b2n c43) (b2n c61)) (by first | exact b2f c82 | exact fun _ => absurd c71 (by omega) | exact fun _ => absurd c67 (by omega)) (fun q => by first | exact absurd q.1 c95 | (rw [c113] at q; exact absurd q.2 (by decide))) (fun q => by first | exact q.2 c139 | exact absurd q.1 (by omega)), if_neg c157, if_neg c182, if_pos c196])) ?_
                        exact zw_zret hx hb hr hlk hP hS zd_Q_dayFits_200
                    · refine zi_iconst hx hb zd_Q_dayFits_185 ?_
                      refine zb_as (x := qDF st wf fi sf hdf mo n) (bI_t (by rw [qDF_r (fun q => q.elim (b2n c43) (b2n c61)) (by first | exact b2f c82 | exact fun _ => absurd c71 (by omega) | exact fun _ => absurd c67 (by omega)) (fun q => by first | exact absurd q.1 c95 | (rw [c113] at q; exact absurd q.2 (by decide))) (fun q => by first | exact q.2 c139 | exact absurd q.1 (by omega)), if_neg c157, if_pos c182])) ?_
                      exact zw_zret hx hb hr hlk hP hS zd_Q_dayFits_186
                  · refine lv_aload_n hx hb zd_Q_dayFits_160 rfl (lv_at hl 1 rfl) ?_
                    refine va_get (D := g.1) (ci := 5) (v := .ref (rf 1)) (C := zR_Q) (T := zT_Q) (N := 21) hx hb hw zin_Q hown hK hP 0 rfl rfl 8 (by decide) (hw _ zw_3_206) (fun _ h9 => h9) rfl zd_Q_dayFits_161 ?_
                    refine lv_iload_n hx hb zd_Q_dayFits_164 rfl (lv_at hl 2 rfl) ?_
                    refine zi_aald (k := 0) hx hb hK hP 1 6 rfl rfl (by omega) rfl zd_Q_dayFits_165 ?_
                    refine zi_iconst hx hb zd_Q_dayFits_166 ?_
                    refine zi_aald (k := 5) hx hb hK hP 2 5 rfl rfl (by omega) rfl zd_Q_dayFits_167 ?_
                    refine lv_iload_n hx hb zd_Q_dayFits_168 rfl (lv_at hl 0 rfl) ?_
                    refine zi_iconst hx hb zd_Q_dayFits_169 ?_
                    refine zi_isub hx hb zd_Q_dayFits_170 ?_
                    refine zi_zald hx hb hK hP 5 1 rfl rfl (by omega) zd_Q_dayFits_171 ?_
                    refine zb_eq (qDF st wf fi sf hdf mo n) (by rw [qDF_r (fun q => q.elim (b2n c43) (b2n c61)) (by first | exact b2f c82 | exact fun _ => absurd c71 (by omega) | exact fun _ => absurd c67 (by omega)) (fun q => by first | exact absurd q.1 c95 | (rw [c113] at q; exact absurd q.2 (by decide))) (fun q => by first | exact q.2 c139 | exact absurd q.1 (by omega)), if_pos c157]; congr 1; omega) ?_
                    exact zw_zret hx hb hr hlk hP hS zd_Q_dayFits_172
                · refine lv_aload_n hx hb zd_Q_dayFits_130 rfl (lv_at hl 0 rfl) ?_
                  refine lv_iload_n hx hb zd_Q_dayFits_131 rfl (lv_at hl 1 rfl) ?_
                  refine zk_V (As := [.int (iI (0))]) (b := qq) (own := "CronFinderModel") (nL := 4) (rest := []) hx hb hml hown hw (c_Q_special1 l g qq rf (fl) (ln) (pl) 0 0 (n - dM0 mo + 1) (at0) (wa) (on) (tw) (hc) fa wya fi wf mo hmo hfi ⟨by omega, hwf.2⟩) zw_4_135 zw_4_137 zw_0_42 zw_1_7 zw_4_138 (np := 1) (by decide +kernel) rfl (by decide) zN_mv hK trivial (hP.sub (ws' := [(qq, .inr (5, [.int (iI (fl)), .ref (rf 0), .int (iI (ln)), .int (iI (pl)), .int (iI (1970 + mo / 12)), .int (iI (mo % 12 + 1)), .int (iI (n - dM0 mo + 1)), .int (iI (at0)), .ref (rf 1), .ref (rf 2), .ref (rf 3), .ref (rf 4), .ref (rf 5), .ref (rf 6), .int (iI (wa)), .int (iI (on)), .int (iI (tw)), .ref (rf 7), .ref (rf 8), .ref (rf 9), .int (iI (hc))])), (rf 5, .inl (g.2 7, 1, .inr (.inr (.inr (.inr (zaR fa)))))), (fa 0, .inl (g.2 0, 2, .inl (zaI fi))), (rf 4, .inl (g.2 7, 1, .inr (.inr (.inr (.inr (zaR wya)))))), (wya 0, .inl (g.2 0, 2, .inl (zaI wf)))]) [0, 9, 10, 7, 8] rfl) (va_recv hK hP (ci := 5) (q0 := 0) rfl rfl) hl.1 rfl (Nat.le_of_ble_eq_true rfl) (by decide) zd_Q_dayFits_132 ?_
                  have hsr := qSp_rg (way := wf 0) (v := fi 0) (L := dM0 (mo + 1) - dM0 mo) (B := dM0 mo) (by omega)
                  refine lv_aload_n hx hb zd_Q_dayFits_135 rfl (lv_at hl 0 rfl) ?_
                  refine va_get (D := g.1) (ci := 5) (v := .int (iI (n - dM0 mo + 1))) (C := zR_Q) (T := zT_Q) (N := 21) hx hb hw zin_Q hown hK hP 0 rfl rfl 6 (by decide) (hw _ zw_3_204) (fun _ h9 => h9) rfl zd_Q_dayFits_136 ?_
                  refine zi_icmp_eq (tgt := 144) hx hb zd_Q_dayFits_139 (by decide) (by omega) (fun c139 => ?_) (fun c139 => ?_)
                  · refine lv_iload_n hx hb zd_Q_dayFits_144 rfl (lv_at hl 2 rfl) ?_
                    refine zk_S (As := [.int (iI (n))]) (own := "CronFinderModel") (nL := 4) (rest := []) hx hb hml hown hw (c_Q_weekday l g (n) (by omega)) zw_4_139 zw_4_140 zw_1_7 zw_4_141 (np := 1) (by decide +kernel) rfl (by decide) zN_mv hK trivial (hP.sub (ws' := []) [] rfl) hl.1 rfl (Nat.le_of_ble_eq_true rfl) (by decide) zd_Q_dayFits_145 ?_
                    refine lv_istore_n (lv' := [(3, .int (iI ((n + 4) % 7 + 1))), (0, .ref (qq)), (1, .int (iI (0))), (2, .int (iI (n)))]) hx hb zd_Q_dayFits_148 rfl hl (by decide) rfl (fun ls hl => ?_)
                    refine lv_aload_n hx hb zd_Q_dayFits_149 rfl (lv_at hl 1 rfl) ?_
                    refine va_get (D := g.1) (ci := 5) (v := .ref (rf 4)) (C := zR_Q) (T := zT_Q) (N := 21) hx hb hw zin_Q hown hK hP 0 rfl rfl 11 (by decide) (hw _ zw_3_209) (fun _ h9 => h9) rfl zd_Q_dayFits_150 ?_
                    refine lv_iload_n hx hb zd_Q_dayFits_153 rfl (lv_at hl 2 rfl) ?_
                    refine zi_aald (k := 0) hx hb hK hP 7 7 rfl rfl (by omega) rfl zd_Q_dayFits_154 ?_
                    refine zi_iconst hx hb zd_Q_dayFits_155 ?_
                    refine zi_iald hx hb hK hP 8 0 rfl rfl (by omega) zd_Q_dayFits_156 ?_
                    refine zi_as (wf 1) rfl ?_
                    refine zi_if_ne (tgt := 173) hx hb zd_Q_dayFits_157 (by decide) (by omega) (fun c157 => ?_) (fun c157 => ?_)
                    · refine lv_aload_n hx hb zd_Q_dayFits_173 rfl (lv_at hl 1 rfl) ?_
                      refine va_get (D := g.1) (ci := 5) (v := .ref (rf 4)) (C := zR_Q) (T := zT_Q) (N := 21) hx hb hw zin_Q hown hK hP 0 rfl rfl 11 (by decide) (hw _ zw_3_209) (fun _ h9 => h9) rfl zd_Q_dayFits_174 ?_
                      refine lv_iload_n hx hb zd_Q_dayFits_177 rfl (lv_at hl 2 rfl) ?_
                      refine zi_aald (k := 0) hx hb hK hP 7 7 rfl rfl (by omega) rfl zd_Q_dayFits_178 ?_
                      refine zi_iconst hx hb zd_Q_dayFits_179 ?_
                      refine zi_iald hx hb hK hP 8 0 rfl rfl (by omega) zd_Q_dayFits_180 ?_
                      refine zi_as (wf 1) rfl ?_
                      refine zi_iconst hx hb zd_Q_dayFits_181 ?_
                      refine zi_icmp_ne (tgt := 187) hx hb zd_Q_dayFits_182 (by decide) (by omega) (fun c182 => ?_) (fun c182 => ?_)
                      · refine lv_iload_n hx hb zd_Q_dayFits_187 rfl (lv_at hl 0 rfl) ?_
                        refine lv_aload_n hx hb zd_Q_dayFits_188 rfl (lv_at hl 1 rfl) ?_
                        refine va_get (D := g.1) (ci := 5) (v := .ref (rf 5)) (C := zR_Q) (T := zT_Q) (N := 21) hx hb hw zin_Q hown hK hP 0 rfl rfl 12 (by decide) (hw _ zw_3_210) (fun _ h9 => h9) rfl zd_Q_dayFits_189 ?_
                        refine lv_iload_n hx hb zd_Q_dayFits_192 rfl (lv_at hl 2 rfl) ?_
                        refine zi_aald (k := 0) hx hb hK hP 9 7 rfl rfl (by omega) rfl zd_Q_dayFits_193 ?_
                        refine zi_iconst hx hb zd_Q_dayFits_194 ?_
                        refine zi_iald hx hb hK hP 10 0 rfl rfl (by omega) zd_Q_dayFits_195 ?_
                        refine zi_as (fi 1) rfl ?_
                        refine zi_icmp_eq (tgt := 201) hx hb zd_Q_dayFits_196 (by decide) (by omega) (fun c196 => ?_) (fun c196 => ?_)
                        · refine lv_aload_n hx hb zd_Q_dayFits_201 rfl (lv_at hl 1 rfl) ?_
                          refine va_get (D := g.1) (ci := 5) (v := .ref (rf 4)) (C := zR_Q) (T := zT_Q) (N := 21) hx hb hw zin_Q hown hK hP 0 rfl rfl 11 (by decide) (hw _ zw_3_209) (fun _ h9 => h9) rfl zd_Q_dayFits_202 ?_
                          refine lv_iload_n hx hb zd_Q_dayFits_205 rfl (lv_at hl 2 rfl) ?_
                          refine zi_aald (k := 0) hx hb hK hP 7 7 rfl rfl (by omega) rfl zd_Q_dayFits_206 ?_
                          refine zi_iconst hx hb zd_Q_dayFits_207 ?_
                          refine zi_iald hx hb hK hP 8 0 rfl rfl (by omega) zd_Q_dayFits_208 ?_
                          refine zi_as (wf 1) rfl ?_
                          refine zi_iconst hx hb zd_Q_dayFits_209 ?_
                          refine zi_icmp_ne (tgt := 242) hx hb zd_Q_dayFits_210 (by decide) (by omega) (fun c210 => ?_) (fun c210 => ?_)
                          · refine lv_aload_n hx hb zd_Q_dayFits_242 rfl (lv_at hl 1 rfl) ?_
                            refine va_get (D := g.1) (ci := 5) (v := .int (iI (n - dM0 mo + 1))) (C := zR_Q) (T := zT_Q) (N := 21) hx hb hw zin_Q hown hK hP 0 rfl rfl 6 (by decide) (hw _ zw_3_204) (fun _ h9 => h9) rfl zd_Q_dayFits_243 ?_
                            refine zi_iconst hx hb zd_Q_dayFits_246 ?_
                            refine zi_isub hx hb zd_Q_dayFits_247 ?_
                            refine zi_bipush hx hb zd_Q_dayFits_248 (by decide) ?_
                            refine zi_idiv hx hb zd_Q_dayFits_250 (by omega) ?_
                            refine zi_iconst hx hb zd_Q_dayFits_251 ?_
                            refine zi_iadd hx hb zd_Q_dayFits_252 ?_
                            refine lv_aload_n hx hb zd_Q_dayFits_253 rfl (lv_at hl 1 rfl) ?_
                            refine va_get (D := g.1) (ci := 5) (v := .ref (rf 6)) (C := zR_Q) (T := zT_Q) (N := 21) hx hb hw zin_Q hown hK hP 0 rfl rfl 13 (by decide) (hw _ zw_3_211) (fun _ h9 => h9) rfl zd_Q_dayFits_254 ?_
                            refine lv_iload_n hx hb zd_Q_dayFits_257 rfl (lv_at hl 2 rfl) ?_
                            refine zi_aald (k := 0) hx hb hK hP 11 7 rfl rfl (by omega) rfl zd_Q_dayFits_258 ?_
                            refine zi_iconst hx hb zd_Q_dayFits_259 ?_
                            refine zi_iald hx hb hK hP 12 0 rfl rfl (by omega) zd_Q_dayFits_260 ?_
                            refine zi_as (sf 1) rfl ?_
                            refine zi_icmp_ne (tgt := 268) hx hb zd_Q_dayFits_261 (by decide) (by omega) (fun c261 => ?_) (fun c261 => ?_)
                            · refine zi_iconst hx hb zd_Q_dayFits_268 ?_
                              refine zb_as (x := qDF st wf fi sf hdf mo n) (by first | exact bI_t (by rw [qDF_r (fun q => q.elim (b2n c43) (b2n c61)) (by first | exact b2f c82 | exact fun _ => absurd c71 (by omega) | exact fun _ => absurd c67 (by omega)) (fun q => by first | exact absurd q.1 c95 | (rw [c113] at q; exact absurd q.2 (by decide))) (fun q => by first | exact q.2 c139 | exact absurd q.1 (by omega)), if_neg c157, if_neg c182, if_neg (fun q => q c196), if_pos c210]; exact decide_eq_true (by omega)) | exact bI_f (by rw [qDF_r (fun q => q.elim (b2n c43) (b2n c61)) (by first | exact b2f c82 | exact fun _ => absurd c71 (by omega) | exact fun _ => absurd c67 (by omega)) (fun q => by first | exact absurd q.1 c95 | (rw [c113] at q; exact absurd q.2 (by decide))) (fun q => by first | exact q.2 c139 | exact absurd q.1 (by omega)), if_neg c157, if_neg c182, if_neg (fun q => q c196), if_pos c210]; exact decide_eq_false (by omega)) | exact bI_t (by rw [qDF_r (fun q => q.elim (b2n c43) (b2n c61)) (by first | exact b2f c82 | exact fun _ => absurd c71 (by omega) | exact fun _ => absurd c67 (by omega)) (fun q => by first | exact absurd q.1 c95 | (rw [c113] at q; exact absurd q.2 (by decide))) (fun q => by first | exact q.2 c139 | exact absurd q.1 (by omega)), if_neg c157, if_neg c182, if_neg (fun q => q c196), if_neg c210]; exact decide_eq_true (by omega)) | exact bI_f (by rw [qDF_r (fun q => q.elim (b2n c43) (b2n c61)) (by first | exact b2f c82 | exact fun _ => absurd c71 (by omega) | exact fun _ => absurd c67 (by omega)) (fun q => by first | exact absurd q.1 c95 | (rw [c113] at q; exact absurd q.2 (by decide))) (fun q => by first | exact q.2 c139 | exact absurd q.1 (by omega)), if_neg c157, if_neg c182, if_neg (fun q => q c196), if_neg c210]; exact decide_eq_false (by omega))) ?_
                              exact zw_zret hx hb hr hlk hP hS zd_Q_dayFits_269
                            · refine zi_iconst hx hb zd_Q_dayFits_264 ?_
                              refine lv_goto (tgt := 269) hx hb zd_Q_dayFits_265 (by decide) ?_
                              refine zb_as (x := qDF st wf fi sf hdf mo n) (by first | exact bI_t (by rw [qDF_r (fun q => q.elim (b2n c43) (b2n c61)) (by first | exact b2f c82 | exact fun _ => absurd c71 (by omega) | exact fun _ => absurd c67 (by omega)) (fun q => by first | exact absurd q.1 c95 | (rw [c113] at q; exact absurd q.2 (by decide))) (fun q => by first | exact q.2 c139 | exact absurd q.1 (by omega)), if_neg c157, if_neg c182, if_neg (fun q => q c196), if_pos c210]; exact decide_eq_true (by omega)) | exact bI_f (by rw [qDF_r (fun q => q.elim (b2n c43) (b2n c61)) (by first | exact b2f c82 | exact fun _ => absurd c71 (by omega) | exact fun _ => absurd c67 (by omega)) (fun q => by first | exact absurd q.1 c95 | (rw [c113] at q; exact absurd q.2 (by decide))) (fun q => by first | exact q.2 c139 | exact absurd q.1 (by omega)), if_neg c157, if_neg c182, if_neg (fun q => q c196), if_pos c210]; exact decide_eq_false (by omega)) | exact bI_t (by rw [qDF_r (fun q => q.elim (b2n c43) (b2n c61)) (by first | exact b2f c82 | exact fun _ => absurd c71 (by omega) | exact fun _ => absurd c67 (by omega)) (fun q => by first | exact absurd q.1 c95 | (rw [c113] at q; exact absurd q.2 (by decide))) (fun q => by first | exact q.2 c139 | exact absurd q.1 (by omega)), if_neg c157, if_neg c182, if_neg (fun q => q c196), if_neg c210]; exact decide_eq_true (by omega)) | exact bI_f (by rw [qDF_r (fun q => q.elim (b2n c43) (b2n c61)) (by first | exact b2f c82 | exact fun _ => absurd c71 (by omega) | exact fun _ => absurd c67 (by omega)) (fun q => by first | exact absurd q.1 c95 | (rw [c113] at q; exact absurd q.2 (by decide))) (fun q => by first | exact q.2 c139 | exact absurd q.1 (by omega)), if_neg c157, if_neg c182, if_neg (fun q => q c196), if_neg c210]; exact decide_eq_false (by omega))) ?_
                              exact zw_zret hx hb hr hlk hP hS zd_Q_dayFits_269
                          · refine lv_aload_n hx hb zd_Q_dayFits_213 rfl (lv_at hl 1 rfl) ?_
                            refine va_get (D := g.1) (ci := 5) (v := .int (iI (n - dM0 mo + 1))) (C := zR_Q) (T := zT_Q) (N := 21) hx hb hw zin_Q hown hK hP 0 rfl rfl 6 (by decide) (hw _ zw_3_204) (fun _ h9 => h9) rfl zd_Q_dayFits_214 ?_
                            refine zi_bipush hx hb zd_Q_dayFits_217 (by decide) ?_
                            refine zi_iadd hx hb zd_Q_dayFits_219 ?_
                            refine lv_aload_n hx hb zd_Q_dayFits_220 rfl (lv_at hl 1 rfl) ?_
                            refine va_get (D := g.1) (ci := 5) (v := .int (iI (1970 + mo / 12))) (C := zR_Q) (T := zT_Q) (N := 21) hx hb hw zin_Q hown hK hP 0 rfl rfl 4 (by decide) (hw _ zw_3_202) (fun _ h9 => h9) rfl zd_Q_dayFits_221 ?_
                            refine lv_aload_n hx hb zd_Q_dayFits_224 rfl (lv_at hl 1 rfl) ?_
                            refine va_get (D := g.1) (ci := 5) (v := .int (iI (mo % 12 + 1))) (C := zR_Q) (T := zT_Q) (N := 21) hx hb hw zin_Q hown hK hP 0 rfl rfl 5 (by decide) (hw _ zw_3_203) (fun _ h9 => h9) rfl zd_Q_dayFits_225 ?_
                            refine zk_S (As := [.int (iI (1970 + mo / 12)), .int (iI (mo % 12 + 1))]) (own := "CronFinderModel") (nL := 4) (rest := [.int (iI ((n - dM0 mo + 1) + 7))]) hx hb hml hown hw (c_Q_length l g (1970 + mo / 12) (mo % 12 + 1) (by omega)) zw_4_129 zw_4_130 zw_1_7 zw_4_131 (np := 2) (by decide +kernel) rfl (by decide) zN_mv hK trivial (hP.sub (ws' := []) [] rfl) hl.1 rfl (Nat.le_of_ble_eq_true rfl) (by decide) zd_Q_dayFits_228 ?_
                            have hq228 := dMl_rg (1970 + mo / 12) ((mo % 12 + 1) - 1)
                            refine zi_as (dM0 (mo + 1) - dM0 mo) (qL mo) ?_
                            refine zi_icmp_le (tgt := 238) hx hb zd_Q_dayFits_231 (by decide) (by omega) (fun c231 => ?_) (fun c231 => ?_)
                            · refine zi_iconst hx hb zd_Q_dayFits_238 ?_
                              refine lv_goto (tgt := 269) hx hb zd_Q_dayFits_239 (by decide) ?_
                              refine zb_as (x := qDF st wf fi sf hdf mo n) (by first | exact bI_t (by rw [qDF_r (fun q => q.elim (b2n c43) (b2n c61)) (by first | exact b2f c82 | exact fun _ => absurd c71 (by omega) | exact fun _ => absurd c67 (by omega)) (fun q => by first | exact absurd q.1 c95 | (rw [c113] at q; exact absurd q.2 (by decide))) (fun q => by first | exact q.2 c139 | exact absurd q.1 (by omega)), if_neg c157, if_neg c182, if_neg (fun q => q c196), if_pos c210]; exact decide_eq_true (by omega)) | exact bI_f (by rw [qDF_r (fun q => q.elim (b2n c43) (b2n c61)) (by first | exact b2f c82 | exact fun _ => absurd c71 (by omega) | exact fun _ => absurd c67 (by omega)) (fun q => by first | exact absurd q.1 c95 | (rw [c113] at q; exact absurd q.2 (by decide))) (fun q => by first | exact q.2 c139 | exact absurd q.1 (by omega)), if_neg c157, if_neg c182, if_neg (fun q => q c196), if_pos c210]; exact decide_eq_false (by omega)) | exact bI_t (by rw [qDF_r (fun q => q.elim (b2n c43) (b2n c61)) (by first | exact b2f c82 | exact fun _ => absurd c71 (by omega) | exact fun _ => absurd c67 (by omega)) (fun q => by first | exact absurd q.1 c95 | (rw [c113] at q; exact absurd q.2 (by decide))) (fun q => by first | exact q.2 c139 | exact absurd q.1 (by omega)), if_neg c157, if_neg c182, if_neg (fun q => q c196), if_neg c210]; exact decide_eq_true (by omega)) | exact bI_f (by rw [qDF_r (fun q => q.elim (b2n c43) (b2n c61)) (by first | exact b2f c82 | exact fun _ => absurd c71 (by omega) | exact fun _ => absurd c67 (by omega)) (fun q => by first | exact absurd q.1 c95 | (rw [c113] at q; exact absurd q.2 (by decide))) (fun q => by first | exact q.2 c139 | exact absurd q.1 (by omega)), if_neg c157, if_neg c182, if_neg (fun q => q c196), if_neg c210]; exact decide_eq_false (by omega))) ?_
                              exact zw_zret hx hb hr hlk hP hS zd_Q_dayFits_269
                            · refine zi_iconst hx hb zd_Q_dayFits_234 ?_
                              refine lv_goto (tgt := 269) hx hb zd_Q_dayFits_235 (by decide) ?_
                              refine zb_as (x := qDF st wf fi sf hdf mo n) (by first | exact bI_t (by rw [qDF_r (fun q => q.elim (b2n c43) (b2n c61)) (by first | exact b2f c82 | exact fun _ => absurd c71 (by omega) | exact fun _ => absurd c67 (by omega)) (fun q => by first | exact absurd q.1 c95 | (rw [c113] at q; exact absurd q.2 (by decide))) (fun q => by first | exact q.2 c139 | exact absurd q.1 (by omega)), if_neg c157, if_neg c182, if_neg (fun q => q c196), if_pos c210]; exact decide_eq_true (by omega)) | exact bI_f (by rw [qDF_r (fun q => q.elim (b2n c43) (b2n c61)) (by first | exact b2f c82 | exact fun _ => absurd c71 (by omega) | exact fun _ => absurd c67 (by omega)) (fun q => by first | exact absurd q.1 c95 | (rw [c113] at q; exact absurd q.2 (by decide))) (fun q => by first | exact q.2 c139 | exact absurd q.1 (by omega)), if_neg c157, if_neg c182, if_neg (fun q => q c196), if_pos c210]; exact decide_eq_false (by omega)) | exact bI_t (by rw [qDF_r (fun q => q.elim (b2n c43) (b2n c61)) (by first | exact b2f c82 | exact fun _ => absurd c71 (by omega) | exact fun _ => absurd c67 (by omega)) (fun q => by first | exact absurd q.1 c95 | (rw [c113] at q; exact absurd q.2 (by decide))) (fun q => by first | exact q.2 c139 | exact absurd q.1 (by omega)), if_neg c157, if_neg c182, if_neg (fun q => q c196), if_neg c210]; exact decide_eq_true (by omega)) | exact bI_f (by rw [qDF_r (fun q => q.elim (b2n c43) (b2n c61)) (by first | exact b2f c82 | exact fun _ => absurd c71 (by omega) | exact fun _ => absurd c67 (by omega)) (fun q => by first | exact absurd q.1 c95 | (rw [c113] at q; exact absurd q.2 (by decide))) (fun q => by first | exact q.2 c139 | exact absurd q.1 (by omega)), if_neg c157, if_neg c182, if_neg (fun q => q c196), if_neg c210]; exact decide_eq_false (by omega))) ?_
                              exact zw_zret hx hb hr hlk hP hS zd_Q_dayFits_269
                        · refine zi_iconst hx hb zd_Q_dayFits_199 ?_
                          refine zb_as (x := qDF st wf fi sf hdf mo n) (bI_f (by rw [qDF_r (fun q => q.elim (b2n c43) (b2n c61)) (by first | exact b2f c82 | exact fun _ => absurd c71 (by omega) | exact fun _ => absurd c67 (by omega)) (fun q => by first | exact absurd q.1 c95 | (rw [c113] at q; exact absurd q.2 (by decide))) (fun q => by first | exact q.2 c139 | exact absurd q.1 (by omega)), if_neg c157, if_neg c182, if_pos c196])) ?_
                          exact zw_zret hx hb hr hlk hP hS zd_Q_dayFits_200
                      · refine zi_iconst hx hb zd_Q_dayFits_185 ?_
                        refine zb_as (x := qDF st wf fi sf hdf mo n) (bI_t (by rw [qDF_r (fun q => q.elim (b2n c43) (b2n c61)) (by first | exact b2f c82 | exact fun _ => absurd c71 (by omega) | exact fun _ => absurd c67 (by omega)) (fun q => by first | exact absurd q.1 c95 | (rw [c113] at q; exact absurd q.2 (by decide))) (fun q => by first | exact q.2 c139 | exact absurd q.1 (by omega)), if_neg c157, if_pos c182])) ?_
                        exact zw_zret hx hb hr hlk hP hS zd_Q_dayFits_186
                    · refine lv_aload_n hx hb zd_Q_dayFits_160 rfl (lv_at hl 1 rfl) ?_
                      refine va_get (D := g.1) (ci := 5) (v := .ref (rf 1)) (C := zR_Q) (T := zT_Q) (N := 21) hx hb hw zin_Q hown hK hP 0 rfl rfl 8 (by decide) (hw _ zw_3_206) (fun _ h9 => h9) rfl zd_Q_dayFits_161 ?_
                      refine lv_iload_n hx hb zd_Q_dayFits_164 rfl (lv_at hl 2 rfl) ?_
                      refine zi_aald (k := 0) hx hb hK hP 1 6 rfl rfl (by omega) rfl zd_Q_dayFits_165 ?_
                      refine zi_iconst hx hb zd_Q_dayFits_166 ?_
                      refine zi_aald (k := 5) hx hb hK hP 2 5 rfl rfl (by omega) rfl zd_Q_dayFits_167 ?_
                      refine lv_iload_n hx hb zd_Q_dayFits_168 rfl (lv_at hl 0 rfl) ?_
                      refine zi_iconst hx hb zd_Q_dayFits_169 ?_
                      refine zi_isub hx hb zd_Q_dayFits_170 ?_
                      refine zi_zald hx hb hK hP 5 1 rfl rfl (by omega) zd_Q_dayFits_171 ?_
                      refine zb_eq (qDF st wf fi sf hdf mo n) (by rw [qDF_r (fun q => q.elim (b2n c43) (b2n c61)) (by first | exact b2f c82 | exact fun _ => absurd c71 (by omega) | exact fun _ => absurd c67 (by omega)) (fun q => by first | exact absurd q.1 c95 | (rw [c113] at q; exact absurd q.2 (by decide))) (fun q => by first | exact q.2 c139 | exact absurd q.1 (by omega)), if_pos c157]; congr 1; omega) ?_
                      exact zw_zret hx hb hr hlk hP hS zd_Q_dayFits_172
                  · refine zi_iconst hx hb zd_Q_dayFits_142 ?_
                    refine zb_as (x := qDF st wf fi sf hdf mo n) (bI_f (qDF_4 (fun q => q.elim (b2n c43) (b2n c61)) (by first | exact b2f c82 | exact fun _ => absurd c71 (by omega) | exact fun _ => absurd c67 (by omega)) (fun q => by first | exact absurd q.1 c95 | (rw [c113] at q; exact absurd q.2 (by decide))) ⟨by omega, c139⟩)) ?_
                    exact zw_zret hx hb hr hlk hP hS zd_Q_dayFits_143
              · refine lv_aload_n hx hb zd_Q_dayFits_98 rfl (lv_at hl 0 rfl) ?_
                refine va_get (D := g.1) (ci := 5) (v := .ref (rf 1)) (C := zR_Q) (T := zT_Q) (N := 21) hx hb hw zin_Q hown hK hP 0 rfl rfl 8 (by decide) (hw _ zw_3_206) (fun _ h9 => h9) rfl zd_Q_dayFits_99 ?_
                refine lv_iload_n hx hb zd_Q_dayFits_102 rfl (lv_at hl 1 rfl) ?_
                refine zi_aald (k := 0) hx hb hK hP 1 6 rfl rfl (by omega) rfl zd_Q_dayFits_103 ?_
                refine zi_iconst hx hb zd_Q_dayFits_104 ?_
                refine zi_aald (k := 3) hx hb hK hP 2 5 rfl rfl (by omega) rfl zd_Q_dayFits_105 ?_
                refine lv_aload_n hx hb zd_Q_dayFits_106 rfl (lv_at hl 0 rfl) ?_
                refine va_get (D := g.1) (ci := 5) (v := .int (iI (n - dM0 mo + 1))) (C := zR_Q) (T := zT_Q) (N := 21) hx hb hw zin_Q hown hK hP 0 rfl rfl 6 (by decide) (hw _ zw_3_204) (fun _ h9 => h9) rfl zd_Q_dayFits_107 ?_
                refine zi_iconst hx hb zd_Q_dayFits_110 ?_
                refine zi_isub hx hb zd_Q_dayFits_111 ?_
                refine zi_zald hx hb hK hP 3 1 rfl rfl (by omega) zd_Q_dayFits_112 ?_
                refine zb_eq (st 3 (n - dM0 mo).toNat) (by first | rfl | (congr 1; omega)) ?_
                refine zb_if_ne (tgt := 118) hx hb zd_Q_dayFits_113 (by decide) (fun c113 => ?_) (fun c113 => ?_)
                · refine lv_aload_n hx hb zd_Q_dayFits_118 rfl (lv_at hl 0 rfl) ?_
                  refine va_get (D := g.1) (ci := 5) (v := .ref (rf 4)) (C := zR_Q) (T := zT_Q) (N := 21) hx hb hw zin_Q hown hK hP 0 rfl rfl 11 (by decide) (hw _ zw_3_209) (fun _ h9 => h9) rfl zd_Q_dayFits_119 ?_
                  refine lv_iload_n hx hb zd_Q_dayFits_122 rfl (lv_at hl 1 rfl) ?_
                  refine zi_aald (k := 0) hx hb hK hP 7 7 rfl rfl (by omega) rfl zd_Q_dayFits_123 ?_
                  refine zi_iconst hx hb zd_Q_dayFits_124 ?_
                  refine zi_iald hx hb hK hP 8 0 rfl rfl (by omega) zd_Q_dayFits_125 ?_
                  refine zi_as (wf 0) rfl ?_
                  refine zi_iconst hx hb zd_Q_dayFits_126 ?_
                  refine zi_icmp_le (tgt := 144) hx hb zd_Q_dayFits_127 (by decide) (by omega) (fun c127 => ?_) (fun c127 => ?_)
                  · refine lv_iload_n hx hb zd_Q_dayFits_144 rfl (lv_at hl 2 rfl) ?_
                    refine zk_S (As := [.int (iI (n))]) (own := "CronFinderModel") (nL := 4) (rest := []) hx hb hml hown hw (c_Q_weekday l g (n) (by omega)) zw_4_139 zw_4_140 zw_1_7 zw_4_141 (np := 1) (by decide +kernel) rfl (by decide) zN_mv hK trivial (hP.sub (ws' := []) [] rfl) hl.1 rfl (Nat.le_of_ble_eq_true rfl) (by decide) zd_Q_dayFits_145 ?_
                    refine lv_istore_n (lv' := [(3, .int (iI ((n + 4) % 7 + 1))), (0, .ref (qq)), (1, .int (iI (0))), (2, .int (iI (n)))]) hx hb zd_Q_dayFits_148 rfl hl (by decide) rfl (fun ls hl => ?_)
                    refine lv_aload_n hx hb zd_Q_dayFits_149 rfl (lv_at hl 1 rfl) ?_
                    refine va_get (D := g.1) (ci := 5) (v := .ref (rf 4)) (C := zR_Q) (T := zT_Q) (N := 21) hx hb hw zin_Q hown hK hP 0 rfl rfl 11 (by decide) (hw _ zw_3_209) (fun _ h9 => h9) rfl zd_Q_dayFits_150 ?_
                    refine lv_iload_n hx hb zd_Q_dayFits_153 rfl (lv_at hl 2 rfl) ?_
                    refine zi_aald (k := 0) hx hb hK hP 7 7 rfl rfl (by omega) rfl zd_Q_dayFits_154 ?_
                    refine zi_iconst hx hb zd_Q_dayFits_155 ?_
                    refine zi_iald hx hb hK hP 8 0 rfl rfl (by omega) zd_Q_dayFits_156 ?_
                    refine zi_as (wf 1) rfl ?_
                    refine zi_if_ne (tgt := 173) hx hb zd_Q_dayFits_157 (by decide) (by omega) (fun c157 => ?_) (fun c157 => ?_)
                    · refine lv_aload_n hx hb zd_Q_dayFits_173 rfl (lv_at hl 1 rfl) ?_
                      refine va_get (D := g.1) (ci := 5) (v := .ref (rf 4)) (C := zR_Q) (T := zT_Q) (N := 21) hx hb hw zin_Q hown hK hP 0 rfl rfl 11 (by decide) (hw _ zw_3_209) (fun _ h9 => h9) rfl zd_Q_dayFits_174 ?_
                      refine lv_iload_n hx hb zd_Q_dayFits_177 rfl (lv_at hl 2 rfl) ?_
                      refine zi_aald (k := 0) hx hb hK hP 7 7 rfl rfl (by omega) rfl zd_Q_dayFits_178 ?_
                      refine zi_iconst hx hb zd_Q_dayFits_179 ?_
                      refine zi_iald hx hb hK hP 8 0 rfl rfl (by omega) zd_Q_dayFits_180 ?_
                      refine zi_as (wf 1) rfl ?_
                      refine zi_iconst hx hb zd_Q_dayFits_181 ?_
                      refine zi_icmp_ne (tgt := 187) hx hb zd_Q_dayFits_182 (by decide) (by omega) (fun c182 => ?_) (fun c182 => ?_)
                      · refine lv_iload_n hx hb zd_Q_dayFits_187 rfl (lv_at hl 0 rfl) ?_
                        refine lv_aload_n hx hb zd_Q_dayFits_188 rfl (lv_at hl 1 rfl) ?_
                        refine va_get (D := g.1) (ci := 5) (v := .ref (rf 5)) (C := zR_Q) (T := zT_Q) (N := 21) hx hb hw zin_Q hown hK hP 0 rfl rfl 12 (by decide) (hw _ zw_3_210) (fun _ h9 => h9) rfl zd_Q_dayFits_189 ?_
                        refine lv_iload_n hx hb zd_Q_dayFits_192 rfl (lv_at hl 2 rfl) ?_
                        refine zi_aald (k := 0) hx hb hK hP 9 7 rfl rfl (by omega) rfl zd_Q_dayFits_193 ?_
                        refine zi_iconst hx hb zd_Q_dayFits_194 ?_
                        refine zi_iald hx hb hK hP 10 0 rfl rfl (by omega) zd_Q_dayFits_195 ?_
                        refine zi_as (fi 1) rfl ?_
                        refine zi_icmp_eq (tgt := 201) hx hb zd_Q_dayFits_196 (by decide) (by omega) (fun c196 => ?_) (fun c196 => ?_)
                        · refine lv_aload_n hx hb zd_Q_dayFits_201 rfl (lv_at hl 1 rfl) ?_
                          refine va_get (D := g.1) (ci := 5) (v := .ref (rf 4)) (C := zR_Q) (T := zT_Q) (N := 21) hx hb hw zin_Q hown hK hP 0 rfl rfl 11 (by decide) (hw _ zw_3_209) (fun _ h9 => h9) rfl zd_Q_dayFits_202 ?_
                          refine lv_iload_n hx hb zd_Q_dayFits_205 rfl (lv_at hl 2 rfl) ?_
                          refine zi_aald (k := 0) hx hb hK hP 7 7 rfl rfl (by omega) rfl zd_Q_dayFits_206 ?_
                          refine zi_iconst hx hb zd_Q_dayFits_207 ?_
                          refine zi_iald hx hb hK hP 8 0 rfl rfl (by omega) zd_Q_dayFits_208 ?_
                          refine zi_as (wf 1) rfl ?_
                          refine zi_iconst hx hb zd_Q_dayFits_209 ?_
                          refine zi_icmp_ne (tgt := 242) hx hb zd_Q_dayFits_210 (by decide) (by omega) (fun c210 => ?_) (fun c210 => ?_)
                          · refine lv_aload_n hx hb zd_Q_dayFits_242 rfl (lv_at hl 1 rfl) ?_
                            refine va_get (D := g.1) (ci := 5) (v := .int (iI (n - dM0 mo + 1))) (C := zR_Q) (T := zT_Q) (N := 21) hx hb hw zin_Q hown hK hP 0 rfl rfl 6 (by decide) (hw _ zw_3_204) (fun _ h9 => h9) rfl zd_Q_dayFits_243 ?_
                            refine zi_iconst hx hb zd_Q_dayFits_246 ?_
                            refine zi_isub hx hb zd_Q_dayFits_247 ?_
                            refine zi_bipush hx hb zd_Q_dayFits_248 (by decide) ?_
                            refine zi_idiv hx hb zd_Q_dayFits_250 (by omega) ?_
                            refine zi_iconst hx hb zd_Q_dayFits_251 ?_
                            refine zi_iadd hx hb zd_Q_dayFits_252 ?_
                            refine lv_aload_n hx hb zd_Q_dayFits_253 rfl (lv_at hl 1 rfl) ?_
                            refine va_get (D := g.1) (ci := 5) (v := .ref (rf 6)) (C := zR_Q) (T := zT_Q) (N := 21) hx hb hw zin_Q hown hK hP 0 rfl rfl 13 (by decide) (hw _ zw_3_211) (fun _ h9 => h9) rfl zd_Q_dayFits_254 ?_
                            refine lv_iload_n hx hb zd_Q_dayFits_257 rfl (lv_at hl 2 rfl) ?_
                            refine zi_aald (k := 0) hx hb hK hP 11 7 rfl rfl (by omega) rfl zd_Q_dayFits_258 ?_
                            refine zi_iconst hx hb zd_Q_dayFits_259 ?_
                            refine zi_iald hx hb hK hP 12 0 rfl rfl (by omega) zd_Q_dayFits_260 ?_
                            refine zi_as (sf 1) rfl ?_
                            refine zi_icmp_ne (tgt := 268) hx hb zd_Q_dayFits_261 (by decide) (by omega) (fun c261 => ?_) (fun c261 => ?_)
                            · refine zi_iconst hx hb zd_Q_dayFits_268 ?_
                              refine zb_as (x := qDF st wf fi sf hdf mo n) (by first | exact bI_t (by rw [qDF_r (fun q => q.elim (b2n c43) (b2n c61)) (by first | exact b2f c82 | exact fun _ => absurd c71 (by omega) | exact fun _ => absurd c67 (by omega)) (fun q => by first | exact absurd q.1 c95 | (rw [c113] at q; exact absurd q.2 (by decide))) (fun q => by first | exact q.2 c139 | exact absurd q.1 (by omega)), if_neg c157, if_neg c182, if_neg (fun q => q c196), if_pos c210]; exact decide_eq_true (by omega)) | exact bI_f (by rw [qDF_r (fun q => q.elim (b2n c43) (b2n c61)) (by first | exact b2f c82 | exact fun _ => absurd c71 (by omega) | exact fun _ => absurd c67 (by omega)) (fun q => by first | exact absurd q.1 c95 | (rw [c113] at q; exact absurd q.2 (by decide))) (fun q => by first | exact q.2 c139 | exact absurd q.1 (by omega)), if_neg c157, if_neg c182, if_neg (fun q => q c196), if_pos c210]; exact decide_eq_false (by omega)) | exact bI_t (by rw [qDF_r (fun q => q.elim (b2n c43) (b2n c61)) (by first | exact b2f c82 | exact fun _ => absurd c71 (by omega) | exact fun _ => absurd c67 (by omega)) (fun q => by first | exact absurd q.1 c95 | (rw [c113] at q; exact absurd q.2 (by decide))) (fun q => by first | exact q.2 c139 | exact absurd q.1 (by omega)), if_neg c157, if_neg c182, if_neg (fun q => q c196), if_neg c210]; exact decide_eq_true (by omega)) | exact bI_f (by rw [qDF_r (fun q => q.elim (b2n c43) (b2n c61)) (by first | exact b2f c82 | exact fun _ => absurd c71 (by omega) | exact fun _ => absurd c67 (by omega)) (fun q => by first | exact absurd q.1 c95 | (rw [c113] at q; exact absurd q.2 (by decide))) (fun q => by first | exact q.2 c139 | exact absurd q.1 (by omega)), if_neg c157, if_neg c182, if_neg (fun q => q c196), if_neg c210]; exact decide_eq_false (by omega))) ?_
                              exact zw_zret hx hb hr hlk hP hS zd_Q_dayFits_269
                            · refine zi_iconst hx hb zd_Q_dayFits_264 ?_
                              refine lv_goto (tgt := 269) hx hb zd_Q_dayFits_265 (by decide) ?_
                              refine zb_as (x := qDF st wf fi sf hdf mo n) (by first | exact bI_t (by rw [qDF_r (fun q => q.elim (b2n c43) (b2n c61)) (by first | exact b2f c82 | exact fun _ => absurd c71 (by omega) | exact fun _ => absurd c67 (by omega)) (fun q => by first | exact absurd q.1 c95 | (rw [c113] at q; exact absurd q.2 (by decide))) (fun q => by first | exact q.2 c139 | exact absurd q.1 (by omega)), if_neg c157, if_neg c182, if_neg (fun q => q c196), if_pos c210]; exact decide_eq_true (by omega)) | exact bI_f (by rw [qDF_r (fun q => q.elim (b2n c43) (b2n c61)) (by first | exact b2f c82 | exact fun _ => absurd c71 (by omega) | exact fun _ => absurd c67 (by omega)) (fun q => by first | exact absurd q.1 c95 | (rw [c113] at q; exact absurd q.2 (by decide))) (fun q => by first | exact q.2 c139 | exact absurd q.1 (by omega)), if_neg c157, if_neg c182, if_neg (fun q => q c196), if_pos c210]; exact decide_eq_false (by omega)) | exact bI_t (by rw [qDF_r (fun q => q.elim (b2n c43) (b2n c61)) (by first | exact b2f c82 | exact fun _ => absurd c71 (by omega) | exact fun _ => absurd c67 (by omega)) (fun q => by first | exact absurd q.1 c95 | (rw [c113] at q; exact absurd q.2 (by decide))) (fun q => by first | exact q.2 c139 | exact absurd q.1 (by omega)), if_neg c157, if_neg c182, if_neg (fun q => q c196), if_neg c210]; exact decide_eq_true (by omega)) | exact bI_f (by rw [qDF_r (fun q => q.elim (b2n c43) (b2n c61)) (by first | exact b2f c82 | exact fun _ => absurd c71 (by omega) | exact fun _ => absurd c67 (by omega)) (fun q => by first | exact absurd q.1 c95 | (rw [c113] at q; exact absurd q.2 (by decide))) (fun q => by first | exact q.2 c139 | exact absurd q.1 (by omega)), if_neg c157, if_neg c182, if_neg (fun q => q c196), if_neg c210]; exact decide_eq_false (by omega))) ?_
                              exact zw_zret hx hb hr hlk hP hS zd_Q_dayFits_269
                          · refine lv_aload_n hx hb zd_Q_dayFits_213 rfl (lv_at hl 1 rfl) ?_
                            refine va_get (D := g.1) (ci := 5) (v := .int (iI (n - dM0 mo + 1))) (C := zR_Q) (T := zT_Q) (N := 21) hx hb hw zin_Q hown hK hP 0 rfl rfl 6 (by decide) (hw _ zw_3_204) (fun _ h9 => h9) rfl zd_Q_dayFits_214 ?_
                            refine zi_bipush hx hb zd_Q_dayFits_217 (by decide) ?_
                            refine zi_iadd hx hb zd_Q_dayFits_219 ?_
                            refine lv_aload_n hx hb zd_Q_dayFits_220 rfl (lv_at hl 1 rfl) ?_
                            refine va_get (D := g.1) (ci := 5) (v := .int (iI (1970 + mo / 12))) (C := zR_Q) (T := zT_Q) (N := 21) hx hb hw zin_Q hown hK hP 0 rfl rfl 4 (by decide) (hw _ zw_3_202) (fun _ h9 => h9) rfl zd_Q_dayFits_221 ?_
                            refine lv_aload_n hx hb zd_Q_dayFits_224 rfl (lv_at hl 1 rfl) ?_
                            refine va_get (D := g.1) (ci := 5) (v := .int (iI (mo % 12 + 1))) (C := zR_Q) (T := zT_Q) (N := 21) hx hb hw zin_Q hown hK hP 0 rfl rfl 5 (by decide) (hw _ zw_3_203) (fun _ h9 => h9) rfl zd_Q_dayFits_225 ?_
                            refine zk_S (As := [.int (iI (1970 + mo / 12)), .int (iI (mo % 12 + 1))]) (own := "CronFinderModel") (nL := 4) (rest := [.int (iI ((n - dM0 mo + 1) + 7))]) hx hb hml hown hw (c_Q_length l g (1970 + mo / 12) (mo % 12 + 1) (by omega)) zw_4_129 zw_4_130 zw_1_7 zw_4_131 (np := 2) (by decide +kernel) rfl (by decide) zN_mv hK trivial (hP.sub (ws' := []) [] rfl) hl.1 rfl (Nat.le_of_ble_eq_true rfl) (by decide) zd_Q_dayFits_228 ?_
                            have hq228 := dMl_rg (1970 + mo / 12) ((mo % 12 + 1) - 1)
                            refine zi_as (dM0 (mo + 1) - dM0 mo) (qL mo) ?_
                            refine zi_icmp_le (tgt := 238) hx hb zd_Q_dayFits_231 (by decide) (by omega) (fun c231 => ?_) (fun c231 => ?_)
                            · refine zi_iconst hx hb zd_Q_dayFits_238 ?_
                              refine lv_goto (tgt := 269) hx hb zd_Q_dayFits_239 (by decide) ?_
                              refine zb_as (x := qDF st wf fi sf hdf mo n) (by first | exact bI_t (by rw [qDF_r (fun q => q.elim (b2n c43) (b2n c61)) (by first | exact b2f c82 | exact fun _ => absurd c71 (by omega) | exact fun _ => absurd c67 (by omega)) (fun q => by first | exact absurd q.1 c95 | (rw [c113] at q; exact absurd q.2 (by decide))) (fun q => by first | exact q.2 c139 | exact absurd q.1 (by omega)), if_neg c157, if_neg c182, if_neg (fun q => q c196), if_pos c210]; exact decide_eq_true (by omega)) | exact bI_f (by rw [qDF_r (fun q => q.elim (b2n c43) (b2n c61)) (by first | exact b2f c82 | exact fun _ => absurd c71 (by omega) | exact fun _ => absurd c67 (by omega)) (fun q => by first | exact absurd q.1 c95 | (rw [c113] at q; exact absurd q.2 (by decide))) (fun q => by first | exact q.2 c139 | exact absurd q.1 (by omega)), if_neg c157, if_neg c182, if_neg (fun q => q c196), if_pos c210]; exact decide_eq_false (by omega)) | exact bI_t (by rw [qDF_r (fun q => q.elim (b2n c43) (b2n c61)) (by first | exact b2f c82 | exact fun _ => absurd c71 (by omega) | exact fun _ => absurd c67 (by omega)) (fun q => by first | exact absurd q.1 c95 | (rw [c113] at q; exact absurd q.2 (by decide))) (fun q => by first | exact q.2 c139 | exact absurd q.1 (by omega)), if_neg c157, if_neg c182, if_neg (fun q => q c196), if_neg c210]; exact decide_eq_true (by omega)) | exact bI_f (by rw [qDF_r (fun q => q.elim (b2n c43) (b2n c61)) (by first | exact b2f c82 | exact fun _ => absurd c71 (by omega) | exact fun _ => absurd c67 (by omega)) (fun q => by first | exact absurd q.1 c95 | (rw [c113] at q; exact absurd q.2 (by decide))) (fun q => by first | exact q.2 c139 | exact absurd q.1 (by omega)), if_neg c157, if_neg c182, if_neg (fun q => q c196), if_neg c210]; exact decide_eq_false (by omega))) ?_
                              exact zw_zret hx hb hr hlk hP hS zd_Q_dayFits_269
                            · refine zi_iconst hx hb zd_Q_dayFits_234 ?_
                              refine lv_goto (tgt := 269) hx hb zd_Q_dayFits_235 (by decide) ?_
                              refine zb_as (x := qDF st wf fi sf hdf mo n) (by first | exact bI_t (by rw [qDF_r (fun q => q.elim (b2n c43) (b2n c61)) (by first | exact b2f c82 | exact fun _ => absurd c71 (by omega) | exact fun _ => absurd c67 (by omega)) (fun q => by first | exact absurd q.1 c95 | (rw [c113] at q; exact absurd q.2 (by decide))) (fun q => by first | exact q.2 c139 | exact absurd q.1 (by omega)), if_neg c157, if_neg c182, if_neg (fun q => q c196), if_pos c210]; exact decide_eq_true (by omega)) | exact bI_f (by rw [qDF_r (fun q => q.elim (b2n c43) (b2n c61)) (by first | exact b2f c82 | exact fun _ => absurd c71 (by omega) | exact fun _ => absurd c67 (by omega)) (fun q => by first | exact absurd q.1 c95 | (rw [c113] at q; exact absurd q.2 (by decide))) (fun q => by first | exact q.2 c139 | exact absurd q.1 (by omega)), if_neg c157, if_neg c182, if_neg (fun q => q c196), if_pos c210]; exact decide_eq_false (by omega)) | exact bI_t (by rw [qDF_r (fun q => q.elim (b2n c43) (b2n c61)) (by first | exact b2f c82 | exact fun _ => absurd c71 (by omega) | exact fun _ => absurd c67 (by omega)) (fun q => by first | exact absurd q.1 c95 | (rw [c113] at q; exact absurd q.2 (by decide))) (fun q => by first | exact q.2 c139 | exact absurd q.1 (by omega)), if_neg c157, if_neg c182, if_neg (fun q => q c196), if_neg c210]; exact decide_eq_true (by omega)) | exact bI_f (by rw [qDF_r (fun q => q.elim (b2n c43) (b2n c61)) (by first | exact b2f c82 | exact fun _ => absurd c71 (by omega) | exact fun _ => absurd c67 (by omega)) (fun q => by first | exact absurd q.1 c95 | (rw [c113] at q; exact absurd q.2 (by decide))) (fun q => by first | exact q.2 c139 | exact absurd q.1 (by omega)), if_neg c157, if_neg c182, if_neg (fun q => q c196), if_neg c210]; exact decide_eq_false (by omega))) ?_
                              exact zw_zret hx hb hr hlk hP hS zd_Q_dayFits_269
                        · refine zi_iconst hx hb zd_Q_dayFits_199 ?_
                          refine zb_as (x := qDF st wf fi sf hdf mo n) (bI_f (by rw [qDF_r (fun q => q.elim (b2n c43) (b2n c61)) (by first | exact b2f c82 | exact fun _ => absurd c71 (by omega) | exact fun _ => absurd c67 (by omega)) (fun q => by first | exact absurd q.1 c95 | (rw [c113] at q; exact absurd q.2 (by decide))) (fun q => by first | exact q.2 c139 | exact absurd q.1 (by omega)), if_neg c157, if_neg c182, if_pos c196])) ?_
                          exact zw_zret hx hb hr hlk hP hS zd_Q_dayFits_200
                      · refine zi_iconst hx hb zd_Q_dayFits_185 ?_
                        refine zb_as (x := qDF st wf fi sf hdf mo n) (bI_t (by rw [qDF_r (fun q => q.elim (b2n c43) (b2n c61)) (by first | exact b2f c82 | exact fun _ => absurd c71 (by omega) | exact fun _ => absurd c67 (by omega)) (fun q => by first | exact absurd q.1 c95 | (rw [c113] at q; exact absurd q.2 (by decide))) (fun q => by first | exact q.2 c139 | exact absurd q.1 (by omega)), if_neg c157, if_pos c182])) ?_
                        exact zw_zret hx hb hr hlk hP hS zd_Q_dayFits_186
                    · refine lv_aload_n hx hb zd_Q_dayFits_160 rfl (lv_at hl 1 rfl) ?_
                      refine va_get (D := g.1) (ci := 5) (v := .ref (rf 1)) (C := zR_Q) (T := zT_Q) (N := 21) hx hb hw zin_Q hown hK hP 0 rfl rfl 8 (by decide) (hw _ zw_3_206) (fun _ h9 => h9) rfl zd_Q_dayFits_161 ?_
                      refine lv_iload_n hx hb zd_Q_dayFits_164 rfl (lv_at hl 2 rfl) ?_
                      refine zi_aald (k := 0) hx hb hK hP 1 6 rfl rfl (by omega) rfl zd_Q_dayFits_165 ?_
                      refine zi_iconst hx hb zd_Q_dayFits_166 ?_
                      refine zi_aald (k := 5) hx hb hK hP 2 5 rfl rfl (by omega) rfl zd_Q_dayFits_167 ?_
                      refine lv_iload_n hx hb zd_Q_dayFits_168 rfl (lv_at hl 0 rfl) ?_
                      refine zi_iconst hx hb zd_Q_dayFits_169 ?_
                      refine zi_isub hx hb zd_Q_dayFits_170 ?_
                      refine zi_zald hx hb hK hP 5 1 rfl rfl (by omega) zd_Q_dayFits_171 ?_
                      refine zb_eq (qDF st wf fi sf hdf mo n) (by rw [qDF_r (fun q => q.elim (b2n c43) (b2n c61)) (by first | exact b2f c82 | exact fun _ => absurd c71 (by omega) | exact fun _ => absurd c67 (by omega)) (fun q => by first | exact absurd q.1 c95 | (rw [c113] at q; exact absurd q.2 (by decide))) (fun q => by first | exact q.2 c139 | exact absurd q.1 (by omega)), if_pos c157]; congr 1; omega) ?_
                      exact zw_zret hx hb hr hlk hP hS zd_Q_dayFits_172
                  · refine lv_aload_n hx hb zd_Q_dayFits_130 rfl (lv_at hl 0 rfl) ?_
                    refine lv_iload_n hx hb zd_Q_dayFits_131 rfl (lv_at hl 1 rfl) ?_
                    refine zk_V (As := [.int (iI (0))]) (b := qq) (own := "CronFinderModel") (nL := 4) (rest := []) hx hb hml hown hw (c_Q_special1 l g qq rf (fl) (ln) (pl) 0 0 (n - dM0 mo + 1) (at0) (wa) (on) (tw) (hc) fa wya fi wf mo hmo hfi ⟨by omega, hwf.2⟩) zw_4_135 zw_4_137 zw_0_42 zw_1_7 zw_4_138 (np := 1) (by decide +kernel) rfl (by decide) zN_mv hK trivial (hP.sub (ws' := [(qq, .inr (5, [.int (iI (fl)), .ref (rf 0), .int (iI (ln)), .int (iI (pl)), .int (iI (1970 + mo / 12)), .int (iI (mo % 12 + 1)), .int (iI (n - dM0 mo + 1)), .int (iI (at0)), .ref (rf 1), .ref (rf 2), .ref (rf 3), .ref (rf 4), .ref (rf 5), .ref (rf 6), .int (iI (wa)), .int (iI (on)), .int (iI (tw)), .ref (rf 7), .ref (rf 8), .ref (rf 9), .int (iI (hc))])), (rf 5, .inl (g.2 7, 1, .inr (.inr (.inr (.inr (zaR fa)))))), (fa 0, .inl (g.2 0, 2, .inl (zaI fi))), (rf 4, .inl (g.2 7, 1, .inr (.inr (.inr (.inr (zaR wya)))))), (wya 0, .inl (g.2 0, 2, .inl (zaI wf)))]) [0, 9, 10, 7, 8] rfl) (va_recv hK hP (ci := 5) (q0 := 0) rfl rfl) hl.1 rfl (Nat.le_of_ble_eq_true rfl) (by decide) zd_Q_dayFits_132 ?_
                    have hsr := qSp_rg (way := wf 0) (v := fi 0) (L := dM0 (mo + 1) - dM0 mo) (B := dM0 mo) (by omega)
                    refine lv_aload_n hx hb zd_Q_dayFits_135 rfl (lv_at hl 0 rfl) ?_
                    refine va_get (D := g.1) (ci := 5) (v := .int (iI (n - dM0 mo + 1))) (C := zR_Q) (T := zT_Q) (N := 21) hx hb hw zin_Q hown hK hP 0 rfl rfl 6 (by decide) (hw _ zw_3_204) (fun _ h9 => h9) rfl zd_Q_dayFits_136 ?_
                    refine zi_icmp_eq (tgt := 144) hx hb zd_Q_dayFits_139 (by decide) (by omega) (fun c139 => ?_) (fun c139 => ?_)
                    · refine lv_iload_n hx hb zd_Q_dayFits_144 rfl (lv_at hl 2 rfl) ?_
                      refine zk_S (As := [.int (iI (n))]) (own := "CronFinderModel") (nL := 4) (rest := []) hx hb hml hown hw (c_Q_weekday l g (n) (by omega)) zw_4_139 zw_4_140 zw_1_7 zw_4_141 (np := 1) (by decide +kernel) rfl (by decide) zN_mv hK trivial (hP.sub (ws' := []) [] rfl) hl.1 rfl (Nat.le_of_ble_eq_true rfl) (by decide) zd_Q_dayFits_145 ?_
                      refine lv_istore_n (lv' := [(3, .int (iI ((n + 4) % 7 + 1))), (0, .ref (qq)), (1, .int (iI (0))), (2, .int (iI (n)))]) hx hb zd_Q_dayFits_148 rfl hl (by decide) rfl (fun ls hl => ?_)
                      refine lv_aload_n hx hb zd_Q_dayFits_149 rfl (lv_at hl 1 rfl) ?_
                      refine va_get (D := g.1) (ci := 5) (v := .ref (rf 4)) (C := zR_Q) (T := zT_Q) (N := 21) hx hb hw zin_Q hown hK hP 0 rfl rfl 11 (by decide) (hw _ zw_3_209) (fun _ h9 => h9) rfl zd_Q_dayFits_150 ?_
                      refine lv_iload_n hx hb zd_Q_dayFits_153 rfl (lv_at hl 2 rfl) ?_
                      refine zi_aald (k := 0) hx hb hK hP 7 7 rfl rfl (by omega) rfl zd_Q_dayFits_154 ?_
                      refine zi_iconst hx hb zd_Q_dayFits_155 ?_
                      refine zi_iald hx hb hK hP 8 0 rfl rfl (by omega) zd_Q_dayFits_156 ?_
                      refine zi_as (wf 1) rfl ?_
                      refine zi_if_ne (tgt := 173) hx hb zd_Q_dayFits_157 (by decide) (by omega) (fun c157 => ?_) (fun c157 => ?_)
                      · refine lv_aload_n hx hb zd_Q_dayFits_173 rfl (lv_at hl 1 rfl) ?_
                        refine va_get (D := g.1) (ci := 5) (v := .ref (rf 4)) (C := zR_Q) (T := zT_Q) (N := 21) hx hb hw zin_Q hown hK hP 0 rfl rfl 11 (by decide) (hw _ zw_3_209) (fun _ h9 => h9) rfl zd_Q_dayFits_174 ?_
                        refine lv_iload_n hx hb zd_Q_dayFits_177 rfl (lv_at hl 2 rfl) ?_
                        refine zi_aald (k := 0) hx hb hK hP 7 7 rfl rfl (by omega) rfl zd_Q_dayFits_178 ?_
                        refine zi_iconst hx hb zd_Q_dayFits_179 ?_
                        refine zi_iald hx hb hK hP 8 0 rfl rfl (by omega) zd_Q_dayFits_180 ?_
                        refine zi_as (wf 1) rfl ?_
                        refine zi_iconst hx hb zd_Q_dayFits_181 ?_
                        refine zi_icmp_ne (tgt := 187) hx hb zd_Q_dayFits_182 (by decide) (by omega) (fun c182 => ?_) (fun c182 => ?_)
                        · refine lv_iload_n hx hb zd_Q_dayFits_187 rfl (lv_at hl 0 rfl) ?_
                          refine lv_aload_n hx hb zd_Q_dayFits_188 rfl (lv_at hl 1 rfl) ?_
                          refine va_get (D := g.1) (ci := 5) (v := .ref (rf 5)) (C := zR_Q) (T := zT_Q) (N := 21) hx hb hw zin_Q hown hK hP 0 rfl rfl 12 (by decide) (hw _ zw_3_210) (fun _ h9 => h9) rfl zd_Q_dayFits_189 ?_
                          refine lv_iload_n hx hb zd_Q_dayFits_192 rfl (lv_at hl 2 rfl) ?_
                          refine zi_aald (k := 0) hx hb hK hP 9 7 rfl rfl (by omega) rfl zd_Q_dayFits_193 ?_
                          refine zi_iconst hx hb zd_Q_dayFits_194 ?_
                          refine zi_iald hx hb hK hP 10 0 rfl rfl (by omega) zd_Q_dayFits_195 ?_
                          refine zi_as (fi 1) rfl ?_
                          refine zi_icmp_eq (tgt := 201) hx hb zd_Q_dayFits_196 (by decide) (by omega) (fun c196 => ?_) (fun c196 => ?_)
                          · refine lv_aload_n hx hb zd_Q_dayFits_201 rfl (lv_at hl 1 rfl) ?_
                            refine va_get (D := g.1) (ci := 5) (v := .ref (rf 4)) (C := zR_Q) (T := zT_Q) (N := 21) hx hb hw zin_Q hown hK hP 0 rfl rfl 11 (by decide) (hw _ zw_3_209) (fun _ h9 => h9) rfl zd_Q_dayFits_202 ?_
                            refine lv_iload_n hx hb zd_Q_dayFits_205 rfl (lv_at hl 2 rfl) ?_
                            refine zi_aald (k := 0) hx hb hK hP 7 7 rfl rfl (by omega) rfl zd_Q_dayFits_206 ?_
                            refine zi_iconst hx hb zd_Q_dayFits_207 ?_
                            refine zi_iald hx hb hK hP 8 0 rfl rfl (by omega) zd_Q_dayFits_208 ?_
                            refine zi_as (wf 1) rfl ?_
                            refine zi_iconst hx hb zd_Q_dayFits_209 ?_
                            refine zi_icmp_ne (tgt := 242) hx hb zd_Q_dayFits_210 (by decide) (by omega) (fun c210 => ?_) (fun c210 => ?_)
                            · refine lv_aload_n hx hb zd_Q_dayFits_242 rfl (lv_at hl 1 rfl) ?_
                              refine va_get (D := g.1) (ci := 5) (v := .int (iI (n - dM0 mo + 1))) (C := zR_Q) (T := zT_Q) (N := 21) hx hb hw zin_Q hown hK hP 0 rfl rfl 6 (by decide) (hw _ zw_3_204) (fun _ h9 => h9) rfl zd_Q_dayFits_243 ?_
                              refine zi_iconst hx hb zd_Q_dayFits_246 ?_
                              refine zi_isub hx hb zd_Q_dayFits_247 ?_
                              refine zi_bipush hx hb zd_Q_dayFits_248 (by decide) ?_
                              refine zi_idiv hx hb zd_Q_dayFits_250 (by omega) ?_
                              refine zi_iconst hx hb zd_Q_dayFits_251 ?_
                              refine zi_iadd hx hb zd_Q_dayFits_252 ?_
                              refine lv_aload_n hx hb zd_Q_dayFits_253 rfl (lv_at hl 1 rfl) ?_
                              refine va_get (D := g.1) (ci := 5) (v := .ref (rf 6)) (C := zR_Q) (T := zT_Q) (N := 21) hx hb hw zin_Q hown hK hP 0 rfl rfl 13 (by decide) (hw _ zw_3_211) (fun _ h9 => h9) rfl zd_Q_dayFits_254 ?_
                              refine lv_iload_n hx hb zd_Q_dayFits_257 rfl (lv_at hl 2 rfl) ?_
                              refine zi_aald (k := 0) hx hb hK hP 11 7 rfl rfl (by omega) rfl zd_Q_dayFits_258 ?_
                              refine zi_iconst hx hb zd_Q_dayFits_259 ?_
                              refine zi_iald hx hb hK hP 12 0 rfl rfl (by omega) zd_Q_dayFits_260 ?_
                              refine zi_as (sf 1) rfl ?_
                              refine zi_icmp_ne (tgt := 268) hx hb zd_Q_dayFits_261 (by decide) (by omega) (fun c261 => ?_) (fun c261 => ?_)
                              · refine zi_iconst hx hb zd_Q_dayFits_268 ?_
                                refine zb_as (x := qDF st wf fi sf hdf mo n) (by first | exact bI_t (by rw [qDF_r (fun q => q.elim (b2n c43) (b2n c61)) (by first | exact b2f c82 | exact fun _ => absurd c71 (by omega) | exact fun _ => absurd c67 (by omega)) (fun q => by first | exact absurd q.1 c95 | (rw [c113] at q; exact absurd q.2 (by decide))) (fun q => by first | exact q.2 c139 | exact absurd q.1 (by omega)), if_neg c157, if_neg c182, if_neg (fun q => q c196), if_pos c210]; exact decide_eq_true (by omega)) | exact bI_f (by rw [qDF_r (fun q => q.elim (b2n c43) (b2n c61)) (by first | exact b2f c82 | exact fun _ => absurd c71 (by omega) | exact fun _ => absurd c67 (by omega)) (fun q => by first | exact absurd q.1 c95 | (rw [c113] at q; exact absurd q.2 (by decide))) (fun q => by first | exact q.2 c139 | exact absurd q.1 (by omega)), if_neg c157, if_neg c182, if_neg (fun q => q c196), if_pos c210]; exact decide_eq_false (by omega)) | exact bI_t (by rw [qDF_r (fun q => q.elim (b2n c43) (b2n c61)) (by first | exact b2f c82 | exact fun _ => absurd c71 (by omega) | exact fun _ => absurd c67 (by omega)) (fun q => by first | exact absurd q.1 c95 | (rw [c113] at q; exact absurd q.2 (by decide))) (fun q => by first | exact q.2 c139 | exact absurd q.1 (by omega)), if_neg c157, if_neg c182, if_neg (fun q => q c196), if_neg c210]; exact decide_eq_true (by omega)) | exact bI_f (by rw [qDF_r (fun q => q.elim (b2n c43) (b2n c61)) (by first | exact b2f c82 | exact fun _ => absurd c71 (by omega) | exact fun _ => absurd c67 (by omega)) (fun q => by first | exact absurd q.1 c95 | (rw [c113] at q; exact absurd q.2 (by decide))) (fun q => by first | exact q.2 c139 | exact absurd q.1 (by omega)), if_neg c157, if_neg c182, if_neg (fun q => q c196), if_neg c210]; exact decide_eq_false (by omega))) ?_
                                exact zw_zret hx hb hr hlk hP hS zd_Q_dayFits_269
                              · refine zi_iconst hx hb zd_Q_dayFits_264 ?_
                                refine lv_goto (tgt := 269) hx hb zd_Q_dayFits_265 (by decide) ?_
                                refine zb_as (x := qDF st wf fi sf hdf mo n) (by first | exact bI_t (by rw [qDF_r (fun q => q.elim (b2n c43) (b2n c61)) (by first | exact b2f c82 | exact fun _ => absurd c71 (by omega) | exact fun _ => absurd c67 (by omega)) (fun q => by first | exact absurd q.1 c95 | (rw [c113] at q; exact absurd q.2 (by decide))) (fun q => by first | exact q.2 c139 | exact absurd q.1 (by omega)), if_neg c157, if_neg c182, if_neg (fun q => q c196), if_pos c210]; exact decide_eq_true (by omega)) | exact bI_f (by rw [qDF_r (fun q => q.elim (b2n c43) (b2n c61)) (by first | exact b2f c82 | exact fun _ => absurd c71 (by omega) | exact fun _ => absurd c67 (by omega)) (fun q => by first | exact absurd q.1 c95 | (rw [c113] at q; exact absurd q.2 (by decide))) (fun q => by first | exact q.2 c139 | exact absurd q.1 (by omega)), if_neg c157, if_neg c182, if_neg (fun q => q c196), if_pos c210]; exact decide_eq_false (by omega)) | exact bI_t (by rw [qDF_r (fun q => q.elim (b2n c43) (b2n c61)) (by first | exact b2f c82 | exact fun _ => absurd c71 (by omega) | exact fun _ => absurd c67 (by omega)) (fun q => by first | exact absurd q.1 c95 | (rw [c113] at q; exact absurd q.2 (by decide))) (fun q => by first | exact q.2 c139 | exact absurd q.1 (by omega)), if_neg c157, if_neg c182, if_neg (fun q => q c196), if_neg c210]; exact decide_eq_true (by omega)) | exact bI_f (by rw [qDF_r (fun q => q.elim (b2n c43) (b2n c61)) (by first | exact b2f c82 | exact fun _ => absurd c71 (by omega) | exact fun _ => absurd c67 (by omega)) (fun q => by first | exact absurd q.1 c95 | (rw [c113] at q; exact absurd q.2 (by decide))) (fun q => by first | exact q.2 c139 | exact absurd q.1 (by omega)), if_neg c157, if_neg c182, if_neg (fun q => q c196), if_neg c210]; exact decide_eq_false (by omega))) ?_
                                exact zw_zret hx hb hr hlk hP hS zd_Q_dayFits_269
                            · refine lv_aload_n hx hb zd_Q_dayFits_213 rfl (lv_at hl 1 rfl) ?_
                              refine va_get (D := g.1) (ci := 5) (v := .int (iI (n - dM0 mo + 1))) (C := zR_Q) (T := zT_Q) (N := 21) hx hb hw zin_Q hown hK hP 0 rfl rfl 6 (by decide) (hw _ zw_3_204) (fun _ h9 => h9) rfl zd_Q_dayFits_214 ?_
                              refine zi_bipush hx hb zd_Q_dayFits_217 (by decide) ?_
                              refine zi_iadd hx hb zd_Q_dayFits_219 ?_
                              refine lv_aload_n hx hb zd_Q_dayFits_220 rfl (lv_at hl 1 rfl) ?_
                              refine va_get (D := g.1) (ci := 5) (v := .int (iI (1970 + mo / 12))) (C := zR_Q) (T := zT_Q) (N := 21) hx hb hw zin_Q hown hK hP 0 rfl rfl 4 (by decide) (hw _ zw_3_202) (fun _ h9 => h9) rfl zd_Q_dayFits_221 ?_
                              refine lv_aload_n hx hb zd_Q_dayFits_224 rfl (lv_at hl 1 rfl) ?_
                              refine va_get (D := g.1) (ci := 5) (v := .int (iI (mo % 12 + 1))) (C := zR_Q) (T := zT_Q) (N := 21) hx hb hw zin_Q hown hK hP 0 rfl rfl 5 (by decide) (hw _ zw_3_203) (fun _ h9 => h9) rfl zd_Q_dayFits_225 ?_
                              refine zk_S (As := [.int (iI (1970 + mo / 12)), .int (iI (mo % 12 + 1))]) (own := "CronFinderModel") (nL := 4) (rest := [.int (iI ((n - dM0 mo + 1) + 7))]) hx hb hml hown hw (c_Q_length l g (1970 + mo / 12) (mo % 12 + 1) (by omega)) zw_4_129 zw_4_130 zw_1_7 zw_4_131 (np := 2) (by decide +kernel) rfl (by decide) zN_mv hK trivial (hP.sub (ws' := []) [] rfl) hl.1 rfl (Nat.le_of_ble_eq_true rfl) (by decide) zd_Q_dayFits_228 ?_
                              have hq228 := dMl_rg (1970 + mo / 12) ((mo % 12 + 1) - 1)
                              refine zi_as (dM0 (mo + 1) - dM0 mo) (qL mo) ?_
                              refine zi_icmp_le (tgt := 238) hx hb zd_Q_dayFits_231 (by decide) (by omega) (fun c231 => ?_) (fun c231 => ?_)
                              · refine zi_iconst hx hb zd_Q_dayFits_238 ?_
                                refine lv_goto (tgt := 269) hx hb zd_Q_dayFits_239 (by decide) ?_
                                refine zb_as (x := qDF st wf fi sf hdf mo n) (by first | exact bI_t (by rw [qDF_r (fun q => q.elim (b2n c43) (b2n c61)) (by first | exact b2f c82 | exact fun _ => absurd c71 (by omega) | exact fun _ => absurd c67 (by omega)) (fun q => by first | exact absurd q.1 c95 | (rw [c113] at q; exact absurd q.2 (by decide))) (fun q => by first | exact q.2 c139 | exact absurd q.1 (by omega)), if_neg c157, if_neg c182, if_neg (fun q => q c196), if_pos c210]; exact decide_eq_true (by omega)) | exact bI_f (by rw [qDF_r (fun q => q.elim (b2n c43) (b2n c61)) (by first | exact b2f c82 | exact fun _ => absurd c71 (by omega) | exact fun _ => absurd c67 (by omega)) (fun q => by first | exact absurd q.1 c95 | (rw [c113] at q; exact absurd q.2 (by decide))) (fun q => by first | exact q.2 c139 | exact absurd q.1 (by omega)), if_neg c157, if_neg c182, if_neg (fun q => q c196), if_pos c210]; exact decide_eq_false (by omega)) | exact bI_t (by rw [qDF_r (fun q => q.elim (b2n c43) (b2n c61)) (by first | exact b2f c82 | exact fun _ => absurd c71 (by omega) | exact fun _ => absurd c67 (by omega)) (fun q => by first | exact absurd q.1 c95 | (rw [c113] at q; exact absurd q.2 (by decide))) (fun q => by first | exact q.2 c139 | exact absurd q.1 (by omega)), if_neg c157, if_neg c182, if_neg (fun q => q c196), if_neg c210]; exact decide_eq_true (by omega)) | exact bI_f (by rw [qDF_r (fun q => q.elim (b2n c43) (b2n c61)) (by first | exact b2f c82 | exact fun _ => absurd c71 (by omega) | exact fun _ => absurd c67 (by omega)) (fun q => by first | exact absurd q.1 c95 | (rw [c113] at q; exact absurd q.2 (by decide))) (fun q => by first | exact q.2 c139 | exact absurd q.1 (by omega)), if_neg c157, if_neg c182, if_neg (fun q => q c196), if_neg c210]; exact decide_eq_false (by omega))) ?_
                                exact zw_zret hx hb hr hlk hP hS zd_Q_dayFits_269
                              · refine zi_iconst hx hb zd_Q_dayFits_234 ?_
                                refine lv_goto (tgt := 269) hx hb zd_Q_dayFits_235 (by decide) ?_
                                refine zb_as (x := qDF st wf fi sf hdf mo n) (by first | exact bI_t (by rw [qDF_r (fun q => q.elim (b2n c43) (b2n c61)) (by first | exact b2f c82 | exact fun _ => absurd c71 (by omega) | exact fun _ => absurd c67 (by omega)) (fun q => by first | exact absurd q.1 c95 | (rw [c113] at q; exact absurd q.2 (by decide))) (fun q => by first | exact q.2 c139 | exact absurd q.1 (by omega)), if_neg c157, if_neg c182, if_neg (fun q => q c196), if_pos c210]; exact decide_eq_true (by omega)) | exact bI_f (by rw [qDF_r (fun q => q.elim (b2n c43) (b2n c61)) (by first | exact b2f c82 | exact fun _ => absurd c71 (by omega) | exact fun _ => absurd c67 (by omega)) (fun q => by first | exact absurd q.1 c95 | (rw [c113] at q; exact absurd q.2 (by decide))) (fun q => by first | exact q.2 c139 | exact absurd q.1 (by omega)), if_neg c157, if_neg c182, if_neg (fun q => q c196), if_pos c210]; exact decide_eq_false (by omega)) | exact bI_t (by rw [qDF_r (fun q => q.elim (b2n c43) (b2n c61)) (by first | exact b2f c82 | exact fun _ => absurd c71 (by omega) | exact fun _ => absurd c67 (by omega)) (fun q => by first | exact absurd q.1 c95 | (rw [c113] at q; exact absurd q.2 (by decide))) (fun q => by first | exact q.2 c139 | exact absurd q.1 (by omega)), if_neg c157, if_neg c182, if_neg (fun q => q c196), if_neg c210]; exact decide_eq_true (by omega)) | exact bI_f (by rw [qDF_r (fun q => q.elim (b2n c43) (b2n c61)) (by first | exact b2f c82 | exact fun _ => absurd c71 (by omega) | exact fun _ => absurd c67 (by omega)) (fun q => by first | exact absurd q.1 c95 | (rw [c113] at q; exact absurd q.2 (by decide))) (fun q => by first | exact q.2 c139 | exact absurd q.1 (by omega)), if_neg c157, if_neg c182, if_neg (fun q => q c196), if_neg c210]; exact decide_eq_false (by omega))) ?_
                                exact zw_zret hx hb hr hlk hP hS zd_Q_dayFits_269
                          · refine zi_iconst hx hb zd_Q_dayFits_199 ?_
                            refine zb_as (x := qDF st wf fi sf hdf mo n) (bI_f (by rw [qDF_r (fun q => q.elim (b2n c43) (b2n c61)) (by first | exact b2f c82 | exact fun _ => absurd c71 (by omega) | exact fun _ => absurd c67 (by omega)) (fun q => by first | exact absurd q.1 c95 | (rw [c113] at q; exact absurd q.2 (by decide))) (fun q => by first | exact q.2 c139 | exact absurd q.1 (by omega)), if_neg c157, if_neg c182, if_pos c196])) ?_
                            exact zw_zret hx hb hr hlk hP hS zd_Q_dayFits_200
                        · refine zi_iconst hx hb zd_Q_dayFits_185 ?_
                          refine zb_as (x := qDF st wf fi sf hdf mo n) (bI_t (by rw [qDF_r (fun q => q.elim (b2n c43) (b2n c61)) (by first | exact b2f c82 | exact fun _ => absurd c71 (by omega) | exact fun _ => absurd c67 (by omega)) (fun q => by first | exact absurd q.1 c95 | (rw [c113] at q; exact absurd q.2 (by decide))) (fun q => by first | exact q.2 c139 | exact absurd q.1 (by omega)), if_neg c157, if_pos c182])) ?_
                          exact zw_zret hx hb hr hlk hP hS zd_Q_dayFits_186
                      · refine lv_aload_n hx hb zd_Q_dayFits_160 rfl (lv_at hl 1 rfl) ?_
                        refine va_get (D := g.1) (ci := 5) (v := .ref (rf 1)) (C := zR_Q) (T := zT_Q) (N := 21) hx hb hw zin_Q hown hK hP 0 rfl rfl 8 (by decide) (hw _ zw_3_206) (fun _ h9 => h9) rfl zd_Q_dayFits_161 ?_
                        refine lv_iload_n hx hb zd_Q_dayFits_164 rfl (lv_at hl 2 rfl) ?_
                        refine zi_aald (k := 0) hx hb hK hP 1 6 rfl rfl (by omega) rfl zd_Q_dayFits_165 ?_
                        refine zi_iconst hx hb zd_Q_dayFits_166 ?_
                        refine zi_aald (k := 5) hx hb hK hP 2 5 rfl rfl (by omega) rfl zd_Q_dayFits_167 ?_
                        refine lv_iload_n hx hb zd_Q_dayFits_168 rfl (lv_at hl 0 rfl) ?_
                        refine zi_iconst hx hb zd_Q_dayFits_169 ?_
                        refine zi_isub hx hb zd_Q_dayFits_170 ?_
                        refine zi_zald hx hb hK hP 5 1 rfl rfl (by omega) zd_Q_dayFits_171 ?_
                        refine zb_eq (qDF st wf fi sf hdf mo n) (by rw [qDF_r (fun q => q.elim (b2n c43) (b2n c61)) (by first | exact b2f c82 | exact fun _ => absurd c71 (by omega) | exact fun _ => absurd c67 (by omega)) (fun q => by first | exact absurd q.1 c95 | (rw [c113] at q; exact absurd q.2 (by decide))) (fun q => by first | exact q.2 c139 | exact absurd q.1 (by omega)), if_pos c157]; congr 1; omega) ?_
                        exact zw_zret hx hb hr hlk hP hS zd_Q_dayFits_172
                    · refine zi_iconst hx hb zd_Q_dayFits_142 ?_
                      refine zb_as (x := qDF st wf fi sf hdf mo n) (bI_f (qDF_4 (fun q => q.elim (b2n c43) (b2n c61)) (by first | exact b2f c82 | exact fun _ => absurd c71 (by omega) | exact fun _ => absurd c67 (by omega)) (fun q => by first | exact absurd q.1 c95 | (rw [c113] at q; exact absurd q.2 (by decide))) ⟨by omega, c139⟩)) ?_
                      exact zw_zret hx hb hr hlk hP hS zd_Q_dayFits_143
                · refine zi_iconst hx hb zd_Q_dayFits_116 ?_
                  refine zb_as (x := qDF st wf fi sf hdf mo n) (bI_f (qDF_3 (fun q => q.elim (b2n c43) (b2n c61)) (by first | exact b2f c82 | exact fun _ => absurd c71 (by omega) | exact fun _ => absurd c67 (by omega)) ⟨c95, c113⟩)) ?_
                  exact zw_zret hx hb hr hlk hP hS zd_Q_dayFits_117
            · refine lv_aload_n hx hb zd_Q_dayFits_76 rfl (lv_at hl 0 rfl) ?_
              refine va_get (D := g.1) (ci := 5) (v := .ref (rf 9)) (C := zR_Q) (T := zT_Q) (N := 21) hx hb hw zin_Q hown hK hP 0 rfl rfl 19 (by decide) (hw _ zw_3_217) (fun _ h9 => h9) rfl zd_Q_dayFits_77 ?_
              refine lv_iload_n hx hb zd_Q_dayFits_80 rfl (lv_at hl 2 rfl) ?_
              refine zi_zald hx hb hK hP 13 1 rfl rfl (by omega) zd_Q_dayFits_81 ?_
              refine zb_eq (hdf n.toNat) (by first | rfl | (congr 1; omega)) ?_
              refine zb_if_eq (tgt := 87) hx hb zd_Q_dayFits_82 (by decide) (fun c82 => ?_) (fun c82 => ?_)
              · refine lv_aload_n hx hb zd_Q_dayFits_87 rfl (lv_at hl 0 rfl) ?_
                refine va_get (D := g.1) (ci := 5) (v := .ref (rf 4)) (C := zR_Q) (T := zT_Q) (N := 21) hx hb hw zin_Q hown hK hP 0 rfl rfl 11 (by decide) (hw _ zw_3_209) (fun _ h9 => h9) rfl zd_Q_dayFits_88 ?_
                refine lv_iload_n hx hb zd_Q_dayFits_91 rfl (lv_at hl 1 rfl) ?_
                refine zi_aald (k := 0) hx hb hK hP 7 7 rfl rfl (by omega) rfl zd_Q_dayFits_92 ?_
                refine zi_iconst hx hb zd_Q_dayFits_93 ?_
                refine zi_iald hx hb hK hP 8 0 rfl rfl (by omega) zd_Q_dayFits_94 ?_
                refine zi_as (wf 0) rfl ?_
                refine zi_if_ne (tgt := 118) hx hb zd_Q_dayFits_95 (by decide) (by omega) (fun c95 => ?_) (fun c95 => ?_)
                · refine lv_aload_n hx hb zd_Q_dayFits_118 rfl (lv_at hl 0 rfl) ?_
                  refine va_get (D := g.1) (ci := 5) (v := .ref (rf 4)) (C := zR_Q) (T := zT_Q) (N := 21) hx hb hw zin_Q hown hK hP 0 rfl rfl 11 (by decide) (hw _ zw_3_209) (fun _ h9 => h9) rfl zd_Q_dayFits_119 ?_
                  refine lv_iload_n hx hb zd_Q_dayFits_122 rfl (lv_at hl 1 rfl) ?_
                  refine zi_aald (k := 0) hx hb hK hP 7 7 rfl rfl (by omega) rfl zd_Q_dayFits_123 ?_
                  refine zi_iconst hx hb zd_Q_dayFits_124 ?_
                  refine zi_iald hx hb hK hP 8 0 rfl rfl (by omega) zd_Q_dayFits_125 ?_
                  refine zi_as (wf 0) rfl ?_
                  refine zi_iconst hx hb zd_Q_dayFits_126 ?_
                  refine zi_icmp_le (tgt := 144) hx hb zd_Q_dayFits_127 (by decide) (by omega) (fun c127 => ?_) (fun c127 => ?_)
                  · refine lv_iload_n hx hb zd_Q_dayFits_144 rfl (lv_at hl 2 rfl) ?_
                    refine zk_S (As := [.int (iI (n))]) (own := "CronFinderModel") (nL := 4) (rest := []) hx hb hml hown hw (c_Q_weekday l g (n) (by omega)) zw_4_139 zw_4_140 zw_1_7 zw_4_141 (np := 1) (by decide +kernel) rfl (by decide) zN_mv hK trivial (hP.sub (ws' := []) [] rfl) hl.1 rfl (Nat.le_of_ble_eq_true rfl) (by decide) zd_Q_dayFits_145 ?_
                    refine lv_istore_n (lv' := [(3, .int (iI ((n + 4) % 7 + 1))), (0, .ref (qq)), (1, .int (iI (0))), (2, .int (iI (n)))]) hx hb zd_Q_dayFits_148 rfl hl (by decide) rfl (fun ls hl => ?_)
                    refine lv_aload_n hx hb zd_Q_dayFits_149 rfl (lv_at hl 1 rfl) ?_
                    refine va_get (D := g.1) (ci := 5) (v := .ref (rf 4)) (C := zR_Q) (T := zT_Q) (N := 21) hx hb hw zin_Q hown hK hP 0 rfl rfl 11 (by decide) (hw _ zw_3_209) (fun _ h9 => h9) rfl zd_Q_dayFits_150 ?_
                    refine lv_iload_n hx hb zd_Q_dayFits_153 rfl (lv_at hl 2 rfl) ?_
                    refine zi_aald (k := 0) hx hb hK hP 7 7 rfl rfl (by omega) rfl zd_Q_dayFits_154 ?_
                    refine zi_iconst hx hb zd_Q_dayFits_155 ?_
                    refine zi_iald hx hb hK hP 8 0 rfl rfl (by omega) zd_Q_dayFits_156 ?_
                    refine zi_as (wf 1) rfl ?_
                    refine zi_if_ne (tgt := 173) hx hb zd_Q_dayFits_157 (by decide) (by omega) (fun c157 => ?_) (fun c157 => ?_)
                    · refine lv_aload_n hx hb zd_Q_dayFits_173 rfl (lv_at hl 1 rfl) ?_
                      refine va_get (D := g.1) (ci := 5) (v := .ref (rf 4)) (C := zR_Q) (T := zT_Q) (N := 21) hx hb hw zin_Q hown hK hP 0 rfl rfl 11 (by decide) (hw _ zw_3_209) (fun _ h9 => h9) rfl zd_Q_dayFits_174 ?_
                      refine lv_iload_n hx hb zd_Q_dayFits_177 rfl (lv_at hl 2 rfl) ?_
                      refine zi_aald (k := 0) hx hb hK hP 7 7 rfl rfl (by omega) rfl zd_Q_dayFits_178 ?_
                      refine zi_iconst hx hb zd_Q_dayFits_179 ?_
                      refine zi_iald hx hb hK hP 8 0 rfl rfl (by omega) zd_Q_dayFits_180 ?_
                      refine zi_as (wf 1) rfl ?_
                      refine zi_iconst hx hb zd_Q_dayFits_181 ?_
                      refine zi_icmp_ne (tgt := 187) hx hb zd_Q_dayFits_182 (by decide) (by omega) (fun c182 => ?_) (fun c182 => ?_)
                      · refine lv_iload_n hx hb zd_Q_dayFits_187 rfl (lv_at hl 0 rfl) ?_
                        refine lv_aload_n hx hb zd_Q_dayFits_188 rfl (lv_at hl 1 rfl) ?_
                        refine va_get (D := g.1) (ci := 5) (v := .ref (rf 5)) (C := zR_Q) (T := zT_Q) (N := 21) hx hb hw zin_Q hown hK hP 0 rfl rfl 12 (by decide) (hw _ zw_3_210) (fun _ h9 => h9) rfl zd_Q_dayFits_189 ?_
                        refine lv_iload_n hx hb zd_Q_dayFits_192 rfl (lv_at hl 2 rfl) ?_
                        refine zi_aald (k := 0) hx hb hK hP 9 7 rfl rfl (by omega) rfl zd_Q_dayFits_193 ?_
                        refine zi_iconst hx hb zd_Q_dayFits_194 ?_
                        refine zi_iald hx hb hK hP 10 0 rfl rfl (by omega) zd_Q_dayFits_195 ?_
                        refine zi_as (fi 1) rfl ?_
                        refine zi_icmp_eq (tgt := 201) hx hb zd_Q_dayFits_196 (by decide) (by omega) (fun c196 => ?_) (fun c196 => ?_)
                        · refine lv_aload_n hx hb zd_Q_dayFits_201 rfl (lv_at hl 1 rfl) ?_
                          refine va_get (D := g.1) (ci := 5) (v := .ref (rf 4)) (C := zR_Q) (T := zT_Q) (N := 21) hx hb hw zin_Q hown hK hP 0 rfl rfl 11 (by decide) (hw _ zw_3_209) (fun _ h9 => h9) rfl zd_Q_dayFits_202 ?_
                          refine lv_iload_n hx hb zd_Q_dayFits_205 rfl (lv_at hl 2 rfl) ?_
                          refine zi_aald (k := 0) hx hb hK hP 7 7 rfl rfl (by omega) rfl zd_Q_dayFits_206 ?_
                          refine zi_iconst hx hb zd_Q_dayFits_207 ?_
                          refine zi_iald hx hb hK hP 8 0 rfl rfl (by omega) zd_Q_dayFits_208 ?_
                          refine zi_as (wf 1) rfl ?_
                          refine zi_iconst hx hb zd_Q_dayFits_209 ?_
                          refine zi_icmp_ne (tgt := 242) hx hb zd_Q_dayFits_210 (by decide) (by omega) (fun c210 => ?_) (fun c210 => ?_)
                          · refine lv_aload_n hx hb zd_Q_dayFits_242 rfl (lv_at hl 1 rfl) ?_
                            refine va_get (D := g.1) (ci := 5) (v := .int (iI (n - dM0 mo + 1))) (C := zR_Q) (T := zT_Q) (N := 21) hx hb hw zin_Q hown hK hP 0 rfl rfl 6 (by decide) (hw _ zw_3_204) (fun _ h9 => h9) rfl zd_Q_dayFits_243 ?_
                            refine zi_iconst hx hb zd_Q_dayFits_246 ?_
                            refine zi_isub hx hb zd_Q_dayFits_247 ?_
                            refine zi_bipush hx hb zd_Q_dayFits_248 (by decide) ?_
                            refine zi_idiv hx hb zd_Q_dayFits_250 (by omega) ?_
                            refine zi_iconst hx hb zd_Q_dayFits_251 ?_
                            refine zi_iadd hx hb zd_Q_dayFits_252 ?_
                            refine lv_aload_n hx hb zd_Q_dayFits_253 rfl (lv_at hl 1 rfl) ?_
                            refine va_get (D := g.1) (ci := 5) (v := .ref (rf 6)) (C := zR_Q) (T := zT_Q) (N := 21) hx hb hw zin_Q hown hK hP 0 rfl rfl 13 (by decide) (hw _ zw_3_211) (fun _ h9 => h9) rfl zd_Q_dayFits_254 ?_
                            refine lv_iload_n hx hb zd_Q_dayFits_257 rfl (lv_at hl 2 rfl) ?_
                            refine zi_aald (k := 0) hx hb hK hP 11 7 rfl rfl (by omega) rfl zd_Q_dayFits_258 ?_
                            refine zi_iconst hx hb zd_Q_dayFits_259 ?_
                            refine zi_iald hx hb hK hP 12 0 rfl rfl (by omega) zd_Q_dayFits_260 ?_
                            refine zi_as (sf 1) rfl ?_
                            refine zi_icmp_ne (tgt := 268) hx hb zd_Q_dayFits_261 (by decide) (by omega) (fun c261 => ?_) (fun c261 => ?_)
                            · refine zi_iconst hx hb zd_Q_dayFits_268 ?_
                              refine zb_as (x := qDF st wf fi sf hdf mo n) (by first | exact bI_t (by rw [qDF_r (fun q => q.elim (b2n c43) (b2n c61)) (by first | exact b2f c82 | exact fun _ => absurd c71 (by omega) | exact fun _ => absurd c67 (by omega)) (fun q => by first | exact absurd q.1 c95 | (rw [c113] at q; exact absurd q.2 (by decide))) (fun q => by first | exact q.2 c139 | exact absurd q.1 (by omega)), if_neg c157, if_neg c182, if_neg (fun q => q c196), if_pos c210]; exact decide_eq_true (by omega)) | exact bI_f (by rw [qDF_r (fun q => q.elim (b2n c43) (b2n c61)) (by first | exact b2f c82 | exact fun _ => absurd c71 (by omega) | exact fun _ => absurd c67 (by omega)) (fun q => by first | exact absurd q.1 c95 | (rw [c113] at q; exact absurd q.2 (by decide))) (fun q => by first | exact q.2 c139 | exact absurd q.1 (by omega)), if_neg c157, if_neg c182, if_neg (fun q => q c196), if_pos c210]; exact decide_eq_false (by omega)) | exact bI_t (by rw [qDF_r (fun q => q.elim (b2n c43) (b2n c61)) (by first | exact b2f c82 | exact fun _ => absurd c71 (by omega) | exact fun _ => absurd c67 (by omega)) (fun q => by first | exact absurd q.1 c95 | (rw [c113] at q; exact absurd q.2 (by decide))) (fun q => by first | exact q.2 c139 | exact absurd q.1 (by omega)), if_neg c157, if_neg c182, if_neg (fun q => q c196), if_neg c210]; exact decide_eq_true (by omega)) | exact bI_f (by rw [qDF_r (fun q => q.elim (b2n c43) (b2n c61)) (by first | exact b2f c82 | exact fun _ => absurd c71 (by omega) | exact fun _ => absurd c67 (by omega)) (fun q => by first | exact absurd q.1 c95 | (rw [c113] at q; exact absurd q.2 (by decide))) (fun q => by first | exact q.2 c139 | exact absurd q.1 (by omega)), if_neg c157, if_neg c182, if_neg (fun q => q c196), if_neg c210]; exact decide_eq_false (by omega))) ?_
                              exact zw_zret hx hb hr hlk hP hS zd_Q_dayFits_269
                            · refine zi_iconst hx hb zd_Q_dayFits_264 ?_
                              refine lv_goto (tgt := 269) hx hb zd_Q_dayFits_265 (by decide) ?_
                              refine zb_as (x := qDF st wf fi sf hdf mo n) (by first | exact bI_t (by rw [qDF_r (fun q => q.elim (b2n c43) (b2n c61)) (by first | exact b2f c82 | exact fun _ => absurd c71 (by omega) | exact fun _ => absurd c67 (by omega)) (fun q => by first | exact absurd q.1 c95 | (rw [c113] at q; exact absurd q.2 (by decide))) (fun q => by first | exact q.2 c139 | exact absurd q.1 (by omega)), if_neg c157, if_neg c182, if_neg (fun q => q c196), if_pos c210]; exact decide_eq_true (by omega)) | exact bI_f (by rw [qDF_r (fun q => q.elim (b2n c43) (b2n c61)) (by first | exact b2f c82 | exact fun _ => absurd c71 (by omega) | exact fun _ => absurd c67 (by omega)) (fun q => by first | exact absurd q.1 c95 | (rw [c113] at q; exact absurd q.2 (by decide))) (fun q => by first | exact q.2 c139 | exact absurd q.1 (by omega)), if_neg c157, if_neg c182, if_neg (fun q => q c196), if_pos c210]; exact decide_eq_false (by omega)) | exact bI_t (by rw [qDF_r (fun q => q.elim (b2n c43) (b2n c61)) (by first | exact b2f c82 | exact fun _ => absurd c71 (by omega) | exact fun _ => absurd c67 (by omega)) (fun q => by first | exact absurd q.1 c95 | (rw [c113] at q; exact absurd q.2 (by decide))) (fun q => by first | exact q.2 c139 | exact absurd q.1 (by omega)), if_neg c157, if_neg c182, if_neg (fun q => q c196), if_neg c210]; exact decide_eq_true (by omega)) | exact bI_f (by rw [qDF_r (fun q => q.elim (b2n c43) (b2n c61)) (by first | exact b2f c82 | exact fun _ => absurd c71 (by omega) | exact fun _ => absurd c67 (by omega)) (fun q => by first | exact absurd q.1 c95 | (rw [c113] at q; exact absurd q.2 (by decide))) (fun q => by first | exact q.2 c139 | exact absurd q.1 (by omega)), if_neg c157, if_neg c182, if_neg (fun q => q c196), if_neg c210]; exact decide_eq_false (by omega))) ?_
                              exact zw_zret hx hb hr hlk hP hS zd_Q_dayFits_269
                          · refine lv_aload_n hx hb zd_Q_dayFits_213 rfl (lv_at hl 1 rfl) ?_
                            refine va_get (D := g.1) (ci := 5) (v := .int (iI (n - dM0 mo + 1))) (C := zR_Q) (T := zT_Q) (N := 21) hx hb hw zin_Q hown hK hP 0 rfl rfl 6 (by decide) (hw _ zw_3_204) (fun _ h9 => h9) rfl zd_Q_dayFits_214 ?_
                            refine zi_bipush hx hb zd_Q_dayFits_217 (by decide) ?_
                            refine zi_iadd hx hb zd_Q_dayFits_219 ?_
                            refine lv_aload_n hx hb zd_Q_dayFits_220 rfl (lv_at hl 1 rfl) ?_
                            refine va_get (D := g.1) (ci := 5) (v := .int (iI (1970 + mo / 12))) (C := zR_Q) (T := zT_Q) (N := 21) hx hb hw zin_Q hown hK hP 0 rfl rfl 4 (by decide) (hw _ zw_3_202) (fun _ h9 => h9) rfl zd_Q_dayFits_221 ?_
                            refine lv_aload_n hx hb zd_Q_dayFits_224 rfl (lv_at hl 1 rfl) ?_
                            refine va_get (D := g.1) (ci := 5) (v := .int (iI (mo % 12 + 1))) (C := zR_Q) (T := zT_Q) (N := 21) hx hb hw zin_Q hown hK hP 0 rfl rfl 5 (by decide) (hw _ zw_3_203) (fun _ h9 => h9) rfl zd_Q_dayFits_225 ?_
                            refine zk_S (As := [.int (iI (1970 + mo / 12)), .int (iI (mo % 12 + 1))]) (own := "CronFinderModel") (nL := 4) (rest := [.int (iI ((n - dM0 mo + 1) + 7))]) hx hb hml hown hw (c_Q_length l g (1970 + mo / 12) (mo % 12 + 1) (by omega)) zw_4_129 zw_4_130 zw_1_7 zw_4_131 (np := 2) (by decide +kernel) rfl (by decide) zN_mv hK trivial (hP.sub (ws' := []) [] rfl) hl.1 rfl (Nat.le_of_ble_eq_true rfl) (by decide) zd_Q_dayFits_228 ?_
                            have hq228 := dMl_rg (1970 + mo / 12) ((mo % 12 + 1) - 1)
                            refine zi_as (dM0 (mo + 1) - dM0 mo) (qL mo) ?_
                            refine zi_icmp_le (tgt := 238) hx hb zd_Q_dayFits_231 (by decide) (by omega) (fun c231 => ?_) (fun c231 => ?_)
                            · refine zi_iconst hx hb zd_Q_dayFits_238 ?_
                              refine lv_goto (tgt := 269) hx hb zd_Q_dayFits_239 (by decide) ?_
                              refine zb_as (x := qDF st wf fi sf hdf mo n) (by first | exact bI_t (by rw [qDF_r (fun q => q.elim (b2n c43) (b2n c61)) (by first | exact b2f c82 | exact fun _ => absurd c71 (by omega) | exact fun _ => absurd c67 (by omega)) (fun q => by first | exact absurd q.1 c95 | (rw [c113] at q; exact absurd q.2 (by decide))) (fun q => by first | exact q.2 c139 | exact absurd q.1 (by omega)), if_neg c157, if_neg c182, if_neg (fun q => q c196), if_pos c210]; exact decide_eq_true (by omega)) | exact bI_f (by rw [qDF_r (fun q => q.elim (b2n c43) (b2n c61)) (by first | exact b2f c82 | exact fun _ => absurd c71 (by omega) | exact fun _ => absurd c67 (by omega)) (fun q => by first | exact absurd q.1 c95 | (rw [c113] at q; exact absurd q.2 (by decide))) (fun q => by first | exact q.2 c139 | exact absurd q.1 (by omega)), if_neg c157, if_neg c182, if_neg (fun q => q c196), if_pos c210]; exact decide_eq_false (by omega)) | exact bI_t (by rw [qDF_r (fun q => q.elim (b2n c43) (b2n c61)) (by first | exact b2f c82 | exact fun _ => absurd c71 (by omega) | exact fun _ => absurd c67 (by omega)) (fun q => by first | exact absurd q.1 c95 | (rw [c113] at q; exact absurd q.2 (by decide))) (fun q => by first | exact q.2 c139 | exact absurd q.1 (by omega)), if_neg c157, if_neg c182, if_neg (fun q => q c196), if_neg c210]; exact decide_eq_true (by omega)) | exact bI_f (by rw [qDF_r (fun q => q.elim (b2n c43) (b2n c61)) (by first | exact b2f c82 | exact fun _ => absurd c71 (by omega) | exact fun _ => absurd c67 (by omega)) (fun q => by first | exact absurd q.1 c95 | (rw [c113] at q; exact absurd q.2 (by decide))) (fun q => by first | exact q.2 c139 | exact absurd q.1 (by omega)), if_neg c157, if_neg c182, if_neg (fun q => q c196), if_neg c210]; exact decide_eq_false (by omega))) ?_
                              exact zw_zret hx hb hr hlk hP hS zd_Q_dayFits_269
                            · refine zi_iconst hx hb zd_Q_dayFits_234 ?_
                              refine lv_goto (tgt := 269) hx hb zd_Q_dayFits_235 (by decide) ?_
                              refine zb_as (x := qDF st wf fi sf hdf mo n) (by first | exact bI_t (by rw [qDF_r (fun q => q.elim (b2n c43) (b2n c61)) (by first | exact b2f c82 | exact fun _ => absurd c71 (by omega) | exact fun _ => absurd c67 (by omega)) (fun q => by first | exact absurd q.1 c95 | (rw [c113] at q; exact absurd q.2 (by decide))) (fun q => by first | exact q.2 c139 | exact absurd q.1 (by omega)), if_neg c157, if_neg c182, if_neg (fun q => q c196), if_pos c210]; exact decide_eq_true (by omega)) | exact bI_f (by rw [qDF_r (fun q => q.elim (b2n c43) (b2n c61)) (by first | exact b2f c82 | exact fun _ => absurd c71 (by omega) | exact fun _ => absurd c67 (by omega)) (fun q => by first | exact absurd q.1 c95 | (rw [c113] at q; exact absurd q.2 (by decide))) (fun q => by first | exact q.2 c139 | exact absurd q.1 (by omega)), if_neg c157, if_neg c182, if_neg (fun q => q c196), if_pos c210]; exact decide_eq_false (by omega)) | exact bI_t (by rw [qDF_r (fun q => q.elim (b2n c43) (b2n c61)) (by first | exact b2f c82 | exact fun _ => absurd c71 (by omega) | exact fun _ => absurd c67 (by omega)) (fun q => by first | exact absurd q.1 c95 | (rw [c113] at q; exact absurd q.2 (by decide))) (fun q => by first | exact q.2 c139 | exact absurd q.1 (by omega)), if_neg c157, if_neg c182, if_neg (fun q => q c196), if_neg c210]; exact decide_eq_true (by omega)) | exact bI_f (by rw [qDF_r (fun q => q.elim (b2n c43) (b2n c61)) (by first | exact b2f c82 | exact fun _ => absurd c71 (by omega) | exact fun _ => absurd c67 (by omega)) (fun q => by first | exact absurd q.1 c95 | (rw [c113] at q; exact absurd q.2 (by decide))) (fun q => by first | exact q.2 c139 | exact absurd q.1 (by omega)), if_neg c157, if_neg c182, if_neg (fun q => q c196), if_neg c210]; exact decide_eq_false (by omega))) ?_
                              exact zw_zret hx hb hr hlk hP hS zd_Q_dayFits_269
                        · refine zi_iconst hx hb zd_Q_dayFits_199 ?_
                          refine zb_as (x := qDF st wf fi sf hdf mo n) (bI_f (by rw [qDF_r (fun q => q.elim (b2n c43) (b2n c61)) (by first | exact b2f c82 | exact fun _ => absurd c71 (by omega) | exact fun _ => absurd c67 (by omega)) (fun q => by first | exact absurd q.1 c95 | (rw [c113] at q; exact absurd q.2 (by decide))) (fun q => by first | exact q.2 c139 | exact absurd q.1 (by omega)), if_neg c157, if_neg c182, if_pos c196])) ?_
                          exact zw_zret hx hb hr hlk hP hS zd_Q_dayFits_200
                      · refine zi_iconst hx hb zd_Q_dayFits_185 ?_
                        refine zb_as (x := qDF st wf fi sf hdf mo n) (bI_t (by rw [qDF_r (fun q => q.elim (b2n c43) (b2n c61)) (by first | exact b2f c82 | exact fun _ => absurd c71 (by omega) | exact fun _ => absurd c67 (by omega)) (fun q => by first | exact absurd q.1 c95 | (rw [c113] at q; exact absurd q.2 (by decide))) (fun q => by first | exact q.2 c139 | exact absurd q.1 (by omega)), if_neg c157, if_pos c182])) ?_
                        exact zw_zret hx hb hr hlk hP hS zd_Q_dayFits_186
                    · refine lv_aload_n hx hb zd_Q_dayFits_160 rfl (lv_at hl 1 rfl) ?_
                      refine va_get (D := g.1) (ci := 5) (v := .ref (rf 1)) (C := zR_Q) (T := zT_Q) (N := 21) hx hb hw zin_Q hown hK hP 0 rfl rfl 8 (by decide) (hw _ zw_3_206) (fun _ h9 => h9) rfl zd_Q_dayFits_161 ?_
                      refine lv_iload_n hx hb zd_Q_dayFits_164 rfl (lv_at hl 2 rfl) ?_
                      refine zi_aald (k := 0) hx hb hK hP 1 6 rfl rfl (by omega) rfl zd_Q_dayFits_165 ?_
                      refine zi_iconst hx hb zd_Q_dayFits_166 ?_
                      refine zi_aald (k := 5) hx hb hK hP 2 5 rfl rfl (by omega) rfl zd_Q_dayFits_167 ?_
                      refine lv_iload_n hx hb zd_Q_dayFits_168 rfl (lv_at hl 0 rfl) ?_
                      refine zi_iconst hx hb zd_Q_dayFits_169 ?_
                      refine zi_isub hx hb zd_Q_dayFits_170 ?_
                      refine zi_zald hx hb hK hP 5 1 rfl rfl (by omega) zd_Q_dayFits_171 ?_
                      refine zb_eq (qDF st wf fi sf hdf mo n) (by rw [qDF_r (fun q => q.elim (b2n c43) (b2n c61)) (by first | exact b2f c82 | exact fun _ => absurd c71 (by omega) | exact fun _ => absurd c67 (by omega)) (fun q => by first | exact absurd q.1 c95 | (rw [c113] at q; exact absurd q.2 (by decide))) (fun q => by first | exact q.2 c139 | exact absurd q.1 (by omega)), if_pos c157]; congr 1; omega) ?_
                      exact zw_zret hx hb hr hlk hP hS zd_Q_dayFits_172
                  · refine lv_aload_n hx hb zd_Q_dayFits_130 rfl (lv_at hl 0 rfl) ?_
                    refine lv_iload_n hx hb zd_Q_dayFits_131 rfl (lv_at hl 1 rfl) ?_
                    refine zk_V (As := [.int (iI (0))]) (b := qq) (own := "CronFinderModel") (nL := 4) (rest := []) hx hb hml hown hw (c_Q_special1 l g qq rf (fl) (ln) (pl) 0 0 (n - dM0 mo + 1) (at0) (wa) (on) (tw) (hc) fa wya fi wf mo hmo hfi ⟨by omega, hwf.2⟩) zw_4_135 zw_4_137 zw_0_42 zw_1_7 zw_4_138 (np := 1) (by decide +kernel) rfl (by decide) zN_mv hK trivial (hP.sub (ws' := [(qq, .inr (5, [.int (iI (fl)), .ref (rf 0), .int (iI (ln)), .int (iI (pl)), .int (iI (1970 + mo / 12)), .int (iI (mo % 12 + 1)), .int (iI (n - dM0 mo + 1)), .int (iI (at0)), .ref (rf 1), .ref (rf 2), .ref (rf 3), .ref (rf 4), .ref (rf 5), .ref (rf 6), .int (iI (wa)), .int (iI (on)), .int (iI (tw)), .ref (rf 7), .ref (rf 8), .ref (rf 9), .int (iI (hc))])), (rf 5, .inl (g.2 7, 1, .inr (.inr (.inr (.inr (zaR fa)))))), (fa 0, .inl (g.2 0, 2, .inl (zaI fi))), (rf 4, .inl (g.2 7, 1, .inr (.inr (.inr (.inr (zaR wya)))))), (wya 0, .inl (g.2 0, 2, .inl (zaI wf)))]) [0, 9, 10, 7, 8] rfl) (va_recv hK hP (ci := 5) (q0 := 0) rfl rfl) hl.1 rfl (Nat.le_of_ble_eq_true rfl) (by decide) zd_Q_dayFits_132 ?_
                    have hsr := qSp_rg (way := wf 0) (v := fi 0) (L := dM0 (mo + 1) - dM0 mo) (B := dM0 mo) (by omega)
                    refine lv_aload_n hx hb zd_Q_dayFits_135 rfl (lv_at hl 0 rfl) ?_
                    refine va_get (D := g.1) (ci := 5) (v := .int (iI (n - dM0 mo + 1))) (C := zR_Q) (T := zT_Q) (N := 21) hx hb hw zin_Q hown hK hP 0 rfl rfl 6 (by decide) (hw _ zw_3_204) (fun _ h9 => h9) rfl zd_Q_dayFits_136 ?_
                    refine zi_icmp_eq (tgt := 144) hx hb zd_Q_dayFits_139 (by decide) (by omega) (fun c139 => ?_) (fun c139 => ?_)
                    · refine lv_iload_n hx hb zd_Q_dayFits_144 rfl (lv_at hl 2 rfl) ?_
                      refine zk_S (As := [.int (iI (n))]) (own := "CronFinderModel") (nL := 4) (rest := []) hx hb hml hown hw (c_Q_weekday l g (n) (by omega)) zw_4_139 zw_4_140 zw_1_7 zw_4_141 (np := 1) (by decide +kernel) rfl (by decide) zN_mv hK trivial (hP.sub (ws' := []) [] rfl) hl.1 rfl (Nat.le_of_ble_eq_true rfl) (by decide) zd_Q_dayFits_145 ?_
                      refine lv_istore_n (lv' := [(3, .int (iI ((n + 4) % 7 + 1))), (0, .ref (qq)), (1, .int (iI (0))), (2, .int (iI (n)))]) hx hb zd_Q_dayFits_148 rfl hl (by decide) rfl (fun ls hl => ?_)
                      refine lv_aload_n hx hb zd_Q_dayFits_149 rfl (lv_at hl 1 rfl) ?_
                      refine va_get (D := g.1) (ci := 5) (v := .ref (rf 4)) (C := zR_Q) (T := zT_Q) (N := 21) hx hb hw zin_Q hown hK hP 0 rfl rfl 11 (by decide) (hw _ zw_3_209) (fun _ h9 => h9) rfl zd_Q_dayFits_150 ?_
                      refine lv_iload_n hx hb zd_Q_dayFits_153 rfl (lv_at hl 2 rfl) ?_
                      refine zi_aald (k := 0) hx hb hK hP 7 7 rfl rfl (by omega) rfl zd_Q_dayFits_154 ?_
                      refine zi_iconst hx hb zd_Q_dayFits_155 ?_
                      refine zi_iald hx hb hK hP 8 0 rfl rfl (by omega) zd_Q_dayFits_156 ?_
                      refine zi_as (wf 1) rfl ?_
                      refine zi_if_ne (tgt := 173) hx hb zd_Q_dayFits_157 (by decide) (by omega) (fun c157 => ?_) (fun c157 => ?_)
                      · refine lv_aload_n hx hb zd_Q_dayFits_173 rfl (lv_at hl 1 rfl) ?_
                        refine va_get (D := g.1) (ci := 5) (v := .ref (rf 4)) (C := zR_Q) (T := zT_Q) (N := 21) hx hb hw zin_Q hown hK hP 0 rfl rfl 11 (by decide) (hw _ zw_3_209) (fun _ h9 => h9) rfl zd_Q_dayFits_174 ?_
                        refine lv_iload_n hx hb zd_Q_dayFits_177 rfl (lv_at hl 2 rfl) ?_
                        refine zi_aald (k := 0) hx hb hK hP 7 7 rfl rfl (by omega) rfl zd_Q_dayFits_178 ?_
                        refine zi_iconst hx hb zd_Q_dayFits_179 ?_
                        refine zi_iald hx hb hK hP 8 0 rfl rfl (by omega) zd_Q_dayFits_180 ?_
                        refine zi_as (wf 1) rfl ?_
                        refine zi_iconst hx hb zd_Q_dayFits_181 ?_
                        refine zi_icmp_ne (tgt := 187) hx hb zd_Q_dayFits_182 (by decide) (by omega) (fun c182 => ?_) (fun c182 => ?_)
                        · refine lv_iload_n hx hb zd_Q_dayFits_187 rfl (lv_at hl 0 rfl) ?_
                          refine lv_aload_n hx hb zd_Q_dayFits_188 rfl (lv_at hl 1 rfl) ?_
                          refine va_get (D := g.1) (ci := 5) (v := .ref (rf 5)) (C := zR_Q) (T := zT_Q) (N := 21) hx hb hw zin_Q hown hK hP 0 rfl rfl 12 (by decide) (hw _ zw_3_210) (fun _ h9 => h9) rfl zd_Q_dayFits_189 ?_
                          refine lv_iload_n hx hb zd_Q_dayFits_192 rfl (lv_at hl 2 rfl) ?_
                          refine zi_aald (k := 0) hx hb hK hP 9 7 rfl rfl (by omega) rfl zd_Q_dayFits_193 ?_
                          refine zi_iconst hx hb zd_Q_dayFits_194 ?_
                          refine zi_iald hx hb hK hP 10 0 rfl rfl (by omega) zd_Q_dayFits_195 ?_
                          refine zi_as (fi 1) rfl ?_
                          refine zi_icmp_eq (tgt := 201) hx hb zd_Q_dayFits_196 (by decide) (by omega) (fun c196 => ?_) (fun c196 => ?_)
                          · refine lv_aload_n hx hb zd_Q_dayFits_201 rfl (lv_at hl 1 rfl) ?_
                            refine va_get (D := g.1) (ci := 5) (v := .ref (rf 4)) (C := zR_Q) (T := zT_Q) (N := 21) hx hb hw zin_Q hown hK hP 0 rfl rfl 11 (by decide) (hw _ zw_3_209) (fun _ h9 => h9) rfl zd_Q_dayFits_202 ?_
                            refine lv_iload_n hx hb zd_Q_dayFits_205 rfl (lv_at hl 2 rfl) ?_
                            refine zi_aald (k := 0) hx hb hK hP 7 7 rfl rfl (by omega) rfl zd_Q_dayFits_206 ?_
                            refine zi_iconst hx hb zd_Q_dayFits_207 ?_
                            refine zi_iald hx hb hK hP 8 0 rfl rfl (by omega) zd_Q_dayFits_208 ?_
                            refine zi_as (wf 1) rfl ?_
                            refine zi_iconst hx hb zd_Q_dayFits_209 ?_
                            refine zi_icmp_ne (tgt := 242) hx hb zd_Q_dayFits_210 (by decide) (by omega) (fun c210 => ?_) (fun c210 => ?_)
                            · refine lv_aload_n hx hb zd_Q_dayFits_242 rfl (lv_at hl 1 rfl) ?_
                              refine va_get (D := g.1) (ci := 5) (v := .int (iI (n - dM0 mo + 1))) (C := zR_Q) (T := zT_Q) (N := 21) hx hb hw zin_Q hown hK hP 0 rfl rfl 6 (by decide) (hw _ zw_3_204) (fun _ h9 => h9) rfl zd_Q_dayFits_243 ?_
                              refine zi_iconst hx hb zd_Q_dayFits_246 ?_
                              refine zi_isub hx hb zd_Q_dayFits_247 ?_
                              refine zi_bipush hx hb zd_Q_dayFits_248 (by decide) ?_
                              refine zi_idiv hx hb zd_Q_dayFits_250 (by omega) ?_
                              refine zi_iconst hx hb zd_Q_dayFits_251 ?_
                              refine zi_iadd hx hb zd_Q_dayFits_252 ?_
                              refine lv_aload_n hx hb zd_Q_dayFits_253 rfl (lv_at hl 1 rfl) ?_
                              refine va_get (D := g.1) (ci := 5) (v := .ref (rf 6)) (C := zR_Q) (T := zT_Q) (N := 21) hx hb hw zin_Q hown hK hP 0 rfl rfl 13 (by decide) (hw _ zw_3_211) (fun _ h9 => h9) rfl zd_Q_dayFits_254 ?_
                              refine lv_iload_n hx hb zd_Q_dayFits_257 rfl (lv_at hl 2 rfl) ?_
                              refine zi_aald (k := 0) hx hb hK hP 11 7 rfl rfl (by omega) rfl zd_Q_dayFits_258 ?_
                              refine zi_iconst hx hb zd_Q_dayFits_259 ?_
                              refine zi_iald hx hb hK hP 12 0 rfl rfl (by omega) zd_Q_dayFits_260 ?_
                              refine zi_as (sf 1) rfl ?_
                              refine zi_icmp_ne (tgt := 268) hx hb zd_Q_dayFits_261 (by decide) (by omega) (fun c261 => ?_) (fun c261 => ?_)
                              · refine zi_iconst hx hb zd_Q_dayFits_268 ?_
                                refine zb_as (x := qDF st wf fi sf hdf mo n) (by first | exact bI_t (by rw [qDF_r (fun q => q.elim (b2n c43) (b2n c61)) (by first | exact b2f c82 | exact fun _ => absurd c71 (by omega) | exact fun _ => absurd c67 (by omega)) (fun q => by first | exact absurd q.1 c95 | (rw [c113] at q; exact absurd q.2 (by decide))) (fun q => by first | exact q.2 c139 | exact absurd q.1 (by omega)), if_neg c157, if_neg c182, if_neg (fun q => q c196), if_pos c210]; exact decide_eq_true (by omega)) | exact bI_f (by rw [qDF_r (fun q => q.elim (b2n c43) (b2n c61)) (by first | exact b2f c82 | exact fun _ => absurd c71 (by omega) | exact fun _ => absurd c67 (by omega)) (fun q => by first | exact absurd q.1 c95 | (rw [c113] at q; exact absurd q.2 (by decide))) (fun q => by first | exact q.2 c139 | exact absurd q.1 (by omega)), if_neg c157, if_neg c182, if_neg (fun q => q c196), if_pos c210]; exact decide_eq_false (by omega)) | exact bI_t (by rw [qDF_r (fun q => q.elim (b2n c43) (b2n c61)) (by first | exact b2f c82 | exact fun _ => absurd c71 (by omega) | exact fun _ => absurd c67 (by omega)) (fun q => by first | exact absurd q.1 c95 | (rw [c113] at q; exact absurd q.2 (by decide))) (fun q => by first | exact q.2 c139 | exact absurd q.1 (by omega)), if_neg c157, if_neg c182, if_neg (fun q => q c196), if_neg c210]; exact decide_eq_true (by omega)) | exact bI_f (by rw [qDF_r (fun q => q.elim (b2n c43) (b2n c61)) (by first | exact b2f c82 | exact fun _ => absurd c71 (by omega) | exact fun _ => absurd c67 (by omega)) (fun q => by first | exact absurd q.1 c95 | (rw [c113] at q; exact absurd q.2 (by decide))) (fun q => by first | exact q.2 c139 | exact absurd q.1 (by omega)), if_neg c157, if_neg c182, if_neg (fun q => q c196), if_neg c210]; exact decide_eq_false (by omega))) ?_
                                exact zw_zret hx hb hr hlk hP hS zd_Q_dayFits_269
                              · refine zi_iconst hx hb zd_Q_dayFits_264 ?_
                                refine lv_goto (tgt := 269) hx hb zd_Q_dayFits_265 (by decide) ?_
                                refine zb_as (x := qDF st wf fi sf hdf mo n) (by first | exact bI_t (by rw [qDF_r (fun q => q.elim (b2n c43) (b2n c61)) (by first | exact b2f c82 | exact fun _ => absurd c71 (by omega) | exact fun _ => absurd c67 (by omega)) (fun q => by first | exact absurd q.1 c95 | (rw [c113] at q; exact absurd q.2 (by decide))) (fun q => by first | exact q.2 c139 | exact absurd q.1 (by omega)), if_neg c157, if_neg c182, if_neg (fun q => q c196), if_pos c210]; exact decide_eq_true (by omega)) | exact bI_f (by rw [qDF_r (fun q => q.elim (b2n c43) (b2n c61)) (by first | exact b2f c82 | exact fun _ => absurd c71 (by omega) | exact fun _ => absurd c67 (by omega)) (fun q => by first | exact absurd q.1 c95 | (rw [c113] at q; exact absurd q.2 (by decide))) (fun q => by first | exact q.2 c139 | exact absurd q.1 (by omega)), if_neg c157, if_neg c182, if_neg (fun q => q c196), if_pos c210]; exact decide_eq_false (by omega)) | exact bI_t (by rw [qDF_r (fun q => q.elim (b2n c43) (b2n c61)) (by first | exact b2f c82 | exact fun _ => absurd c71 (by omega) | exact fun _ => absurd c67 (by omega)) (fun q => by first | exact absurd q.1 c95 | (rw [c113] at q; exact absurd q.2 (by decide))) (fun q => by first | exact q.2 c139 | exact absurd q.1 (by omega)), if_neg c157, if_neg c182, if_neg (fun q => q c196), if_neg c210]; exact decide_eq_true (by omega)) | exact bI_f (by rw [qDF_r (fun q => q.elim (b2n c43) (b2n c61)) (by first | exact b2f c82 | exact fun _ => absurd c71 (by omega) | exact fun _ => absurd c67 (by omega)) (fun q => by first | exact absurd q.1 c95 | (rw [c113] at q; exact absurd q.2 (by decide))) (fun q => by first | exact q.2 c139 | exact absurd q.1 (by omega)), if_neg c157, if_neg c182, if_neg (fun q => q c196), if_neg c210]; exact decide_eq_false (by omega))) ?_
                                exact zw_zret hx hb hr hlk hP hS zd_Q_dayFits_269
                            · refine lv_aload_n hx hb zd_Q_dayFits_213 rfl (lv_at hl 1 rfl) ?_
                              refine va_get (D := g.1) (ci := 5) (v := .int (iI (n - dM0 mo + 1))) (C := zR_Q) (T := zT_Q) (N := 21) hx hb hw zin_Q hown hK hP 0 rfl rfl 6 (by decide) (hw _ zw_3_204) (fun _ h9 => h9) rfl zd_Q_dayFits_214 ?_
                              refine zi_bipush hx hb zd_Q_dayFits_217 (by decide) ?_
                              refine zi_iadd hx hb zd_Q_dayFits_219 ?_
                              refine lv_aload_n hx hb zd_Q_dayFits_220 rfl (lv_at hl 1 rfl) ?_
                              refine va_get (D := g.1) (ci := 5) (v := .int (iI (1970 + mo / 12))) (C := zR_Q) (T := zT_Q) (N := 21) hx hb hw zin_Q hown hK hP 0 rfl rfl 4 (by decide) (hw _ zw_3_202) (fun _ h9 => h9) rfl zd_Q_dayFits_221 ?_
                              refine lv_aload_n hx hb zd_Q_dayFits_224 rfl (lv_at hl 1 rfl) ?_
                              refine va_get (D := g.1) (ci := 5) (v := .int (iI (mo % 12 + 1))) (C := zR_Q) (T := zT_Q) (N := 21) hx hb hw zin_Q hown hK hP 0 rfl rfl 5 (by decide) (hw _ zw_3_203) (fun _ h9 => h9) rfl zd_Q_dayFits_225 ?_
                              refine zk_S (As := [.int (iI (1970 + mo / 12)), .int (iI (mo % 12 + 1))]) (own := "CronFinderModel") (nL := 4) (rest := [.int (iI ((n - dM0 mo + 1) + 7))]) hx hb hml hown hw (c_Q_length l g (1970 + mo / 12) (mo % 12 + 1) (by omega)) zw_4_129 zw_4_130 zw_1_7 zw_4_131 (np := 2) (by decide +kernel) rfl (by decide) zN_mv hK trivial (hP.sub (ws' := []) [] rfl) hl.1 rfl (Nat.le_of_ble_eq_true rfl) (by decide) zd_Q_dayFits_228 ?_
                              have hq228 := dMl_rg (1970 + mo / 12) ((mo % 12 + 1) - 1)
                              refine zi_as (dM0 (mo + 1) - dM0 mo) (qL mo) ?_
                              refine zi_icmp_le (tgt := 238) hx hb zd_Q_dayFits_231 (by decide) (by omega) (fun c231 => ?_) (fun c231 => ?_)
                              · refine zi_iconst hx hb zd_Q_dayFits_238 ?_
                                refine lv_goto (tgt := 269) hx hb zd_Q_dayFits_239 (by decide) ?_
                                refine zb_as (x := qDF st wf fi sf hdf mo n) (by first | exact bI_t (by rw [qDF_r (fun q => q.elim (b2n c43) (b2n c61)) (by first | exact b2f c82 | exact fun _ => absurd c71 (by omega) | exact fun _ => absurd c67 (by omega)) (fun q => by first | exact absurd q.1 c95 | (rw [c113] at q; exact absurd q.2 (by decide))) (fun q => by first | exact q.2 c139 | exact absurd q.1 (by omega)), if_neg c157, if_neg c182, if_neg (fun q => q c196), if_pos c210]; exact decide_eq_true (by omega)) | exact bI_f (by rw [qDF_r (fun q => q.elim (b2n c43) (b2n c61)) (by first | exact b2f c82 | exact fun _ => absurd c71 (by omega) | exact fun _ => absurd c67 (by omega)) (fun q => by first | exact absurd q.1 c95 | (rw [c113] at q; exact absurd q.2 (by decide))) (fun q => by first | exact q.2 c139 | exact absurd q.1 (by omega)), if_neg c157, if_neg c182, if_neg (fun q => q c196), if_pos c210]; exact decide_eq_false (by omega)) | exact bI_t (by rw [qDF_r (fun q => q.elim (b2n c43) (b2n c61)) (by first | exact b2f c82 | exact fun _ => absurd c71 (by omega) | exact fun _ => absurd c67 (by omega)) (fun q => by first | exact absurd q.1 c95 | (rw [c113] at q; exact absurd q.2 (by decide))) (fun q => by first | exact q.2 c139 | exact absurd q.1 (by omega)), if_neg c157, if_neg c182, if_neg (fun q => q c196), if_neg c210]; exact decide_eq_true (by omega)) | exact bI_f (by rw [qDF_r (fun q => q.elim (b2n c43) (b2n c61)) (by first | exact b2f c82 | exact fun _ => absurd c71 (by omega) | exact fun _ => absurd c67 (by omega)) (fun q => by first | exact absurd q.1 c95 | (rw [c113] at q; exact absurd q.2 (by decide))) (fun q => by first | exact q.2 c139 | exact absurd q.1 (by omega)), if_neg c157, if_neg c182, if_neg (fun q => q c196), if_neg c210]; exact decide_eq_false (by omega))) ?_
                                exact zw_zret hx hb hr hlk hP hS zd_Q_dayFits_269
                              · refine zi_iconst hx hb zd_Q_dayFits_234 ?_
                                refine lv_goto (tgt := 269) hx hb zd_Q_dayFits_235 (by decide) ?_
                                refine zb_as (x := qDF st wf fi sf hdf mo n) (by first | exact bI_t (by rw [qDF_r (fun q => q.elim (b2n c43) (b2n c61)) (by first | exact b2f c82 | exact fun _ => absurd c71 (by omega) | exact fun _ => absurd c67 (by omega)) (fun q => by first | exact absurd q.1 c95 | (rw [c113] at q; exact absurd q.2 (by decide))) (fun q => by first | exact q.2 c139 | exact absurd q.1 (by omega)), if_neg c157, if_neg c182, if_neg (fun q => q c196), if_pos c210]; exact decide_eq_true (by omega)) | exact bI_f (by rw [qDF_r (fun q => q.elim (b2n c43) (b2n c61)) (by first | exact b2f c82 | exact fun _ => absurd c71 (by omega) | exact fun _ => absurd c67 (by omega)) (fun q => by first | exact absurd q.1 c95 | (rw [c113] at q; exact absurd q.2 (by decide))) (fun q => by first | exact q.2 c139 | exact absurd q.1 (by omega)), if_neg c157, if_neg c182, if_neg (fun q => q c196), if_pos c210]; exact decide_eq_false (by omega)) | exact bI_t (by rw [qDF_r (fun q => q.elim (b2n c43) (b2n c61)) (by first | exact b2f c82 | exact fun _ => absurd c71 (by omega) | exact fun _ => absurd c67 (by omega)) (fun q => by first | exact absurd q.1 c95 | (rw [c113] at q; exact absurd q.2 (by decide))) (fun q => by first | exact q.2 c139 | exact absurd q.1 (by omega)), if_neg c157, if_neg c182, if_neg (fun q => q c196), if_neg c210]; exact decide_eq_true (by omega)) | exact bI_f (by rw [qDF_r (fun q => q.elim (b2n c43) (b2n c61)) (by first | exact b2f c82 | exact fun _ => absurd c71 (by omega) | exact fun _ => absurd c67 (by omega)) (fun q => by first | exact absurd q.1 c95 | (rw [c113] at q; exact absurd q.2 (by decide))) (fun q => by first | exact q.2 c139 | exact absurd q.1 (by omega)), if_neg c157, if_neg c182, if_neg (fun q => q c196), if_neg c210]; exact decide_eq_false (by omega))) ?_
                                exact zw_zret hx hb hr hlk hP hS zd_Q_dayFits_269
                          · refine zi_iconst hx hb zd_Q_dayFits_199 ?_
                            refine zb_as (x := qDF st wf fi sf hdf mo n) (bI_f (by rw [qDF_r (fun q => q.elim (b2n c43) (b2n c61)) (by first | exact b2f c82 | exact fun _ => absurd c71 (by omega) | exact fun _ => absurd c67 (by omega)) (fun q => by first | exact absurd q.1 c95 | (rw [c113] at q; exact absurd q.2 (by decide))) (fun q => by first | exact q.2 c139 | exact absurd q.1 (by omega)), if_neg c157, if_neg c182, if_pos c196])) ?_
                            exact zw_zret hx hb hr hlk hP hS zd_Q_dayFits_200
                        · refine zi_iconst hx hb zd_Q_dayFits_185 ?_
                          refine zb_as (x := qDF st wf fi sf hdf mo n) (bI_t (by rw [qDF_r (fun q => q.elim (b2n c43) (b2n c61)) (by first | exact b2f c82 | exact fun _ => absurd c71 (by omega) | exact fun _ => absurd c67 (by omega)) (fun q => by first | exact absurd q.1 c95 | (rw [c113] at q; exact absurd q.2 (by decide))) (fun q => by first | exact q.2 c139 | exact absurd q.1 (by omega)), if_neg c157, if_pos c182])) ?_
                          exact zw_zret hx hb hr hlk hP hS zd_Q_dayFits_186
                      · refine lv_aload_n hx hb zd_Q_dayFits_160 rfl (lv_at hl 1 rfl) ?_
                        refine va_get (D := g.1) (ci := 5) (v := .ref (rf 1)) (C := zR_Q) (T := zT_Q) (N := 21) hx hb hw zin_Q hown hK hP 0 rfl rfl 8 (by decide) (hw _ zw_3_206) (fun _ h9 => h9) rfl zd_Q_dayFits_161 ?_
                        refine lv_iload_n hx hb zd_Q_dayFits_164 rfl (lv_at hl 2 rfl) ?_
                        refine zi_aald (k := 0) hx hb hK hP 1 6 rfl rfl (by omega) rfl zd_Q_dayFits_165 ?_
                        refine zi_iconst hx hb zd_Q_dayFits_166 ?_
                        refine zi_aald (k := 5) hx hb hK hP 2 5 rfl rfl (by omega) rfl zd_Q_dayFits_167 ?_
                        refine lv_iload_n hx hb zd_Q_dayFits_168 rfl (lv_at hl 0 rfl) ?_
                        refine zi_iconst hx hb zd_Q_dayFits_169 ?_
                        refine zi_isub hx hb zd_Q_dayFits_170 ?_
                        refine zi_zald hx hb hK hP 5 1 rfl rfl (by omega) zd_Q_dayFits_171 ?_
                        refine zb_eq (qDF st wf fi sf hdf mo n) (by rw [qDF_r (fun q => q.elim (b2n c43) (b2n c61)) (by first | exact b2f c82 | exact fun _ => absurd c71 (by omega) | exact fun _ => absurd c67 (by omega)) (fun q => by first | exact absurd q.1 c95 | (rw [c113] at q; exact absurd q.2 (by decide))) (fun q => by first | exact q.2 c139 | exact absurd q.1 (by omega)), if_pos c157]; congr 1; omega) ?_
                        exact zw_zret hx hb hr hlk hP hS zd_Q_dayFits_172
                    · refine zi_iconst hx hb zd_Q_dayFits_142 ?_
                      refine zb_as (x := qDF st wf fi sf hdf mo n) (bI_f (qDF_4 (fun q => q.elim (b2n c43) (b2n c61)) (by first | exact b2f c82 | exact fun _ => absurd c71 (by omega) | exact fun _ => absurd c67 (by omega)) (fun q => by first | exact absurd q.1 c95 | (rw [c113] at q; exact absurd q.2 (by decide))) ⟨by omega, c139⟩)) ?_
                      exact zw_zret hx hb hr hlk hP hS zd_Q_dayFits_143
                · refine lv_aload_n hx hb zd_Q_dayFits_98 rfl (lv_at hl 0 rfl) ?_
                  refine va_get (D := g.1) (ci := 5) (v := .ref (rf 1)) (C := zR_Q) (T := zT_Q) (N := 21) hx hb hw zin_Q hown hK hP 0 rfl rfl 8 (by decide) (hw _ zw_3_206) (fun _ h9 => h9) rfl zd_Q_dayFits_99 ?_
                  refine lv_iload_n hx hb zd_Q_dayFits_102 rfl (lv_at hl 1 rfl) ?_
                  refine zi_aald (k := 0) hx hb hK hP 1 6 rfl rfl (by omega) rfl zd_Q_dayFits_103 ?_
                  refine zi_iconst hx hb zd_Q_dayFits_104 ?_
                  refine zi_aald (k := 3) hx hb hK hP 2 5 rfl rfl (by omega) rfl zd_Q_dayFits_105 ?_
                  refine lv_aload_n hx hb zd_Q_dayFits_106 rfl (lv_at hl 0 rfl) ?_
                  refine va_get (D := g.1) (ci := 5) (v := .int (iI (n - dM0 mo + 1))) (C := zR_Q) (T := zT_Q) (N := 21) hx hb hw zin_Q hown hK hP 0 rfl rfl 6 (by decide) (hw _ zw_3_204) (fun _ h9 => h9) rfl zd_Q_dayFits_107 ?_
                  refine zi_iconst hx hb zd_Q_dayFits_110 ?_
                  refine zi_isub hx hb zd_Q_dayFits_111 ?_
                  refine zi_zald hx hb hK hP 3 1 rfl rfl (by omega) zd_Q_dayFits_112 ?_
                  refine zb_eq (st 3 (n - dM0 mo).toNat) (by first | rfl | (congr 1; omega)) ?_
                  refine zb_if_ne (tgt := 118) hx hb zd_Q_dayFits_113 (by decide) (fun c113 => ?_) (fun c113 => ?_)
                  · refine lv_aload_n hx hb zd_Q_dayFits_118 rfl (lv_at hl 0 rfl) ?_
                    refine va_get (D := g.1) (ci := 5) (v := .ref (rf 4)) (C := zR_Q) (T := zT_Q) (N := 21) hx hb hw zin_Q hown hK hP 0 rfl rfl 11 (by decide) (hw _ zw_3_209) (fun _ h9 => h9) rfl zd_Q_dayFits_119 ?_
                    refine lv_iload_n hx hb zd_Q_dayFits_122 rfl (lv_at hl 1 rfl) ?_
                    refine zi_aald (k := 0) hx hb hK hP 7 7 rfl rfl (by omega) rfl zd_Q_dayFits_123 ?_
                    refine zi_iconst hx hb zd_Q_dayFits_124 ?_
                    refine zi_iald hx hb hK hP 8 0 rfl rfl (by omega) zd_Q_dayFits_125 ?_
                    refine zi_as (wf 0) rfl ?_
                    refine zi_iconst hx hb zd_Q_dayFits_126 ?_
                    refine zi_icmp_le (tgt := 144) hx hb zd_Q_dayFits_127 (by decide) (by omega) (fun c127 => ?_) (fun c127 => ?_)
                    · refine lv_iload_n hx hb zd_Q_dayFits_144 rfl (lv_at hl 2 rfl) ?_
                      refine zk_S (As := [.int (iI (n))]) (own := "CronFinderModel") (nL := 4) (rest := []) hx hb hml hown hw (c_Q_weekday l g (n) (by omega)) zw_4_139 zw_4_140 zw_1_7 zw_4_141 (np := 1) (by decide +kernel) rfl (by decide) zN_mv hK trivial (hP.sub (ws' := []) [] rfl) hl.1 rfl (Nat.le_of_ble_eq_true rfl) (by decide) zd_Q_dayFits_145 ?_
                      refine lv_istore_n (lv' := [(3, .int (iI ((n + 4) % 7 + 1))), (0, .ref (qq)), (1, .int (iI (0))), (2, .int (iI (n)))]) hx hb zd_Q_dayFits_148 rfl hl (by decide) rfl (fun ls hl => ?_)
                      refine lv_aload_n hx hb zd_Q_dayFits_149 rfl (lv_at hl 1 rfl) ?_
                      refine va_get (D := g.1) (ci := 5) (v := .ref (rf 4)) (C := zR_Q) (T := zT_Q) (N := 21) hx hb hw zin_Q hown hK hP 0 rfl rfl 11 (by decide) (hw _ zw_3_209) (fun _ h9 => h9) rfl zd_Q_dayFits_150 ?_
                      refine lv_iload_n hx hb zd_Q_dayFits_153 rfl (lv_at hl 2 rfl) ?_
                      refine zi_aald (k := 0) hx hb hK hP 7 7 rfl rfl (by omega) rfl zd_Q_dayFits_154 ?_
                      refine zi_iconst hx hb zd_Q_dayFits_155 ?_
                      refine zi_iald hx hb hK hP 8 0 rfl rfl (by omega) zd_Q_dayFits_156 ?_
                      refine zi_as (wf 1) rfl ?_
                      refine zi_if_ne (tgt := 173) hx hb zd_Q_dayFits_157 (by decide) (by omega) (fun c157 => ?_) (fun c157 => ?_)
                      · refine lv_aload_n hx hb zd_Q_dayFits_173 rfl (lv_at hl 1 rfl) ?_
                        refine va_get (D := g.1) (ci := 5) (v := .ref (rf 4)) (C := zR_Q) (T := zT_Q) (N := 21) hx hb hw zin_Q hown hK hP 0 rfl rfl 11 (by decide) (hw _ zw_3_209) (fun _ h9 => h9) rfl zd_Q_dayFits_174 ?_
                        refine lv_iload_n hx hb zd_Q_dayFits_177 rfl (lv_at hl 2 rfl) ?_
                        refine zi_aald (k := 0) hx hb hK hP 7 7 rfl rfl (by omega) rfl zd_Q_dayFits_178 ?_
                        refine zi_iconst hx hb zd_Q_dayFits_179 ?_
                        refine zi_iald hx hb hK hP 8 0 rfl rfl (by omega) zd_Q_dayFits_180 ?_
                        refine zi_as (wf 1) rfl ?_
                        refine zi_iconst hx hb zd_Q_dayFits_181 ?_
                        refine zi_icmp_ne (tgt := 187) hx hb zd_Q_dayFits_182 (by decide) (by omega) (fun c182 => ?_) (fun c182 => ?_)
                        · refine lv_iload_n hx hb zd_Q_dayFits_187 rfl (lv_at hl 0 rfl) ?_
                          refine lv_aload_n hx hb zd_Q_dayFits_188 rfl (lv_at hl 1 rfl) ?_
                          refine va_get (D := g.1) (ci := 5) (v := .ref (rf 5)) (C := zR_Q) (T := zT_Q) (N := 21) hx hb hw zin_Q hown hK hP 0 rfl rfl 12 (by decide) (hw _ zw_3_210) (fun _ h9 => h9) rfl zd_Q_dayFits_189 ?_
                          refine lv_iload_n hx hb zd_Q_dayFits_192 rfl (lv_at hl 2 rfl) ?_
                          refine zi_aald (k := 0) hx hb hK hP 9 7 rfl rfl (by omega) rfl zd_Q_dayFits_193 ?_
                          refine zi_iconst hx hb zd_Q_dayFits_194 ?_
                          refine zi_iald hx hb hK hP 10 0 rfl rfl (by omega) zd_Q_dayFits_195 ?_
                          refine zi_as (fi 1) rfl ?_
                          refine zi_icmp_eq (tgt := 201) hx hb zd_Q_dayFits_196 (by decide) (by omega) (fun c196 => ?_) (fun c196 => ?_)
                          · refine lv_aload_n hx hb zd_Q_dayFits_201 rfl (lv_at hl 1 rfl) ?_
                            refine va_get (D := g.1) (ci := 5) (v := .ref (rf 4)) (C := zR_Q) (T := zT_Q) (N := 21) hx hb hw zin_Q hown hK hP 0 rfl rfl 11 (by decide) (hw _ zw_3_209) (fun _ h9 => h9) rfl zd_Q_dayFits_202 ?_
                            refine lv_iload_n hx hb zd_Q_dayFits_205 rfl (lv_at hl 2 rfl) ?_
                            refine zi_aald (k := 0) hx hb hK hP 7 7 rfl rfl (by omega) rfl zd_Q_dayFits_206 ?_
                            refine zi_iconst hx hb zd_Q_dayFits_207 ?_
                            refine zi_iald hx hb hK hP 8 0 rfl rfl (by omega) zd_Q_dayFits_208 ?_
                            refine zi_as (wf 1) rfl ?_
                            refine zi_iconst hx hb zd_Q_dayFits_209 ?_
                            refine zi_icmp_ne (tgt := 242) hx hb zd_Q_dayFits_210 (by decide) (by omega) (fun c210 => ?_) (fun c210 => ?_)
                            · refine lv_aload_n hx hb zd_Q_dayFits_242 rfl (lv_at hl 1 rfl) ?_
                              refine va_get (D := g.1) (ci := 5) (v := .int (iI (n - dM0 mo + 1))) (C := zR_Q) (T := zT_Q) (N := 21) hx hb hw zin_Q hown hK hP 0 rfl rfl 6 (by decide) (hw _ zw_3_204) (fun _ h9 => h9) rfl zd_Q_dayFits_243 ?_
                              refine zi_iconst hx hb zd_Q_dayFits_246 ?_
                              refine zi_isub hx hb zd_Q_dayFits_247 ?_
                              refine zi_bipush hx hb zd_Q_dayFits_248 (by decide) ?_
                              refine zi_idiv hx hb zd_Q_dayFits_250 (by omega) ?_
                              refine zi_iconst hx hb zd_Q_dayFits_251 ?_
                              refine zi_iadd hx hb zd_Q_dayFits_252 ?_
                              refine lv_aload_n hx hb zd_Q_dayFits_253 rfl (lv_at hl 1 rfl) ?_
                              refine va_get (D := g.1) (ci := 5) (v := .ref (rf 6)) (C := zR_Q) (T := zT_Q) (N := 21) hx hb hw zin_Q hown hK hP 0 rfl rfl 13 (by decide) (hw _ zw_3_211) (fun _ h9 => h9) rfl zd_Q_dayFits_254 ?_
                              refine lv_iload_n hx hb zd_Q_dayFits_257 rfl (lv_at hl 2 rfl) ?_
                              refine zi_aald (k := 0) hx hb hK hP 11 7 rfl rfl (by omega) rfl zd_Q_dayFits_258 ?_
                              refine zi_iconst hx hb zd_Q_dayFits_259 ?_
                              refine zi_iald hx hb hK hP 12 0 rfl rfl (by omega) zd_Q_dayFits_260 ?_
                              refine zi_as (sf 1) rfl ?_
                              refine zi_icmp_ne (tgt := 268) hx hb zd_Q_dayFits_261 (by decide) (by omega) (fun c261 => ?_) (fun c261 => ?_)
                              · refine zi_iconst hx hb zd_Q_dayFits_268 ?_
                                refine zb_as (x := qDF st wf fi sf hdf mo n) (by first | exact bI_t (by rw [qDF_r (fun q => q.elim (b2n c43) (b2n c61)) (by first | exact b2f c82 | exact fun _ => absurd c71 (by omega) | exact fun _ => absurd c67 (by omega)) (fun q => by first | exact absurd q.1 c95 | (rw [c113] at q; exact absurd q.2 (by decide))) (fun q => by first | exact q.2 c139 | exact absurd q.1 (by omega)), if_neg c157, if_neg c182, if_neg (fun q => q c196), if_pos c210]; exact decide_eq_true (by omega)) | exact bI_f (by rw [qDF_r (fun q => q.elim (b2n c43) (b2n c61)) (by first | exact b2f c82 | exact fun _ => absurd c71 (by omega) | exact fun _ => absurd c67 (by omega)) (fun q => by first | exact absurd q.1 c95 | (rw [c113] at q; exact absurd q.2 (by decide))) (fun q => by first | exact q.2 c139 | exact absurd q.1 (by omega)), if_neg c157, if_neg c182, if_neg (fun q => q c196), if_pos c210]; exact decide_eq_false (by omega)) | exact bI_t (by rw [qDF_r (fun q => q.elim (b2n c43) (b2n c61)) (by first | exact b2f c82 | exact fun _ => absurd c71 (by omega) | exact fun _ => absurd c67 (by omega)) (fun q => by first | exact absurd q.1 c95 | (rw [c113] at q; exact absurd q.2 (by decide))) (fun q => by first | exact q.2 c139 | exact absurd q.1 (by omega)), if_neg c157, if_neg c182, if_neg (fun q => q c196), if_neg c210]; exact decide_eq_true (by omega)) | exact bI_f (by rw [qDF_r (fun q => q.elim (b2n c43) (b2n c61)) (by first | exact b2f c82 | exact fun _ => absurd c71 (by omega) | exact fun _ => absurd c67 (by omega)) (fun q => by first | exact absurd q.1 c95 | (rw [c113] at q; exact absurd q.2 (by decide))) (fun q => by first | exact q.2 c139 | exact absurd q.1 (by omega)), if_neg c157, if_neg c182, if_neg (fun q => q c196), if_neg c210]; exact decide_eq_false (by omega))) ?_
                                exact zw_zret hx hb hr hlk hP hS zd_Q_dayFits_269
                              · refine zi_iconst hx hb zd_Q_dayFits_264 ?_
                                refine lv_goto (tgt := 269) hx hb zd_Q_dayFits_265 (by decide) ?_
                                refine zb_as (x := qDF st wf fi sf hdf mo n) (by first | exact bI_t (by rw [qDF_r (fun q => q.elim (b2n c43) (b2n c61)) (by first | exact b2f c82 | exact fun _ => absurd c71 (by omega) | exact fun _ => absurd c67 (by omega)) (fun q => by first | exact absurd q.1 c95 | (rw [c113] at q; exact absurd q.2 (by decide))) (fun q => by first | exact q.2 c139 | exact absurd q.1 (by omega)), if_neg c157, if_neg c182, if_neg (fun q => q c196), if_pos c210]; exact decide_eq_true (by omega)) | exact bI_f (by rw [qDF_r (fun q => q.elim (b2n c43) (b2n c61)) (by first | exact b2f c82 | exact fun _ => absurd c71 (by omega) | exact fun _ => absurd c67 (by omega)) (fun q => by first | exact absurd q.1 c95 | (rw [c113] at q; exact absurd q.2 (by decide))) (fun q => by first | exact q.2 c139 | exact absurd q.1 (by omega)), if_neg c157, if_neg c182, if_neg (fun q => q c196), if_pos c210]; exact decide_eq_false (by omega)) | exact bI_t (by rw [qDF_r (fun q => q.elim (b2n c43) (b2n c61)) (by first | exact b2f c82 | exact fun _ => absurd c71 (by omega) | exact fun _ => absurd c67 (by omega)) (fun q => by first | exact absurd q.1 c95 | (rw [c113] at q; exact absurd q.2 (by decide))) (fun q => by first | exact q.2 c139 | exact absurd q.1 (by omega)), if_neg c157, if_neg c182, if_neg (fun q => q c196), if_neg c210]; exact decide_eq_true (by omega)) | exact bI_f (by rw [qDF_r (fun q => q.elim (b2n c43) (b2n c61)) (by first | exact b2f c82 | exact fun _ => absurd c71 (by omega) | exact fun _ => absurd c67 (by omega)) (fun q => by first | exact absurd q.1 c95 | (rw [c113] at q; exact absurd q.2 (by decide))) (fun q => by first | exact q.2 c139 | exact absurd q.1 (by omega)), if_neg c157, if_neg c182, if_neg (fun q => q c196), if_neg c210]; exact decide_eq_false (by omega))) ?_
                                exact zw_zret hx hb hr hlk hP hS zd_Q_dayFits_269
                            · refine lv_aload_n hx hb zd_Q_dayFits_213 rfl (lv_at hl 1 rfl) ?_
                              refine va_get (D := g.1) (ci := 5) (v := .int (iI (n - dM0 mo + 1))) (C := zR_Q) (T := zT_Q) (N := 21) hx hb hw zin_Q hown hK hP 0 rfl rfl 6 (by decide) (hw _ zw_3_204) (fun _ h9 => h9) rfl zd_Q_dayFits_214 ?_
                              refine zi_bipush hx hb zd_Q_dayFits_217 (by decide) ?_
                              refine zi_iadd hx hb zd_Q_dayFits_219 ?_
                              refine lv_aload_n hx hb zd_Q_dayFits_220 rfl (lv_at hl 1 rfl) ?_
                              refine va_get (D := g.1) (ci := 5) (v := .int (iI (1970 + mo / 12))) (C := zR_Q) (T := zT_Q) (N := 21) hx hb hw zin_Q hown hK hP 0 rfl rfl 4 (by decide) (hw _ zw_3_202) (fun _ h9 => h9) rfl zd_Q_dayFits_221 ?_
                              refine lv_aload_n hx hb zd_Q_dayFits_224 rfl (lv_at hl 1 rfl) ?_
                              refine va_get (D := g.1) (ci := 5) (v := .int (iI (mo % 12 + 1))) (C := zR_Q) (T := zT_Q) (N := 21) hx hb hw zin_Q hown hK hP 0 rfl rfl 5 (by decide) (hw _ zw_3_203) (fun _ h9 => h9) rfl zd_Q_dayFits_225 ?_
                              refine zk_S (As := [.int (iI (1970 + mo / 12)), .int (iI (mo % 12 + 1))]) (own := "CronFinderModel") (nL := 4) (rest := [.int (iI ((n - dM0 mo + 1) + 7))]) hx hb hml hown hw (c_Q_length l g (1970 + mo / 12) (mo % 12 + 1) (by omega)) zw_4_129 zw_4_130 zw_1_7 zw_4_131 (np := 2) (by decide +kernel) rfl (by decide) zN_mv hK trivial (hP.sub (ws' := []) [] rfl) hl.1 rfl (Nat.le_of_ble_eq_true rfl) (by decide) zd_Q_dayFits_228 ?_
                              have hq228 := dMl_rg (1970 + mo / 12) ((mo % 12 + 1) - 1)
                              refine zi_as (dM0 (mo + 1) - dM0 mo) (qL mo) ?_
                              refine zi_icmp_le (tgt := 238) hx hb zd_Q_dayFits_231 (by decide) (by omega) (fun c231 => ?_) (fun c231 => ?_)
                              · refine zi_iconst hx hb zd_Q_dayFits_238 ?_
                                refine lv_goto (tgt := 269) hx hb zd_Q_dayFits_239 (by decide) ?_
                                refine zb_as (x := qDF st wf fi sf hdf mo n) (by first | exact bI_t (by rw [qDF_r (fun q => q.elim (b2n c43) (b2n c61)) (by first | exact b2f c82 | exact fun _ => absurd c71 (by omega) | exact fun _ => absurd c67 (by omega)) (fun q => by first | exact absurd q.1 c95 | (rw [c113] at q; exact absurd q.2 (by decide))) (fun q => by first | exact q.2 c139 | exact absurd q.1 (by omega)), if_neg c157, if_neg c182, if_neg (fun q => q c196), if_pos c210]; exact decide_eq_true (by omega)) | exact bI_f (by rw [qDF_r (fun q => q.elim (b2n c43) (b2n c61)) (by first | exact b2f c82 | exact fun _ => absurd c71 (by omega) | exact fun _ => absurd c67 (by omega)) (fun q => by first | exact absurd q.1 c95 | (rw [c113] at q; exact absurd q.2 (by decide))) (fun q => by first | exact q.2 c139 | exact absurd q.1 (by omega)), if_neg c157, if_neg c182, if_neg (fun q => q c196), if_pos c210]; exact decide_eq_false (by omega)) | exact bI_t (by rw [qDF_r (fun q => q.elim (b2n c43) (b2n c61)) (by first | exact b2f c82 | exact fun _ => absurd c71 (by omega) | exact fun _ => absurd c67 (by omega)) (fun q => by first | exact absurd q.1 c95 | (rw [c113] at q; exact absurd q.2 (by decide))) (fun q => by first | exact q.2 c139 | exact absurd q.1 (by omega)), if_neg c157, if_neg c182, if_neg (fun q => q c196), if_neg c210]; exact decide_eq_true (by omega)) | exact bI_f (by rw [qDF_r (fun q => q.elim (b2n c43) (b2n c61)) (by first | exact b2f c82 | exact fun _ => absurd c71 (by omega) | exact fun _ => absurd c67 (by omega)) (fun q => by first | exact absurd q.1 c95 | (rw [c113] at q; exact absurd q.2 (by decide))) (fun q => by first | exact q.2 c139 | exact absurd q.1 (by omega)), if_neg c157, if_neg c182, if_neg (fun q => q c196), if_neg c210]; exact decide_eq_false (by omega))) ?_
                                exact zw_zret hx hb hr hlk hP hS zd_Q_dayFits_269
                              · refine zi_iconst hx hb zd_Q_dayFits_234 ?_
                                refine lv_goto (tgt := 269) hx hb zd_Q_dayFits_235 (by decide) ?_
                                refine zb_as (x := qDF st wf fi sf hdf mo n) (by first | exact bI_t (by rw [qDF_r (fun q => q.elim (b2n c43) (b2n c61)) (by first | exact b2f c82 | exact fun _ => absurd c71 (by omega) | exact fun _ => absurd c67 (by omega)) (fun q => by first | exact absurd q.1 c95 | (rw [c113] at q; exact absurd q.2 (by decide))) (fun q => by first | exact q.2 c139 | exact absurd q.1 (by omega)), if_neg c157, if_neg c182, if_neg (fun q => q c196), if_pos c210]; exact decide_eq_true (by omega)) | exact bI_f (by rw [qDF_r (fun q => q.elim (b2n c43) (b2n c61)) (by first | exact b2f c82 | exact fun _ => absurd c71 (by omega) | exact fun _ => absurd c67 (by omega)) (fun q => by first | exact absurd q.1 c95 | (rw [c113] at q; exact absurd q.2 (by decide))) (fun q => by first | exact q.2 c139 | exact absurd q.1 (by omega)), if_neg c157, if_neg c182, if_neg (fun q => q c196), if_pos c210]; exact decide_eq_false (by omega)) | exact bI_t (by rw [qDF_r (fun q => q.elim (b2n c43) (b2n c61)) (by first | exact b2f c82 | exact fun _ => absurd c71 (by omega) | exact fun _ => absurd c67 (by omega)) (fun q => by first | exact absurd q.1 c95 | (rw [c113] at q; exact absurd q.2 (by decide))) (fun q => by first | exact q.2 c139 | exact absurd q.1 (by omega)), if_neg c157, if_neg c182, if_neg (fun q => q c196), if_neg c210]; exact decide_eq_true (by omega)) | exact bI_f (by rw [qDF_r (fun q => q.elim (b2n c43) (b2n c61)) (by first | exact b2f c82 | exact fun _ => absurd c71 (by omega) | exact fun _ => absurd c67 (by omega)) (fun q => by first | exact absurd q.1 c95 | (rw [c113] at q; exact absurd q.2 (by decide))) (fun q => by first | exact q.2 c139 | exact absurd q.1 (by omega)), if_neg c157, if_neg c182, if_neg (fun q => q c196), if_neg c210]; exact decide_eq_false (by omega))) ?_
                                exact zw_zret hx hb hr hlk hP hS zd_Q_dayFits_269
                          · refine zi_iconst hx hb zd_Q_dayFits_199 ?_
                            refine zb_as (x := qDF st wf fi sf hdf mo n) (bI_f (by rw [qDF_r (fun q => q.elim (b2n c43) (b2n c61)) (by first | exact b2f c82 | exact fun _ => absurd c71 (by omega) | exact fun _ => absurd c67 (by omega)) (fun q => by first | exact absurd q.1 c95 | (rw [c113] at q; exact absurd q.2 (by decide))) (fun q => by first | exact q.2 c139 | exact absurd q.1 (by omega)), if_neg c157, if_neg c182, if_pos c196])) ?_
                            exact zw_zret hx hb hr hlk hP hS zd_Q_dayFits_200
                        · refine zi_iconst hx hb zd_Q_dayFits_185 ?_
                          refine zb_as (x := qDF st wf fi sf hdf mo n) (bI_t (by rw [qDF_r (fun q => q.elim (b2n c43) (b2n c61)) (by first | exact b2f c82 | exact fun _ => absurd c71 (by omega) | exact fun _ => absurd c67 (by omega)) (fun q => by first | exact absurd q.1 c95 | (rw [c113] at q; exact absurd q.2 (by decide))) (fun q => by first | exact q.2 c139 | exact absurd q.1 (by omega)), if_neg c157, if_pos c182])) ?_
                          exact zw_zret hx hb hr hlk hP hS zd_Q_dayFits_186
                      · refine lv_aload_n hx hb zd_Q_dayFits_160 rfl (lv_at hl 1 rfl) ?_
                        refine va_get (D := g.1) (ci := 5) (v := .ref (rf 1)) (C := zR_Q) (T := zT_Q) (N := 21) hx hb hw zin_Q hown hK hP 0 rfl rfl 8 (by decide) (hw _ zw_3_206) (fun _ h9 => h9) rfl zd_Q_dayFits_161 ?_
                        refine lv_iload_n hx hb zd_Q_dayFits_164 rfl (lv_at hl 2 rfl) ?_
                        refine zi_aald (k := 0) hx hb hK hP 1 6 rfl rfl (by omega) rfl zd_Q_dayFits_165 ?_
                        refine zi_iconst hx hb zd_Q_dayFits_166 ?_
                        refine zi_aald (k := 5) hx hb hK hP 2 5 rfl rfl (by omega) rfl zd_Q_dayFits_167 ?_
                        refine lv_iload_n hx hb zd_Q_dayFits_168 rfl (lv_at hl 0 rfl) ?_
                        refine zi_iconst hx hb zd_Q_dayFits_169 ?_
                        refine zi_isub hx hb zd_Q_dayFits_170 ?_
                        refine zi_zald hx hb hK hP 5 1 rfl rfl (by omega) zd_Q_dayFits_171 ?_
                        refine zb_eq (qDF st wf fi sf hdf mo n) (by rw [qDF_r (fun q => q.elim (b2n c43) (b2n c61)) (by first | exact b2f c82 | exact fun _ => absurd c71 (by omega) | exact fun _ => absurd c67 (by omega)) (fun q => by first | exact absurd q.1 c95 | (rw [c113] at q; exact absurd q.2 (by decide))) (fun q => by first | exact q.2 c139 | exact absurd q.1 (by omega)), if_pos c157]; congr 1; omega) ?_
                        exact zw_zret hx hb hr hlk hP hS zd_Q_dayFits_172
                    · refine lv_aload_n hx hb zd_Q_dayFits_130 rfl (lv_at hl 0 rfl) ?_
                      refine lv_iload_n hx hb zd_Q_dayFits_131 rfl (lv_at hl 1 rfl) ?_
                      refine zk_V (As := [.int (iI (0))]) (b := qq) (own := "CronFinderModel") (nL := 4) (rest := []) hx hb hml hown hw (c_Q_special1 l g qq rf (fl) (ln) (pl) 0 0 (n - dM0 mo + 1) (at0) (wa) (on) (tw) (hc) fa wya fi wf mo hmo hfi ⟨by omega, hwf.2⟩) zw_4_135 zw_4_137 zw_0_42 zw_1_7 zw_4_138 (np := 1) (by decide +kernel) rfl (by decide) zN_mv hK trivial (hP.sub (ws' := [(qq, .inr (5, [.int (iI (fl)), .ref (rf 0), .int (iI (ln)), .int (iI (pl)), .int (iI (1970 + mo / 12)), .int (iI (mo % 12 + 1)), .int (iI (n - dM0 mo + 1)), .int (iI (at0)), .ref (rf 1), .ref (rf 2), .ref (rf 3), .ref (rf 4), .ref (rf 5), .ref (rf 6), .int (iI (wa)), .int (iI (on)), .int (iI (tw)), .ref (rf 7), .ref (rf 8), .ref (rf 9), .int (iI (hc))])), (rf 5, .inl (g.2 7, 1, .inr (.inr (.inr (.inr (zaR fa)))))), (fa 0, .inl (g.2 0, 2, .inl (zaI fi))), (rf 4, .inl (g.2 7, 1, .inr (.inr (.inr (.inr (zaR wya)))))), (wya 0, .inl (g.2 0, 2, .inl (zaI wf)))]) [0, 9, 10, 7, 8] rfl) (va_recv hK hP (ci := 5) (q0 := 0) rfl rfl) hl.1 rfl (Nat.le_of_ble_eq_true rfl) (by decide) zd_Q_dayFits_132 ?_
                      have hsr := qSp_rg (way := wf 0) (v := fi 0) (L := dM0 (mo + 1) - dM0 mo) (B := dM0 mo) (by omega)
                      refine lv_aload_n hx hb zd_Q_dayFits_135 rfl (lv_at hl 0 rfl) ?_
                      refine va_get (D := g.1) (ci := 5) (v := .int (iI (n - dM0 mo + 1))) (C := zR_Q) (T := zT_Q) (N := 21) hx hb hw zin_Q hown hK hP 0 rfl rfl 6 (by decide) (hw _ zw_3_204) (fun _ h9 => h9) rfl zd_Q_dayFits_136 ?_
                      refine zi_icmp_eq (tgt := 144) hx hb zd_Q_dayFits_139 (by decide) (by omega) (fun c139 => ?_) (fun c139 => ?_)
                      · refine lv_iload_n hx hb zd_Q_dayFits_144 rfl (lv_at hl 2 rfl) ?_
                        refine zk_S (As := [.int (iI (n))]) (own := "CronFinderModel") (nL := 4) (rest := []) hx hb hml hown hw (c_Q_weekday l g (n) (by omega)) zw_4_139 zw_4_140 zw_1_7 zw_4_141 (np := 1) (by decide +kernel) rfl (by decide) zN_mv hK trivial (hP.sub (ws' := []) [] rfl) hl.1 rfl (Nat.le_of_ble_eq_true rfl) (by decide) zd_Q_dayFits_145 ?_
                        refine lv_istore_n (lv' := [(3, .int (iI ((n + 4) % 7 + 1))), (0, .ref (qq)), (1, .int (iI (0))), (2, .int (iI (n)))]) hx hb zd_Q_dayFits_148 rfl hl (by decide) rfl (fun ls hl => ?_)
                        refine lv_aload_n hx hb zd_Q_dayFits_149 rfl (lv_at hl 1 rfl) ?_
                        refine va_get (D := g.1) (ci := 5) (v := .ref (rf 4)) (C := zR_Q) (T := zT_Q) (N := 21) hx hb hw zin_Q hown hK hP 0 rfl rfl 11 (by decide) (hw _ zw_3_209) (fun _ h9 => h9) rfl zd_Q_dayFits_150 ?_
                        refine lv_iload_n hx hb zd_Q_dayFits_153 rfl (lv_at hl 2 rfl) ?_
                        refine zi_aald (k := 0) hx hb hK hP 7 7 rfl rfl (by omega) rfl zd_Q_dayFits_154 ?_
                        refine zi_iconst hx hb zd_Q_dayFits_155 ?_
                        refine zi_iald hx hb hK hP 8 0 rfl rfl (by omega) zd_Q_dayFits_156 ?_
                        refine zi_as (wf 1) rfl ?_
                        refine zi_if_ne (tgt := 173) hx hb zd_Q_dayFits_157 (by decide) (by omega) (fun c157 => ?_) (fun c157 => ?_)
                        · refine lv_aload_n hx hb zd_Q_dayFits_173 rfl (lv_at hl 1 rfl) ?_
                          refine va_get (D := g.1) (ci := 5) (v := .ref (rf 4)) (C := zR_Q) (T := zT_Q) (N := 21) hx hb hw zin_Q hown hK hP 0 rfl rfl 11 (by decide) (hw _ zw_3_209) (fun _ h9 => h9) rfl zd_Q_dayFits_174 ?_
                          refine lv_iload_n hx hb zd_Q_dayFits_177 rfl (lv_at hl 2 rfl) ?_
                          refine zi_aald (k := 0) hx hb hK hP 7 7 rfl rfl (by omega) rfl zd_Q_dayFits_178 ?_
                          refine zi_iconst hx hb zd_Q_dayFits_179 ?_
                          refine zi_iald hx hb hK hP 8 0 rfl rfl (by omega) zd_Q_dayFits_180 ?_
                          refine zi_as (wf 1) rfl ?_
                          refine zi_iconst hx hb zd_Q_dayFits_181 ?_
                          refine zi_icmp_ne (tgt := 187) hx hb zd_Q_dayFits_182 (by decide) (by omega) (fun c182 => ?_) (fun c182 => ?_)
                          · refine lv_iload_n hx hb zd_Q_dayFits_187 rfl (lv_at hl 0 rfl) ?_
                            refine lv_aload_n hx hb zd_Q_dayFits_188 rfl (lv_at hl 1 rfl) ?_
                            refine va_get (D := g.1) (ci := 5) (v := .ref (rf 5)) (C := zR_Q) (T := zT_Q) (N := 21) hx hb hw zin_Q hown hK hP 0 rfl rfl 12 (by decide) (hw _ zw_3_210) (fun _ h9 => h9) rfl zd_Q_dayFits_189 ?_
                            refine lv_iload_n hx hb zd_Q_dayFits_192 rfl (lv_at hl 2 rfl) ?_
                            refine zi_aald (k := 0) hx hb hK hP 9 7 rfl rfl (by omega) rfl zd_Q_dayFits_193 ?_
                            refine zi_iconst hx hb zd_Q_dayFits_194 ?_
                            refine zi_iald hx hb hK hP 10 0 rfl rfl (by omega) zd_Q_dayFits_195 ?_
                            refine zi_as (fi 1) rfl ?_
                            refine zi_icmp_eq (tgt := 201) hx hb zd_Q_dayFits_196 (by decide) (by omega) (fun c196 => ?_) (fun c196 => ?_)
                            · refine lv_aload_n hx hb zd_Q_dayFits_201 rfl (lv_at hl 1 rfl) ?_
                              refine va_get (D := g.1) (ci := 5) (v := .ref (rf 4)) (C := zR_Q) (T := zT_Q) (N := 21) hx hb hw zin_Q hown hK hP 0 rfl rfl 11 (by decide) (hw _ zw_3_209) (fun _ h9 => h9) rfl zd_Q_dayFits_202 ?_
                              refine lv_iload_n hx hb zd_Q_dayFits_205 rfl (lv_at hl 2 rfl) ?_
                              refine zi_aald (k := 0) hx hb hK hP 7 7 rfl rfl (by omega) rfl zd_Q_dayFits_206 ?_
                              refine zi_iconst hx hb zd_Q_dayFits_207 ?_
                              refine zi_iald hx hb hK hP 8 0 rfl rfl (by omega) zd_Q_dayFits_208 ?_
                              refine zi_as (wf 1) rfl ?_
                              refine zi_iconst hx hb zd_Q_dayFits_209 ?_
                              refine zi_icmp_ne (tgt := 242) hx hb zd_Q_dayFits_210 (by decide) (by omega) (fun c210 => ?_) (fun c210 => ?_)
                              · refine lv_aload_n hx hb zd_Q_dayFits_242 rfl (lv_at hl 1 rfl) ?_
                                refine va_get (D := g.1) (ci := 5) (v := .int (iI (n - dM0 mo + 1))) (C := zR_Q) (T := zT_Q) (N := 21) hx hb hw zin_Q hown hK hP 0 rfl rfl 6 (by decide) (hw _ zw_3_204) (fun _ h9 => h9) rfl zd_Q_dayFits_243 ?_
                                refine zi_iconst hx hb zd_Q_dayFits_246 ?_
                                refine zi_isub hx hb zd_Q_dayFits_247 ?_
                                refine zi_bipush hx hb zd_Q_dayFits_248 (by decide) ?_
                                refine zi_idiv hx hb zd_Q_dayFits_250 (by omega) ?_
                                refine zi_iconst hx hb zd_Q_dayFits_251 ?_
                                refine zi_iadd hx hb zd_Q_dayFits_252 ?_
                                refine lv_aload_n hx hb zd_Q_dayFits_253 rfl (lv_at hl 1 rfl) ?_
                                refine va_get (D := g.1) (ci := 5) (v := .ref (rf 6)) (C := zR_Q) (T := zT_Q) (N := 21) hx hb hw zin_Q hown hK hP 0 rfl rfl 13 (by decide) (hw _ zw_3_211) (fun _ h9 => h9) rfl zd_Q_dayFits_254 ?_
                                refine lv_iload_n hx hb zd_Q_dayFits_257 rfl (lv_at hl 2 rfl) ?_
                                refine zi_aald (k := 0) hx hb hK hP 11 7 rfl rfl (by omega) rfl zd_Q_dayFits_258 ?_
                                refine zi_iconst hx hb zd_Q_dayFits_259 ?_
                                refine zi_iald hx hb hK hP 12 0 rfl rfl (by omega) zd_Q_dayFits_260 ?_
                                refine zi_as (sf 1) rfl ?_
                                refine zi_icmp_ne (tgt := 268) hx hb zd_Q_dayFits_261 (by decide) (by omega) (fun c261 => ?_) (fun c261 => ?_)
                                · refine zi_iconst hx hb zd_Q_dayFits_268 ?_
                                  refine zb_as (x := qDF st wf fi sf hdf mo n) (by first | exact bI_t (by rw [qDF_r (fun q => q.elim (b2n c43) (b2n c61)) (by first | exact b2f c82 | exact fun _ => absurd c71 (by omega) | exact fun _ => absurd c67 (by omega)) (fun q => by first | exact absurd q.1 c95 | (rw [c113] at q; exact absurd q.2 (by decide))) (fun q => by first | exact q.2 c139 | exact absurd q.1 (by omega)), if_neg c157, if_neg c182, if_neg (fun q => q c196), if_pos c210]; exact decide_eq_true (by omega)) | exact bI_f (by rw [qDF_r (fun q => q.elim (b2n c43) (b2n c61)) (by first | exact b2f c82 | exact fun _ => absurd c71 (by omega) | exact fun _ => absurd c67 (by omega)) (fun q => by first | exact absurd q.1 c95 | (rw [c113] at q; exact absurd q.2 (by decide))) (fun q => by first | exact q.2 c139 | exact absurd q.1 (by omega)), if_neg c157, if_neg c182, if_neg (fun q => q c196), if_pos c210]; exact decide_eq_false (by omega)) | exact bI_t (by rw [qDF_r (fun q => q.elim (b2n c43) (b2n c61)) (by first | exact b2f c82 | exact fun _ => absurd c71 (by omega) | exact fun _ => absurd c67 (by omega)) (fun q => by first | exact absurd q.1 c95 | (rw [c113] at q; exact absurd q.2 (by decide))) (fun q => by first | exact q.2 c139 | exact absurd q.1 (by omega)), if_neg c157, if_neg c182, if_neg (fun q => q c196), if_neg c210]; exact decide_eq_true (by omega)) | exact bI_f (by rw [qDF_r (fun q => q.elim (b2n c43) (b2n c61)) (by first | exact b2f c82 | exact fun _ => absurd c71 (by omega) | exact fun _ => absurd c67 (by omega)) (fun q => by first | exact absurd q.1 c95 | (rw [c113] at q; exact absurd q.2 (by decide))) (fun q => by first | exact q.2 c139 | exact absurd q.1 (by omega)), if_neg c157, if_neg c182, if_neg (fun q => q c196), if_neg c210]; exact decide_eq_false (by omega))) ?_
                                  exact zw_zret hx hb hr hlk hP hS zd_Q_dayFits_269
                                · refine zi_iconst hx hb zd_Q_dayFits_264 ?_
                                  refine lv_goto (tgt := 269) hx hb zd_Q_dayFits_265 (by decide) ?_
                                  refine zb_as (x := qDF st wf fi sf hdf mo n) (by first | exact bI_t (by rw [qDF_r (fun q => q.elim (b2n c43) (b2n c61)) (by first | exact b2f c82 | exact fun _ => absurd c71 (by omega) | exact fun _ => absurd c67 (by omega)) (fun q => by first | exact absurd q.1 c95 | (rw [c113] at q; exact absurd q.2 (by decide))) (fun q => by first | exact q.2 c139 | exact absurd q.1 (by omega)), if_neg c157, if_neg c182, if_neg (fun q => q c196), if_pos c210]; exact decide_eq_true (by omega)) | exact bI_f (by rw [qDF_r (fun q => q.elim (b2n c43) (b2n c61)) (by first | exact b2f c82 | exact fun _ => absurd c71 (by omega) | exact fun _ => absurd c67 (by omega)) (fun q => by first | exact absurd q.1 c95 | (rw [c113] at q; exact absurd q.2 (by decide))) (fun q => by first | exact q.2 c139 | exact absurd q.1 (by omega)), if_neg c157, if_neg c182, if_neg (fun q => q c196), if_pos c210]; exact decide_eq_false (by omega)) | exact bI_t (by rw [qDF_r (fun q => q.elim (b2n c43) (b2n c61)) (by first | exact b2f c82 | exact fun _ => absurd c71 (by omega) | exact fun _ => absurd c67 (by omega)) (fun q => by first | exact absurd q.1 c95 | (rw [c113] at q; exact absurd q.2 (by decide))) (fun q => by first | exact q.2 c139 | exact absurd q.1 (by omega)), if_neg c157, if_neg c182, if_neg (fun q => q c196), if_neg c210]; exact decide_eq_true (by omega)) | exact bI_f (by rw [qDF_r (fun q => q.elim (b2n c43) (b2n c61)) (by first | exact b2f c82 | exact fun _ => absurd c71 (by omega) | exact fun _ => absurd c67 (by omega)) (fun q => by first | exact absurd q.1 c95 | (rw [c113] at q; exact absurd q.2 (by decide))) (fun q => by first | exact q.2 c139 | exact absurd q.1 (by omega)), if_neg c157, if_neg c182, if_neg (fun q => q c196), if_neg c210]; exact decide_eq_false (by omega))) ?_
                                  exact zw_zret hx hb hr hlk hP hS zd_Q_dayFits_269
                              · refine lv_aload_n hx hb zd_Q_dayFits_213 rfl (lv_at hl 1 rfl) ?_
                                refine va_get (D := g.1) (ci := 5) (v := .int (iI (n - dM0 mo + 1))) (C := zR_Q) (T := zT_Q) (N := 21) hx hb hw zin_Q hown hK hP 0 rfl rfl 6 (by decide) (hw _ zw_3_204) (fun _ h9 => h9) rfl zd_Q_dayFits_214 ?_
                                refine zi_bipush hx hb zd_Q_dayFits_217 (by decide) ?_
                                refine zi_iadd hx hb zd_Q_dayFits_219 ?_
                                refine lv_aload_n hx hb zd_Q_dayFits_220 rfl (lv_at hl 1 rfl) ?_
                                refine va_get (D := g.1) (ci := 5) (v := .int (iI (1970 + mo / 12))) (C := zR_Q) (T := zT_Q) (N := 21) hx hb hw zin_Q hown hK hP 0 rfl rfl 4 (by decide) (hw _ zw_3_202) (fun _ h9 => h9) rfl zd_Q_dayFits_221 ?_
                                refine lv_aload_n hx hb zd_Q_dayFits_224 rfl (lv_at hl 1 rfl) ?_
                                refine va_get (D := g.1) (ci := 5) (v := .int (iI (mo % 12 + 1))) (C := zR_Q) (T := zT_Q) (N := 21) hx hb hw zin_Q hown hK hP 0 rfl rfl 5 (by decide) (hw _ zw_3_203) (fun _ h9 => h9) rfl zd_Q_dayFits_225 ?_
                                refine zk_S (As := [.int (iI (1970 + mo / 12)), .int (iI (mo % 12 + 1))]) (own := "CronFinderModel") (nL := 4) (rest := [.int (iI ((n - dM0 mo + 1) + 7))]) hx hb hml hown hw (c_Q_length l g (1970 + mo / 12) (mo % 12 + 1) (by omega)) zw_4_129 zw_4_130 zw_1_7 zw_4_131 (np := 2) (by decide +kernel) rfl (by decide) zN_mv hK trivial (hP.sub (ws' := []) [] rfl) hl.1 rfl (Nat.le_of_ble_eq_true rfl) (by decide) zd_Q_dayFits_228 ?_
                                have hq228 := dMl_rg (1970 + mo / 12) ((mo % 12 + 1) - 1)
                                refine zi_as (dM0 (mo + 1) - dM0 mo) (qL mo) ?_
                                refine zi_icmp_le (tgt := 238) hx hb zd_Q_dayFits_231 (by decide) (by omega) (fun c231 => ?_) (fun c231 => ?_)
                                · refine zi_iconst hx hb zd_Q_dayFits_238 ?_
                                  refine lv_goto (tgt := 269) hx hb zd_Q_dayFits_239 (by decide) ?_
                                  refine zb_as (x := qDF st wf fi sf hdf mo n) (by first | exact bI_t (by rw [qDF_r (fun q => q.elim (b2n c43) (b2n c61)) (by first | exact b2f c82 | exact fun _ => absurd c71 (by omega) | exact fun _ => absurd c67 (by omega)) (fun q => by first | exact absurd q.1 c95 | (rw [c113] at q; exact absurd q.2 (by decide))) (fun q => by first | exact q.2 c139 | exact absurd q.1 (by omega)), if_neg c157, if_neg c182, if_neg (fun q => q c196), if_pos c210]; exact decide_eq_true (by omega)) | exact bI_f (by rw [qDF_r (fun q => q.elim (b2n c43) (b2n c61)) (by first | exact b2f c82 | exact fun _ => absurd c71 (by omega) | exact fun _ => absurd c67 (by omega)) (fun q => by first | exact absurd q.1 c95 | (rw [c113] at q; exact absurd q.2 (by decide))) (fun q => by first | exact q.2 c139 | exact absurd q.1 (by omega)), if_neg c157, if_neg c182, if_neg (fun q => q c196), if_pos c210]; exact decide_eq_false (by omega)) | exact bI_t (by rw [qDF_r (fun q => q.elim (b2n c43) (b2n c61)) (by first | exact b2f c82 | exact fun _ => absurd c71 (by omega) | exact fun _ => absurd c67 (by omega)) (fun q => by first | exact absurd q.1 c95 | (rw [c113] at q; exact absurd q.2 (by decide))) (fun q => by first | exact q.2 c139 | exact absurd q.1 (by omega)), if_neg c157, if_neg c182, if_neg (fun q => q c196), if_neg c210]; exact decide_eq_true (by omega)) | exact bI_f (by rw [qDF_r (fun q => q.elim (b2n c43) (b2n c61)) (by first | exact b2f c82 | exact fun _ => absurd c71 (by omega) | exact fun _ => absurd c67 (by omega)) (fun q => by first | exact absurd q.1 c95 | (rw [c113] at q; exact absurd q.2 (by decide))) (fun q => by first | exact q.2 c139 | exact absurd q.1 (by omega)), if_neg c157, if_neg c182, if_neg (fun q => q c196), if_neg c210]; exact decide_eq_false (by omega))) ?_
                                  exact zw_zret hx hb hr hlk hP hS zd_Q_dayFits_269
                                · refine zi_iconst hx hb zd_Q_dayFits_234 ?_
                                  refine lv_goto (tgt := 269) hx hb zd_Q_dayFits_235 (by decide) ?_
                                  refine zb_as (x := qDF st wf fi sf hdf mo n) (by first | exact bI_t (by rw [qDF_r (fun q => q.elim (b2n c43) (b2n c61)) (by first | exact b2f c82 | exact fun _ => absurd c71 (by omega) | exact fun _ => absurd c67 (by omega)) (fun q => by first | exact absurd q.1 c95 | (rw [c113] at q; exact absurd q.2 (by decide))) (fun q => by first | exact q.2 c139 | exact absurd q.1 (by omega)), if_neg c157, if_neg c182, if_neg (fun q => q c196), if_pos c210]; exact decide_eq_true (by omega)) | exact bI_f (by rw [qDF_r (fun q => q.elim (b2n c43) (b2n c61)) (by first | exact b2f c82 | exact fun _ => absurd c71 (by omega) | exact fun _ => absurd c67 (by omega)) (fun q => by first | exact absurd q.1 c95 | (rw [c113] at q; exact absurd q.2 (by decide))) (fun q => by first | exact q.2 c139 | exact absurd q.1 (by omega)), if_neg c157, if_neg c182, if_neg (fun q => q c196), if_pos c210]; exact decide_eq_false (by omega)) | exact bI_t (by rw [qDF_r (fun q => q.elim (b2n c43) (b2n c61)) (by first | exact b2f c82 | exact fun _ => absurd c71 (by omega) | exact fun _ => absurd c67 (by omega)) (fun q => by first | exact absurd q.1 c95 | (rw [c113] at q; exact absurd q.2 (by decide))) (fun q => by first | exact q.2 c139 | exact absurd q.1 (by omega)), if_neg c157, if_neg c182, if_neg (fun q => q c196), if_neg c210]; exact decide_eq_true (by omega)) | exact bI_f (by rw [qDF_r (fun q => q.elim (b2n c43) (b2n c61)) (by first | exact b2f c82 | exact fun _ => absurd c71 (by omega) | exact fun _ => absurd c67 (by omega)) (fun q => by first | exact absurd q.1 c95 | (rw [c113] at q; exact absurd q.2 (by decide))) (fun q => by first | exact q.2 c139 | exact absurd q.1 (by omega)), if_neg c157, if_neg c182, if_neg (fun q => q c196), if_neg c210]; exact decide_eq_false (by omega))) ?_
                                  exact zw_zret hx hb hr hlk hP hS zd_Q_dayFits_269
                            · refine zi_iconst hx hb zd_Q_dayFits_199 ?_
                              refine zb_as (x := qDF st wf fi sf hdf mo n) (bI_f (by rw [qDF_r (fun q => q.elim (b2n c43) (b2n c61)) (by first | exact b2f c82 | exact fun _ => absurd c71 (by omega) | exact fun _ => absurd c67 (by omega)) (fun q => by first | exact absurd q.1 c95 | (rw [c113] at q; exact absurd q.2 (by decide))) (fun q => by first | exact q.2 c139 | exact absurd q.1 (by omega)), if_neg c157, if_neg c182, if_pos c196])) ?_
                              exact zw_zret hx hb hr hlk hP hS zd_Q_dayFits_200
                          · refine zi_iconst hx hb zd_Q_dayFits_185 ?_
                            refine zb_as (x := qDF st wf fi sf hdf mo n) (bI_t (by rw [qDF_r (fun q => q.elim (b2n c43) (b2n c61)) (by first | exact b2f c82 | exact fun _ => absurd c71 (by omega) | exact fun _ => absurd c67 (by omega)) (fun q => by first | exact absurd q.1 c95 | (rw [c113] at q; exact absurd q.2 (by decide))) (fun q => by first | exact q.2 c139 | exact absurd q.1 (by omega)), if_neg c157, if_pos c182])) ?_
                            exact zw_zret hx hb hr hlk hP hS zd_Q_dayFits_186
                        · refine lv_aload_n hx hb zd_Q_dayFits_160 rfl (lv_at hl 1 rfl) ?_
                          refine va_get (D := g.1) (ci := 5) (v := .ref (rf 1)) (C := zR_Q) (T := zT_Q) (N := 21) hx hb hw zin_Q hown hK hP 0 rfl rfl 8 (by decide) (hw _ zw_3_206) (fun _ h9 => h9) rfl zd_Q_dayFits_161 ?_
                          refine lv_iload_n hx hb zd_Q_dayFits_164 rfl (lv_at hl 2 rfl) ?_
                          refine zi_aald (k := 0) hx hb hK hP 1 6 rfl rfl (by omega) rfl zd_Q_dayFits_165 ?_
                          refine zi_iconst hx hb zd_Q_dayFits_166 ?_
                          refine zi_aald (k := 5) hx hb hK hP 2 5 rfl rfl (by omega) rfl zd_Q_dayFits_167 ?_
                          refine lv_iload_n hx hb zd_Q_dayFits_168 rfl (lv_at hl 0 rfl) ?_
                          refine zi_iconst hx hb zd_Q_dayFits_169 ?_
                          refine zi_isub hx hb zd_Q_dayFits_170 ?_
                          refine zi_zald hx hb hK hP 5 1 rfl rfl (by omega) zd_Q_dayFits_171 ?_
                          refine zb_eq (qDF st wf fi sf hdf mo n) (by rw [qDF_r (fun q => q.elim (b2n c43) (b2n c61)) (by first | exact b2f c82 | exact fun _ => absurd c71 (by omega) | exact fun _ => absurd c67 (by omega)) (fun q => by first | exact absurd q.1 c95 | (rw [c113] at q; exact absurd q.2 (by decide))) (fun q => by first | exact q.2 c139 | exact absurd q.1 (by omega)), if_pos c157]; congr 1; omega) ?_
                          exact zw_zret hx hb hr hlk hP hS zd_Q_dayFits_172
                      · refine zi_iconst hx hb zd_Q_dayFits_142 ?_
                        refine zb_as (x := qDF st wf fi sf hdf mo n) (bI_f (qDF_4 (fun q => q.elim (b2n c43) (b2n c61)) (by first | exact b2f c82 | exact fun _ => absurd c71 (by omega) | exact fun _ => absurd c67 (by omega)) (fun q => by first | exact absurd q.1 c95 | (rw [c113] at q; exact absurd q.2 (by decide))) ⟨by omega, c139⟩)) ?_
                        exact zw_zret hx hb hr hlk hP hS zd_Q_dayFits_143
                  · refine zi_iconst hx hb zd_Q_dayFits_116 ?_
                    refine zb_as (x := qDF st wf fi sf hdf mo n) (bI_f (qDF_3 (fun q => q.elim (b2n c43) (b2n c61)) (by first | exact b2f c82 | exact fun _ => absurd c71 (by omega) | exact fun _ => absurd c67 (by omega)) ⟨c95, c113⟩)) ?_
                    exact zw_zret hx hb hr hlk hP hS zd_Q_dayFits_117
              · refine zi_iconst hx hb zd_Q_dayFits_85 ?_
                refine zb_as (x := qDF st wf fi sf hdf mo n) (bI_f (qDF_2 (fun q => q.elim (b2n c43) (b2n c61)) c82)) ?_
                exact zw_zret hx hb hr hlk hP hS zd_Q_dayFits_86
        · refine zi_iconst hx hb zd_Q_dayFits_64 ?_
          refine zb_as (x := qDF st wf fi sf hdf mo n) (bI_f (qDF_1 (by first | exact Or.inr c61 | exact Or.inl c43))) ?_
          exact zw_zret hx hb hr hlk hP hS zd_Q_dayFits_65
