/-! the reference: special of a field, items -/
theorem zd_Q_special2_0 : decode zc_Q_special2 0 = .ok (.iload_n 1, 1) := by decide +kernel
theorem zd_Q_special2_1 : decode zc_Q_special2 1 = .ok (.iconst 3, 1) := by decide +kernel
theorem zd_Q_special2_2 : decode zc_Q_special2 2 = .ok (.if_icmp .ne 34, 3) := by decide +kernel
theorem zd_Q_special2_5 : decode zc_Q_special2 5 = .ok (.aload_n 0, 1) := by decide +kernel
theorem zd_Q_special2_6 : decode zc_Q_special2 6 = .ok (.invokevirtual 133, 3) := by decide +kernel
theorem zd_Q_special2_9 : decode zc_Q_special2 9 = .ok (.bipush 87, 2) := by decide +kernel
theorem zd_Q_special2_11 : decode zc_Q_special2 11 = .ok (.if_icmp .ne 25, 3) := by decide +kernel
theorem zd_Q_special2_14 : decode zc_Q_special2 14 = .ok (.aload_n 0, 1) := by decide +kernel
theorem zd_Q_special2_15 : decode zc_Q_special2 15 = .ok (.dup, 1) := by decide +kernel
theorem zd_Q_special2_16 : decode zc_Q_special2 16 = .ok (.getfield 127, 3) := by decide +kernel
theorem zd_Q_special2_19 : decode zc_Q_special2 19 = .ok (.iconst 1, 1) := by decide +kernel
theorem zd_Q_special2_20 : decode zc_Q_special2 20 = .ok (.iadd, 1) := by decide +kernel
theorem zd_Q_special2_21 : decode zc_Q_special2 21 = .ok (.putfield 127, 3) := by decide +kernel
theorem zd_Q_special2_24 : decode zc_Q_special2 24 = .ok (.aload_n 0, 1) := by decide +kernel
theorem zd_Q_special2_25 : decode zc_Q_special2 25 = .ok (.iconst 4, 1) := by decide +kernel
theorem zd_Q_special2_26 : decode zc_Q_special2 26 = .ok (.putfield 173, 3) := by decide +kernel
theorem zd_Q_special2_29 : decode zc_Q_special2 29 = .ok (.aload_n 0, 1) := by decide +kernel
theorem zd_Q_special2_30 : decode zc_Q_special2 30 = .ok (.iload_n 2, 1) := by decide +kernel
theorem zd_Q_special2_31 : decode zc_Q_special2 31 = .ok (.putfield 176, 3) := by decide +kernel
theorem zd_Q_special2_34 : decode zc_Q_special2 34 = .ok (.iconst 1, 1) := by decide +kernel
theorem zd_Q_special2_35 : decode zc_Q_special2 35 = .ok (.ireturn, 1) := by decide +kernel
theorem zd_Q_special2_36 : decode zc_Q_special2 36 = .ok (.iload_n 1, 1) := by decide +kernel
theorem zd_Q_special2_37 : decode zc_Q_special2 37 = .ok (.iconst 5, 1) := by decide +kernel
theorem zd_Q_special2_38 : decode zc_Q_special2 38 = .ok (.if_icmp .eq 5, 3) := by decide +kernel
theorem zd_Q_special2_41 : decode zc_Q_special2 41 = .ok (.iconst 0, 1) := by decide +kernel
theorem zd_Q_special2_42 : decode zc_Q_special2 42 = .ok (.ireturn, 1) := by decide +kernel
theorem zd_Q_special2_43 : decode zc_Q_special2 43 = .ok (.aload_n 0, 1) := by decide +kernel
theorem zd_Q_special2_44 : decode zc_Q_special2 44 = .ok (.invokevirtual 133, 3) := by decide +kernel
theorem zd_Q_special2_47 : decode zc_Q_special2 47 = .ok (.bipush 76, 2) := by decide +kernel
theorem zd_Q_special2_49 : decode zc_Q_special2 49 = .ok (.if_icmp .ne 25, 3) := by decide +kernel
theorem zd_Q_special2_52 : decode zc_Q_special2 52 = .ok (.aload_n 0, 1) := by decide +kernel
theorem zd_Q_special2_53 : decode zc_Q_special2 53 = .ok (.dup, 1) := by decide +kernel
theorem zd_Q_special2_54 : decode zc_Q_special2 54 = .ok (.getfield 127, 3) := by decide +kernel
theorem zd_Q_special2_57 : decode zc_Q_special2 57 = .ok (.iconst 1, 1) := by decide +kernel
theorem zd_Q_special2_58 : decode zc_Q_special2 58 = .ok (.iadd, 1) := by decide +kernel
theorem zd_Q_special2_59 : decode zc_Q_special2 59 = .ok (.putfield 127, 3) := by decide +kernel
theorem zd_Q_special2_62 : decode zc_Q_special2 62 = .ok (.aload_n 0, 1) := by decide +kernel
theorem zd_Q_special2_63 : decode zc_Q_special2 63 = .ok (.iconst 5, 1) := by decide +kernel
theorem zd_Q_special2_64 : decode zc_Q_special2 64 = .ok (.putfield 173, 3) := by decide +kernel
theorem zd_Q_special2_67 : decode zc_Q_special2 67 = .ok (.aload_n 0, 1) := by decide +kernel
theorem zd_Q_special2_68 : decode zc_Q_special2 68 = .ok (.iload_n 2, 1) := by decide +kernel
theorem zd_Q_special2_69 : decode zc_Q_special2 69 = .ok (.putfield 176, 3) := by decide +kernel
theorem zd_Q_special2_72 : decode zc_Q_special2 72 = .ok (.iconst 1, 1) := by decide +kernel
theorem zd_Q_special2_73 : decode zc_Q_special2 73 = .ok (.ireturn, 1) := by decide +kernel
theorem zd_Q_special2_74 : decode zc_Q_special2 74 = .ok (.aload_n 0, 1) := by decide +kernel
theorem zd_Q_special2_75 : decode zc_Q_special2 75 = .ok (.invokevirtual 133, 3) := by decide +kernel
theorem zd_Q_special2_78 : decode zc_Q_special2 78 = .ok (.bipush 35, 2) := by decide +kernel
theorem zd_Q_special2_80 : decode zc_Q_special2 80 = .ok (.if_icmp .eq 5, 3) := by decide +kernel
theorem zd_Q_special2_83 : decode zc_Q_special2 83 = .ok (.iconst 0, 1) := by decide +kernel
theorem zd_Q_special2_84 : decode zc_Q_special2 84 = .ok (.ireturn, 1) := by decide +kernel
theorem zd_Q_special2_85 : decode zc_Q_special2 85 = .ok (.aload_n 0, 1) := by decide +kernel
theorem zd_Q_special2_86 : decode zc_Q_special2 86 = .ok (.dup, 1) := by decide +kernel
theorem zd_Q_special2_87 : decode zc_Q_special2 87 = .ok (.getfield 127, 3) := by decide +kernel
theorem zd_Q_special2_90 : decode zc_Q_special2 90 = .ok (.iconst 1, 1) := by decide +kernel
theorem zd_Q_special2_91 : decode zc_Q_special2 91 = .ok (.iadd, 1) := by decide +kernel
theorem zd_Q_special2_92 : decode zc_Q_special2 92 = .ok (.putfield 127, 3) := by decide +kernel
theorem zd_Q_special2_95 : decode zc_Q_special2 95 = .ok (.aload_n 0, 1) := by decide +kernel
theorem zd_Q_special2_96 : decode zc_Q_special2 96 = .ok (.bipush 6, 2) := by decide +kernel
theorem zd_Q_special2_98 : decode zc_Q_special2 98 = .ok (.putfield 173, 3) := by decide +kernel
theorem zd_Q_special2_101 : decode zc_Q_special2 101 = .ok (.aload_n 0, 1) := by decide +kernel
theorem zd_Q_special2_102 : decode zc_Q_special2 102 = .ok (.iload_n 2, 1) := by decide +kernel
theorem zd_Q_special2_103 : decode zc_Q_special2 103 = .ok (.putfield 176, 3) := by decide +kernel
theorem zd_Q_special2_106 : decode zc_Q_special2 106 = .ok (.aload_n 0, 1) := by decide +kernel
theorem zd_Q_special2_107 : decode zc_Q_special2 107 = .ok (.aload_n 0, 1) := by decide +kernel
theorem zd_Q_special2_108 : decode zc_Q_special2 108 = .ok (.iconst 1, 1) := by decide +kernel
theorem zd_Q_special2_109 : decode zc_Q_special2 109 = .ok (.iconst 5, 1) := by decide +kernel
theorem zd_Q_special2_110 : decode zc_Q_special2 110 = .ok (.invokevirtual 162, 3) := by decide +kernel
theorem zd_Q_special2_113 : decode zc_Q_special2 113 = .ok (.putfield 179, 3) := by decide +kernel
theorem zd_Q_special2_116 : decode zc_Q_special2 116 = .ok (.iconst 1, 1) := by decide +kernel
theorem zd_Q_special2_117 : decode zc_Q_special2 117 = .ok (.ireturn, 1) := by decide +kernel
theorem zd_Q_items_0 : decode zc_Q_items 0 = .ok (.iconst 0, 1) := by decide +kernel
theorem zd_Q_items_1 : decode zc_Q_items 1 = .ok (.istore_n 2, 1) := by decide +kernel
theorem zd_Q_items_2 : decode zc_Q_items 2 = .ok (.iload_n 2, 1) := by decide +kernel
theorem zd_Q_items_3 : decode zc_Q_items 3 = .ok (.sipush 330, 3) := by decide +kernel
theorem zd_Q_items_6 : decode zc_Q_items 6 = .ok (.if_icmp .ge 18, 3) := by decide +kernel
theorem zd_Q_items_9 : decode zc_Q_items 9 = .ok (.aload_n 0, 1) := by decide +kernel
theorem zd_Q_items_10 : decode zc_Q_items 10 = .ok (.getfield 24, 3) := by decide +kernel
theorem zd_Q_items_13 : decode zc_Q_items 13 = .ok (.iload_n 1, 1) := by decide +kernel
theorem zd_Q_items_14 : decode zc_Q_items 14 = .ok (.aaload, 1) := by decide +kernel
theorem zd_Q_items_15 : decode zc_Q_items 15 = .ok (.iload_n 2, 1) := by decide +kernel
theorem zd_Q_items_16 : decode zc_Q_items 16 = .ok (.iconst 0, 1) := by decide +kernel
theorem zd_Q_items_17 : decode zc_Q_items 17 = .ok (.bastore, 1) := by decide +kernel
theorem zd_Q_items_18 : decode zc_Q_items 18 = .ok (.iinc 2 1, 3) := by decide +kernel
theorem zd_Q_items_21 : decode zc_Q_items 21 = .ok (.goto (-19), 3) := by decide +kernel
theorem zd_Q_items_24 : decode zc_Q_items 24 = .ok (.iconst 1, 1) := by decide +kernel
theorem zd_Q_items_25 : decode zc_Q_items 25 = .ok (.istore_n 2, 1) := by decide +kernel
theorem zd_Q_items_26 : decode zc_Q_items 26 = .ok (.aload_n 0, 1) := by decide +kernel
theorem zd_Q_items_27 : decode zc_Q_items 27 = .ok (.invokevirtual 133, 3) := by decide +kernel
theorem zd_Q_items_30 : decode zc_Q_items 30 = .ok (.bipush 42, 2) := by decide +kernel
theorem zd_Q_items_32 : decode zc_Q_items 32 = .ok (.if_icmp .ne 7, 3) := by decide +kernel
theorem zd_Q_items_35 : decode zc_Q_items 35 = .ok (.iconst 1, 1) := by decide +kernel
theorem zd_Q_items_36 : decode zc_Q_items 36 = .ok (.goto 4, 3) := by decide +kernel
theorem zd_Q_items_39 : decode zc_Q_items 39 = .ok (.iconst 0, 1) := by decide +kernel
theorem zd_Q_items_40 : decode zc_Q_items 40 = .ok (.istore_n 3, 1) := by decide +kernel
theorem zd_Q_items_41 : decode zc_Q_items 41 = .ok (.getstatic 155, 3) := by decide +kernel
theorem zd_Q_items_44 : decode zc_Q_items 44 = .ok (.iload_n 1, 1) := by decide +kernel
theorem zd_Q_items_45 : decode zc_Q_items 45 = .ok (.iaload, 1) := by decide +kernel
theorem zd_Q_items_46 : decode zc_Q_items 46 = .ok (.istore 4, 2) := by decide +kernel
theorem zd_Q_items_48 : decode zc_Q_items 48 = .ok (.getstatic 159, 3) := by decide +kernel
theorem zd_Q_items_51 : decode zc_Q_items 51 = .ok (.iload_n 1, 1) := by decide +kernel
theorem zd_Q_items_52 : decode zc_Q_items 52 = .ok (.iaload, 1) := by decide +kernel
theorem zd_Q_items_53 : decode zc_Q_items 53 = .ok (.istore 5, 2) := by decide +kernel
theorem zd_Q_items_55 : decode zc_Q_items 55 = .ok (.iconst 0, 1) := by decide +kernel
theorem zd_Q_items_56 : decode zc_Q_items 56 = .ok (.istore 6, 2) := by decide +kernel
theorem zd_Q_items_58 : decode zc_Q_items 58 = .ok (.iload_n 3, 1) := by decide +kernel
theorem zd_Q_items_59 : decode zc_Q_items 59 = .ok (.ifCond .eq 16, 3) := by decide +kernel
theorem zd_Q_items_62 : decode zc_Q_items 62 = .ok (.aload_n 0, 1) := by decide +kernel
theorem zd_Q_items_63 : decode zc_Q_items 63 = .ok (.dup, 1) := by decide +kernel
theorem zd_Q_items_64 : decode zc_Q_items 64 = .ok (.getfield 127, 3) := by decide +kernel
theorem zd_Q_items_67 : decode zc_Q_items 67 = .ok (.iconst 1, 1) := by decide +kernel
theorem zd_Q_items_68 : decode zc_Q_items 68 = .ok (.iadd, 1) := by decide +kernel
theorem zd_Q_items_69 : decode zc_Q_items 69 = .ok (.putfield 127, 3) := by decide +kernel
theorem zd_Q_items_72 : decode zc_Q_items 72 = .ok (.goto 113, 3) := by decide +kernel
theorem zd_Q_items_75 : decode zc_Q_items 75 = .ok (.aload_n 0, 1) := by decide +kernel
theorem zd_Q_items_76 : decode zc_Q_items 76 = .ok (.iload_n 1, 1) := by decide +kernel
theorem zd_Q_items_77 : decode zc_Q_items 77 = .ok (.invokevirtual 165, 3) := by decide +kernel
theorem zd_Q_items_80 : decode zc_Q_items 80 = .ok (.istore 4, 2) := by decide +kernel
theorem zd_Q_items_82 : decode zc_Q_items 82 = .ok (.iload_n 2, 1) := by decide +kernel
theorem zd_Q_items_83 : decode zc_Q_items 83 = .ok (.ifCond .eq 14, 3) := by decide +kernel
theorem zd_Q_items_86 : decode zc_Q_items 86 = .ok (.aload_n 0, 1) := by decide +kernel
theorem zd_Q_items_87 : decode zc_Q_items 87 = .ok (.iload_n 1, 1) := by decide +kernel
theorem zd_Q_items_88 : decode zc_Q_items 88 = .ok (.iload 4, 2) := by decide +kernel
theorem zd_Q_items_90 : decode zc_Q_items 90 = .ok (.invokevirtual 169, 3) := by decide +kernel
theorem zd_Q_items_93 : decode zc_Q_items 93 = .ok (.ifCond .eq 4, 3) := by decide +kernel
theorem zd_Q_items_96 : decode zc_Q_items 96 = .ok (.return_, 1) := by decide +kernel
theorem zd_Q_items_97 : decode zc_Q_items 97 = .ok (.aload_n 0, 1) := by decide +kernel
theorem zd_Q_items_98 : decode zc_Q_items 98 = .ok (.invokevirtual 133, 3) := by decide +kernel
theorem zd_Q_items_101 : decode zc_Q_items 101 = .ok (.bipush 45, 2) := by decide +kernel
theorem zd_Q_items_103 : decode zc_Q_items 103 = .ok (.if_icmp .eq 16, 3) := by decide +kernel
theorem zd_Q_items_106 : decode zc_Q_items 106 = .ok (.aload_n 0, 1) := by decide +kernel
theorem zd_Q_items_107 : decode zc_Q_items 107 = .ok (.invokevirtual 133, 3) := by decide +kernel
theorem zd_Q_items_110 : decode zc_Q_items 110 = .ok (.bipush 47, 2) := by decide +kernel
theorem zd_Q_items_112 : decode zc_Q_items 112 = .ok (.if_icmp .eq 7, 3) := by decide +kernel
theorem zd_Q_items_115 : decode zc_Q_items 115 = .ok (.iconst 1, 1) := by decide +kernel
theorem zd_Q_items_116 : decode zc_Q_items 116 = .ok (.goto 4, 3) := by decide +kernel
theorem zd_Q_items_119 : decode zc_Q_items 119 = .ok (.iconst 0, 1) := by decide +kernel
theorem zd_Q_items_120 : decode zc_Q_items 120 = .ok (.istore 6, 2) := by decide +kernel
theorem zd_Q_items_122 : decode zc_Q_items 122 = .ok (.aload_n 0, 1) := by decide +kernel
theorem zd_Q_items_123 : decode zc_Q_items 123 = .ok (.invokevirtual 133, 3) := by decide +kernel
theorem zd_Q_items_126 : decode zc_Q_items 126 = .ok (.bipush 45, 2) := by decide +kernel
theorem zd_Q_items_128 : decode zc_Q_items 128 = .ok (.if_icmp .ne 48, 3) := by decide +kernel
theorem zd_Q_items_131 : decode zc_Q_items 131 = .ok (.aload_n 0, 1) := by decide +kernel
theorem zd_Q_items_132 : decode zc_Q_items 132 = .ok (.dup, 1) := by decide +kernel
theorem zd_Q_items_133 : decode zc_Q_items 133 = .ok (.getfield 127, 3) := by decide +kernel
theorem zd_Q_items_136 : decode zc_Q_items 136 = .ok (.iconst 1, 1) := by decide +kernel
theorem zd_Q_items_137 : decode zc_Q_items 137 = .ok (.iadd, 1) := by decide +kernel
theorem zd_Q_items_138 : decode zc_Q_items 138 = .ok (.putfield 127, 3) := by decide +kernel
theorem zd_Q_items_141 : decode zc_Q_items 141 = .ok (.aload_n 0, 1) := by decide +kernel
theorem zd_Q_items_142 : decode zc_Q_items 142 = .ok (.getfield 127, 3) := by decide +kernel
theorem zd_Q_items_145 : decode zc_Q_items 145 = .ok (.istore 7, 2) := by decide +kernel
theorem zd_Q_items_147 : decode zc_Q_items 147 = .ok (.aload_n 0, 1) := by decide +kernel
theorem zd_Q_items_148 : decode zc_Q_items 148 = .ok (.iload_n 1, 1) := by decide +kernel
theorem zd_Q_items_149 : decode zc_Q_items 149 = .ok (.invokevirtual 165, 3) := by decide +kernel
theorem zd_Q_items_152 : decode zc_Q_items 152 = .ok (.istore 5, 2) := by decide +kernel
theorem zd_Q_items_154 : decode zc_Q_items 154 = .ok (.iload_n 1, 1) := by decide +kernel
theorem zd_Q_items_155 : decode zc_Q_items 155 = .ok (.bipush 6, 2) := by decide +kernel
theorem zd_Q_items_157 : decode zc_Q_items 157 = .ok (.if_icmp .ne 16, 3) := by decide +kernel
theorem zd_Q_items_160 : decode zc_Q_items 160 = .ok (.iload 4, 2) := by decide +kernel
theorem zd_Q_items_162 : decode zc_Q_items 162 = .ok (.iload 5, 2) := by decide +kernel
theorem zd_Q_items_164 : decode zc_Q_items 164 = .ok (.if_icmp .le 9, 3) := by decide +kernel
theorem zd_Q_items_167 : decode zc_Q_items 167 = .ok (.aload_n 0, 1) := by decide +kernel
theorem zd_Q_items_168 : decode zc_Q_items 168 = .ok (.iload 7, 2) := by decide +kernel
theorem zd_Q_items_170 : decode zc_Q_items 170 = .ok (.invokevirtual 137, 3) := by decide +kernel
theorem zd_Q_items_173 : decode zc_Q_items 173 = .ok (.goto 12, 3) := by decide +kernel
theorem zd_Q_items_176 : decode zc_Q_items 176 = .ok (.iload 6, 2) := by decide +kernel
theorem zd_Q_items_178 : decode zc_Q_items 178 = .ok (.ifCond .eq 7, 3) := by decide +kernel
theorem zd_Q_items_181 : decode zc_Q_items 181 = .ok (.iload 4, 2) := by decide +kernel
theorem zd_Q_items_183 : decode zc_Q_items 183 = .ok (.istore 5, 2) := by decide +kernel
theorem zd_Q_items_185 : decode zc_Q_items 185 = .ok (.iconst 1, 1) := by decide +kernel
theorem zd_Q_items_186 : decode zc_Q_items 186 = .ok (.istore 7, 2) := by decide +kernel
theorem zd_Q_items_188 : decode zc_Q_items 188 = .ok (.aload_n 0, 1) := by decide +kernel
theorem zd_Q_items_189 : decode zc_Q_items 189 = .ok (.invokevirtual 133, 3) := by decide +kernel
theorem zd_Q_items_192 : decode zc_Q_items 192 = .ok (.bipush 47, 2) := by decide +kernel
theorem zd_Q_items_194 : decode zc_Q_items 194 = .ok (.if_icmp .ne 22, 3) := by decide +kernel
theorem zd_Q_items_197 : decode zc_Q_items 197 = .ok (.aload_n 0, 1) := by decide +kernel
theorem zd_Q_items_198 : decode zc_Q_items 198 = .ok (.dup, 1) := by decide +kernel
theorem zd_Q_items_199 : decode zc_Q_items 199 = .ok (.getfield 127, 3) := by decide +kernel
theorem zd_Q_items_202 : decode zc_Q_items 202 = .ok (.iconst 1, 1) := by decide +kernel
theorem zd_Q_items_203 : decode zc_Q_items 203 = .ok (.iadd, 1) := by decide +kernel
theorem zd_Q_items_204 : decode zc_Q_items 204 = .ok (.putfield 127, 3) := by decide +kernel
theorem zd_Q_items_207 : decode zc_Q_items 207 = .ok (.aload_n 0, 1) := by decide +kernel
theorem zd_Q_items_208 : decode zc_Q_items 208 = .ok (.iconst 1, 1) := by decide +kernel
theorem zd_Q_items_209 : decode zc_Q_items 209 = .ok (.bipush 99, 2) := by decide +kernel
theorem zd_Q_items_211 : decode zc_Q_items 211 = .ok (.invokevirtual 162, 3) := by decide +kernel
theorem zd_Q_items_214 : decode zc_Q_items 214 = .ok (.istore 7, 2) := by decide +kernel
theorem zd_Q_items_216 : decode zc_Q_items 216 = .ok (.getstatic 159, 3) := by decide +kernel
theorem zd_Q_items_219 : decode zc_Q_items 219 = .ok (.iload_n 1, 1) := by decide +kernel
theorem zd_Q_items_220 : decode zc_Q_items 220 = .ok (.iaload, 1) := by decide +kernel
theorem zd_Q_items_221 : decode zc_Q_items 221 = .ok (.getstatic 155, 3) := by decide +kernel
theorem zd_Q_items_224 : decode zc_Q_items 224 = .ok (.iload_n 1, 1) := by decide +kernel
theorem zd_Q_items_225 : decode zc_Q_items 225 = .ok (.iaload, 1) := by decide +kernel
theorem zd_Q_items_226 : decode zc_Q_items 226 = .ok (.isub, 1) := by decide +kernel
theorem zd_Q_items_227 : decode zc_Q_items 227 = .ok (.iconst 1, 1) := by decide +kernel
theorem zd_Q_items_228 : decode zc_Q_items 228 = .ok (.iadd, 1) := by decide +kernel
theorem zd_Q_items_229 : decode zc_Q_items 229 = .ok (.istore 8, 2) := by decide +kernel
theorem zd_Q_items_231 : decode zc_Q_items 231 = .ok (.iload 5, 2) := by decide +kernel
theorem zd_Q_items_233 : decode zc_Q_items 233 = .ok (.iload 4, 2) := by decide +kernel
theorem zd_Q_items_235 : decode zc_Q_items 235 = .ok (.isub, 1) := by decide +kernel
theorem zd_Q_items_236 : decode zc_Q_items 236 = .ok (.iload 8, 2) := by decide +kernel
theorem zd_Q_items_238 : decode zc_Q_items 238 = .ok (.invokestatic 121, 3) := by decide +kernel
theorem zd_Q_items_241 : decode zc_Q_items 241 = .ok (.iconst 1, 1) := by decide +kernel
theorem zd_Q_items_242 : decode zc_Q_items 242 = .ok (.iadd, 1) := by decide +kernel
theorem zd_Q_items_243 : decode zc_Q_items 243 = .ok (.istore 9, 2) := by decide +kernel
theorem zd_Q_items_245 : decode zc_Q_items 245 = .ok (.iconst 0, 1) := by decide +kernel
theorem zd_Q_items_246 : decode zc_Q_items 246 = .ok (.istore 10, 2) := by decide +kernel
theorem zd_Q_items_248 : decode zc_Q_items 248 = .ok (.iload 10, 2) := by decide +kernel
theorem zd_Q_items_250 : decode zc_Q_items 250 = .ok (.iload 9, 2) := by decide +kernel
theorem zd_Q_items_252 : decode zc_Q_items 252 = .ok (.if_icmp .ge 37, 3) := by decide +kernel
theorem zd_Q_items_255 : decode zc_Q_items 255 = .ok (.aload_n 0, 1) := by decide +kernel
theorem zd_Q_items_256 : decode zc_Q_items 256 = .ok (.getfield 24, 3) := by decide +kernel
theorem zd_Q_items_259 : decode zc_Q_items 259 = .ok (.iload_n 1, 1) := by decide +kernel
theorem zd_Q_items_260 : decode zc_Q_items 260 = .ok (.aaload, 1) := by decide +kernel
theorem zd_Q_items_261 : decode zc_Q_items 261 = .ok (.iload 4, 2) := by decide +kernel
theorem zd_Q_items_263 : decode zc_Q_items 263 = .ok (.getstatic 155, 3) := by decide +kernel
theorem zd_Q_items_266 : decode zc_Q_items 266 = .ok (.iload_n 1, 1) := by decide +kernel
theorem zd_Q_items_267 : decode zc_Q_items 267 = .ok (.iaload, 1) := by decide +kernel
theorem zd_Q_items_268 : decode zc_Q_items 268 = .ok (.isub, 1) := by decide +kernel
theorem zd_Q_items_269 : decode zc_Q_items 269 = .ok (.iload 10, 2) := by decide +kernel
theorem zd_Q_items_271 : decode zc_Q_items 271 = .ok (.iadd, 1) := by decide +kernel
theorem zd_Q_items_272 : decode zc_Q_items 272 = .ok (.iload 8, 2) := by decide +kernel
theorem zd_Q_items_274 : decode zc_Q_items 274 = .ok (.invokestatic 121, 3) := by decide +kernel
theorem zd_Q_items_277 : decode zc_Q_items 277 = .ok (.iconst 1, 1) := by decide +kernel
theorem zd_Q_items_278 : decode zc_Q_items 278 = .ok (.bastore, 1) := by decide +kernel
theorem zd_Q_items_279 : decode zc_Q_items 279 = .ok (.iload 10, 2) := by decide +kernel
theorem zd_Q_items_281 : decode zc_Q_items 281 = .ok (.iload 7, 2) := by decide +kernel
theorem zd_Q_items_283 : decode zc_Q_items 283 = .ok (.iadd, 1) := by decide +kernel
theorem zd_Q_items_284 : decode zc_Q_items 284 = .ok (.istore 10, 2) := by decide +kernel
theorem zd_Q_items_286 : decode zc_Q_items 286 = .ok (.goto (-38), 3) := by decide +kernel
theorem zd_Q_items_289 : decode zc_Q_items 289 = .ok (.aload_n 0, 1) := by decide +kernel
theorem zd_Q_items_290 : decode zc_Q_items 290 = .ok (.invokevirtual 133, 3) := by decide +kernel
theorem zd_Q_items_293 : decode zc_Q_items 293 = .ok (.bipush 44, 2) := by decide +kernel
theorem zd_Q_items_295 : decode zc_Q_items 295 = .ok (.if_icmp .eq 4, 3) := by decide +kernel
theorem zd_Q_items_298 : decode zc_Q_items 298 = .ok (.return_, 1) := by decide +kernel
theorem zd_Q_items_299 : decode zc_Q_items 299 = .ok (.aload_n 0, 1) := by decide +kernel
theorem zd_Q_items_300 : decode zc_Q_items 300 = .ok (.dup, 1) := by decide +kernel
theorem zd_Q_items_301 : decode zc_Q_items 301 = .ok (.getfield 127, 3) := by decide +kernel
theorem zd_Q_items_304 : decode zc_Q_items 304 = .ok (.iconst 1, 1) := by decide +kernel
theorem zd_Q_items_305 : decode zc_Q_items 305 = .ok (.iadd, 1) := by decide +kernel
theorem zd_Q_items_306 : decode zc_Q_items 306 = .ok (.putfield 127, 3) := by decide +kernel
theorem zd_Q_items_309 : decode zc_Q_items 309 = .ok (.iconst 0, 1) := by decide +kernel
theorem zd_Q_items_310 : decode zc_Q_items 310 = .ok (.istore_n 2, 1) := by decide +kernel
theorem zd_Q_items_311 : decode zc_Q_items 311 = .ok (.goto (-285), 3) := by decide +kernel
theorem zD_ad {A : Nat → Prop} {ws ws' : va_W} (h : va_D A ws) (e : ws'.map (fun x => x.1) = ws.map (fun x => x.1)) : va_D A ws' := by
  have key : ∀ (k : Nat) (q : Nat × va_E), ws'[k]? = some q → ∃ q0, ws[k]? = some q0 ∧ q0.1 = q.1 := fun k q hq => by
    have e1 := congrArg (fun l => l[k]?) e
    simp only [List.getElem?_map, hq, Option.map_some] at e1
    cases h9 : ws[k]? with
    | none => rw [h9] at e1; cases e1
    | some q0 => rw [h9] at e1; exact ⟨q0, rfl, (Option.some.inj e1).symm⟩
  refine ⟨fun i j x y hi hj hxy => ?_, fun k q hq => ?_⟩
  · obtain ⟨x0, g1, g2⟩ := key i x hi
    obtain ⟨y0, g3, g4⟩ := key j y hj
    exact h.1 i j x0 y0 g1 g3 (by rw [g2, g4, hxy])
  · obtain ⟨q0, g1, g2⟩ := key k q hq
    rw [← g2]
    exact h.2 k q0 g1
section QIT
variable {j n : Nat} {tf : Nat → Int} {ln a vl b fr to v st : Int} {f f' : Nat → Bool} {ok : Bool}
theorem pIs_z (h0 : ln = 0) (ha : a = 0) : pIs j tf ln 0 a vl f = pIs j tf ln 1 a vl f := by
  subst h0; subst ha
  have hr : rk tf 0 0 = -1 := rk_out (by omega)
  have hn : vNm j 0 tf 0 = 0 := by
    unfold vNm
    rw [nmA_s (by omega), nmA_s (by omega)]
    split
    · rfl
    · split <;> rfl
  have hv : ¬ vOk j tf 0 0 = true := fun q => rNm_nd (bN (qDg_i _) (by rw [hr]; omega)) ((vOk_0 hn).mp q)
  rw [pIs_1 (pI_0 (pI1_2 (by rw [hr]; decide) hv)), pIs_0 rfl]
/-- no item of its own kind begins here -/
def qNs (j : Nat) (tf : Nat → Int) (ln a : Int) : Prop := rk tf ln a = 42 ∨ vOk j tf ln a = false ∨ (¬ (j = 3 ∧ rk tf ln (vAt j tf ln a) = 87) ∧ ¬ (j = 5 ∧ (rk tf ln (vAt j tf ln a) = 76 ∨ rk tf ln (vAt j tf ln a) = 35)))
end QIT
set_option maxHeartbeats 4000000 in
set_option maxRecDepth 100000 in
theorem c_Q_sp_n (l : Launch) (g : zGl) (qq : Nat) (rf : Nat → Nat) (fl ln pl yy mm dd at0 wa on tw hc : Int) (tf : Nat → Int) (hln : 0 ≤ ln ∧ ln ≤ 400) (hat : 0 ≤ at0 ∧ at0 ≤ ln) (hch : ∀ j : Nat, 0 ≤ tf j ∧ tf j < 256) (j : Nat) (hj : j < 7) (v : Int) (hn : ¬ (j = 3 ∧ rk tf ln at0 = 87) ∧ ¬ (j = 5 ∧ (rk tf ln at0 = 76 ∨ rk tf ln at0 = 35))) : zSi l zy_Q_special2 zc_Q_special2 3 (some .boolean) ({ frames := 7, cells := 0, slots := 0, locals := 165 }) g zN [.ref (qq), .int (iI (((j : Nat) : Int))), .int (iI (v))] [(qq, .inr (5, [.int (iI (fl)), .ref (rf 0), .int (iI (ln)), .int (iI (pl)), .int (iI (yy)), .int (iI (mm)), .int (iI (dd)), .int (iI (at0)), .ref (rf 1), .ref (rf 2), .ref (rf 3), .ref (rf 4), .ref (rf 5), .ref (rf 6), .int (iI (wa)), .int (iI (on)), .int (iI (tw)), .ref (rf 7), .ref (rf 8), .ref (rf 9), .int (iI (hc))])), (rf 0, .inl (g.2 3, 400, .inl (zaI (zSg tf))))] (some (.int (iI (bI (false))))) := by
  refine zs_open (by decide +kernel) (Nat.le_of_ble_eq_true rfl) ?_
  intro p e s m below meth c ls hx hb hml hr hlk hown hw hK hT hP hl
  have hown : s.vm.findClass "CronFinderModel" = some m.cls := hown
  have hl : lv_has ls 3 [(0, .ref (qq)), (1, .int (iI (((j : Nat) : Int)))), (2, .int (iI (v)))] := hl
  refine lv_iload_n hx hb zd_Q_special2_0 rfl (lv_at hl 1 rfl) ?_
  refine zi_iconst hx hb zd_Q_special2_1 ?_
  refine zi_icmp_ne (tgt := 36) hx hb zd_Q_special2_2 (by decide) (by omega) (fun c2 => ?_) (fun c2 => ?_)
  · refine lv_iload_n hx hb zd_Q_special2_36 rfl (lv_at hl 1 rfl) ?_
    refine zi_iconst hx hb zd_Q_special2_37 ?_
    refine zi_icmp_eq (tgt := 43) hx hb zd_Q_special2_38 (by decide) (by omega) (fun c38 => ?_) (fun c38 => ?_)
    · refine lv_aload_n hx hb zd_Q_special2_43 rfl (lv_at hl 0 rfl) ?_
      refine zk_V (As := []) (b := qq) (own := "CronFinderModel") (nL := 3) (rest := []) hx hb hml hown hw (c_Q_peek l g qq rf (fl) (ln) (pl) (yy) (mm) (dd) (at0) (wa) (on) (tw) (hc) tf hln (by omega) hch) zw_4_39 zw_4_41 zw_0_30 zw_1_7 zw_4_42 (np := 0) (by decide +kernel) rfl (by decide) zN_mv hK trivial (hP.sub (ws' := [(qq, .inr (5, [.int (iI (fl)), .ref (rf 0), .int (iI (ln)), .int (iI (pl)), .int (iI (yy)), .int (iI (mm)), .int (iI (dd)), .int (iI (at0)), .ref (rf 1), .ref (rf 2), .ref (rf 3), .ref (rf 4), .ref (rf 5), .ref (rf 6), .int (iI (wa)), .int (iI (on)), .int (iI (tw)), .ref (rf 7), .ref (rf 8), .ref (rf 9), .int (iI (hc))])), (rf 0, .inl (g.2 3, 400, .inl (zaI (zSg tf))))]) [0, 1] rfl) (va_recv hK hP (ci := 5) (q0 := 0) rfl rfl) hl.1 rfl (Nat.le_of_ble_eq_true rfl) (by decide) zd_Q_special2_44 ?_
      have hk44 := rk_rg tf ln (at0) hch
      refine zi_bipush hx hb zd_Q_special2_47 (by decide) ?_
      refine zi_icmp_ne (tgt := 74) hx hb zd_Q_special2_49 (by decide) (by omega) (fun c49 => ?_) (fun c49 => ?_)
      · refine lv_aload_n hx hb zd_Q_special2_74 rfl (lv_at hl 0 rfl) ?_
        refine zk_V (As := []) (b := qq) (own := "CronFinderModel") (nL := 3) (rest := []) hx hb hml hown hw (c_Q_peek l g qq rf (fl) (ln) (pl) (yy) (mm) (dd) (at0) (wa) (on) (tw) (hc) tf hln (by omega) hch) zw_4_39 zw_4_41 zw_0_30 zw_1_7 zw_4_42 (np := 0) (by decide +kernel) rfl (by decide) zN_mv hK trivial (hP.sub (ws' := [(qq, .inr (5, [.int (iI (fl)), .ref (rf 0), .int (iI (ln)), .int (iI (pl)), .int (iI (yy)), .int (iI (mm)), .int (iI (dd)), .int (iI (at0)), .ref (rf 1), .ref (rf 2), .ref (rf 3), .ref (rf 4), .ref (rf 5), .ref (rf 6), .int (iI (wa)), .int (iI (on)), .int (iI (tw)), .ref (rf 7), .ref (rf 8), .ref (rf 9), .int (iI (hc))])), (rf 0, .inl (g.2 3, 400, .inl (zaI (zSg tf))))]) [0, 1] rfl) (va_recv hK hP (ci := 5) (q0 := 0) rfl rfl) hl.1 rfl (Nat.le_of_ble_eq_true rfl) (by decide) zd_Q_special2_75 ?_
        have hk75 := rk_rg tf ln (at0) hch
        refine zi_bipush hx hb zd_Q_special2_78 (by decide) ?_
        refine zi_icmp_eq (tgt := 85) hx hb zd_Q_special2_80 (by decide) (by omega) (fun c80 => ?_) (fun c80 => ?_)
        · exact absurd ⟨by omega, Or.inr c80⟩ hn.2
        · refine zi_iconst hx hb zd_Q_special2_83 ?_
          refine zb_as (x := false) (rfl) ?_
          exact zs_zret hx hb hr hlk zd_Q_special2_84
      · exact absurd ⟨by omega, Or.inl c49⟩ hn.2
    · refine zi_iconst hx hb zd_Q_special2_41 ?_
      refine zb_as (x := false) (rfl) ?_
      exact zs_zret hx hb hr hlk zd_Q_special2_42
  · refine lv_aload_n hx hb zd_Q_special2_5 rfl (lv_at hl 0 rfl) ?_
    refine zk_V (As := []) (b := qq) (own := "CronFinderModel") (nL := 3) (rest := []) hx hb hml hown hw (c_Q_peek l g qq rf (fl) (ln) (pl) (yy) (mm) (dd) (at0) (wa) (on) (tw) (hc) tf hln (by omega) hch) zw_4_39 zw_4_41 zw_0_30 zw_1_7 zw_4_42 (np := 0) (by decide +kernel) rfl (by decide) zN_mv hK trivial (hP.sub (ws' := [(qq, .inr (5, [.int (iI (fl)), .ref (rf 0), .int (iI (ln)), .int (iI (pl)), .int (iI (yy)), .int (iI (mm)), .int (iI (dd)), .int (iI (at0)), .ref (rf 1), .ref (rf 2), .ref (rf 3), .ref (rf 4), .ref (rf 5), .ref (rf 6), .int (iI (wa)), .int (iI (on)), .int (iI (tw)), .ref (rf 7), .ref (rf 8), .ref (rf 9), .int (iI (hc))])), (rf 0, .inl (g.2 3, 400, .inl (zaI (zSg tf))))]) [0, 1] rfl) (va_recv hK hP (ci := 5) (q0 := 0) rfl rfl) hl.1 rfl (Nat.le_of_ble_eq_true rfl) (by decide) zd_Q_special2_6 ?_
    have hk6 := rk_rg tf ln (at0) hch
    refine zi_bipush hx hb zd_Q_special2_9 (by decide) ?_
    refine zi_icmp_ne (tgt := 36) hx hb zd_Q_special2_11 (by decide) (by omega) (fun c11 => ?_) (fun c11 => ?_)
    · refine lv_iload_n hx hb zd_Q_special2_36 rfl (lv_at hl 1 rfl) ?_
      refine zi_iconst hx hb zd_Q_special2_37 ?_
      refine zi_icmp_eq (tgt := 43) hx hb zd_Q_special2_38 (by decide) (by omega) (fun c38 => ?_) (fun c38 => ?_)
      · refine lv_aload_n hx hb zd_Q_special2_43 rfl (lv_at hl 0 rfl) ?_
        refine zk_V (As := []) (b := qq) (own := "CronFinderModel") (nL := 3) (rest := []) hx hb hml hown hw (c_Q_peek l g qq rf (fl) (ln) (pl) (yy) (mm) (dd) (at0) (wa) (on) (tw) (hc) tf hln (by omega) hch) zw_4_39 zw_4_41 zw_0_30 zw_1_7 zw_4_42 (np := 0) (by decide +kernel) rfl (by decide) zN_mv hK trivial (hP.sub (ws' := [(qq, .inr (5, [.int (iI (fl)), .ref (rf 0), .int (iI (ln)), .int (iI (pl)), .int (iI (yy)), .int (iI (mm)), .int (iI (dd)), .int (iI (at0)), .ref (rf 1), .ref (rf 2), .ref (rf 3), .ref (rf 4), .ref (rf 5), .ref (rf 6), .int (iI (wa)), .int (iI (on)), .int (iI (tw)), .ref (rf 7), .ref (rf 8), .ref (rf 9), .int (iI (hc))])), (rf 0, .inl (g.2 3, 400, .inl (zaI (zSg tf))))]) [0, 1] rfl) (va_recv hK hP (ci := 5) (q0 := 0) rfl rfl) hl.1 rfl (Nat.le_of_ble_eq_true rfl) (by decide) zd_Q_special2_44 ?_
        have hk44 := rk_rg tf ln (at0) hch
        refine zi_bipush hx hb zd_Q_special2_47 (by decide) ?_
        refine zi_icmp_ne (tgt := 74) hx hb zd_Q_special2_49 (by decide) (by omega) (fun c49 => ?_) (fun c49 => ?_)
        · refine lv_aload_n hx hb zd_Q_special2_74 rfl (lv_at hl 0 rfl) ?_
          refine zk_V (As := []) (b := qq) (own := "CronFinderModel") (nL := 3) (rest := []) hx hb hml hown hw (c_Q_peek l g qq rf (fl) (ln) (pl) (yy) (mm) (dd) (at0) (wa) (on) (tw) (hc) tf hln (by omega) hch) zw_4_39 zw_4_41 zw_0_30 zw_1_7 zw_4_42 (np := 0) (by decide +kernel) rfl (by decide) zN_mv hK trivial (hP.sub (ws' := [(qq, .inr (5, [.int (iI (fl)), .ref (rf 0), .int (iI (ln)), .int (iI (pl)), .int (iI (yy)), .int (iI (mm)), .int (iI (dd)), .int (iI (at0)), .ref (rf 1), .ref (rf 2), .ref (rf 3), .ref (rf 4), .ref (rf 5), .ref (rf 6), .int (iI (wa)), .int (iI (on)), .int (iI (tw)), .ref (rf 7), .ref (rf 8), .ref (rf 9), .int (iI (hc))])), (rf 0, .inl (g.2 3, 400, .inl (zaI (zSg tf))))]) [0, 1] rfl) (va_recv hK hP (ci := 5) (q0 := 0) rfl rfl) hl.1 rfl (Nat.le_of_ble_eq_true rfl) (by decide) zd_Q_special2_75 ?_
          have hk75 := rk_rg tf ln (at0) hch
          refine zi_bipush hx hb zd_Q_special2_78 (by decide) ?_
          refine zi_icmp_eq (tgt := 85) hx hb zd_Q_special2_80 (by decide) (by omega) (fun c80 => ?_) (fun c80 => ?_)
          · exact absurd ⟨by omega, Or.inr c80⟩ hn.2
          · refine zi_iconst hx hb zd_Q_special2_83 ?_
            refine zb_as (x := false) (rfl) ?_
            exact zs_zret hx hb hr hlk zd_Q_special2_84
        · exact absurd ⟨by omega, Or.inl c49⟩ hn.2
      · refine zi_iconst hx hb zd_Q_special2_41 ?_
        refine zb_as (x := false) (rfl) ?_
        exact zs_zret hx hb hr hlk zd_Q_special2_42
    · exact absurd ⟨by omega, c11⟩ hn.1
set_option maxHeartbeats 4000000 in
set_option maxRecDepth 100000 in
theorem c_Q_sp_W (l : Launch) (g : zGl) (qq : Nat) (rf : Nat → Nat) (fl ln pl yy mm dd at0 wa on tw hc : Int) (tf : Nat → Int) (hln : 0 ≤ ln ∧ ln ≤ 400) (hat : 0 ≤ at0 ∧ at0 ≤ ln) (hch : ∀ j : Nat, 0 ≤ tf j ∧ tf j < 256) (v : Int) (hk : rk tf ln at0 = 87) : zWi l zy_Q_special2 zc_Q_special2 3 (some .boolean) ({ frames := 7, cells := 0, slots := 0, locals := 165 }) g (fun _ => zN) [.ref (qq), .int (iI (3)), .int (iI (v))] [(qq, .inr (5, [.int (iI (fl)), .ref (rf 0), .int (iI (ln)), .int (iI (pl)), .int (iI (yy)), .int (iI (mm)), .int (iI (dd)), .int (iI (at0)), .ref (rf 1), .ref (rf 2), .ref (rf 3), .ref (rf 4), .ref (rf 5), .ref (rf 6), .int (iI (wa)), .int (iI (on)), .int (iI (tw)), .ref (rf 7), .ref (rf 8), .ref (rf 9), .int (iI (hc))])), (rf 0, .inl (g.2 3, 400, .inl (zaI (zSg tf))))] (some (.int (iI (bI (true))))) [(qq, .inr (5, [.int (iI (fl)), .ref (rf 0), .int (iI (ln)), .int (iI (pl)), .int (iI (yy)), .int (iI (mm)), .int (iI (dd)), .int (iI (at0 + 1)), .ref (rf 1), .ref (rf 2), .ref (rf 3), .ref (rf 4), .ref (rf 5), .ref (rf 6), .int (iI (4)), .int (iI (v)), .int (iI (tw)), .ref (rf 7), .ref (rf 8), .ref (rf 9), .int (iI (hc))])), (rf 0, .inl (g.2 3, 400, .inl (zaI (zSg tf))))] 0 0 := by
  refine zw_open (by decide +kernel) (Nat.le_of_ble_eq_true rfl) ?_
  intro p e s m below meth c ls A hx hb hml hr hlk hown hin hw hK hT hP hD hS hA hl
  have hown : s.vm.findClass "CronFinderModel" = some m.cls := hown
  have hl : lv_has ls 3 [(0, .ref (qq)), (1, .int (iI (3))), (2, .int (iI (v)))] := hl
  refine lv_iload_n hx hb zd_Q_special2_0 rfl (lv_at hl 1 rfl) ?_
  refine zi_iconst hx hb zd_Q_special2_1 ?_
  refine zi_icmp_ne (tgt := 36) hx hb zd_Q_special2_2 (by decide) (by omega) (fun c2 => absurd c2 (by decide)) (fun _ => ?_)
  refine lv_aload_n hx hb zd_Q_special2_5 rfl (lv_at hl 0 rfl) ?_
  refine zk_V (As := []) (b := qq) (own := "CronFinderModel") (nL := 3) (rest := []) hx hb hml hown hw (c_Q_peek l g qq rf (fl) (ln) (pl) (yy) (mm) (dd) (at0) (wa) (on) (tw) (hc) tf hln (by omega) hch) zw_4_39 zw_4_41 zw_0_30 zw_1_7 zw_4_42 (np := 0) (by decide +kernel) rfl (by decide) zN_mv hK trivial (hP.sub (ws' := [(qq, .inr (5, [.int (iI (fl)), .ref (rf 0), .int (iI (ln)), .int (iI (pl)), .int (iI (yy)), .int (iI (mm)), .int (iI (dd)), .int (iI (at0)), .ref (rf 1), .ref (rf 2), .ref (rf 3), .ref (rf 4), .ref (rf 5), .ref (rf 6), .int (iI (wa)), .int (iI (on)), .int (iI (tw)), .ref (rf 7), .ref (rf 8), .ref (rf 9), .int (iI (hc))])), (rf 0, .inl (g.2 3, 400, .inl (zaI (zSg tf))))]) [0, 1] rfl) (va_recv hK hP (ci := 5) (q0 := 0) rfl rfl) hl.1 rfl (Nat.le_of_ble_eq_true rfl) (by decide) zd_Q_special2_6 ?_
  have hk6 := rk_rg tf ln (at0) hch
  refine zi_bipush hx hb zd_Q_special2_9 (by decide) ?_
  refine zi_icmp_ne (tgt := 36) hx hb zd_Q_special2_11 (by decide) (by omega) (fun c11 => ?_) (fun c11 => ?_)
  · exact absurd hk c11
  · refine lv_aload_n hx hb zd_Q_special2_14 rfl (lv_at hl 0 rfl) ?_
    refine lv_dup hx hb zd_Q_special2_15 rfl ?_
    refine va_get (D := g.1) (ci := 5) (v := .int (iI (at0))) (C := zR_Q) (T := zT_Q) (N := 21) hx hb hw zin_Q hown hK hP 0 rfl rfl 7 (by decide) (hw _ zw_3_205) (fun _ h9 => h9) rfl zd_Q_special2_16 ?_
    refine zi_iconst hx hb zd_Q_special2_19 ?_
    refine zi_iadd hx hb zd_Q_special2_20 ?_
    refine va_put (D := g.1) (ci := 5) (v := .int (iI (at0 + 1))) (ty := .int) (C := zR_Q) (T := zT_Q) (N := 21) hx hb hw zin_Q zt_Q zto_Q zn_Q hown hK hP hD hS 0 rfl rfl 7 (by decide) (hw _ zw_3_205) (fun _ h9 => h9) rfl  (by decide +kernel) rfl rfl (Nat.le_of_ble_eq_true rfl) zd_Q_special2_21 (fun H locs hP hD hS => ?_)
    have hP : va_P g.1 zCl [(qq, .inr (5, [.int (iI (fl)), .ref (rf 0), .int (iI (ln)), .int (iI (pl)), .int (iI (yy)), .int (iI (mm)), .int (iI (dd)), .int (iI (at0 + 1)), .ref (rf 1), .ref (rf 2), .ref (rf 3), .ref (rf 4), .ref (rf 5), .ref (rf 6), .int (iI (wa)), .int (iI (on)), .int (iI (tw)), .ref (rf 7), .ref (rf 8), .ref (rf 9), .int (iI (hc))])), (rf 0, .inl (g.2 3, 400, .inl (zaI (zSg tf))))] H := hP
    have hD : va_D A [(qq, .inr (5, [.int (iI (fl)), .ref (rf 0), .int (iI (ln)), .int (iI (pl)), .int (iI (yy)), .int (iI (mm)), .int (iI (dd)), .int (iI (at0 + 1)), .ref (rf 1), .ref (rf 2), .ref (rf 3), .ref (rf 4), .ref (rf 5), .ref (rf 6), .int (iI (wa)), .int (iI (on)), .int (iI (tw)), .ref (rf 7), .ref (rf 8), .ref (rf 9), .int (iI (hc))])), (rf 0, .inl (g.2 3, 400, .inl (zaI (zSg tf))))] := hD
    refine lv_aload_n hx hb zd_Q_special2_24 rfl (lv_at hl 0 rfl) ?_
    refine zi_iconst hx hb zd_Q_special2_25 ?_
    refine va_put (D := g.1) (ci := 5) (v := .int (iI (4))) (ty := .int) (C := zR_Q) (T := zT_Q) (N := 21) hx hb hw zin_Q zt_Q zto_Q zn_Q hown hK hP hD hS 0 rfl rfl 14 (by decide) (hw _ zw_3_212) (fun _ h9 => h9) rfl  (by decide +kernel) rfl rfl (Nat.le_of_ble_eq_true rfl) zd_Q_special2_26 (fun H locs hP hD hS => ?_)
    have hP : va_P g.1 zCl [(qq, .inr (5, [.int (iI (fl)), .ref (rf 0), .int (iI (ln)), .int (iI (pl)), .int (iI (yy)), .int (iI (mm)), .int (iI (dd)), .int (iI (at0 + 1)), .ref (rf 1), .ref (rf 2), .ref (rf 3), .ref (rf 4), .ref (rf 5), .ref (rf 6), .int (iI (4)), .int (iI (on)), .int (iI (tw)), .ref (rf 7), .ref (rf 8), .ref (rf 9), .int (iI (hc))])), (rf 0, .inl (g.2 3, 400, .inl (zaI (zSg tf))))] H := hP
    have hD : va_D A [(qq, .inr (5, [.int (iI (fl)), .ref (rf 0), .int (iI (ln)), .int (iI (pl)), .int (iI (yy)), .int (iI (mm)), .int (iI (dd)), .int (iI (at0 + 1)), .ref (rf 1), .ref (rf 2), .ref (rf 3), .ref (rf 4), .ref (rf 5), .ref (rf 6), .int (iI (4)), .int (iI (on)), .int (iI (tw)), .ref (rf 7), .ref (rf 8), .ref (rf 9), .int (iI (hc))])), (rf 0, .inl (g.2 3, 400, .inl (zaI (zSg tf))))] := hD
    refine lv_aload_n hx hb zd_Q_special2_29 rfl (lv_at hl 0 rfl) ?_
    refine lv_iload_n hx hb zd_Q_special2_30 rfl (lv_at hl 2 rfl) ?_
    refine va_put (D := g.1) (ci := 5) (v := .int (iI (v))) (ty := .int) (C := zR_Q) (T := zT_Q) (N := 21) hx hb hw zin_Q zt_Q zto_Q zn_Q hown hK hP hD hS 0 rfl rfl 15 (by decide) (hw _ zw_3_213) (fun _ h9 => h9) rfl  (by decide +kernel) rfl rfl (Nat.le_of_ble_eq_true rfl) zd_Q_special2_31 (fun H locs hP hD hS => ?_)
    have hP : va_P g.1 zCl [(qq, .inr (5, [.int (iI (fl)), .ref (rf 0), .int (iI (ln)), .int (iI (pl)), .int (iI (yy)), .int (iI (mm)), .int (iI (dd)), .int (iI (at0 + 1)), .ref (rf 1), .ref (rf 2), .ref (rf 3), .ref (rf 4), .ref (rf 5), .ref (rf 6), .int (iI (4)), .int (iI (v)), .int (iI (tw)), .ref (rf 7), .ref (rf 8), .ref (rf 9), .int (iI (hc))])), (rf 0, .inl (g.2 3, 400, .inl (zaI (zSg tf))))] H := hP
    have hD : va_D A [(qq, .inr (5, [.int (iI (fl)), .ref (rf 0), .int (iI (ln)), .int (iI (pl)), .int (iI (yy)), .int (iI (mm)), .int (iI (dd)), .int (iI (at0 + 1)), .ref (rf 1), .ref (rf 2), .ref (rf 3), .ref (rf 4), .ref (rf 5), .ref (rf 6), .int (iI (4)), .int (iI (v)), .int (iI (tw)), .ref (rf 7), .ref (rf 8), .ref (rf 9), .int (iI (hc))])), (rf 0, .inl (g.2 3, 400, .inl (zaI (zSg tf))))] := hD
    refine zi_iconst hx hb zd_Q_special2_34 ?_
    refine zb_as (x := true) (rfl) ?_
    exact zw_zret hx hb hr hlk (ws := [(qq, .inr (5, [.int (iI (fl)), .ref (rf 0), .int (iI (ln)), .int (iI (pl)), .int (iI (yy)), .int (iI (mm)), .int (iI (dd)), .int (iI (at0 + 1)), .ref (rf 1), .ref (rf 2), .ref (rf 3), .ref (rf 4), .ref (rf 5), .ref (rf 6), .int (iI (4)), .int (iI (v)), .int (iI (tw)), .ref (rf 7), .ref (rf 8), .ref (rf 9), .int (iI (hc))])), (rf 0, .inl (g.2 3, 400, .inl (zaI (zSg tf))))]) hP hS zd_Q_special2_35
set_option maxHeartbeats 4000000 in
set_option maxRecDepth 100000 in
theorem c_Q_sp_L (l : Launch) (g : zGl) (qq : Nat) (rf : Nat → Nat) (fl ln pl yy mm dd at0 wa on tw hc : Int) (tf : Nat → Int) (hln : 0 ≤ ln ∧ ln ≤ 400) (hat : 0 ≤ at0 ∧ at0 ≤ ln) (hch : ∀ j : Nat, 0 ≤ tf j ∧ tf j < 256) (v : Int) (hk : rk tf ln at0 = 76) : zWi l zy_Q_special2 zc_Q_special2 3 (some .boolean) ({ frames := 7, cells := 0, slots := 0, locals := 165 }) g (fun _ => zN) [.ref (qq), .int (iI (5)), .int (iI (v))] [(qq, .inr (5, [.int (iI (fl)), .ref (rf 0), .int (iI (ln)), .int (iI (pl)), .int (iI (yy)), .int (iI (mm)), .int (iI (dd)), .int (iI (at0)), .ref (rf 1), .ref (rf 2), .ref (rf 3), .ref (rf 4), .ref (rf 5), .ref (rf 6), .int (iI (wa)), .int (iI (on)), .int (iI (tw)), .ref (rf 7), .ref (rf 8), .ref (rf 9), .int (iI (hc))])), (rf 0, .inl (g.2 3, 400, .inl (zaI (zSg tf))))] (some (.int (iI (bI (true))))) [(qq, .inr (5, [.int (iI (fl)), .ref (rf 0), .int (iI (ln)), .int (iI (pl)), .int (iI (yy)), .int (iI (mm)), .int (iI (dd)), .int (iI (at0 + 1)), .ref (rf 1), .ref (rf 2), .ref (rf 3), .ref (rf 4), .ref (rf 5), .ref (rf 6), .int (iI (5)), .int (iI (v)), .int (iI (tw)), .ref (rf 7), .ref (rf 8), .ref (rf 9), .int (iI (hc))])), (rf 0, .inl (g.2 3, 400, .inl (zaI (zSg tf))))] 0 0 := by
  refine zw_open (by decide +kernel) (Nat.le_of_ble_eq_true rfl) ?_
  intro p e s m below meth c ls A hx hb hml hr hlk hown hin hw hK hT hP hD hS hA hl
  have hown : s.vm.findClass "CronFinderModel" = some m.cls := hown
  have hl : lv_has ls 3 [(0, .ref (qq)), (1, .int (iI (5))), (2, .int (iI (v)))] := hl
  refine lv_iload_n hx hb zd_Q_special2_0 rfl (lv_at hl 1 rfl) ?_
  refine zi_iconst hx hb zd_Q_special2_1 ?_
  refine zi_icmp_ne (tgt := 36) hx hb zd_Q_special2_2 (by decide) (by omega) (fun _ => ?_) (fun c2 => absurd c2 (by decide))
  refine lv_iload_n hx hb zd_Q_special2_36 rfl (lv_at hl 1 rfl) ?_
  refine zi_iconst hx hb zd_Q_special2_37 ?_
  refine zi_icmp_eq (tgt := 43) hx hb zd_Q_special2_38 (by decide) (by omega) (fun _ => ?_) (fun c38 => absurd c38 (by decide))
  refine lv_aload_n hx hb zd_Q_special2_43 rfl (lv_at hl 0 rfl) ?_
  refine zk_V (As := []) (b := qq) (own := "CronFinderModel") (nL := 3) (rest := []) hx hb hml hown hw (c_Q_peek l g qq rf (fl) (ln) (pl) (yy) (mm) (dd) (at0) (wa) (on) (tw) (hc) tf hln (by omega) hch) zw_4_39 zw_4_41 zw_0_30 zw_1_7 zw_4_42 (np := 0) (by decide +kernel) rfl (by decide) zN_mv hK trivial (hP.sub (ws' := [(qq, .inr (5, [.int (iI (fl)), .ref (rf 0), .int (iI (ln)), .int (iI (pl)), .int (iI (yy)), .int (iI (mm)), .int (iI (dd)), .int (iI (at0)), .ref (rf 1), .ref (rf 2), .ref (rf 3), .ref (rf 4), .ref (rf 5), .ref (rf 6), .int (iI (wa)), .int (iI (on)), .int (iI (tw)), .ref (rf 7), .ref (rf 8), .ref (rf 9), .int (iI (hc))])), (rf 0, .inl (g.2 3, 400, .inl (zaI (zSg tf))))]) [0, 1] rfl) (va_recv hK hP (ci := 5) (q0 := 0) rfl rfl) hl.1 rfl (Nat.le_of_ble_eq_true rfl) (by decide) zd_Q_special2_44 ?_
  have hk44 := rk_rg tf ln (at0) hch
  refine zi_bipush hx hb zd_Q_special2_47 (by decide) ?_
  refine zi_icmp_ne (tgt := 74) hx hb zd_Q_special2_49 (by decide) (by omega) (fun c49 => ?_) (fun c49 => ?_)
  · exact absurd hk c49
  · refine lv_aload_n hx hb zd_Q_special2_52 rfl (lv_at hl 0 rfl) ?_
    refine lv_dup hx hb zd_Q_special2_53 rfl ?_
    refine va_get (D := g.1) (ci := 5) (v := .int (iI (at0))) (C := zR_Q) (T := zT_Q) (N := 21) hx hb hw zin_Q hown hK hP 0 rfl rfl 7 (by decide) (hw _ zw_3_205) (fun _ h9 => h9) rfl zd_Q_special2_54 ?_
    refine zi_iconst hx hb zd_Q_special2_57 ?_
    refine zi_iadd hx hb zd_Q_special2_58 ?_
    refine va_put (D := g.1) (ci := 5) (v := .int (iI (at0 + 1))) (ty := .int) (C := zR_Q) (T := zT_Q) (N := 21) hx hb hw zin_Q zt_Q zto_Q zn_Q hown hK hP hD hS 0 rfl rfl 7 (by decide) (hw _ zw_3_205) (fun _ h9 => h9) rfl  (by decide +kernel) rfl rfl (Nat.le_of_ble_eq_true rfl) zd_Q_special2_59 (fun H locs hP hD hS => ?_)
    have hP : va_P g.1 zCl [(qq, .inr (5, [.int (iI (fl)), .ref (rf 0), .int (iI (ln)), .int (iI (pl)), .int (iI (yy)), .int (iI (mm)), .int (iI (dd)), .int (iI (at0 + 1)), .ref (rf 1), .ref (rf 2), .ref (rf 3), .ref (rf 4), .ref (rf 5), .ref (rf 6), .int (iI (wa)), .int (iI (on)), .int (iI (tw)), .ref (rf 7), .ref (rf 8), .ref (rf 9), .int (iI (hc))])), (rf 0, .inl (g.2 3, 400, .inl (zaI (zSg tf))))] H := hP
    have hD : va_D A [(qq, .inr (5, [.int (iI (fl)), .ref (rf 0), .int (iI (ln)), .int (iI (pl)), .int (iI (yy)), .int (iI (mm)), .int (iI (dd)), .int (iI (at0 + 1)), .ref (rf 1), .ref (rf 2), .ref (rf 3), .ref (rf 4), .ref (rf 5), .ref (rf 6), .int (iI (wa)), .int (iI (on)), .int (iI (tw)), .ref (rf 7), .ref (rf 8), .ref (rf 9), .int (iI (hc))])), (rf 0, .inl (g.2 3, 400, .inl (zaI (zSg tf))))] := hD
    refine lv_aload_n hx hb zd_Q_special2_62 rfl (lv_at hl 0 rfl) ?_
    refine zi_iconst hx hb zd_Q_special2_63 ?_
    refine va_put (D := g.1) (ci := 5) (v := .int (iI (5))) (ty := .int) (C := zR_Q) (T := zT_Q) (N := 21) hx hb hw zin_Q zt_Q zto_Q zn_Q hown hK hP hD hS 0 rfl rfl 14 (by decide) (hw _ zw_3_212) (fun _ h9 => h9) rfl  (by decide +kernel) rfl rfl (Nat.le_of_ble_eq_true rfl) zd_Q_special2_64 (fun H locs hP hD hS => ?_)
    have hP : va_P g.1 zCl [(qq, .inr (5, [.int (iI (fl)), .ref (rf 0), .int (iI (ln)), .int (iI (pl)), .int (iI (yy)), .int (iI (mm)), .int (iI (dd)), .int (iI (at0 + 1)), .ref (rf 1), .ref (rf 2), .ref (rf 3), .ref (rf 4), .ref (rf 5), .ref (rf 6), .int (iI (5)), .int (iI (on)), .int (iI (tw)), .ref (rf 7), .ref (rf 8), .ref (rf 9), .int (iI (hc))])), (rf 0, .inl (g.2 3, 400, .inl (zaI (zSg tf))))] H := hP
    have hD : va_D A [(qq, .inr (5, [.int (iI (fl)), .ref (rf 0), .int (iI (ln)), .int (iI (pl)), .int (iI (yy)), .int (iI (mm)), .int (iI (dd)), .int (iI (at0 + 1)), .ref (rf 1), .ref (rf 2), .ref (rf 3), .ref (rf 4), .ref (rf 5), .ref (rf 6), .int (iI (5)), .int (iI (on)), .int (iI (tw)), .ref (rf 7), .ref (rf 8), .ref (rf 9), .int (iI (hc))])), (rf 0, .inl (g.2 3, 400, .inl (zaI (zSg tf))))] := hD
    refine lv_aload_n hx hb zd_Q_special2_67 rfl (lv_at hl 0 rfl) ?_
    refine lv_iload_n hx hb zd_Q_special2_68 rfl (lv_at hl 2 rfl) ?_
    refine va_put (D := g.1) (ci := 5) (v := .int (iI (v))) (ty := .int) (C := zR_Q) (T := zT_Q) (N := 21) hx hb hw zin_Q zt_Q zto_Q zn_Q hown hK hP hD hS 0 rfl rfl 15 (by decide) (hw _ zw_3_213) (fun _ h9 => h9) rfl  (by decide +kernel) rfl rfl (Nat.le_of_ble_eq_true rfl) zd_Q_special2_69 (fun H locs hP hD hS => ?_)
    have hP : va_P g.1 zCl [(qq, .inr (5, [.int (iI (fl)), .ref (rf 0), .int (iI (ln)), .int (iI (pl)), .int (iI (yy)), .int (iI (mm)), .int (iI (dd)), .int (iI (at0 + 1)), .ref (rf 1), .ref (rf 2), .ref (rf 3), .ref (rf 4), .ref (rf 5), .ref (rf 6), .int (iI (5)), .int (iI (v)), .int (iI (tw)), .ref (rf 7), .ref (rf 8), .ref (rf 9), .int (iI (hc))])), (rf 0, .inl (g.2 3, 400, .inl (zaI (zSg tf))))] H := hP
    have hD : va_D A [(qq, .inr (5, [.int (iI (fl)), .ref (rf 0), .int (iI (ln)), .int (iI (pl)), .int (iI (yy)), .int (iI (mm)), .int (iI (dd)), .int (iI (at0 + 1)), .ref (rf 1), .ref (rf 2), .ref (rf 3), .ref (rf 4), .ref (rf 5), .ref (rf 6), .int (iI (5)), .int (iI (v)), .int (iI (tw)), .ref (rf 7), .ref (rf 8), .ref (rf 9), .int (iI (hc))])), (rf 0, .inl (g.2 3, 400, .inl (zaI (zSg tf))))] := hD
    refine zi_iconst hx hb zd_Q_special2_72 ?_
    refine zb_as (x := true) (rfl) ?_
    exact zw_zret hx hb hr hlk (ws := [(qq, .inr (5, [.int (iI (fl)), .ref (rf 0), .int (iI (ln)), .int (iI (pl)), .int (iI (yy)), .int (iI (mm)), .int (iI (dd)), .int (iI (at0 + 1)), .ref (rf 1), .ref (rf 2), .ref (rf 3), .ref (rf 4), .ref (rf 5), .ref (rf 6), .int (iI (5)), .int (iI (v)), .int (iI (tw)), .ref (rf 7), .ref (rf 8), .ref (rf 9), .int (iI (hc))])), (rf 0, .inl (g.2 3, 400, .inl (zaI (zSg tf))))]) hP hS zd_Q_special2_73
set_option maxHeartbeats 4000000 in
set_option maxRecDepth 100000 in
theorem c_Q_sp_o (l : Launch) (g : zGl) (hl0 : l.stackTraces = false) (qq : Nat) (rf : Nat → Nat) (fl ln pl yy mm dd at0 wa on tw hc : Int) (tf : Nat → Int) (hln : 0 ≤ ln ∧ ln ≤ 400) (hat : 0 ≤ at0 ∧ at0 ≤ ln) (hch : ∀ j : Nat, 0 ≤ tf j ∧ tf j < 256) (v : Int) (hk : rk tf ln at0 = 35) (mc ms : Nat) (hmc : zHm (rNm tf ln 1 5 (at0 + 1)) mc ms) : zEi l zy_Q_special2 zc_Q_special2 3 (some .boolean) ({ frames := 8, cells := mc, slots := ms, locals := 165 }) g zTh [.ref (qq), .int (iI (5)), .int (iI (v))] [(qq, .inr (5, [.int (iI (fl)), .ref (rf 0), .int (iI (ln)), .int (iI (pl)), .int (iI (yy)), .int (iI (mm)), .int (iI (dd)), .int (iI (at0)), .ref (rf 1), .ref (rf 2), .ref (rf 3), .ref (rf 4), .ref (rf 5), .ref (rf 6), .int (iI (wa)), .int (iI (on)), .int (iI (tw)), .ref (rf 7), .ref (rf 8), .ref (rf 9), .int (iI (hc))])), (rf 0, .inl (g.2 3, 400, .inl (zaI (zSg tf))))] (rNm tf ln 1 5 (at0 + 1)) (some (.int (iI (bI (true))))) (fun _ => [(qq, .inr (5, [.int (iI (fl)), .ref (rf 0), .int (iI (ln)), .int (iI (pl)), .int (iI (yy)), .int (iI (mm)), .int (iI (dd)), .int (iI ((num tf ln (at0 + 1)).1)), .ref (rf 1), .ref (rf 2), .ref (rf 3), .ref (rf 4), .ref (rf 5), .ref (rf 6), .int (iI (6)), .int (iI (v)), .int (iI ((num tf ln (at0 + 1)).2)), .ref (rf 7), .ref (rf 8), .ref (rf 9), .int (iI (hc))])), (rf 0, .inl (g.2 3, 400, .inl (zaI (zSg tf))))]) "java/lang/UnsupportedOperationException" (fun u => [(qq, .inr (5, [.int (iI (fl)), .ref (rf 0), .int (iI (ln)), .int (iI (at0 + 1)), .int (iI (yy)), .int (iI (mm)), .int (iI (dd)), .int (iI (u.1 0)), .ref (rf 1), .ref (rf 2), .ref (rf 3), .ref (rf 4), .ref (rf 5), .ref (rf 6), .int (iI (6)), .int (iI (v)), .int (iI (tw)), .ref (rf 7), .ref (rf 8), .ref (rf 9), .int (iI (hc))])), (rf 0, .inl (g.2 3, 400, .inl (zaI (zSg tf))))]) mc ms := by
  refine ze_open (by decide +kernel) (Nat.le_of_ble_eq_true rfl) ?_
  intro p e s m below meth c ls A hx hb hml hr hno hlk hown hw hK hT hP hD hS hA hl
  have hown : s.vm.findClass "CronFinderModel" = some m.cls := hown
  have hl : lv_has ls 3 [(0, .ref (qq)), (1, .int (iI (5))), (2, .int (iI (v)))] := hl
  refine lv_iload_n hx hb zd_Q_special2_0 rfl (lv_at hl 1 rfl) ?_
  refine zi_iconst hx hb zd_Q_special2_1 ?_
  refine zi_icmp_ne (tgt := 36) hx hb zd_Q_special2_2 (by decide) (by omega) (fun _ => ?_) (fun c2 => absurd c2 (by decide))
  refine lv_iload_n hx hb zd_Q_special2_36 rfl (lv_at hl 1 rfl) ?_
  refine zi_iconst hx hb zd_Q_special2_37 ?_
  refine zi_icmp_eq (tgt := 43) hx hb zd_Q_special2_38 (by decide) (by omega) (fun _ => ?_) (fun c38 => absurd c38 (by decide))
  refine lv_aload_n hx hb zd_Q_special2_43 rfl (lv_at hl 0 rfl) ?_
  refine zk_V (As := []) (b := qq) (own := "CronFinderModel") (nL := 3) (rest := []) hx hb hml hown hw (c_Q_peek l g qq rf (fl) (ln) (pl) (yy) (mm) (dd) (at0) (wa) (on) (tw) (hc) tf hln (by omega) hch) zw_4_39 zw_4_41 zw_0_30 zw_1_7 zw_4_42 (np := 0) (by decide +kernel) rfl ⟨rfl, rfl, Nat.le_of_ble_eq_true rfl, Nat.le_of_ble_eq_true rfl⟩ zN_mv hK trivial (hP.sub (ws' := [(qq, .inr (5, [.int (iI (fl)), .ref (rf 0), .int (iI (ln)), .int (iI (pl)), .int (iI (yy)), .int (iI (mm)), .int (iI (dd)), .int (iI (at0)), .ref (rf 1), .ref (rf 2), .ref (rf 3), .ref (rf 4), .ref (rf 5), .ref (rf 6), .int (iI (wa)), .int (iI (on)), .int (iI (tw)), .ref (rf 7), .ref (rf 8), .ref (rf 9), .int (iI (hc))])), (rf 0, .inl (g.2 3, 400, .inl (zaI (zSg tf))))]) [0, 1] rfl) (va_recv hK hP (ci := 5) (q0 := 0) rfl rfl) hl.1 rfl (Nat.le_of_ble_eq_true rfl) ⟨Nat.zero_le _, Nat.zero_le _⟩ zd_Q_special2_44 ?_
  have hk44 := rk_rg tf ln (at0) hch
  refine zi_bipush hx hb zd_Q_special2_47 (by decide) ?_
  refine zi_icmp_ne (tgt := 74) hx hb zd_Q_special2_49 (by decide) (by omega) (fun c49 => ?_) (fun c49 => ?_)
  · refine lv_aload_n hx hb zd_Q_special2_74 rfl (lv_at hl 0 rfl) ?_
    refine zk_V (As := []) (b := qq) (own := "CronFinderModel") (nL := 3) (rest := []) hx hb hml hown hw (c_Q_peek l g qq rf (fl) (ln) (pl) (yy) (mm) (dd) (at0) (wa) (on) (tw) (hc) tf hln (by omega) hch) zw_4_39 zw_4_41 zw_0_30 zw_1_7 zw_4_42 (np := 0) (by decide +kernel) rfl ⟨rfl, rfl, Nat.le_of_ble_eq_true rfl, Nat.le_of_ble_eq_true rfl⟩ zN_mv hK trivial (hP.sub (ws' := [(qq, .inr (5, [.int (iI (fl)), .ref (rf 0), .int (iI (ln)), .int (iI (pl)), .int (iI (yy)), .int (iI (mm)), .int (iI (dd)), .int (iI (at0)), .ref (rf 1), .ref (rf 2), .ref (rf 3), .ref (rf 4), .ref (rf 5), .ref (rf 6), .int (iI (wa)), .int (iI (on)), .int (iI (tw)), .ref (rf 7), .ref (rf 8), .ref (rf 9), .int (iI (hc))])), (rf 0, .inl (g.2 3, 400, .inl (zaI (zSg tf))))]) [0, 1] rfl) (va_recv hK hP (ci := 5) (q0 := 0) rfl rfl) hl.1 rfl (Nat.le_of_ble_eq_true rfl) ⟨Nat.zero_le _, Nat.zero_le _⟩ zd_Q_special2_75 ?_
    have hk75 := rk_rg tf ln (at0) hch
    refine zi_bipush hx hb zd_Q_special2_78 (by decide) ?_
    refine zi_icmp_eq (tgt := 85) hx hb zd_Q_special2_80 (by decide) (by omega) (fun c80 => ?_) (fun c80 => ?_)
    · have hx9 := rk_lt hk (by decide)
      refine lv_aload_n hx hb zd_Q_special2_85 rfl (lv_at hl 0 rfl) ?_
      refine lv_dup hx hb zd_Q_special2_86 rfl ?_
      refine va_get (D := g.1) (ci := 5) (v := .int (iI (at0))) (C := zR_Q) (T := zT_Q) (N := 21) hx hb hw zin_Q hown hK hP 0 rfl rfl 7 (by decide) (hw _ zw_3_205) (fun _ h9 => h9) rfl zd_Q_special2_87 ?_
      refine zi_iconst hx hb zd_Q_special2_90 ?_
      refine zi_iadd hx hb zd_Q_special2_91 ?_
      refine va_put (D := g.1) (ci := 5) (v := .int (iI (at0 + 1))) (ty := .int) (C := zR_Q) (T := zT_Q) (N := 21) hx hb hw zin_Q zt_Q zto_Q zn_Q hown hK hP hD hS 0 rfl rfl 7 (by decide) (hw _ zw_3_205) (fun _ h9 => h9) rfl  (by decide +kernel) rfl rfl (Nat.le_of_ble_eq_true rfl) zd_Q_special2_92 (fun H locs hP hD hS => ?_)
      have hP : va_P g.1 zCl [(qq, .inr (5, [.int (iI (fl)), .ref (rf 0), .int (iI (ln)), .int (iI (pl)), .int (iI (yy)), .int (iI (mm)), .int (iI (dd)), .int (iI (at0 + 1)), .ref (rf 1), .ref (rf 2), .ref (rf 3), .ref (rf 4), .ref (rf 5), .ref (rf 6), .int (iI (wa)), .int (iI (on)), .int (iI (tw)), .ref (rf 7), .ref (rf 8), .ref (rf 9), .int (iI (hc))])), (rf 0, .inl (g.2 3, 400, .inl (zaI (zSg tf))))] H := hP
      have hD : va_D A [(qq, .inr (5, [.int (iI (fl)), .ref (rf 0), .int (iI (ln)), .int (iI (pl)), .int (iI (yy)), .int (iI (mm)), .int (iI (dd)), .int (iI (at0 + 1)), .ref (rf 1), .ref (rf 2), .ref (rf 3), .ref (rf 4), .ref (rf 5), .ref (rf 6), .int (iI (wa)), .int (iI (on)), .int (iI (tw)), .ref (rf 7), .ref (rf 8), .ref (rf 9), .int (iI (hc))])), (rf 0, .inl (g.2 3, 400, .inl (zaI (zSg tf))))] := hD
      refine lv_aload_n hx hb zd_Q_special2_95 rfl (lv_at hl 0 rfl) ?_
      refine zi_bipush hx hb zd_Q_special2_96 (by decide) ?_
      refine va_put (D := g.1) (ci := 5) (v := .int (iI (6))) (ty := .int) (C := zR_Q) (T := zT_Q) (N := 21) hx hb hw zin_Q zt_Q zto_Q zn_Q hown hK hP hD hS 0 rfl rfl 14 (by decide) (hw _ zw_3_212) (fun _ h9 => h9) rfl  (by decide +kernel) rfl rfl (Nat.le_of_ble_eq_true rfl) zd_Q_special2_98 (fun H locs hP hD hS => ?_)
      have hP : va_P g.1 zCl [(qq, .inr (5, [.int (iI (fl)), .ref (rf 0), .int (iI (ln)), .int (iI (pl)), .int (iI (yy)), .int (iI (mm)), .int (iI (dd)), .int (iI (at0 + 1)), .ref (rf 1), .ref (rf 2), .ref (rf 3), .ref (rf 4), .ref (rf 5), .ref (rf 6), .int (iI (6)), .int (iI (on)), .int (iI (tw)), .ref (rf 7), .ref (rf 8), .ref (rf 9), .int (iI (hc))])), (rf 0, .inl (g.2 3, 400, .inl (zaI (zSg tf))))] H := hP
      have hD : va_D A [(qq, .inr (5, [.int (iI (fl)), .ref (rf 0), .int (iI (ln)), .int (iI (pl)), .int (iI (yy)), .int (iI (mm)), .int (iI (dd)), .int (iI (at0 + 1)), .ref (rf 1), .ref (rf 2), .ref (rf 3), .ref (rf 4), .ref (rf 5), .ref (rf 6), .int (iI (6)), .int (iI (on)), .int (iI (tw)), .ref (rf 7), .ref (rf 8), .ref (rf 9), .int (iI (hc))])), (rf 0, .inl (g.2 3, 400, .inl (zaI (zSg tf))))] := hD
      refine lv_aload_n hx hb zd_Q_special2_101 rfl (lv_at hl 0 rfl) ?_
      refine lv_iload_n hx hb zd_Q_special2_102 rfl (lv_at hl 2 rfl) ?_
      refine va_put (D := g.1) (ci := 5) (v := .int (iI (v))) (ty := .int) (C := zR_Q) (T := zT_Q) (N := 21) hx hb hw zin_Q zt_Q zto_Q zn_Q hown hK hP hD hS 0 rfl rfl 15 (by decide) (hw _ zw_3_213) (fun _ h9 => h9) rfl  (by decide +kernel) rfl rfl (Nat.le_of_ble_eq_true rfl) zd_Q_special2_103 (fun H locs hP hD hS => ?_)
      have hP : va_P g.1 zCl [(qq, .inr (5, [.int (iI (fl)), .ref (rf 0), .int (iI (ln)), .int (iI (pl)), .int (iI (yy)), .int (iI (mm)), .int (iI (dd)), .int (iI (at0 + 1)), .ref (rf 1), .ref (rf 2), .ref (rf 3), .ref (rf 4), .ref (rf 5), .ref (rf 6), .int (iI (6)), .int (iI (v)), .int (iI (tw)), .ref (rf 7), .ref (rf 8), .ref (rf 9), .int (iI (hc))])), (rf 0, .inl (g.2 3, 400, .inl (zaI (zSg tf))))] H := hP
      have hD : va_D A [(qq, .inr (5, [.int (iI (fl)), .ref (rf 0), .int (iI (ln)), .int (iI (pl)), .int (iI (yy)), .int (iI (mm)), .int (iI (dd)), .int (iI (at0 + 1)), .ref (rf 1), .ref (rf 2), .ref (rf 3), .ref (rf 4), .ref (rf 5), .ref (rf 6), .int (iI (6)), .int (iI (v)), .int (iI (tw)), .ref (rf 7), .ref (rf 8), .ref (rf 9), .int (iI (hc))])), (rf 0, .inl (g.2 3, 400, .inl (zaI (zSg tf))))] := hD
      refine lv_aload_n hx hb zd_Q_special2_106 rfl (lv_at hl 0 rfl) ?_
      refine lv_aload_n hx hb zd_Q_special2_107 rfl (lv_at hl 0 rfl) ?_
      refine zi_iconst hx hb zd_Q_special2_108 ?_
      refine zi_iconst hx hb zd_Q_special2_109 ?_
      by_cases ho110 : rNm tf ln (1) (5) (at0 + 1)
      · have hu110 := rNm_rg ho110 (by omega)
        refine zk_W (As := [.int (iI (1)), .int (iI (5))]) (b := qq) (own := "CronFinderModel") (nL := 3) (rest := [.ref (qq)]) hx hb hml hown hw (zE_y (c_Q_ranged l g hl0 qq rf (fl) (ln) (pl) (yy) (mm) (dd) (at0 + 1) (6) (v) (tw) (hc) tf hln (by omega) hch (1) (5) (by omega) 0 0 (Or.inl ⟨ho110, rfl, rfl⟩)) ho110) zw_4_61 zw_4_63 zw_0_33 zw_1_7 zw_4_64 (np := 2) (by decide +kernel) rfl ⟨rfl, rfl, Nat.le_of_ble_eq_true rfl, Nat.le_of_ble_eq_true rfl⟩ zTh_mv hK (zTh_nar (zTh_now hT hS) (va_free hD hS hA [0, 1] rfl)) hP hD hS hA [0, 1] rfl (by decide) rfl (va_recv hK hP (ci := 5) (q0 := 0) rfl rfl) hl.1 rfl (Nat.le_of_ble_eq_true rfl) ⟨Nat.zero_le _, Nat.zero_le _⟩ zd_Q_special2_110 (fun H locs hP hD hS => ?_)
        have hP : va_P g.1 zCl [(qq, .inr (5, [.int (iI (fl)), .ref (rf 0), .int (iI (ln)), .int (iI (pl)), .int (iI (yy)), .int (iI (mm)), .int (iI (dd)), .int (iI ((num tf ln (at0 + 1)).1)), .ref (rf 1), .ref (rf 2), .ref (rf 3), .ref (rf 4), .ref (rf 5), .ref (rf 6), .int (iI (6)), .int (iI (v)), .int (iI (tw)), .ref (rf 7), .ref (rf 8), .ref (rf 9), .int (iI (hc))])), (rf 0, .inl (g.2 3, 400, .inl (zaI (zSg tf))))] H := hP
        have hD : va_D A [(qq, .inr (5, [.int (iI (fl)), .ref (rf 0), .int (iI (ln)), .int (iI (pl)), .int (iI (yy)), .int (iI (mm)), .int (iI (dd)), .int (iI ((num tf ln (at0 + 1)).1)), .ref (rf 1), .ref (rf 2), .ref (rf 3), .ref (rf 4), .ref (rf 5), .ref (rf 6), .int (iI (6)), .int (iI (v)), .int (iI (tw)), .ref (rf 7), .ref (rf 8), .ref (rf 9), .int (iI (hc))])), (rf 0, .inl (g.2 3, 400, .inl (zaI (zSg tf))))] := hD
        refine va_put (D := g.1) (ci := 5) (v := .int (iI ((num tf ln (at0 + 1)).2))) (ty := .int) (C := zR_Q) (T := zT_Q) (N := 21) hx hb hw zin_Q zt_Q zto_Q zn_Q hown hK hP hD hS 0 rfl rfl 16 (by decide) (hw _ zw_3_214) (fun _ h9 => h9) rfl  (by decide +kernel) rfl rfl (Nat.le_of_ble_eq_true rfl) zd_Q_special2_113 (fun H locs hP hD hS => ?_)
        have hP : va_P g.1 zCl [(qq, .inr (5, [.int (iI (fl)), .ref (rf 0), .int (iI (ln)), .int (iI (pl)), .int (iI (yy)), .int (iI (mm)), .int (iI (dd)), .int (iI ((num tf ln (at0 + 1)).1)), .ref (rf 1), .ref (rf 2), .ref (rf 3), .ref (rf 4), .ref (rf 5), .ref (rf 6), .int (iI (6)), .int (iI (v)), .int (iI ((num tf ln (at0 + 1)).2)), .ref (rf 7), .ref (rf 8), .ref (rf 9), .int (iI (hc))])), (rf 0, .inl (g.2 3, 400, .inl (zaI (zSg tf))))] H := hP
        have hD : va_D A [(qq, .inr (5, [.int (iI (fl)), .ref (rf 0), .int (iI (ln)), .int (iI (pl)), .int (iI (yy)), .int (iI (mm)), .int (iI (dd)), .int (iI ((num tf ln (at0 + 1)).1)), .ref (rf 1), .ref (rf 2), .ref (rf 3), .ref (rf 4), .ref (rf 5), .ref (rf 6), .int (iI (6)), .int (iI (v)), .int (iI ((num tf ln (at0 + 1)).2)), .ref (rf 7), .ref (rf 8), .ref (rf 9), .int (iI (hc))])), (rf 0, .inl (g.2 3, 400, .inl (zaI (zSg tf))))] := hD
        refine zi_iconst hx hb zd_Q_special2_116 ?_
        refine zb_as (x := true) (rfl) ?_
        have hok9 := ho110
        exact zq_zret hx hb hr hlk (fun _ => 0, fun _ _ => false) hP hS hok9 (zHm_y hmc hok9) zd_Q_special2_117
      · exact zk_X (As := [.int (iI (1)), .int (iI (5))]) (b := qq) (own := "CronFinderModel") (nL := 3) (rest := [.ref (qq)]) hx hb hml hown hw (zE_n (c_Q_ranged l g hl0 qq rf (fl) (ln) (pl) (yy) (mm) (dd) (at0 + 1) (6) (v) (tw) (hc) tf hln (by omega) hch (1) (5) (by omega) 1 6 (Or.inr ⟨ho110, rfl, rfl⟩)) ho110) zw_4_61 zw_4_63 zw_0_33 zw_1_7 zw_4_64 (np := 2) (by decide +kernel) rfl ⟨rfl, rfl, Nat.le_of_ble_eq_true rfl, Nat.le_of_ble_eq_true rfl⟩ zTh_mv hK (zTh_nar (zTh_now hT hS) (va_free hD hS hA [0, 1] rfl)) hP hD hS hA [0, 1] rfl (by decide) (fun _ => rfl) (va_recv hK hP (ci := 5) (q0 := 0) rfl rfl) hl.1 rfl (Nat.le_of_ble_eq_true rfl) (zHm_1 hmc ho110) zd_Q_special2_110 hno hlk ho110 (fun u _ h => ⟨u, h⟩) (zHm_1 hmc ho110)
    · exact absurd hk c80
  · exact absurd (c49.symm.trans hk) (by decide)
set_option maxHeartbeats 4000000 in
set_option maxRecDepth 100000 in
theorem c_Q_items (l : Launch) (g : zGl) (hl0 : l.stackTraces = false) (qq : Nat) (rf : Nat → Nat) (fl ln pl yy mm dd at0 wa on tw hc : Int) (tf : Nat → Int) (hln : 0 ≤ ln ∧ ln ≤ 400) (hat : 0 ≤ at0 ∧ at0 ≤ ln) (hch : ∀ j : Nat, 0 ≤ tf j ∧ tf j < 256) (t1 t2 : Nat) (mq mv wq wv : Nat → Nat) (ta : Nat → Nat) (j : Nat) (hj : j < 7) (f0 : Nat → Bool) (vl : Int) (n : Nat) (ok : Bool) (b v' : Int) (f' : Nat → Bool) (hres : pIs j tf ln n at0 vl (fun _ => false) = (ok, b, v', f')) (hfu : (ln - at0).toNat < 2 * n) (hns : qNs j tf ln at0) (mc ms : Nat) (hmc : zHm (ok = true) mc ms) : zEi l zy_Q_items zc_Q_items 11 none ({ frames := 9, cells := mc, slots := ms, locals := 190 }) g (zQs t1 t2 mq mv wq wv) [.ref (qq), .int (iI (((j : Nat) : Int)))] [(qq, .inr (5, [.int (iI (fl)), .ref (rf 0), .int (iI (ln)), .int (iI (pl)), .int (iI (yy)), .int (iI (mm)), .int (iI (dd)), .int (iI (at0)), .ref (rf 1), .ref (rf 2), .ref (rf 3), .ref (rf 4), .ref (rf 5), .ref (rf 6), .int (iI (wa)), .int (iI (on)), .int (iI (tw)), .ref (rf 7), .ref (rf 8), .ref (rf 9), .int (iI (hc))])), (rf 0, .inl (g.2 3, 400, .inl (zaI (zSg tf)))), (rf 7, .inl (g.2 8, 12, .inr (.inr (.inr (.inr (zaR mq)))))), (rf 8, .inl (g.2 8, 7, .inr (.inr (.inr (.inr (zaR wq)))))), (rf 2, .inl (g.2 5, 7, .inr (.inr (.inr (.inr (zaR ta)))))), (ta j, .inl (g.2 1, 330, .inl (zaB f0)))] (ok = true) (none) (fun _ => [(qq, .inr (5, [.int (iI (fl)), .ref (rf 0), .int (iI (ln)), .int (iI (pl)), .int (iI (yy)), .int (iI (mm)), .int (iI (dd)), .int (iI (b)), .ref (rf 1), .ref (rf 2), .ref (rf 3), .ref (rf 4), .ref (rf 5), .ref (rf 6), .int (iI (wa)), .int (iI (on)), .int (iI (tw)), .ref (rf 7), .ref (rf 8), .ref (rf 9), .int (iI (hc))])), (rf 0, .inl (g.2 3, 400, .inl (zaI (zSg tf)))), (rf 7, .inl (g.2 8, 12, .inr (.inr (.inr (.inr (zaR mq)))))), (rf 8, .inl (g.2 8, 7, .inr (.inr (.inr (.inr (zaR wq)))))), (rf 2, .inl (g.2 5, 7, .inr (.inr (.inr (.inr (zaR ta)))))), (ta j, .inl (g.2 1, 330, .inl (zaB f')))]) "java/lang/UnsupportedOperationException" (fun u => [(qq, .inr (5, [.int (iI (fl)), .ref (rf 0), .int (iI (ln)), .int (iI (b)), .int (iI (yy)), .int (iI (mm)), .int (iI (dd)), .int (iI (u.1 0)), .ref (rf 1), .ref (rf 2), .ref (rf 3), .ref (rf 4), .ref (rf 5), .ref (rf 6), .int (iI (u.1 1)), .int (iI (u.1 2)), .int (iI (u.1 3)), .ref (rf 7), .ref (rf 8), .ref (rf 9), .int (iI (hc))])), (rf 0, .inl (g.2 3, 400, .inl (zaI (zSg tf)))), (rf 7, .inl (g.2 8, 12, .inr (.inr (.inr (.inr (zaR mq)))))), (rf 8, .inl (g.2 8, 7, .inr (.inr (.inr (.inr (zaR wq)))))), (rf 2, .inl (g.2 5, 7, .inr (.inr (.inr (.inr (zaR ta)))))), (ta j, .inl (g.2 1, 330, .inl (zaB (u.2 0))))]) mc ms := by
  refine ze_open (by decide +kernel) (Nat.le_of_ble_eq_true rfl) ?_
  intro p e s m below meth c ls A hx hb hml hr hno hlk hown hw hK hT hP hD hS hA hl
  have hown : s.vm.findClass "CronFinderModel" = some m.cls := hown
  have hl : lv_has ls 11 [(0, .ref (qq)), (1, .int (iI (((j : Nat) : Int))))] := hl
  refine zi_iconst hx hb zd_Q_items_0 ?_
  refine lv_istore_n (lv' := [(2, .int (iI (0))), (0, .ref (qq)), (1, .int (iI (((j : Nat) : Int))))]) hx hb zd_Q_items_1 rfl hl (by decide) rfl (fun ls hl => ?_)
  have hLH := fLH hj
  have loopc : ∀ (nc : Nat) (k : Int) (fc : Nat → Bool) (H : Heap) (locs : List Loc) (ls : Array Slot), ((0 ≤ k ∧ k ≤ 330) ∧ ∀ i : Nat, (i : Int) < k → fc i = false) → ((330 - k).toNat < nc) → va_P g.1 zCl [(qq, .inr (5, [.int (iI (fl)), .ref (rf 0), .int (iI (ln)), .int (iI (pl)), .int (iI (yy)), .int (iI (mm)), .int (iI (dd)), .int (iI (at0)), .ref (rf 1), .ref (rf 2), .ref (rf 3), .ref (rf 4), .ref (rf 5), .ref (rf 6), .int (iI (wa)), .int (iI (on)), .int (iI (tw)), .ref (rf 7), .ref (rf 8), .ref (rf 9), .int (iI (hc))])), (rf 0, .inl (g.2 3, 400, .inl (zaI (zSg tf)))), (rf 7, .inl (g.2 8, 12, .inr (.inr (.inr (.inr (zaR mq)))))), (rf 8, .inl (g.2 8, 7, .inr (.inr (.inr (.inr (zaR wq)))))), (rf 2, .inl (g.2 5, 7, .inr (.inr (.inr (.inr (zaR ta)))))), (ta j, .inl (g.2 1, 330, .inl (zaB fc)))] H → va_D A [(qq, .inr (5, [.int (iI (fl)), .ref (rf 0), .int (iI (ln)), .int (iI (pl)), .int (iI (yy)), .int (iI (mm)), .int (iI (dd)), .int (iI (at0)), .ref (rf 1), .ref (rf 2), .ref (rf 3), .ref (rf 4), .ref (rf 5), .ref (rf 6), .int (iI (wa)), .int (iI (on)), .int (iI (tw)), .ref (rf 7), .ref (rf 8), .ref (rf 9), .int (iI (hc))])), (rf 0, .inl (g.2 3, 400, .inl (zaI (zSg tf)))), (rf 7, .inl (g.2 8, 12, .inr (.inr (.inr (.inr (zaR mq)))))), (rf 8, .inl (g.2 8, 7, .inr (.inr (.inr (.inr (zaR wq)))))), (rf 2, .inl (g.2 5, 7, .inr (.inr (.inr (.inr (zaR ta)))))), (ta j, .inl (g.2 1, 330, .inl (zaB fc)))] → va_S A s.heap H locs → lv_has ls 11 [(2, .int (iI (k))), (0, .ref (qq)), (1, .int (iI (((j : Nat) : Int))))] → W p l e ({ frames := 9, cells := mc, slots := ms, locals := 190 }) s m [.ref (qq), .int (iI (((j : Nat) : Int)))].toArray below meth c H locs 0 0 (vx_MQ below (zQC g (ok = true) (none) (fun _ => [(qq, .inr (5, [.int (iI (fl)), .ref (rf 0), .int (iI (ln)), .int (iI (pl)), .int (iI (yy)), .int (iI (mm)), .int (iI (dd)), .int (iI (b)), .ref (rf 1), .ref (rf 2), .ref (rf 3), .ref (rf 4), .ref (rf 5), .ref (rf 6), .int (iI (wa)), .int (iI (on)), .int (iI (tw)), .ref (rf 7), .ref (rf 8), .ref (rf 9), .int (iI (hc))])), (rf 0, .inl (g.2 3, 400, .inl (zaI (zSg tf)))), (rf 7, .inl (g.2 8, 12, .inr (.inr (.inr (.inr (zaR mq)))))), (rf 8, .inl (g.2 8, 7, .inr (.inr (.inr (.inr (zaR wq)))))), (rf 2, .inl (g.2 5, 7, .inr (.inr (.inr (.inr (zaR ta)))))), (ta j, .inl (g.2 1, 330, .inl (zaB f')))]) A) (zXC g (ok = true) "java/lang/UnsupportedOperationException" (fun u => [(qq, .inr (5, [.int (iI (fl)), .ref (rf 0), .int (iI (ln)), .int (iI (b)), .int (iI (yy)), .int (iI (mm)), .int (iI (dd)), .int (iI (u.1 0)), .ref (rf 1), .ref (rf 2), .ref (rf 3), .ref (rf 4), .ref (rf 5), .ref (rf 6), .int (iI (u.1 1)), .int (iI (u.1 2)), .int (iI (u.1 3)), .ref (rf 7), .ref (rf 8), .ref (rf 9), .int (iI (hc))])), (rf 0, .inl (g.2 3, 400, .inl (zaI (zSg tf)))), (rf 7, .inl (g.2 8, 12, .inr (.inr (.inr (.inr (zaR mq)))))), (rf 8, .inl (g.2 8, 7, .inr (.inr (.inr (.inr (zaR wq)))))), (rf 2, .inl (g.2 5, 7, .inr (.inr (.inr (.inr (zaR ta)))))), (ta j, .inl (g.2 1, 330, .inl (zaB (u.2 0))))]) A) [.ref (qq), .int (iI (((j : Nat) : Int)))].toArray s mc ms A) (F0 m 2 ls []) := by
    intro nc
    induction nc with
    | zero =>
      intro k fc H locs ls hc0 hc2 hP hD hS hl
      exact absurd hc2 (by omega)
    | succ nc ihc =>
      intro k fc H locs ls hc0 hc2 hP hD hS hl
      refine lv_iload_n hx hb zd_Q_items_2 rfl (lv_at hl 0 rfl) ?_
      refine zi_sipush hx hb zd_Q_items_3 (by decide) ?_
      refine zi_icmp_ge (tgt := 24) hx hb zd_Q_items_6 (by decide) (by omega) (fun c6 => ?_) (fun c6 => ?_)
      · have hP : va_P g.1 zCl [(qq, .inr (5, [.int (iI (fl)), .ref (rf 0), .int (iI (ln)), .int (iI (pl)), .int (iI (yy)), .int (iI (mm)), .int (iI (dd)), .int (iI (at0)), .ref (rf 1), .ref (rf 2), .ref (rf 3), .ref (rf 4), .ref (rf 5), .ref (rf 6), .int (iI (wa)), .int (iI (on)), .int (iI (tw)), .ref (rf 7), .ref (rf 8), .ref (rf 9), .int (iI (hc))])), (rf 0, .inl (g.2 3, 400, .inl (zaI (zSg tf)))), (rf 7, .inl (g.2 8, 12, .inr (.inr (.inr (.inr (zaR mq)))))), (rf 8, .inl (g.2 8, 7, .inr (.inr (.inr (.inr (zaR wq)))))), (rf 2, .inl (g.2 5, 7, .inr (.inr (.inr (.inr (zaR ta)))))), (ta j, .inl (g.2 1, 330, .inl (zaB (fun _ => false))))] H := zB_ext (k := 5) hP rfl (fun i hi => hc0.2 i (by omega))
        have hD : va_D A [(qq, .inr (5, [.int (iI (fl)), .ref (rf 0), .int (iI (ln)), .int (iI (pl)), .int (iI (yy)), .int (iI (mm)), .int (iI (dd)), .int (iI (at0)), .ref (rf 1), .ref (rf 2), .ref (rf 3), .ref (rf 4), .ref (rf 5), .ref (rf 6), .int (iI (wa)), .int (iI (on)), .int (iI (tw)), .ref (rf 7), .ref (rf 8), .ref (rf 9), .int (iI (hc))])), (rf 0, .inl (g.2 3, 400, .inl (zaI (zSg tf)))), (rf 7, .inl (g.2 8, 12, .inr (.inr (.inr (.inr (zaR mq)))))), (rf 8, .inl (g.2 8, 7, .inr (.inr (.inr (.inr (zaR wq)))))), (rf 2, .inl (g.2 5, 7, .inr (.inr (.inr (.inr (zaR ta)))))), (ta j, .inl (g.2 1, 330, .inl (zaB (fun _ => false))))] := zD_ad hD rfl
        refine zi_iconst hx hb zd_Q_items_24 ?_
        refine lv_istore_n (lv' := [(2, .int (iI (1))), (0, .ref (qq)), (1, .int (iI (((j : Nat) : Int))))]) hx hb zd_Q_items_25 rfl hl (by decide) rfl (fun ls hl => ?_)
        have loop : ∀ (n9 : Nat) (x vl9 : Int) (ff : Nat → Bool) (oy : Int) (H : Heap) (locs : List Loc) (ls : Array Slot), (0 ≤ x ∧ x ≤ ln) → (0 ≤ oy ∧ oy ≤ 1) → (¬ oy = 0 → x = at0) → (pIs j tf ln n9 x vl9 ff = (ok, b, v', f')) → ((ln - x).toNat < 2 * n9) → va_P g.1 zCl [(qq, .inr (5, [.int (iI (fl)), .ref (rf 0), .int (iI (ln)), .int (iI (pl)), .int (iI (yy)), .int (iI (mm)), .int (iI (dd)), .int (iI (x)), .ref (rf 1), .ref (rf 2), .ref (rf 3), .ref (rf 4), .ref (rf 5), .ref (rf 6), .int (iI (wa)), .int (iI (on)), .int (iI (tw)), .ref (rf 7), .ref (rf 8), .ref (rf 9), .int (iI (hc))])), (rf 0, .inl (g.2 3, 400, .inl (zaI (zSg tf)))), (rf 7, .inl (g.2 8, 12, .inr (.inr (.inr (.inr (zaR mq)))))), (rf 8, .inl (g.2 8, 7, .inr (.inr (.inr (.inr (zaR wq)))))), (rf 2, .inl (g.2 5, 7, .inr (.inr (.inr (.inr (zaR ta)))))), (ta j, .inl (g.2 1, 330, .inl (zaB ff)))] H → va_D A [(qq, .inr (5, [.int (iI (fl)), .ref (rf 0), .int (iI (ln)), .int (iI (pl)), .int (iI (yy)), .int (iI (mm)), .int (iI (dd)), .int (iI (x)), .ref (rf 1), .ref (rf 2), .ref (rf 3), .ref (rf 4), .ref (rf 5), .ref (rf 6), .int (iI (wa)), .int (iI (on)), .int (iI (tw)), .ref (rf 7), .ref (rf 8), .ref (rf 9), .int (iI (hc))])), (rf 0, .inl (g.2 3, 400, .inl (zaI (zSg tf)))), (rf 7, .inl (g.2 8, 12, .inr (.inr (.inr (.inr (zaR mq)))))), (rf 8, .inl (g.2 8, 7, .inr (.inr (.inr (.inr (zaR wq)))))), (rf 2, .inl (g.2 5, 7, .inr (.inr (.inr (.inr (zaR ta)))))), (ta j, .inl (g.2 1, 330, .inl (zaB ff)))] → va_S A s.heap H locs → lv_has ls 11 [(2, .int (iI (oy))), (0, .ref (qq)), (1, .int (iI (((j : Nat) : Int))))] → W p l e ({ frames := 9, cells := mc, slots := ms, locals := 190 }) s m [.ref (qq), .int (iI (((j : Nat) : Int)))].toArray below meth c H locs 0 0 (vx_MQ below (zQC g (ok = true) (none) (fun _ => [(qq, .inr (5, [.int (iI (fl)), .ref (rf 0), .int (iI (ln)), .int (iI (pl)), .int (iI (yy)), .int (iI (mm)), .int (iI (dd)), .int (iI (b)), .ref (rf 1), .ref (rf 2), .ref (rf 3), .ref (rf 4), .ref (rf 5), .ref (rf 6), .int (iI (wa)), .int (iI (on)), .int (iI (tw)), .ref (rf 7), .ref (rf 8), .ref (rf 9), .int (iI (hc))])), (rf 0, .inl (g.2 3, 400, .inl (zaI (zSg tf)))), (rf 7, .inl (g.2 8, 12, .inr (.inr (.inr (.inr (zaR mq)))))), (rf 8, .inl (g.2 8, 7, .inr (.inr (.inr (.inr (zaR wq)))))), (rf 2, .inl (g.2 5, 7, .inr (.inr (.inr (.inr (zaR ta)))))), (ta j, .inl (g.2 1, 330, .inl (zaB f')))]) A) (zXC g (ok = true) "java/lang/UnsupportedOperationException" (fun u => [(qq, .inr (5, [.int (iI (fl)), .ref (rf 0), .int (iI (ln)), .int (iI (b)), .int (iI (yy)), .int (iI (mm)), .int (iI (dd)), .int (iI (u.1 0)), .ref (rf 1), .ref (rf 2), .ref (rf 3), .ref (rf 4), .ref (rf 5), .ref (rf 6), .int (iI (u.1 1)), .int (iI (u.1 2)), .int (iI (u.1 3)), .ref (rf 7), .ref (rf 8), .ref (rf 9), .int (iI (hc))])), (rf 0, .inl (g.2 3, 400, .inl (zaI (zSg tf)))), (rf 7, .inl (g.2 8, 12, .inr (.inr (.inr (.inr (zaR mq)))))), (rf 8, .inl (g.2 8, 7, .inr (.inr (.inr (.inr (zaR wq)))))), (rf 2, .inl (g.2 5, 7, .inr (.inr (.inr (.inr (zaR ta)))))), (ta j, .inl (g.2 1, 330, .inl (zaB (u.2 0))))]) A) [.ref (qq), .int (iI (((j : Nat) : Int)))].toArray s mc ms A) (F0 m 26 ls []) := by
          intro n9
          induction n9 with
          | zero =>
            intro x vl9 ff oy H locs ls h1 hoy hsp hF h2 hP hD hS hl
            exact absurd h2 (by omega)
          | succ n9 ih =>
            intro x vl9 ff oy H locs ls h1 hoy hsp hF h2 hP hD hS hl
            have tailk : ∀ (fr to stp b2 v2 : Int) (H : Heap) (locs : List Loc) (ls : Array Slot), (fLo j ≤ fr ∧ fr ≤ fHi j ∧ fLo j ≤ to ∧ to ≤ fHi j) → (1 ≤ stp ∧ stp ≤ 99 ∧ x < b2 ∧ b2 ≤ ln) → pI j tf ln x vl9 = (true, b2, fr, to, stp, v2) → va_P g.1 zCl [(qq, .inr (5, [.int (iI (fl)), .ref (rf 0), .int (iI (ln)), .int (iI (pl)), .int (iI (yy)), .int (iI (mm)), .int (iI (dd)), .int (iI (b2)), .ref (rf 1), .ref (rf 2), .ref (rf 3), .ref (rf 4), .ref (rf 5), .ref (rf 6), .int (iI (wa)), .int (iI (on)), .int (iI (tw)), .ref (rf 7), .ref (rf 8), .ref (rf 9), .int (iI (hc))])), (rf 0, .inl (g.2 3, 400, .inl (zaI (zSg tf)))), (rf 7, .inl (g.2 8, 12, .inr (.inr (.inr (.inr (zaR mq)))))), (rf 8, .inl (g.2 8, 7, .inr (.inr (.inr (.inr (zaR wq)))))), (rf 2, .inl (g.2 5, 7, .inr (.inr (.inr (.inr (zaR ta)))))), (ta j, .inl (g.2 1, 330, .inl (zaB ff)))] H → va_D A [(qq, .inr (5, [.int (iI (fl)), .ref (rf 0), .int (iI (ln)), .int (iI (pl)), .int (iI (yy)), .int (iI (mm)), .int (iI (dd)), .int (iI (b2)), .ref (rf 1), .ref (rf 2), .ref (rf 3), .ref (rf 4), .ref (rf 5), .ref (rf 6), .int (iI (wa)), .int (iI (on)), .int (iI (tw)), .ref (rf 7), .ref (rf 8), .ref (rf 9), .int (iI (hc))])), (rf 0, .inl (g.2 3, 400, .inl (zaI (zSg tf)))), (rf 7, .inl (g.2 8, 12, .inr (.inr (.inr (.inr (zaR mq)))))), (rf 8, .inl (g.2 8, 7, .inr (.inr (.inr (.inr (zaR wq)))))), (rf 2, .inl (g.2 5, 7, .inr (.inr (.inr (.inr (zaR ta)))))), (ta j, .inl (g.2 1, 330, .inl (zaB ff)))] → va_S A s.heap H locs → lv_has ls 11 [(10, .int (iI (0))), (9, .int (iI ((to - fr) % ((fNn j : Nat) : Int) + 1))), (8, .int (iI (((fNn j : Nat) : Int)))), (7, .int (iI (stp))), (4, .int (iI (fr))), (0, .ref (qq)), (1, .int (iI (((j : Nat) : Int))))] → W p l e ({ frames := 9, cells := mc, slots := ms, locals := 190 }) s m [.ref (qq), .int (iI (((j : Nat) : Int)))].toArray below meth c H locs 0 0 (vx_MQ below (zQC g (ok = true) none (fun _ => [(qq, .inr (5, [.int (iI (fl)), .ref (rf 0), .int (iI (ln)), .int (iI (pl)), .int (iI (yy)), .int (iI (mm)), .int (iI (dd)), .int (iI (b)), .ref (rf 1), .ref (rf 2), .ref (rf 3), .ref (rf 4), .ref (rf 5), .ref (rf 6), .int (iI (wa)), .int (iI (on)), .int (iI (tw)), .ref (rf 7), .ref (rf 8), .ref (rf 9), .int (iI (hc))])), (rf 0, .inl (g.2 3, 400, .inl (zaI (zSg tf)))), (rf 7, .inl (g.2 8, 12, .inr (.inr (.inr (.inr (zaR mq)))))), (rf 8, .inl (g.2 8, 7, .inr (.inr (.inr (.inr (zaR wq)))))), (rf 2, .inl (g.2 5, 7, .inr (.inr (.inr (.inr (zaR ta)))))), (ta j, .inl (g.2 1, 330, .inl (zaB f')))]) A) (zXC g (ok = true) "java/lang/UnsupportedOperationException" (fun u => [(qq, .inr (5, [.int (iI (fl)), .ref (rf 0), .int (iI (ln)), .int (iI (b)), .int (iI (yy)), .int (iI (mm)), .int (iI (dd)), .int (iI (u.1 0)), .ref (rf 1), .ref (rf 2), .ref (rf 3), .ref (rf 4), .ref (rf 5), .ref (rf 6), .int (iI (u.1 1)), .int (iI (u.1 2)), .int (iI (u.1 3)), .ref (rf 7), .ref (rf 8), .ref (rf 9), .int (iI (hc))])), (rf 0, .inl (g.2 3, 400, .inl (zaI (zSg tf)))), (rf 7, .inl (g.2 8, 12, .inr (.inr (.inr (.inr (zaR mq)))))), (rf 8, .inl (g.2 8, 7, .inr (.inr (.inr (.inr (zaR wq)))))), (rf 2, .inl (g.2 5, 7, .inr (.inr (.inr (.inr (zaR ta)))))), (ta j, .inl (g.2 1, 330, .inl (zaB (u.2 0))))]) A) [.ref (qq), .int (iI (((j : Nat) : Int)))].toArray s mc ms A) (F0 m 248 ls []) := by
              intro fr to stp b2 v2 H locs ls hfr hgo hpI hP hD hS hl
              have hcm := Int.emod_nonneg (to - fr) (show ((fNn j : Nat) : Int) ≠ 0 by omega)
              have hcl := Int.emod_lt_of_pos (to - fr) (show (0 : Int) < ((fNn j : Nat) : Int) by omega)
              have lpk : ∀ (n8 : Nat) (k : Int) (fk : Nat → Bool) (H : Heap) (locs : List Loc) (ls : Array Slot), (0 ≤ k ∧ k < 1000) → (oAl ((fNn j : Nat) : Int) (fr - fLo j) ((to - fr) % ((fNn j : Nat) : Int) + 1) stp n8 k fk = (pAf j true fr to stp ff)) → (((to - fr) % ((fNn j : Nat) : Int) + 1 - k).toNat < n8) → va_P g.1 zCl [(qq, .inr (5, [.int (iI (fl)), .ref (rf 0), .int (iI (ln)), .int (iI (pl)), .int (iI (yy)), .int (iI (mm)), .int (iI (dd)), .int (iI (b2)), .ref (rf 1), .ref (rf 2), .ref (rf 3), .ref (rf 4), .ref (rf 5), .ref (rf 6), .int (iI (wa)), .int (iI (on)), .int (iI (tw)), .ref (rf 7), .ref (rf 8), .ref (rf 9), .int (iI (hc))])), (rf 0, .inl (g.2 3, 400, .inl (zaI (zSg tf)))), (rf 7, .inl (g.2 8, 12, .inr (.inr (.inr (.inr (zaR mq)))))), (rf 8, .inl (g.2 8, 7, .inr (.inr (.inr (.inr (zaR wq)))))), (rf 2, .inl (g.2 5, 7, .inr (.inr (.inr (.inr (zaR ta)))))), (ta j, .inl (g.2 1, 330, .inl (zaB fk)))] H → va_D A [(qq, .inr (5, [.int (iI (fl)), .ref (rf 0), .int (iI (ln)), .int (iI (pl)), .int (iI (yy)), .int (iI (mm)), .int (iI (dd)), .int (iI (b2)), .ref (rf 1), .ref (rf 2), .ref (rf 3), .ref (rf 4), .ref (rf 5), .ref (rf 6), .int (iI (wa)), .int (iI (on)), .int (iI (tw)), .ref (rf 7), .ref (rf 8), .ref (rf 9), .int (iI (hc))])), (rf 0, .inl (g.2 3, 400, .inl (zaI (zSg tf)))), (rf 7, .inl (g.2 8, 12, .inr (.inr (.inr (.inr (zaR mq)))))), (rf 8, .inl (g.2 8, 7, .inr (.inr (.inr (.inr (zaR wq)))))), (rf 2, .inl (g.2 5, 7, .inr (.inr (.inr (.inr (zaR ta)))))), (ta j, .inl (g.2 1, 330, .inl (zaB fk)))] → va_S A s.heap H locs → lv_has ls 11 [(10, .int (iI (k))), (9, .int (iI ((to - fr) % ((fNn j : Nat) : Int) + 1))), (8, .int (iI (((fNn j : Nat) : Int)))), (7, .int (iI (stp))), (4, .int (iI (fr))), (0, .ref (qq)), (1, .int (iI (((j : Nat) : Int))))] → W p l e ({ frames := 9, cells := mc, slots := ms, locals := 190 }) s m [.ref (qq), .int (iI (((j : Nat) : Int)))].toArray below meth c H locs 0 0 (vx_MQ below (zQC g (ok = true) (none) (fun _ => [(qq, .inr (5, [.int (iI (fl)), .ref (rf 0), .int (iI (ln)), .int (iI (pl)), .int (iI (yy)), .int (iI (mm)), .int (iI (dd)), .int (iI (b)), .ref (rf 1), .ref (rf 2), .ref (rf 3), .ref (rf 4), .ref (rf 5), .ref (rf 6), .int (iI (wa)), .int (iI (on)), .int (iI (tw)), .ref (rf 7), .ref (rf 8), .ref (rf 9), .int (iI (hc))])), (rf 0, .inl (g.2 3, 400, .inl (zaI (zSg tf)))), (rf 7, .inl (g.2 8, 12, .inr (.inr (.inr (.inr (zaR mq)))))), (rf 8, .inl (g.2 8, 7, .inr (.inr (.inr (.inr (zaR wq)))))), (rf 2, .inl (g.2 5, 7, .inr (.inr (.inr (.inr (zaR ta)))))), (ta j, .inl (g.2 1, 330, .inl (zaB f')))]) A) (zXC g (ok = true) "java/lang/UnsupportedOperationException" (fun u => [(qq, .inr (5, [.int (iI (fl)), .ref (rf 0), .int (iI (ln)), .int (iI (b)), .int (iI (yy)), .int (iI (mm)), .int (iI (dd)), .int (iI (u.1 0)), .ref (rf 1), .ref (rf 2), .ref (rf 3), .ref (rf 4), .ref (rf 5), .ref (rf 6), .int (iI (u.1 1)), .int (iI (u.1 2)), .int (iI (u.1 3)), .ref (rf 7), .ref (rf 8), .ref (rf 9), .int (iI (hc))])), (rf 0, .inl (g.2 3, 400, .inl (zaI (zSg tf)))), (rf 7, .inl (g.2 8, 12, .inr (.inr (.inr (.inr (zaR mq)))))), (rf 8, .inl (g.2 8, 7, .inr (.inr (.inr (.inr (zaR wq)))))), (rf 2, .inl (g.2 5, 7, .inr (.inr (.inr (.inr (zaR ta)))))), (ta j, .inl (g.2 1, 330, .inl (zaB (u.2 0))))]) A) [.ref (qq), .int (iI (((j : Nat) : Int)))].toArray s mc ms A) (F0 m 248 ls []) := by
                intro n8
                induction n8 with
                | zero =>
                  intro k fk H locs ls h1 hK9 h2 hP hD hS hl
                  exact absurd h2 (by omega)
                | succ n8 loopk =>
                  intro k fk H locs ls h1 hK9 h2 hP hD hS hl
                  refine lv_iload hx hb zd_Q_items_248 (lv_at hl 0 rfl) ?_
                  refine lv_iload hx hb zd_Q_items_250 (lv_at hl 1 rfl) ?_
                  refine zi_icmp_ge (tgt := 289) hx hb zd_Q_items_252 (by decide) (by omega) (fun c252 => ?_) (fun c252 => ?_)
                  · have hff : fk = (pAf j true fr to stp ff) := (oAl_e (by omega)).symm.trans hK9
                    rw [hff] at hP hD
                    have hxb := hgo.2.2.1
                    refine lv_aload_n hx hb zd_Q_items_289 rfl (lv_at hl 5 rfl) ?_
                    refine zk_V (As := []) (b := qq) (own := "CronFinderModel") (nL := 11) (rest := []) hx hb hml hown hw (c_Q_peek l g qq rf (fl) (ln) (pl) (yy) (mm) (dd) (b2) (wa) (on) (tw) (hc) tf hln (by omega) hch) zw_4_39 zw_4_41 zw_0_30 zw_1_7 zw_4_42 (np := 0) (by decide +kernel) rfl ⟨rfl, rfl, Nat.le_of_ble_eq_true rfl, Nat.le_of_ble_eq_true rfl⟩ zN_mv hK trivial (hP.sub (ws' := [(qq, .inr (5, [.int (iI (fl)), .ref (rf 0), .int (iI (ln)), .int (iI (pl)), .int (iI (yy)), .int (iI (mm)), .int (iI (dd)), .int (iI (b2)), .ref (rf 1), .ref (rf 2), .ref (rf 3), .ref (rf 4), .ref (rf 5), .ref (rf 6), .int (iI (wa)), .int (iI (on)), .int (iI (tw)), .ref (rf 7), .ref (rf 8), .ref (rf 9), .int (iI (hc))])), (rf 0, .inl (g.2 3, 400, .inl (zaI (zSg tf))))]) [0, 1] rfl) (va_recv hK hP (ci := 5) (q0 := 0) rfl rfl) hl.1 rfl (Nat.le_of_ble_eq_true rfl) ⟨Nat.zero_le _, Nat.zero_le _⟩ zd_Q_items_290 ?_
                    have hk290 := rk_rg tf ln (b2) hch
                    refine zi_bipush hx hb zd_Q_items_293 (by decide) ?_
                    refine zi_icmp_eq (tgt := 299) hx hb zd_Q_items_295 (by decide) (by omega) (fun c295 => ?_) (fun c295 => ?_)
                    · have hx9 := rk_lt c295 (by decide)
                      refine lv_aload_n hx hb zd_Q_items_299 rfl (lv_at hl 5 rfl) ?_
                      refine lv_dup hx hb zd_Q_items_300 rfl ?_
                      refine va_get (D := g.1) (ci := 5) (v := .int (iI (b2))) (C := zR_Q) (T := zT_Q) (N := 21) hx hb hw zin_Q hown hK hP 0 rfl rfl 7 (by decide) (hw _ zw_3_205) (fun _ h9 => h9) rfl zd_Q_items_301 ?_
                      refine zi_iconst hx hb zd_Q_items_304 ?_
                      refine zi_iadd hx hb zd_Q_items_305 ?_
                      refine va_put (D := g.1) (ci := 5) (v := .int (iI (b2 + 1))) (ty := .int) (C := zR_Q) (T := zT_Q) (N := 21) hx hb hw zin_Q zt_Q zto_Q zn_Q hown hK hP hD hS 0 rfl rfl 7 (by decide) (hw _ zw_3_205) (fun _ h9 => h9) rfl  (by decide +kernel) rfl rfl (Nat.le_of_ble_eq_true rfl) zd_Q_items_306 (fun H locs hP hD hS => ?_)
                      have hP : va_P g.1 zCl [(qq, .inr (5, [.int (iI (fl)), .ref (rf 0), .int (iI (ln)), .int (iI (pl)), .int (iI (yy)), .int (iI (mm)), .int (iI (dd)), .int (iI (b2 + 1)), .ref (rf 1), .ref (rf 2), .ref (rf 3), .ref (rf 4), .ref (rf 5), .ref (rf 6), .int (iI (wa)), .int (iI (on)), .int (iI (tw)), .ref (rf 7), .ref (rf 8), .ref (rf 9), .int (iI (hc))])), (rf 0, .inl (g.2 3, 400, .inl (zaI (zSg tf)))), (rf 7, .inl (g.2 8, 12, .inr (.inr (.inr (.inr (zaR mq)))))), (rf 8, .inl (g.2 8, 7, .inr (.inr (.inr (.inr (zaR wq)))))), (rf 2, .inl (g.2 5, 7, .inr (.inr (.inr (.inr (zaR ta)))))), (ta j, .inl (g.2 1, 330, .inl (zaB (pAf j true fr to stp ff))))] H := hP
                      have hD : va_D A [(qq, .inr (5, [.int (iI (fl)), .ref (rf 0), .int (iI (ln)), .int (iI (pl)), .int (iI (yy)), .int (iI (mm)), .int (iI (dd)), .int (iI (b2 + 1)), .ref (rf 1), .ref (rf 2), .ref (rf 3), .ref (rf 4), .ref (rf 5), .ref (rf 6), .int (iI (wa)), .int (iI (on)), .int (iI (tw)), .ref (rf 7), .ref (rf 8), .ref (rf 9), .int (iI (hc))])), (rf 0, .inl (g.2 3, 400, .inl (zaI (zSg tf)))), (rf 7, .inl (g.2 8, 12, .inr (.inr (.inr (.inr (zaR mq)))))), (rf 8, .inl (g.2 8, 7, .inr (.inr (.inr (.inr (zaR wq)))))), (rf 2, .inl (g.2 5, 7, .inr (.inr (.inr (.inr (zaR ta)))))), (ta j, .inl (g.2 1, 330, .inl (zaB (pAf j true fr to stp ff))))] := hD
                      refine zi_iconst hx hb zd_Q_items_309 ?_
                      refine lv_istore_n (lv' := [(2, .int (iI (0))), (10, .int (iI (k))), (9, .int (iI ((to - fr) % ((fNn j : Nat) : Int) + 1))), (8, .int (iI (((fNn j : Nat) : Int)))), (7, .int (iI (stp))), (4, .int (iI (fr))), (0, .ref (qq)), (1, .int (iI (((j : Nat) : Int))))]) hx hb zd_Q_items_310 rfl hl (by decide) rfl (fun ls hl => ?_)
                      refine lv_goto (tgt := 26) hx hb zd_Q_items_311 (by decide) ?_
                      exact ih (b2 + 1) v2 _ 0 H locs ls (by omega) (by omega) (fun q => absurd rfl q) ((pIs_3 hpI c295).symm.trans hF) (by omega) hP hD hS (lv_sub hl [0, 6, 7] rfl)
                    · cases (pIs_2 hpI c295).symm.trans hF
                      have hok9 := (rfl : true = true)
                      exact zq_vret hx hb hr hlk (fun _ => 0, fun _ _ => false) hP hS hok9 (zHm_y hmc hok9) zd_Q_items_298
                  · refine lv_aload_n hx hb zd_Q_items_255 rfl (lv_at hl 5 rfl) ?_
                    refine va_get (D := g.1) (ci := 5) (v := .ref (rf 2)) (C := zR_Q) (T := zT_Q) (N := 21) hx hb hw zin_Q hown hK hP 0 rfl rfl 9 (by decide) (hw _ zw_3_207) (fun _ h9 => h9) rfl zd_Q_items_256 ?_
                    refine lv_iload_n hx hb zd_Q_items_259 rfl (lv_at hl 6 rfl) ?_
                    refine zi_aald (k := j) hx hb hK hP 4 5 rfl rfl (by omega) (Int.toNat_natCast _) zd_Q_items_260 ?_
                    refine lv_iload hx hb zd_Q_items_261 (lv_at hl 4 rfl) ?_
                    refine va_gets hx hb hT.2.1.1 hS hown (hw _ zw_4_74) (fun _ h9 => h9) zd_Q_items_263 ?_
                    refine lv_iload_n hx hb zd_Q_items_266 rfl (lv_at hl 6 rfl) ?_
                    refine zi_ti hx hb hT.2.1.2.1 hS (by omega) zd_Q_items_267 ?_
                    refine zi_as (fLo j) (fLoI_n j) ?_
                    refine zi_isub hx hb zd_Q_items_268 ?_
                    refine lv_iload hx hb zd_Q_items_269 (lv_at hl 0 rfl) ?_
                    refine zi_iadd hx hb zd_Q_items_271 ?_
                    refine lv_iload hx hb zd_Q_items_272 (lv_at hl 2 rfl) ?_
                    refine zk_S (As := [.int (iI ((fr - (fLo j)) + k)), .int (iI (((fNn j : Nat) : Int)))]) (own := "CronFinderModel") (nL := 11) (rest := [.ref (ta j)]) hx hb hml hown hw (c_fm l g ((fr - (fLo j)) + k) (((fNn j : Nat) : Int)) (by omega)) zw_4_90 zw_2_56 zw_1_14 zw_2_57 (np := 2) (by decide +kernel) rfl ⟨rfl, rfl, Nat.le_of_ble_eq_true rfl, Nat.le_of_ble_eq_true rfl⟩ zN_mv hK trivial (hP.sub (ws' := []) [] rfl) hl.1 rfl (Nat.le_of_ble_eq_true rfl) ⟨Nat.zero_le _, Nat.zero_le _⟩ zd_Q_items_274 ?_
                    have hz274 := Int.emod_nonneg ((fr - (fLo j)) + k) (show ((fNn j : Nat) : Int) ≠ 0 by omega)
                    have hy274 := Int.emod_lt_of_pos ((fr - (fLo j)) + k) (show (0 : Int) < ((fNn j : Nat) : Int) by omega)
                    refine zi_iconst hx hb zd_Q_items_277 ?_
                    refine zb_as (x := true) rfl ?_
                    refine zi_zast hx hb hK hP hD hS 5 1 rfl rfl (by omega) zd_Q_items_278 (fun H locs hP hD hS => ?_)
                    have hP : va_P g.1 zCl [(qq, .inr (5, [.int (iI (fl)), .ref (rf 0), .int (iI (ln)), .int (iI (pl)), .int (iI (yy)), .int (iI (mm)), .int (iI (dd)), .int (iI (b2)), .ref (rf 1), .ref (rf 2), .ref (rf 3), .ref (rf 4), .ref (rf 5), .ref (rf 6), .int (iI (wa)), .int (iI (on)), .int (iI (tw)), .ref (rf 7), .ref (rf 8), .ref (rf 9), .int (iI (hc))])), (rf 0, .inl (g.2 3, 400, .inl (zaI (zSg tf)))), (rf 7, .inl (g.2 8, 12, .inr (.inr (.inr (.inr (zaR mq)))))), (rf 8, .inl (g.2 8, 7, .inr (.inr (.inr (.inr (zaR wq)))))), (rf 2, .inl (g.2 5, 7, .inr (.inr (.inr (.inr (zaR ta)))))), (ta j, .inl (g.2 1, 330, .inl (zaB (zu fk (((fr - (fLo j)) + k) % (((fNn j : Nat) : Int))).toNat (true)))))] H := hP
                    have hD : va_D A [(qq, .inr (5, [.int (iI (fl)), .ref (rf 0), .int (iI (ln)), .int (iI (pl)), .int (iI (yy)), .int (iI (mm)), .int (iI (dd)), .int (iI (b2)), .ref (rf 1), .ref (rf 2), .ref (rf 3), .ref (rf 4), .ref (rf 5), .ref (rf 6), .int (iI (wa)), .int (iI (on)), .int (iI (tw)), .ref (rf 7), .ref (rf 8), .ref (rf 9), .int (iI (hc))])), (rf 0, .inl (g.2 3, 400, .inl (zaI (zSg tf)))), (rf 7, .inl (g.2 8, 12, .inr (.inr (.inr (.inr (zaR mq)))))), (rf 8, .inl (g.2 8, 7, .inr (.inr (.inr (.inr (zaR wq)))))), (rf 2, .inl (g.2 5, 7, .inr (.inr (.inr (.inr (zaR ta)))))), (ta j, .inl (g.2 1, 330, .inl (zaB (zu fk (((fr - (fLo j)) + k) % (((fNn j : Nat) : Int))).toNat (true)))))] := hD
                    refine lv_iload hx hb zd_Q_items_279 (lv_at hl 0 rfl) ?_
                    refine lv_iload hx hb zd_Q_items_281 (lv_at hl 3 rfl) ?_
                    refine zi_iadd hx hb zd_Q_items_283 ?_
                    refine lv_istore (lv' := [(10, .int (iI (k + stp))), (9, .int (iI ((to - fr) % ((fNn j : Nat) : Int) + 1))), (8, .int (iI (((fNn j : Nat) : Int)))), (7, .int (iI (stp))), (4, .int (iI (fr))), (0, .ref (qq)), (1, .int (iI (((j : Nat) : Int))))]) hx hb zd_Q_items_284 hl (by decide) rfl (fun ls hl => ?_)
                    refine lv_goto (tgt := 248) hx hb zd_Q_items_286 (by decide) ?_
                    exact loopk (k + stp) _ H locs ls (by omega) (by rw [← oAl_s (by omega)]; exact hK9) (by omega) hP hD hS (lv_sub hl [0, 1, 2, 3, 4, 5, 6] rfl)
              exact lpk (fNn j + 1) 0 ff H locs ls (by omega) rfl (by omega) hP hD hS hl
            have tail185 : ∀ (fr to b1 v1 : Int) (H : Heap) (locs : List Loc) (ls : Array Slot), (fLo j ≤ fr ∧ fr ≤ fHi j ∧ fLo j ≤ to ∧ to ≤ fHi j) → (x < b1 ∧ b1 ≤ ln) → pI1 j tf ln x vl9 = (true, b1, fr, to, v1) → va_P g.1 zCl [(qq, .inr (5, [.int (iI (fl)), .ref (rf 0), .int (iI (ln)), .int (iI (pl)), .int (iI (yy)), .int (iI (mm)), .int (iI (dd)), .int (iI (b1)), .ref (rf 1), .ref (rf 2), .ref (rf 3), .ref (rf 4), .ref (rf 5), .ref (rf 6), .int (iI (wa)), .int (iI (on)), .int (iI (tw)), .ref (rf 7), .ref (rf 8), .ref (rf 9), .int (iI (hc))])), (rf 0, .inl (g.2 3, 400, .inl (zaI (zSg tf)))), (rf 7, .inl (g.2 8, 12, .inr (.inr (.inr (.inr (zaR mq)))))), (rf 8, .inl (g.2 8, 7, .inr (.inr (.inr (.inr (zaR wq)))))), (rf 2, .inl (g.2 5, 7, .inr (.inr (.inr (.inr (zaR ta)))))), (ta j, .inl (g.2 1, 330, .inl (zaB ff)))] H → va_D A [(qq, .inr (5, [.int (iI (fl)), .ref (rf 0), .int (iI (ln)), .int (iI (pl)), .int (iI (yy)), .int (iI (mm)), .int (iI (dd)), .int (iI (b1)), .ref (rf 1), .ref (rf 2), .ref (rf 3), .ref (rf 4), .ref (rf 5), .ref (rf 6), .int (iI (wa)), .int (iI (on)), .int (iI (tw)), .ref (rf 7), .ref (rf 8), .ref (rf 9), .int (iI (hc))])), (rf 0, .inl (g.2 3, 400, .inl (zaI (zSg tf)))), (rf 7, .inl (g.2 8, 12, .inr (.inr (.inr (.inr (zaR mq)))))), (rf 8, .inl (g.2 8, 7, .inr (.inr (.inr (.inr (zaR wq)))))), (rf 2, .inl (g.2 5, 7, .inr (.inr (.inr (.inr (zaR ta)))))), (ta j, .inl (g.2 1, 330, .inl (zaB ff)))] → va_S A s.heap H locs → lv_has ls 11 [(5, .int (iI (to))), (4, .int (iI (fr))), (0, .ref (qq)), (1, .int (iI (((j : Nat) : Int))))] → W p l e ({ frames := 9, cells := mc, slots := ms, locals := 190 }) s m [.ref (qq), .int (iI (((j : Nat) : Int)))].toArray below meth c H locs 0 0 (vx_MQ below (zQC g (ok = true) none (fun _ => [(qq, .inr (5, [.int (iI (fl)), .ref (rf 0), .int (iI (ln)), .int (iI (pl)), .int (iI (yy)), .int (iI (mm)), .int (iI (dd)), .int (iI (b)), .ref (rf 1), .ref (rf 2), .ref (rf 3), .ref (rf 4), .ref (rf 5), .ref (rf 6), .int (iI (wa)), .int (iI (on)), .int (iI (tw)), .ref (rf 7), .ref (rf 8), .ref (rf 9), .int (iI (hc))])), (rf 0, .inl (g.2 3, 400, .inl (zaI (zSg tf)))), (rf 7, .inl (g.2 8, 12, .inr (.inr (.inr (.inr (zaR mq)))))), (rf 8, .inl (g.2 8, 7, .inr (.inr (.inr (.inr (zaR wq)))))), (rf 2, .inl (g.2 5, 7, .inr (.inr (.inr (.inr (zaR ta)))))), (ta j, .inl (g.2 1, 330, .inl (zaB f')))]) A) (zXC g (ok = true) "java/lang/UnsupportedOperationException" (fun u => [(qq, .inr (5, [.int (iI (fl)), .ref (rf 0), .int (iI (ln)), .int (iI (b)), .int (iI (yy)), .int (iI (mm)), .int (iI (dd)), .int (iI (u.1 0)), .ref (rf 1), .ref (rf 2), .ref (rf 3), .ref (rf 4), .ref (rf 5), .ref (rf 6), .int (iI (u.1 1)), .int (iI (u.1 2)), .int (iI (u.1 3)), .ref (rf 7), .ref (rf 8), .ref (rf 9), .int (iI (hc))])), (rf 0, .inl (g.2 3, 400, .inl (zaI (zSg tf)))), (rf 7, .inl (g.2 8, 12, .inr (.inr (.inr (.inr (zaR mq)))))), (rf 8, .inl (g.2 8, 7, .inr (.inr (.inr (.inr (zaR wq)))))), (rf 2, .inl (g.2 5, 7, .inr (.inr (.inr (.inr (zaR ta)))))), (ta j, .inl (g.2 1, 330, .inl (zaB (u.2 0))))]) A) [.ref (qq), .int (iI (((j : Nat) : Int)))].toArray s mc ms A) (F0 m 185 ls []) := by
              intro fr to b1 v1 H locs ls hfr hgb hp1 hP hD hS hl
              refine zi_iconst hx hb zd_Q_items_185 ?_
              refine lv_istore (lv' := [(7, .int (iI (1))), (5, .int (iI (to))), (4, .int (iI (fr))), (0, .ref (qq)), (1, .int (iI (((j : Nat) : Int))))]) hx hb zd_Q_items_186 hl (by decide) rfl (fun ls hl => ?_)
              refine lv_aload_n hx hb zd_Q_items_188 rfl (lv_at hl 3 rfl) ?_
              refine zk_V (As := []) (b := qq) (own := "CronFinderModel") (nL := 11) (rest := []) hx hb hml hown hw (c_Q_peek l g qq rf (fl) (ln) (pl) (yy) (mm) (dd) (b1) (wa) (on) (tw) (hc) tf hln (by omega) hch) zw_4_39 zw_4_41 zw_0_30 zw_1_7 zw_4_42 (np := 0) (by decide +kernel) rfl ⟨rfl, rfl, Nat.le_of_ble_eq_true rfl, Nat.le_of_ble_eq_true rfl⟩ zN_mv hK trivial (hP.sub (ws' := [(qq, .inr (5, [.int (iI (fl)), .ref (rf 0), .int (iI (ln)), .int (iI (pl)), .int (iI (yy)), .int (iI (mm)), .int (iI (dd)), .int (iI (b1)), .ref (rf 1), .ref (rf 2), .ref (rf 3), .ref (rf 4), .ref (rf 5), .ref (rf 6), .int (iI (wa)), .int (iI (on)), .int (iI (tw)), .ref (rf 7), .ref (rf 8), .ref (rf 9), .int (iI (hc))])), (rf 0, .inl (g.2 3, 400, .inl (zaI (zSg tf))))]) [0, 1] rfl) (va_recv hK hP (ci := 5) (q0 := 0) rfl rfl) hl.1 rfl (Nat.le_of_ble_eq_true rfl) ⟨Nat.zero_le _, Nat.zero_le _⟩ zd_Q_items_189 ?_
              have hk189 := rk_rg tf ln (b1) hch
              refine zi_bipush hx hb zd_Q_items_192 (by decide) ?_
              refine zi_icmp_ne (tgt := 216) hx hb zd_Q_items_194 (by decide) (by omega) (fun c194 => ?_) (fun c194 => ?_)
              · refine va_gets hx hb hT.2.1.2.2.1 hS hown (hw _ zw_4_76) (fun _ h9 => h9) zd_Q_items_216 ?_
                refine lv_iload_n hx hb zd_Q_items_219 rfl (lv_at hl 4 rfl) ?_
                refine zi_ti hx hb hT.2.1.2.2.2 hS (by omega) zd_Q_items_220 ?_
                refine zi_as (fHi j) (fHiI_n j) ?_
                refine va_gets hx hb hT.2.1.1 hS hown (hw _ zw_4_74) (fun _ h9 => h9) zd_Q_items_221 ?_
                refine lv_iload_n hx hb zd_Q_items_224 rfl (lv_at hl 4 rfl) ?_
                refine zi_ti hx hb hT.2.1.2.1 hS (by omega) zd_Q_items_225 ?_
                refine zi_as (fLo j) (fLoI_n j) ?_
                refine zi_isub hx hb zd_Q_items_226 ?_
                refine zi_iconst hx hb zd_Q_items_227 ?_
                refine zi_iadd hx hb zd_Q_items_228 ?_
                refine zi_as (((fNn j : Nat) : Int)) (by omega) ?_
                refine lv_istore (lv' := [(8, .int (iI (((fNn j : Nat) : Int)))), (7, .int (iI (1))), (5, .int (iI (to))), (4, .int (iI (fr))), (0, .ref (qq)), (1, .int (iI (((j : Nat) : Int))))]) hx hb zd_Q_items_229 hl (by decide) rfl (fun ls hl => ?_)
                refine lv_iload hx hb zd_Q_items_231 (lv_at hl 2 rfl) ?_
                refine lv_iload hx hb zd_Q_items_233 (lv_at hl 3 rfl) ?_
                refine zi_isub hx hb zd_Q_items_235 ?_
                refine lv_iload hx hb zd_Q_items_236 (lv_at hl 0 rfl) ?_
                refine zk_S (As := [.int (iI (to - fr)), .int (iI (((fNn j : Nat) : Int)))]) (own := "CronFinderModel") (nL := 11) (rest := []) hx hb hml hown hw (c_fm l g (to - fr) (((fNn j : Nat) : Int)) (by omega)) zw_4_90 zw_2_56 zw_1_14 zw_2_57 (np := 2) (by decide +kernel) rfl ⟨rfl, rfl, Nat.le_of_ble_eq_true rfl, Nat.le_of_ble_eq_true rfl⟩ zN_mv hK trivial (hP.sub (ws' := []) [] rfl) hl.1 rfl (Nat.le_of_ble_eq_true rfl) ⟨Nat.zero_le _, Nat.zero_le _⟩ zd_Q_items_238 ?_
                have hz238 := Int.emod_nonneg (to - fr) (show ((fNn j : Nat) : Int) ≠ 0 by omega)
                have hy238 := Int.emod_lt_of_pos (to - fr) (show (0 : Int) < ((fNn j : Nat) : Int) by omega)
                refine zi_iconst hx hb zd_Q_items_241 ?_
                refine zi_iadd hx hb zd_Q_items_242 ?_
                refine lv_istore (lv' := [(9, .int (iI (((to - fr) % (((fNn j : Nat) : Int))) + 1))), (8, .int (iI (((fNn j : Nat) : Int)))), (7, .int (iI (1))), (5, .int (iI (to))), (4, .int (iI (fr))), (0, .ref (qq)), (1, .int (iI (((j : Nat) : Int))))]) hx hb zd_Q_items_243 hl (by decide) rfl (fun ls hl => ?_)
                refine zi_iconst hx hb zd_Q_items_245 ?_
                refine lv_istore (lv' := [(10, .int (iI (0))), (9, .int (iI (((to - fr) % (((fNn j : Nat) : Int))) + 1))), (8, .int (iI (((fNn j : Nat) : Int)))), (7, .int (iI (1))), (5, .int (iI (to))), (4, .int (iI (fr))), (0, .ref (qq)), (1, .int (iI (((j : Nat) : Int))))]) hx hb zd_Q_items_246 hl (by decide) rfl (fun ls hl => ?_)
                have hgo : (1 : Int) ≤ 1 ∧ (1 : Int) ≤ 99 ∧ x < b1 ∧ b1 ≤ ln := by omega
                exact tailk (fr) (to) (1) (b1) (v1) H locs ls hfr hgo (pI_1 hp1 c194) hP hD hS (lv_sub hl [0, 1, 2, 3, 5, 6, 7] rfl)
              · have hx9 := rk_lt c194 (by decide)
                refine lv_aload_n hx hb zd_Q_items_197 rfl (lv_at hl 3 rfl) ?_
                refine lv_dup hx hb zd_Q_items_198 rfl ?_
                refine va_get (D := g.1) (ci := 5) (v := .int (iI (b1))) (C := zR_Q) (T := zT_Q) (N := 21) hx hb hw zin_Q hown hK hP 0 rfl rfl 7 (by decide) (hw _ zw_3_205) (fun _ h9 => h9) rfl zd_Q_items_199 ?_
                refine zi_iconst hx hb zd_Q_items_202 ?_
                refine zi_iadd hx hb zd_Q_items_203 ?_
                refine va_put (D := g.1) (ci := 5) (v := .int (iI (b1 + 1))) (ty := .int) (C := zR_Q) (T := zT_Q) (N := 21) hx hb hw zin_Q zt_Q zto_Q zn_Q hown hK hP hD hS 0 rfl rfl 7 (by decide) (hw _ zw_3_205) (fun _ h9 => h9) rfl  (by decide +kernel) rfl rfl (Nat.le_of_ble_eq_true rfl) zd_Q_items_204 (fun H locs hP hD hS => ?_)
                have hP : va_P g.1 zCl [(qq, .inr (5, [.int (iI (fl)), .ref (rf 0), .int (iI (ln)), .int (iI (pl)), .int (iI (yy)), .int (iI (mm)), .int (iI (dd)), .int (iI (b1 + 1)), .ref (rf 1), .ref (rf 2), .ref (rf 3), .ref (rf 4), .ref (rf 5), .ref (rf 6), .int (iI (wa)), .int (iI (on)), .int (iI (tw)), .ref (rf 7), .ref (rf 8), .ref (rf 9), .int (iI (hc))])), (rf 0, .inl (g.2 3, 400, .inl (zaI (zSg tf)))), (rf 7, .inl (g.2 8, 12, .inr (.inr (.inr (.inr (zaR mq)))))), (rf 8, .inl (g.2 8, 7, .inr (.inr (.inr (.inr (zaR wq)))))), (rf 2, .inl (g.2 5, 7, .inr (.inr (.inr (.inr (zaR ta)))))), (ta j, .inl (g.2 1, 330, .inl (zaB ff)))] H := hP
                have hD : va_D A [(qq, .inr (5, [.int (iI (fl)), .ref (rf 0), .int (iI (ln)), .int (iI (pl)), .int (iI (yy)), .int (iI (mm)), .int (iI (dd)), .int (iI (b1 + 1)), .ref (rf 1), .ref (rf 2), .ref (rf 3), .ref (rf 4), .ref (rf 5), .ref (rf 6), .int (iI (wa)), .int (iI (on)), .int (iI (tw)), .ref (rf 7), .ref (rf 8), .ref (rf 9), .int (iI (hc))])), (rf 0, .inl (g.2 3, 400, .inl (zaI (zSg tf)))), (rf 7, .inl (g.2 8, 12, .inr (.inr (.inr (.inr (zaR mq)))))), (rf 8, .inl (g.2 8, 7, .inr (.inr (.inr (.inr (zaR wq)))))), (rf 2, .inl (g.2 5, 7, .inr (.inr (.inr (.inr (zaR ta)))))), (ta j, .inl (g.2 1, 330, .inl (zaB ff)))] := hD
                refine lv_aload_n hx hb zd_Q_items_207 rfl (lv_at hl 3 rfl) ?_
                refine zi_iconst hx hb zd_Q_items_208 ?_
                refine zi_bipush hx hb zd_Q_items_209 (by decide) ?_
                by_cases ho211 : rNm tf ln (1) (99) (b1 + 1)
                · have hu211 := rNm_rg ho211 (by omega)
                  refine zk_W (As := [.int (iI (1)), .int (iI (99))]) (b := qq) (own := "CronFinderModel") (nL := 11) (rest := []) hx hb hml hown hw (zE_y (c_Q_ranged l g hl0 qq rf (fl) (ln) (pl) (yy) (mm) (dd) (b1 + 1) (wa) (on) (tw) (hc) tf hln (by omega) hch (1) (99) (by omega) 0 0 (Or.inl ⟨ho211, rfl, rfl⟩)) ho211) zw_4_61 zw_4_63 zw_0_33 zw_1_7 zw_4_64 (np := 2) (by decide +kernel) rfl ⟨rfl, rfl, Nat.le_of_ble_eq_true rfl, Nat.le_of_ble_eq_true rfl⟩ zTh_mv hK (zTh_nar (zTh_now hT.1 hS) (va_free hD hS hA [0, 1] rfl)) hP hD hS hA [0, 1] rfl (by decide) rfl (va_recv hK hP (ci := 5) (q0 := 0) rfl rfl) hl.1 rfl (Nat.le_of_ble_eq_true rfl) ⟨Nat.zero_le _, Nat.zero_le _⟩ zd_Q_items_211 (fun H locs hP hD hS => ?_)
                  have hP : va_P g.1 zCl [(qq, .inr (5, [.int (iI (fl)), .ref (rf 0), .int (iI (ln)), .int (iI (pl)), .int (iI (yy)), .int (iI (mm)), .int (iI (dd)), .int (iI ((num tf ln (b1 + 1)).1)), .ref (rf 1), .ref (rf 2), .ref (rf 3), .ref (rf 4), .ref (rf 5), .ref (rf 6), .int (iI (wa)), .int (iI (on)), .int (iI (tw)), .ref (rf 7), .ref (rf 8), .ref (rf 9), .int (iI (hc))])), (rf 0, .inl (g.2 3, 400, .inl (zaI (zSg tf)))), (rf 7, .inl (g.2 8, 12, .inr (.inr (.inr (.inr (zaR mq)))))), (rf 8, .inl (g.2 8, 7, .inr (.inr (.inr (.inr (zaR wq)))))), (rf 2, .inl (g.2 5, 7, .inr (.inr (.inr (.inr (zaR ta)))))), (ta j, .inl (g.2 1, 330, .inl (zaB ff)))] H := hP
                  have hD : va_D A [(qq, .inr (5, [.int (iI (fl)), .ref (rf 0), .int (iI (ln)), .int (iI (pl)), .int (iI (yy)), .int (iI (mm)), .int (iI (dd)), .int (iI ((num tf ln (b1 + 1)).1)), .ref (rf 1), .ref (rf 2), .ref (rf 3), .ref (rf 4), .ref (rf 5), .ref (rf 6), .int (iI (wa)), .int (iI (on)), .int (iI (tw)), .ref (rf 7), .ref (rf 8), .ref (rf 9), .int (iI (hc))])), (rf 0, .inl (g.2 3, 400, .inl (zaI (zSg tf)))), (rf 7, .inl (g.2 8, 12, .inr (.inr (.inr (.inr (zaR mq)))))), (rf 8, .inl (g.2 8, 7, .inr (.inr (.inr (.inr (zaR wq)))))), (rf 2, .inl (g.2 5, 7, .inr (.inr (.inr (.inr (zaR ta)))))), (ta j, .inl (g.2 1, 330, .inl (zaB ff)))] := hD
                  refine lv_istore (lv' := [(7, .int (iI ((num tf ln (b1 + 1)).2))), (5, .int (iI (to))), (4, .int (iI (fr))), (0, .ref (qq)), (1, .int (iI (((j : Nat) : Int))))]) hx hb zd_Q_items_214 hl (by decide) rfl (fun ls hl => ?_)
                  refine va_gets hx hb hT.2.1.2.2.1 hS hown (hw _ zw_4_76) (fun _ h9 => h9) zd_Q_items_216 ?_
                  refine lv_iload_n hx hb zd_Q_items_219 rfl (lv_at hl 4 rfl) ?_
                  refine zi_ti hx hb hT.2.1.2.2.2 hS (by omega) zd_Q_items_220 ?_
                  refine zi_as (fHi j) (fHiI_n j) ?_
                  refine va_gets hx hb hT.2.1.1 hS hown (hw _ zw_4_74) (fun _ h9 => h9) zd_Q_items_221 ?_
                  refine lv_iload_n hx hb zd_Q_items_224 rfl (lv_at hl 4 rfl) ?_
                  refine zi_ti hx hb hT.2.1.2.1 hS (by omega) zd_Q_items_225 ?_
                  refine zi_as (fLo j) (fLoI_n j) ?_
                  refine zi_isub hx hb zd_Q_items_226 ?_
                  refine zi_iconst hx hb zd_Q_items_227 ?_
                  refine zi_iadd hx hb zd_Q_items_228 ?_
                  refine zi_as (((fNn j : Nat) : Int)) (by omega) ?_
                  refine lv_istore (lv' := [(8, .int (iI (((fNn j : Nat) : Int)))), (7, .int (iI ((num tf ln (b1 + 1)).2))), (5, .int (iI (to))), (4, .int (iI (fr))), (0, .ref (qq)), (1, .int (iI (((j : Nat) : Int))))]) hx hb zd_Q_items_229 hl (by decide) rfl (fun ls hl => ?_)
                  refine lv_iload hx hb zd_Q_items_231 (lv_at hl 2 rfl) ?_
                  refine lv_iload hx hb zd_Q_items_233 (lv_at hl 3 rfl) ?_
                  refine zi_isub hx hb zd_Q_items_235 ?_
                  refine lv_iload hx hb zd_Q_items_236 (lv_at hl 0 rfl) ?_
                  refine zk_S (As := [.int (iI (to - fr)), .int (iI (((fNn j : Nat) : Int)))]) (own := "CronFinderModel") (nL := 11) (rest := []) hx hb hml hown hw (c_fm l g (to - fr) (((fNn j : Nat) : Int)) (by omega)) zw_4_90 zw_2_56 zw_1_14 zw_2_57 (np := 2) (by decide +kernel) rfl ⟨rfl, rfl, Nat.le_of_ble_eq_true rfl, Nat.le_of_ble_eq_true rfl⟩ zN_mv hK trivial (hP.sub (ws' := []) [] rfl) hl.1 rfl (Nat.le_of_ble_eq_true rfl) ⟨Nat.zero_le _, Nat.zero_le _⟩ zd_Q_items_238 ?_
                  have hz238 := Int.emod_nonneg (to - fr) (show ((fNn j : Nat) : Int) ≠ 0 by omega)
                  have hy238 := Int.emod_lt_of_pos (to - fr) (show (0 : Int) < ((fNn j : Nat) : Int) by omega)
                  refine zi_iconst hx hb zd_Q_items_241 ?_
                  refine zi_iadd hx hb zd_Q_items_242 ?_
                  refine lv_istore (lv' := [(9, .int (iI (((to - fr) % (((fNn j : Nat) : Int))) + 1))), (8, .int (iI (((fNn j : Nat) : Int)))), (7, .int (iI ((num tf ln (b1 + 1)).2))), (5, .int (iI (to))), (4, .int (iI (fr))), (0, .ref (qq)), (1, .int (iI (((j : Nat) : Int))))]) hx hb zd_Q_items_243 hl (by decide) rfl (fun ls hl => ?_)
                  refine zi_iconst hx hb zd_Q_items_245 ?_
                  refine lv_istore (lv' := [(10, .int (iI (0))), (9, .int (iI (((to - fr) % (((fNn j : Nat) : Int))) + 1))), (8, .int (iI (((fNn j : Nat) : Int)))), (7, .int (iI ((num tf ln (b1 + 1)).2))), (5, .int (iI (to))), (4, .int (iI (fr))), (0, .ref (qq)), (1, .int (iI (((j : Nat) : Int))))]) hx hb zd_Q_items_246 hl (by decide) rfl (fun ls hl => ?_)
                  have hgo : (1 : Int) ≤ (num tf ln (b1 + 1)).2 ∧ ((num tf ln (b1 + 1)).2 : Int) ≤ 99 ∧ x < (num tf ln (b1 + 1)).1 ∧ (num tf ln (b1 + 1)).1 ≤ ln := by omega
                  exact tailk (fr) (to) ((num tf ln (b1 + 1)).2) ((num tf ln (b1 + 1)).1) ((num tf ln (b1 + 1)).2) H locs ls hfr hgo (pI_3 hp1 c194 ho211) hP hD hS (lv_sub hl [0, 1, 2, 3, 5, 6, 7] rfl)
                · have hpq := (pIs_1 (n := n9) (f := ff) (pI_2 hp1 c194 ho211)).symm.trans hF
                  simp only [pFi, pFd, pT, Prod.mk.injEq] at hpq
                  obtain ⟨e1, e2, -⟩ := hpq
                  subst e1
                  subst e2
                  exact zk_X (As := [.int (iI (1)), .int (iI (99))]) (b := qq) (own := "CronFinderModel") (nL := 11) (rest := []) hx hb hml hown hw (zE_n (c_Q_ranged l g hl0 qq rf (fl) (ln) (pl) (yy) (mm) (dd) (b1 + 1) (wa) (on) (tw) (hc) tf hln (by omega) hch (1) (99) (by omega) 1 6 (Or.inr ⟨ho211, rfl, rfl⟩)) ho211) zw_4_61 zw_4_63 zw_0_33 zw_1_7 zw_4_64 (np := 2) (by decide +kernel) rfl ⟨rfl, rfl, Nat.le_of_ble_eq_true rfl, Nat.le_of_ble_eq_true rfl⟩ zTh_mv hK (zTh_nar (zTh_now hT.1 hS) (va_free hD hS hA [0, 1] rfl)) hP hD hS hA [0, 1] rfl (by decide) (fun _ => rfl) (va_recv hK hP (ci := 5) (q0 := 0) rfl rfl) hl.1 rfl (Nat.le_of_ble_eq_true rfl) (zHm_1 hmc (by decide)) zd_Q_items_211 hno hlk (by decide) (fun u _ h => ⟨(zj [u.1 0, wa, on, tw], fun _ => ff), h⟩) (zHm_1 hmc (by decide))
            refine lv_aload_n hx hb zd_Q_items_26 rfl (lv_at hl 1 rfl) ?_
            refine zk_V (As := []) (b := qq) (own := "CronFinderModel") (nL := 11) (rest := []) hx hb hml hown hw (c_Q_peek l g qq rf (fl) (ln) (pl) (yy) (mm) (dd) (x) (wa) (on) (tw) (hc) tf hln (by omega) hch) zw_4_39 zw_4_41 zw_0_30 zw_1_7 zw_4_42 (np := 0) (by decide +kernel) rfl ⟨rfl, rfl, Nat.le_of_ble_eq_true rfl, Nat.le_of_ble_eq_true rfl⟩ zN_mv hK trivial (hP.sub (ws' := [(qq, .inr (5, [.int (iI (fl)), .ref (rf 0), .int (iI (ln)), .int (iI (pl)), .int (iI (yy)), .int (iI (mm)), .int (iI (dd)), .int (iI (x)), .ref (rf 1), .ref (rf 2), .ref (rf 3), .ref (rf 4), .ref (rf 5), .ref (rf 6), .int (iI (wa)), .int (iI (on)), .int (iI (tw)), .ref (rf 7), .ref (rf 8), .ref (rf 9), .int (iI (hc))])), (rf 0, .inl (g.2 3, 400, .inl (zaI (zSg tf))))]) [0, 1] rfl) (va_recv hK hP (ci := 5) (q0 := 0) rfl rfl) hl.1 rfl (Nat.le_of_ble_eq_true rfl) ⟨Nat.zero_le _, Nat.zero_le _⟩ zd_Q_items_27 ?_
            have hk27 := rk_rg tf ln (x) hch
            refine zi_bipush hx hb zd_Q_items_30 (by decide) ?_
            refine zi_icmp_ne (tgt := 39) hx hb zd_Q_items_32 (by decide) (by omega) (fun c32 => ?_) (fun c32 => ?_)
            · refine zi_iconst hx hb zd_Q_items_39 ?_
              refine lv_istore_n (lv' := [(3, .int (iI (0))), (2, .int (iI (oy))), (0, .ref (qq)), (1, .int (iI (((j : Nat) : Int))))]) hx hb zd_Q_items_40 rfl hl (by decide) rfl (fun ls hl => ?_)
              refine va_gets hx hb hT.2.1.1 hS hown (hw _ zw_4_74) (fun _ h9 => h9) zd_Q_items_41 ?_
              refine lv_iload_n hx hb zd_Q_items_44 rfl (lv_at hl 3 rfl) ?_
              refine zi_ti hx hb hT.2.1.2.1 hS (by omega) zd_Q_items_45 ?_
              refine zi_as (fLo j) (fLoI_n j) ?_
              refine lv_istore (lv' := [(4, .int (iI (fLo j))), (3, .int (iI (0))), (2, .int (iI (oy))), (0, .ref (qq)), (1, .int (iI (((j : Nat) : Int))))]) hx hb zd_Q_items_46 hl (by decide) rfl (fun ls hl => ?_)
              refine va_gets hx hb hT.2.1.2.2.1 hS hown (hw _ zw_4_76) (fun _ h9 => h9) zd_Q_items_48 ?_
              refine lv_iload_n hx hb zd_Q_items_51 rfl (lv_at hl 4 rfl) ?_
              refine zi_ti hx hb hT.2.1.2.2.2 hS (by omega) zd_Q_items_52 ?_
              refine zi_as (fHi j) (fHiI_n j) ?_
              refine lv_istore (lv' := [(5, .int (iI (fHi j))), (4, .int (iI (fLo j))), (3, .int (iI (0))), (2, .int (iI (oy))), (0, .ref (qq)), (1, .int (iI (((j : Nat) : Int))))]) hx hb zd_Q_items_53 hl (by decide) rfl (fun ls hl => ?_)
              refine zi_iconst hx hb zd_Q_items_55 ?_
              refine lv_istore (lv' := [(6, .int (iI (0))), (5, .int (iI (fHi j))), (4, .int (iI (fLo j))), (3, .int (iI (0))), (2, .int (iI (oy))), (0, .ref (qq)), (1, .int (iI (((j : Nat) : Int))))]) hx hb zd_Q_items_56 hl (by decide) rfl (fun ls hl => ?_)
              refine lv_iload_n hx hb zd_Q_items_58 rfl (lv_at hl 3 rfl) ?_
              refine zi_if_eq (tgt := 75) hx hb zd_Q_items_59 (by decide) (by omega) (fun _ => ?_) (fun c59 => absurd c59 (by decide))
              refine lv_aload_n hx hb zd_Q_items_75 rfl (lv_at hl 5 rfl) ?_
              refine lv_iload_n hx hb zd_Q_items_76 rfl (lv_at hl 6 rfl) ?_
              by_cases ho77 : vOk j tf ln (x) = true
              · have hv77 := vOk_rg ho77 (by omega) hj
                refine zk_W (As := [.int (iI (((j : Nat) : Int)))]) (b := qq) (own := "CronFinderModel") (nL := 11) (rest := []) hx hb hml hown hw (zE_y (c_Q_value l g hl0 qq rf (fl) (ln) (pl) (yy) (mm) (dd) (x) (wa) (on) (tw) (hc) tf hln (by omega) hch t1 t2 mq mv wq wv j hj 0 0 (Or.inl ⟨ho77, rfl, rfl⟩)) ho77) zw_4_78 zw_4_80 zw_0_35 zw_1_7 zw_4_81 (np := 1) (by decide +kernel) rfl ⟨rfl, rfl, Nat.le_of_ble_eq_true rfl, Nat.le_of_ble_eq_true rfl⟩ (zQs_mv t1 t2 mq mv wq wv) hK (zQs_nar (zQs_now hT hS) (va_free hD hS hA [0, 1, 2, 3] rfl)) hP hD hS hA [0, 1, 2, 3] rfl (by decide) rfl (va_recv hK hP (ci := 5) (q0 := 0) rfl rfl) hl.1 rfl (Nat.le_of_ble_eq_true rfl) ⟨Nat.zero_le _, Nat.zero_le _⟩ zd_Q_items_77 (fun H locs hP hD hS => ?_)
                have hP : va_P g.1 zCl [(qq, .inr (5, [.int (iI (fl)), .ref (rf 0), .int (iI (ln)), .int (iI (pl)), .int (iI (yy)), .int (iI (mm)), .int (iI (dd)), .int (iI (vAt j tf ln (x))), .ref (rf 1), .ref (rf 2), .ref (rf 3), .ref (rf 4), .ref (rf 5), .ref (rf 6), .int (iI (wa)), .int (iI (on)), .int (iI (tw)), .ref (rf 7), .ref (rf 8), .ref (rf 9), .int (iI (hc))])), (rf 0, .inl (g.2 3, 400, .inl (zaI (zSg tf)))), (rf 7, .inl (g.2 8, 12, .inr (.inr (.inr (.inr (zaR mq)))))), (rf 8, .inl (g.2 8, 7, .inr (.inr (.inr (.inr (zaR wq)))))), (rf 2, .inl (g.2 5, 7, .inr (.inr (.inr (.inr (zaR ta)))))), (ta j, .inl (g.2 1, 330, .inl (zaB ff)))] H := hP
                have hD : va_D A [(qq, .inr (5, [.int (iI (fl)), .ref (rf 0), .int (iI (ln)), .int (iI (pl)), .int (iI (yy)), .int (iI (mm)), .int (iI (dd)), .int (iI (vAt j tf ln (x))), .ref (rf 1), .ref (rf 2), .ref (rf 3), .ref (rf 4), .ref (rf 5), .ref (rf 6), .int (iI (wa)), .int (iI (on)), .int (iI (tw)), .ref (rf 7), .ref (rf 8), .ref (rf 9), .int (iI (hc))])), (rf 0, .inl (g.2 3, 400, .inl (zaI (zSg tf)))), (rf 7, .inl (g.2 8, 12, .inr (.inr (.inr (.inr (zaR mq)))))), (rf 8, .inl (g.2 8, 7, .inr (.inr (.inr (.inr (zaR wq)))))), (rf 2, .inl (g.2 5, 7, .inr (.inr (.inr (.inr (zaR ta)))))), (ta j, .inl (g.2 1, 330, .inl (zaB ff)))] := hD
                refine lv_istore (lv' := [(4, .int (iI (vVl j tf ln (x)))), (6, .int (iI (0))), (5, .int (iI (fHi j))), (3, .int (iI (0))), (2, .int (iI (oy))), (0, .ref (qq)), (1, .int (iI (((j : Nat) : Int))))]) hx hb zd_Q_items_80 hl (by decide) rfl (fun ls hl => ?_)
                refine lv_iload_n hx hb zd_Q_items_82 rfl (lv_at hl 4 rfl) ?_
                refine zi_if_eq (tgt := 97) hx hb zd_Q_items_83 (by decide) (by omega) (fun c83 => ?_) (fun c83 => ?_)
                · refine lv_aload_n hx hb zd_Q_items_97 rfl (lv_at hl 5 rfl) ?_
                  refine zk_V (As := []) (b := qq) (own := "CronFinderModel") (nL := 11) (rest := []) hx hb hml hown hw (c_Q_peek l g qq rf (fl) (ln) (pl) (yy) (mm) (dd) (vAt j tf ln (x)) (wa) (on) (tw) (hc) tf hln (by omega) hch) zw_4_39 zw_4_41 zw_0_30 zw_1_7 zw_4_42 (np := 0) (by decide +kernel) rfl ⟨rfl, rfl, Nat.le_of_ble_eq_true rfl, Nat.le_of_ble_eq_true rfl⟩ zN_mv hK trivial (hP.sub (ws' := [(qq, .inr (5, [.int (iI (fl)), .ref (rf 0), .int (iI (ln)), .int (iI (pl)), .int (iI (yy)), .int (iI (mm)), .int (iI (dd)), .int (iI (vAt j tf ln (x))), .ref (rf 1), .ref (rf 2), .ref (rf 3), .ref (rf 4), .ref (rf 5), .ref (rf 6), .int (iI (wa)), .int (iI (on)), .int (iI (tw)), .ref (rf 7), .ref (rf 8), .ref (rf 9), .int (iI (hc))])), (rf 0, .inl (g.2 3, 400, .inl (zaI (zSg tf))))]) [0, 1] rfl) (va_recv hK hP (ci := 5) (q0 := 0) rfl rfl) hl.1 rfl (Nat.le_of_ble_eq_true rfl) ⟨Nat.zero_le _, Nat.zero_le _⟩ zd_Q_items_98 ?_
                  have hk98 := rk_rg tf ln (vAt j tf ln (x)) hch
                  refine zi_bipush hx hb zd_Q_items_101 (by decide) ?_
                  refine zi_icmp_eq (tgt := 119) hx hb zd_Q_items_103 (by decide) (by omega) (fun c103 => ?_) (fun c103 => ?_)
                  · refine zi_iconst hx hb zd_Q_items_119 ?_
                    refine lv_istore (lv' := [(6, .int (iI (0))), (4, .int (iI (vVl j tf ln (x)))), (5, .int (iI (fHi j))), (3, .int (iI (0))), (2, .int (iI (oy))), (0, .ref (qq)), (1, .int (iI (((j : Nat) : Int))))]) hx hb zd_Q_items_120 hl (by decide) rfl (fun ls hl => ?_)
                    refine lv_aload_n hx hb zd_Q_items_122 rfl (lv_at hl 5 rfl) ?_
                    refine zk_V (As := []) (b := qq) (own := "CronFinderModel") (nL := 11) (rest := []) hx hb hml hown hw (c_Q_peek l g qq rf (fl) (ln) (pl) (yy) (mm) (dd) (vAt j tf ln (x)) (wa) (on) (tw) (hc) tf hln (by omega) hch) zw_4_39 zw_4_41 zw_0_30 zw_1_7 zw_4_42 (np := 0) (by decide +kernel) rfl ⟨rfl, rfl, Nat.le_of_ble_eq_true rfl, Nat.le_of_ble_eq_true rfl⟩ zN_mv hK trivial (hP.sub (ws' := [(qq, .inr (5, [.int (iI (fl)), .ref (rf 0), .int (iI (ln)), .int (iI (pl)), .int (iI (yy)), .int (iI (mm)), .int (iI (dd)), .int (iI (vAt j tf ln (x))), .ref (rf 1), .ref (rf 2), .ref (rf 3), .ref (rf 4), .ref (rf 5), .ref (rf 6), .int (iI (wa)), .int (iI (on)), .int (iI (tw)), .ref (rf 7), .ref (rf 8), .ref (rf 9), .int (iI (hc))])), (rf 0, .inl (g.2 3, 400, .inl (zaI (zSg tf))))]) [0, 1] rfl) (va_recv hK hP (ci := 5) (q0 := 0) rfl rfl) hl.1 rfl (Nat.le_of_ble_eq_true rfl) ⟨Nat.zero_le _, Nat.zero_le _⟩ zd_Q_items_123 ?_
                    have hk123 := rk_rg tf ln (vAt j tf ln (x)) hch
                    refine zi_bipush hx hb zd_Q_items_126 (by decide) ?_
                    refine zi_icmp_ne (tgt := 176) hx hb zd_Q_items_128 (by decide) (by omega) (fun c128 => absurd c103 c128) (fun c128 => ?_)
                    have hx9 := rk_lt c128 (by decide)
                    refine lv_aload_n hx hb zd_Q_items_131 rfl (lv_at hl 5 rfl) ?_
                    refine lv_dup hx hb zd_Q_items_132 rfl ?_
                    refine va_get (D := g.1) (ci := 5) (v := .int (iI (vAt j tf ln (x)))) (C := zR_Q) (T := zT_Q) (N := 21) hx hb hw zin_Q hown hK hP 0 rfl rfl 7 (by decide) (hw _ zw_3_205) (fun _ h9 => h9) rfl zd_Q_items_133 ?_
                    refine zi_iconst hx hb zd_Q_items_136 ?_
                    refine zi_iadd hx hb zd_Q_items_137 ?_
                    refine va_put (D := g.1) (ci := 5) (v := .int (iI ((vAt j tf ln (x)) + 1))) (ty := .int) (C := zR_Q) (T := zT_Q) (N := 21) hx hb hw zin_Q zt_Q zto_Q zn_Q hown hK hP hD hS 0 rfl rfl 7 (by decide) (hw _ zw_3_205) (fun _ h9 => h9) rfl  (by decide +kernel) rfl rfl (Nat.le_of_ble_eq_true rfl) zd_Q_items_138 (fun H locs hP hD hS => ?_)
                    have hP : va_P g.1 zCl [(qq, .inr (5, [.int (iI (fl)), .ref (rf 0), .int (iI (ln)), .int (iI (pl)), .int (iI (yy)), .int (iI (mm)), .int (iI (dd)), .int (iI ((vAt j tf ln (x)) + 1)), .ref (rf 1), .ref (rf 2), .ref (rf 3), .ref (rf 4), .ref (rf 5), .ref (rf 6), .int (iI (wa)), .int (iI (on)), .int (iI (tw)), .ref (rf 7), .ref (rf 8), .ref (rf 9), .int (iI (hc))])), (rf 0, .inl (g.2 3, 400, .inl (zaI (zSg tf)))), (rf 7, .inl (g.2 8, 12, .inr (.inr (.inr (.inr (zaR mq)))))), (rf 8, .inl (g.2 8, 7, .inr (.inr (.inr (.inr (zaR wq)))))), (rf 2, .inl (g.2 5, 7, .inr (.inr (.inr (.inr (zaR ta)))))), (ta j, .inl (g.2 1, 330, .inl (zaB ff)))] H := hP
                    have hD : va_D A [(qq, .inr (5, [.int (iI (fl)), .ref (rf 0), .int (iI (ln)), .int (iI (pl)), .int (iI (yy)), .int (iI (mm)), .int (iI (dd)), .int (iI ((vAt j tf ln (x)) + 1)), .ref (rf 1), .ref (rf 2), .ref (rf 3), .ref (rf 4), .ref (rf 5), .ref (rf 6), .int (iI (wa)), .int (iI (on)), .int (iI (tw)), .ref (rf 7), .ref (rf 8), .ref (rf 9), .int (iI (hc))])), (rf 0, .inl (g.2 3, 400, .inl (zaI (zSg tf)))), (rf 7, .inl (g.2 8, 12, .inr (.inr (.inr (.inr (zaR mq)))))), (rf 8, .inl (g.2 8, 7, .inr (.inr (.inr (.inr (zaR wq)))))), (rf 2, .inl (g.2 5, 7, .inr (.inr (.inr (.inr (zaR ta)))))), (ta j, .inl (g.2 1, 330, .inl (zaB ff)))] := hD
                    refine lv_aload_n hx hb zd_Q_items_141 rfl (lv_at hl 5 rfl) ?_
                    refine va_get (D := g.1) (ci := 5) (v := .int (iI ((vAt j tf ln (x)) + 1))) (C := zR_Q) (T := zT_Q) (N := 21) hx hb hw zin_Q hown hK hP 0 rfl rfl 7 (by decide) (hw _ zw_3_205) (fun _ h9 => h9) rfl zd_Q_items_142 ?_
                    refine lv_istore (lv' := [(7, .int (iI ((vAt j tf ln (x)) + 1))), (6, .int (iI (0))), (4, .int (iI (vVl j tf ln (x)))), (5, .int (iI (fHi j))), (3, .int (iI (0))), (2, .int (iI (oy))), (0, .ref (qq)), (1, .int (iI (((j : Nat) : Int))))]) hx hb zd_Q_items_145 hl (by decide) rfl (fun ls hl => ?_)
                    refine lv_aload_n hx hb zd_Q_items_147 rfl (lv_at hl 6 rfl) ?_
                    refine lv_iload_n hx hb zd_Q_items_148 rfl (lv_at hl 7 rfl) ?_
                    by_cases ho149 : vOk j tf ln ((vAt j tf ln (x)) + 1) = true
                    · have hv149 := vOk_rg ho149 (by omega) hj
                      refine zk_W (As := [.int (iI (((j : Nat) : Int)))]) (b := qq) (own := "CronFinderModel") (nL := 11) (rest := []) hx hb hml hown hw (zE_y (c_Q_value l g hl0 qq rf (fl) (ln) (pl) (yy) (mm) (dd) ((vAt j tf ln (x)) + 1) (wa) (on) (tw) (hc) tf hln (by omega) hch t1 t2 mq mv wq wv j hj 0 0 (Or.inl ⟨ho149, rfl, rfl⟩)) ho149) zw_4_78 zw_4_80 zw_0_35 zw_1_7 zw_4_81 (np := 1) (by decide +kernel) rfl ⟨rfl, rfl, Nat.le_of_ble_eq_true rfl, Nat.le_of_ble_eq_true rfl⟩ (zQs_mv t1 t2 mq mv wq wv) hK (zQs_nar (zQs_now hT hS) (va_free hD hS hA [0, 1, 2, 3] rfl)) hP hD hS hA [0, 1, 2, 3] rfl (by decide) rfl (va_recv hK hP (ci := 5) (q0 := 0) rfl rfl) hl.1 rfl (Nat.le_of_ble_eq_true rfl) ⟨Nat.zero_le _, Nat.zero_le _⟩ zd_Q_items_149 (fun H locs hP hD hS => ?_)
                      have hP : va_P g.1 zCl [(qq, .inr (5, [.int (iI (fl)), .ref (rf 0), .int (iI (ln)), .int (iI (pl)), .int (iI (yy)), .int (iI (mm)), .int (iI (dd)), .int (iI (vAt j tf ln ((vAt j tf ln (x)) + 1))), .ref (rf 1), .ref (rf 2), .ref (rf 3), .ref (rf 4), .ref (rf 5), .ref (rf 6), .int (iI (wa)), .int (iI (on)), .int (iI (tw)), .ref (rf 7), .ref (rf 8), .ref (rf 9), .int (iI (hc))])), (rf 0, .inl (g.2 3, 400, .inl (zaI (zSg tf)))), (rf 7, .inl (g.2 8, 12, .inr (.inr (.inr (.inr (zaR mq)))))), (rf 8, .inl (g.2 8, 7, .inr (.inr (.inr (.inr (zaR wq)))))), (rf 2, .inl (g.2 5, 7, .inr (.inr (.inr (.inr (zaR ta)))))), (ta j, .inl (g.2 1, 330, .inl (zaB ff)))] H := hP
                      have hD : va_D A [(qq, .inr (5, [.int (iI (fl)), .ref (rf 0), .int (iI (ln)), .int (iI (pl)), .int (iI (yy)), .int (iI (mm)), .int (iI (dd)), .int (iI (vAt j tf ln ((vAt j tf ln (x)) + 1))), .ref (rf 1), .ref (rf 2), .ref (rf 3), .ref (rf 4), .ref (rf 5), .ref (rf 6), .int (iI (wa)), .int (iI (on)), .int (iI (tw)), .ref (rf 7), .ref (rf 8), .ref (rf 9), .int (iI (hc))])), (rf 0, .inl (g.2 3, 400, .inl (zaI (zSg tf)))), (rf 7, .inl (g.2 8, 12, .inr (.inr (.inr (.inr (zaR mq)))))), (rf 8, .inl (g.2 8, 7, .inr (.inr (.inr (.inr (zaR wq)))))), (rf 2, .inl (g.2 5, 7, .inr (.inr (.inr (.inr (zaR ta)))))), (ta j, .inl (g.2 1, 330, .inl (zaB ff)))] := hD
                      refine lv_istore (lv' := [(5, .int (iI (vVl j tf ln ((vAt j tf ln (x)) + 1)))), (7, .int (iI ((vAt j tf ln (x)) + 1))), (6, .int (iI (0))), (4, .int (iI (vVl j tf ln (x)))), (3, .int (iI (0))), (2, .int (iI (oy))), (0, .ref (qq)), (1, .int (iI (((j : Nat) : Int))))]) hx hb zd_Q_items_152 hl (by decide) rfl (fun ls hl => ?_)
                      refine lv_iload_n hx hb zd_Q_items_154 rfl (lv_at hl 7 rfl) ?_
                      refine zi_bipush hx hb zd_Q_items_155 (by decide) ?_
                      refine zi_icmp_ne (tgt := 173) hx hb zd_Q_items_157 (by decide) (by omega) (fun c157 => ?_) (fun c157 => ?_)
                      · refine lv_goto (tgt := 185) hx hb zd_Q_items_173 (by decide) ?_
                        obtain ⟨v1, hp1⟩ : ∃ v1, pI1 j tf ln x vl9 = (true, vAt j tf ln ((vAt j tf ln (x)) + 1), vVl j tf ln (x), vVl j tf ln ((vAt j tf ln (x)) + 1), v1) := by first | exact ⟨_, pI1_1 c32⟩ | exact ⟨_, pI1_5 c32 ho77 c128 ho149 (fun h9 => by have := h9.2; omega)⟩ | exact ⟨_, pI1_5 c32 ho77 c128 ho149 (fun h9 => absurd h9.1 (by omega))⟩ | exact ⟨_, pI1_6 c32 ho77 hn45 h47⟩ | exact ⟨_, pI1_7 c32 ho77 hn45 hn47⟩
                        exact tail185 (vVl j tf ln (x)) (vVl j tf ln ((vAt j tf ln (x)) + 1)) (vAt j tf ln ((vAt j tf ln (x)) + 1)) v1 H locs ls (by omega) (by omega) hp1 hP hD hS (lv_sub hl [0, 3, 6, 7] rfl)
                      · refine lv_iload hx hb zd_Q_items_160 (lv_at hl 3 rfl) ?_
                        refine lv_iload hx hb zd_Q_items_162 (lv_at hl 0 rfl) ?_
                        refine zi_icmp_le (tgt := 173) hx hb zd_Q_items_164 (by decide) (by omega) (fun c164 => ?_) (fun c164 => ?_)
                        · refine lv_goto (tgt := 185) hx hb zd_Q_items_173 (by decide) ?_
                          obtain ⟨v1, hp1⟩ : ∃ v1, pI1 j tf ln x vl9 = (true, vAt j tf ln ((vAt j tf ln (x)) + 1), vVl j tf ln (x), vVl j tf ln ((vAt j tf ln (x)) + 1), v1) := by first | exact ⟨_, pI1_1 c32⟩ | exact ⟨_, pI1_5 c32 ho77 c128 ho149 (fun h9 => by have := h9.2; omega)⟩ | exact ⟨_, pI1_5 c32 ho77 c128 ho149 (fun h9 => absurd h9.1 (by omega))⟩ | exact ⟨_, pI1_6 c32 ho77 hn45 h47⟩ | exact ⟨_, pI1_7 c32 ho77 hn45 hn47⟩
                          exact tail185 (vVl j tf ln (x)) (vVl j tf ln ((vAt j tf ln (x)) + 1)) (vAt j tf ln ((vAt j tf ln (x)) + 1)) v1 H locs ls (by omega) (by omega) hp1 hP hD hS (lv_sub hl [0, 3, 6, 7] rfl)
                        · refine lv_aload_n hx hb zd_Q_items_167 rfl (lv_at hl 6 rfl) ?_
                          refine lv_iload hx hb zd_Q_items_168 (lv_at hl 1 rfl) ?_
                          have hpq := (pIs_1 (n := n9) (f := ff) (pI_0 (pI1_4 c32 ho77 c128 ho149 ⟨by omega, by omega⟩))).symm.trans hF
                          simp only [pFi, pFd, pT, Prod.mk.injEq] at hpq
                          obtain ⟨e1, e2, -⟩ := hpq
                          subst e1
                          subst e2
                          exact zk_X (As := [.int (iI ((vAt j tf ln (x)) + 1))]) (b := qq) (own := "CronFinderModel") (nL := 11) (rest := []) hx hb hml hown hw (c_Q_bad l g hl0 qq rf (fl) (ln) (pl) (yy) (mm) (dd) (vAt j tf ln ((vAt j tf ln (x)) + 1)) (wa) (on) (tw) (hc) ((vAt j tf ln (x)) + 1)) zw_4_43 zw_4_45 zw_0_31 zw_1_7 zw_4_46 (np := 1) (by decide +kernel) rfl ⟨rfl, rfl, Nat.le_of_ble_eq_true rfl, Nat.le_of_ble_eq_true rfl⟩ zTh_mv hK (zTh_nar (zTh_now hT.1 hS) (va_free hD hS hA [0] rfl)) hP hD hS hA [0] rfl (by decide) (fun _ => rfl) (va_recv hK hP (ci := 5) (q0 := 0) rfl rfl) hl.1 rfl (Nat.le_of_ble_eq_true rfl) (zHm_1 hmc (by decide)) zd_Q_items_170 hno hlk (by decide) (fun u _ h => ⟨(zj [vAt j tf ln ((vAt j tf ln (x)) + 1), wa, on, tw], fun _ => ff), h⟩) (zHm_1 hmc (by decide))
                    · have hpq := (pIs_1 (n := n9) (f := ff) (pI_0 (pI1_3 c32 ho77 c128 ho149))).symm.trans hF
                      simp only [pFi, pFd, pT, Prod.mk.injEq] at hpq
                      obtain ⟨e1, e2, -⟩ := hpq
                      subst e1
                      subst e2
                      exact zk_X (As := [.int (iI (((j : Nat) : Int)))]) (b := qq) (own := "CronFinderModel") (nL := 11) (rest := []) hx hb hml hown hw (zE_n (c_Q_value l g hl0 qq rf (fl) (ln) (pl) (yy) (mm) (dd) ((vAt j tf ln (x)) + 1) (wa) (on) (tw) (hc) tf hln (by omega) hch t1 t2 mq mv wq wv j hj 1 6 (Or.inr ⟨ho149, rfl, rfl⟩)) ho149) zw_4_78 zw_4_80 zw_0_35 zw_1_7 zw_4_81 (np := 1) (by decide +kernel) rfl ⟨rfl, rfl, Nat.le_of_ble_eq_true rfl, Nat.le_of_ble_eq_true rfl⟩ (zQs_mv t1 t2 mq mv wq wv) hK (zQs_nar (zQs_now hT hS) (va_free hD hS hA [0, 1, 2, 3] rfl)) hP hD hS hA [0, 1, 2, 3] rfl (by decide) (fun _ => rfl) (va_recv hK hP (ci := 5) (q0 := 0) rfl rfl) hl.1 rfl (Nat.le_of_ble_eq_true rfl) (zHm_1 hmc (by decide)) zd_Q_items_149 hno hlk (by decide) (fun u _ h => ⟨(zj [u.1 0, wa, on, tw], fun _ => ff), h⟩) (zHm_1 hmc (by decide))
                  · refine lv_aload_n hx hb zd_Q_items_106 rfl (lv_at hl 5 rfl) ?_
                    refine zk_V (As := []) (b := qq) (own := "CronFinderModel") (nL := 11) (rest := []) hx hb hml hown hw (c_Q_peek l g qq rf (fl) (ln) (pl) (yy) (mm) (dd) (vAt j tf ln (x)) (wa) (on) (tw) (hc) tf hln (by omega) hch) zw_4_39 zw_4_41 zw_0_30 zw_1_7 zw_4_42 (np := 0) (by decide +kernel) rfl ⟨rfl, rfl, Nat.le_of_ble_eq_true rfl, Nat.le_of_ble_eq_true rfl⟩ zN_mv hK trivial (hP.sub (ws' := [(qq, .inr (5, [.int (iI (fl)), .ref (rf 0), .int (iI (ln)), .int (iI (pl)), .int (iI (yy)), .int (iI (mm)), .int (iI (dd)), .int (iI (vAt j tf ln (x))), .ref (rf 1), .ref (rf 2), .ref (rf 3), .ref (rf 4), .ref (rf 5), .ref (rf 6), .int (iI (wa)), .int (iI (on)), .int (iI (tw)), .ref (rf 7), .ref (rf 8), .ref (rf 9), .int (iI (hc))])), (rf 0, .inl (g.2 3, 400, .inl (zaI (zSg tf))))]) [0, 1] rfl) (va_recv hK hP (ci := 5) (q0 := 0) rfl rfl) hl.1 rfl (Nat.le_of_ble_eq_true rfl) ⟨Nat.zero_le _, Nat.zero_le _⟩ zd_Q_items_107 ?_
                    have hk107 := rk_rg tf ln (vAt j tf ln (x)) hch
                    refine zi_bipush hx hb zd_Q_items_110 (by decide) ?_
                    refine zi_icmp_eq (tgt := 119) hx hb zd_Q_items_112 (by decide) (by omega) (fun c112 => ?_) (fun c112 => ?_)
                    · refine zi_iconst hx hb zd_Q_items_119 ?_
                      refine lv_istore (lv' := [(6, .int (iI (0))), (4, .int (iI (vVl j tf ln (x)))), (5, .int (iI (fHi j))), (3, .int (iI (0))), (2, .int (iI (oy))), (0, .ref (qq)), (1, .int (iI (((j : Nat) : Int))))]) hx hb zd_Q_items_120 hl (by decide) rfl (fun ls hl => ?_)
                      refine lv_aload_n hx hb zd_Q_items_122 rfl (lv_at hl 5 rfl) ?_
                      refine zk_V (As := []) (b := qq) (own := "CronFinderModel") (nL := 11) (rest := []) hx hb hml hown hw (c_Q_peek l g qq rf (fl) (ln) (pl) (yy) (mm) (dd) (vAt j tf ln (x)) (wa) (on) (tw) (hc) tf hln (by omega) hch) zw_4_39 zw_4_41 zw_0_30 zw_1_7 zw_4_42 (np := 0) (by decide +kernel) rfl ⟨rfl, rfl, Nat.le_of_ble_eq_true rfl, Nat.le_of_ble_eq_true rfl⟩ zN_mv hK trivial (hP.sub (ws' := [(qq, .inr (5, [.int (iI (fl)), .ref (rf 0), .int (iI (ln)), .int (iI (pl)), .int (iI (yy)), .int (iI (mm)), .int (iI (dd)), .int (iI (vAt j tf ln (x))), .ref (rf 1), .ref (rf 2), .ref (rf 3), .ref (rf 4), .ref (rf 5), .ref (rf 6), .int (iI (wa)), .int (iI (on)), .int (iI (tw)), .ref (rf 7), .ref (rf 8), .ref (rf 9), .int (iI (hc))])), (rf 0, .inl (g.2 3, 400, .inl (zaI (zSg tf))))]) [0, 1] rfl) (va_recv hK hP (ci := 5) (q0 := 0) rfl rfl) hl.1 rfl (Nat.le_of_ble_eq_true rfl) ⟨Nat.zero_le _, Nat.zero_le _⟩ zd_Q_items_123 ?_
                      have hk123 := rk_rg tf ln (vAt j tf ln (x)) hch
                      refine zi_bipush hx hb zd_Q_items_126 (by decide) ?_
                      refine zi_icmp_ne (tgt := 176) hx hb zd_Q_items_128 (by decide) (by omega) (fun c128 => ?_) (fun c128 => absurd c128 c103)
                      have hn45 : ¬ rk tf ln (vAt j tf ln x) = 45 := c128
                      have h47 : rk tf ln (vAt j tf ln x) = 47 := c112
                      refine lv_iload hx hb zd_Q_items_176 (lv_at hl 0 rfl) ?_
                      refine zi_if_eq (tgt := 185) hx hb zd_Q_items_178 (by decide) (by omega) (fun _ => ?_) (fun c178 => absurd c178 (by decide))
                      obtain ⟨v1, hp1⟩ : ∃ v1, pI1 j tf ln x vl9 = (true, vAt j tf ln (x), vVl j tf ln (x), fHi j, v1) := by first | exact ⟨_, pI1_1 c32⟩ | exact ⟨_, pI1_5 c32 ho77 c128 ho149 (fun h9 => by have := h9.2; omega)⟩ | exact ⟨_, pI1_5 c32 ho77 c128 ho149 (fun h9 => absurd h9.1 (by omega))⟩ | exact ⟨_, pI1_6 c32 ho77 hn45 h47⟩ | exact ⟨_, pI1_7 c32 ho77 hn45 hn47⟩
                      exact tail185 (vVl j tf ln (x)) (fHi j) (vAt j tf ln (x)) v1 H locs ls (by omega) (by omega) hp1 hP hD hS (lv_sub hl [2, 1, 5, 6] rfl)
                    · refine zi_iconst hx hb zd_Q_items_115 ?_
                      refine lv_goto (tgt := 120) hx hb zd_Q_items_116 (by decide) ?_
                      refine lv_istore (lv' := [(6, .int (iI (1))), (4, .int (iI (vVl j tf ln (x)))), (5, .int (iI (fHi j))), (3, .int (iI (0))), (2, .int (iI (oy))), (0, .ref (qq)), (1, .int (iI (((j : Nat) : Int))))]) hx hb zd_Q_items_120 hl (by decide) rfl (fun ls hl => ?_)
                      refine lv_aload_n hx hb zd_Q_items_122 rfl (lv_at hl 5 rfl) ?_
                      refine zk_V (As := []) (b := qq) (own := "CronFinderModel") (nL := 11) (rest := []) hx hb hml hown hw (c_Q_peek l g qq rf (fl) (ln) (pl) (yy) (mm) (dd) (vAt j tf ln (x)) (wa) (on) (tw) (hc) tf hln (by omega) hch) zw_4_39 zw_4_41 zw_0_30 zw_1_7 zw_4_42 (np := 0) (by decide +kernel) rfl ⟨rfl, rfl, Nat.le_of_ble_eq_true rfl, Nat.le_of_ble_eq_true rfl⟩ zN_mv hK trivial (hP.sub (ws' := [(qq, .inr (5, [.int (iI (fl)), .ref (rf 0), .int (iI (ln)), .int (iI (pl)), .int (iI (yy)), .int (iI (mm)), .int (iI (dd)), .int (iI (vAt j tf ln (x))), .ref (rf 1), .ref (rf 2), .ref (rf 3), .ref (rf 4), .ref (rf 5), .ref (rf 6), .int (iI (wa)), .int (iI (on)), .int (iI (tw)), .ref (rf 7), .ref (rf 8), .ref (rf 9), .int (iI (hc))])), (rf 0, .inl (g.2 3, 400, .inl (zaI (zSg tf))))]) [0, 1] rfl) (va_recv hK hP (ci := 5) (q0 := 0) rfl rfl) hl.1 rfl (Nat.le_of_ble_eq_true rfl) ⟨Nat.zero_le _, Nat.zero_le _⟩ zd_Q_items_123 ?_
                      have hk123 := rk_rg tf ln (vAt j tf ln (x)) hch
                      refine zi_bipush hx hb zd_Q_items_126 (by decide) ?_
                      refine zi_icmp_ne (tgt := 176) hx hb zd_Q_items_128 (by decide) (by omega) (fun c128 => ?_) (fun c128 => absurd c128 c103)
                      have hn45 : ¬ rk tf ln (vAt j tf ln x) = 45 := c128
                      have hn47 : ¬ rk tf ln (vAt j tf ln x) = 47 := c112
                      refine lv_iload hx hb zd_Q_items_176 (lv_at hl 0 rfl) ?_
                      refine zi_if_eq (tgt := 185) hx hb zd_Q_items_178 (by decide) (by omega) (fun c178 => absurd c178 (by decide)) (fun _ => ?_)
                      refine lv_iload hx hb zd_Q_items_181 (lv_at hl 1 rfl) ?_
                      refine lv_istore (lv' := [(5, .int (iI (vVl j tf ln (x)))), (6, .int (iI (1))), (4, .int (iI (vVl j tf ln (x)))), (3, .int (iI (0))), (2, .int (iI (oy))), (0, .ref (qq)), (1, .int (iI (((j : Nat) : Int))))]) hx hb zd_Q_items_183 hl (by decide) rfl (fun ls hl => ?_)
                      obtain ⟨v1, hp1⟩ : ∃ v1, pI1 j tf ln x vl9 = (true, vAt j tf ln (x), vVl j tf ln (x), vVl j tf ln (x), v1) := by first | exact ⟨_, pI1_1 c32⟩ | exact ⟨_, pI1_5 c32 ho77 c128 ho149 (fun h9 => by have := h9.2; omega)⟩ | exact ⟨_, pI1_5 c32 ho77 c128 ho149 (fun h9 => absurd h9.1 (by omega))⟩ | exact ⟨_, pI1_6 c32 ho77 hn45 h47⟩ | exact ⟨_, pI1_7 c32 ho77 hn45 hn47⟩
                      exact tail185 (vVl j tf ln (x)) (vVl j tf ln (x)) (vAt j tf ln (x)) v1 H locs ls (by omega) (by omega) hp1 hP hD hS (lv_sub hl [0, 2, 5, 6] rfl)
                · have hns9 := hns
                  rw [← hsp c83] at hns9
                  have hsn := Or.resolve_left (Or.resolve_left hns9 c32) (by rw [ho77]; decide)
                  refine lv_aload_n hx hb zd_Q_items_86 rfl (lv_at hl 5 rfl) ?_
                  refine lv_iload_n hx hb zd_Q_items_87 rfl (lv_at hl 6 rfl) ?_
                  refine lv_iload hx hb zd_Q_items_88 (lv_at hl 0 rfl) ?_
                  refine zk_V (As := [.int (iI (((j : Nat) : Int))), .int (iI (vVl j tf ln (x)))]) (b := qq) (own := "CronFinderModel") (nL := 11) (rest := []) hx hb hml hown hw (c_Q_sp_n l g qq rf (fl) (ln) (pl) (yy) (mm) (dd) (vAt j tf ln (x)) (wa) (on) (tw) (hc) tf hln (by omega) hch j hj (vVl j tf ln (x)) hsn) zw_4_86 zw_4_88 zw_0_36 zw_1_7 zw_4_89 (np := 2) (by decide +kernel) rfl ⟨rfl, rfl, Nat.le_of_ble_eq_true rfl, Nat.le_of_ble_eq_true rfl⟩ zN_mv hK trivial (hP.sub (ws' := [(qq, .inr (5, [.int (iI (fl)), .ref (rf 0), .int (iI (ln)), .int (iI (pl)), .int (iI (yy)), .int (iI (mm)), .int (iI (dd)), .int (iI (vAt j tf ln (x))), .ref (rf 1), .ref (rf 2), .ref (rf 3), .ref (rf 4), .ref (rf 5), .ref (rf 6), .int (iI (wa)), .int (iI (on)), .int (iI (tw)), .ref (rf 7), .ref (rf 8), .ref (rf 9), .int (iI (hc))])), (rf 0, .inl (g.2 3, 400, .inl (zaI (zSg tf))))]) [0, 1] rfl) (va_recv hK hP (ci := 5) (q0 := 0) rfl rfl) hl.1 rfl (Nat.le_of_ble_eq_true rfl) ⟨Nat.zero_le _, Nat.zero_le _⟩ zd_Q_items_90 ?_
                  refine zb_if_eq (tgt := 97) hx hb zd_Q_items_93 (by decide) (fun _ => ?_) (fun c93 => by cases c93)
                  refine lv_aload_n hx hb zd_Q_items_97 rfl (lv_at hl 5 rfl) ?_
                  refine zk_V (As := []) (b := qq) (own := "CronFinderModel") (nL := 11) (rest := []) hx hb hml hown hw (c_Q_peek l g qq rf (fl) (ln) (pl) (yy) (mm) (dd) (vAt j tf ln (x)) (wa) (on) (tw) (hc) tf hln (by omega) hch) zw_4_39 zw_4_41 zw_0_30 zw_1_7 zw_4_42 (np := 0) (by decide +kernel) rfl ⟨rfl, rfl, Nat.le_of_ble_eq_true rfl, Nat.le_of_ble_eq_true rfl⟩ zN_mv hK trivial (hP.sub (ws' := [(qq, .inr (5, [.int (iI (fl)), .ref (rf 0), .int (iI (ln)), .int (iI (pl)), .int (iI (yy)), .int (iI (mm)), .int (iI (dd)), .int (iI (vAt j tf ln (x))), .ref (rf 1), .ref (rf 2), .ref (rf 3), .ref (rf 4), .ref (rf 5), .ref (rf 6), .int (iI (wa)), .int (iI (on)), .int (iI (tw)), .ref (rf 7), .ref (rf 8), .ref (rf 9), .int (iI (hc))])), (rf 0, .inl (g.2 3, 400, .inl (zaI (zSg tf))))]) [0, 1] rfl) (va_recv hK hP (ci := 5) (q0 := 0) rfl rfl) hl.1 rfl (Nat.le_of_ble_eq_true rfl) ⟨Nat.zero_le _, Nat.zero_le _⟩ zd_Q_items_98 ?_
                  have hk98 := rk_rg tf ln (vAt j tf ln (x)) hch
                  refine zi_bipush hx hb zd_Q_items_101 (by decide) ?_
                  refine zi_icmp_eq (tgt := 119) hx hb zd_Q_items_103 (by decide) (by omega) (fun c103 => ?_) (fun c103 => ?_)
                  · refine zi_iconst hx hb zd_Q_items_119 ?_
                    refine lv_istore (lv' := [(6, .int (iI (0))), (4, .int (iI (vVl j tf ln (x)))), (5, .int (iI (fHi j))), (3, .int (iI (0))), (2, .int (iI (oy))), (0, .ref (qq)), (1, .int (iI (((j : Nat) : Int))))]) hx hb zd_Q_items_120 hl (by decide) rfl (fun ls hl => ?_)
                    refine lv_aload_n hx hb zd_Q_items_122 rfl (lv_at hl 5 rfl) ?_
                    refine zk_V (As := []) (b := qq) (own := "CronFinderModel") (nL := 11) (rest := []) hx hb hml hown hw (c_Q_peek l g qq rf (fl) (ln) (pl) (yy) (mm) (dd) (vAt j tf ln (x)) (wa) (on) (tw) (hc) tf hln (by omega) hch) zw_4_39 zw_4_41 zw_0_30 zw_1_7 zw_4_42 (np := 0) (by decide +kernel) rfl ⟨rfl, rfl, Nat.le_of_ble_eq_true rfl, Nat.le_of_ble_eq_true rfl⟩ zN_mv hK trivial (hP.sub (ws' := [(qq, .inr (5, [.int (iI (fl)), .ref (rf 0), .int (iI (ln)), .int (iI (pl)), .int (iI (yy)), .int (iI (mm)), .int (iI (dd)), .int (iI (vAt j tf ln (x))), .ref (rf 1), .ref (rf 2), .ref (rf 3), .ref (rf 4), .ref (rf 5), .ref (rf 6), .int (iI (wa)), .int (iI (on)), .int (iI (tw)), .ref (rf 7), .ref (rf 8), .ref (rf 9), .int (iI (hc))])), (rf 0, .inl (g.2 3, 400, .inl (zaI (zSg tf))))]) [0, 1] rfl) (va_recv hK hP (ci := 5) (q0 := 0) rfl rfl) hl.1 rfl (Nat.le_of_ble_eq_true rfl) ⟨Nat.zero_le _, Nat.zero_le _⟩ zd_Q_items_123 ?_
                    have hk123 := rk_rg tf ln (vAt j tf ln (x)) hch
                    refine zi_bipush hx hb zd_Q_items_126 (by decide) ?_
                    refine zi_icmp_ne (tgt := 176) hx hb zd_Q_items_128 (by decide) (by omega) (fun c128 => absurd c103 c128) (fun c128 => ?_)
                    have hx9 := rk_lt c128 (by decide)
                    refine lv_aload_n hx hb zd_Q_items_131 rfl (lv_at hl 5 rfl) ?_
                    refine lv_dup hx hb zd_Q_items_132 rfl ?_
                    refine va_get (D := g.1) (ci := 5) (v := .int (iI (vAt j tf ln (x)))) (C := zR_Q) (T := zT_Q) (N := 21) hx hb hw zin_Q hown hK hP 0 rfl rfl 7 (by decide) (hw _ zw_3_205) (fun _ h9 => h9) rfl zd_Q_items_133 ?_
                    refine zi_iconst hx hb zd_Q_items_136 ?_
                    refine zi_iadd hx hb zd_Q_items_137 ?_
                    refine va_put (D := g.1) (ci := 5) (v := .int (iI ((vAt j tf ln (x)) + 1))) (ty := .int) (C := zR_Q) (T := zT_Q) (N := 21) hx hb hw zin_Q zt_Q zto_Q zn_Q hown hK hP hD hS 0 rfl rfl 7 (by decide) (hw _ zw_3_205) (fun _ h9 => h9) rfl  (by decide +kernel) rfl rfl (Nat.le_of_ble_eq_true rfl) zd_Q_items_138 (fun H locs hP hD hS => ?_)
                    have hP : va_P g.1 zCl [(qq, .inr (5, [.int (iI (fl)), .ref (rf 0), .int (iI (ln)), .int (iI (pl)), .int (iI (yy)), .int (iI (mm)), .int (iI (dd)), .int (iI ((vAt j tf ln (x)) + 1)), .ref (rf 1), .ref (rf 2), .ref (rf 3), .ref (rf 4), .ref (rf 5), .ref (rf 6), .int (iI (wa)), .int (iI (on)), .int (iI (tw)), .ref (rf 7), .ref (rf 8), .ref (rf 9), .int (iI (hc))])), (rf 0, .inl (g.2 3, 400, .inl (zaI (zSg tf)))), (rf 7, .inl (g.2 8, 12, .inr (.inr (.inr (.inr (zaR mq)))))), (rf 8, .inl (g.2 8, 7, .inr (.inr (.inr (.inr (zaR wq)))))), (rf 2, .inl (g.2 5, 7, .inr (.inr (.inr (.inr (zaR ta)))))), (ta j, .inl (g.2 1, 330, .inl (zaB ff)))] H := hP
                    have hD : va_D A [(qq, .inr (5, [.int (iI (fl)), .ref (rf 0), .int (iI (ln)), .int (iI (pl)), .int (iI (yy)), .int (iI (mm)), .int (iI (dd)), .int (iI ((vAt j tf ln (x)) + 1)), .ref (rf 1), .ref (rf 2), .ref (rf 3), .ref (rf 4), .ref (rf 5), .ref (rf 6), .int (iI (wa)), .int (iI (on)), .int (iI (tw)), .ref (rf 7), .ref (rf 8), .ref (rf 9), .int (iI (hc))])), (rf 0, .inl (g.2 3, 400, .inl (zaI (zSg tf)))), (rf 7, .inl (g.2 8, 12, .inr (.inr (.inr (.inr (zaR mq)))))), (rf 8, .inl (g.2 8, 7, .inr (.inr (.inr (.inr (zaR wq)))))), (rf 2, .inl (g.2 5, 7, .inr (.inr (.inr (.inr (zaR ta)))))), (ta j, .inl (g.2 1, 330, .inl (zaB ff)))] := hD
                    refine lv_aload_n hx hb zd_Q_items_141 rfl (lv_at hl 5 rfl) ?_
                    refine va_get (D := g.1) (ci := 5) (v := .int (iI ((vAt j tf ln (x)) + 1))) (C := zR_Q) (T := zT_Q) (N := 21) hx hb hw zin_Q hown hK hP 0 rfl rfl 7 (by decide) (hw _ zw_3_205) (fun _ h9 => h9) rfl zd_Q_items_142 ?_
                    refine lv_istore (lv' := [(7, .int (iI ((vAt j tf ln (x)) + 1))), (6, .int (iI (0))), (4, .int (iI (vVl j tf ln (x)))), (5, .int (iI (fHi j))), (3, .int (iI (0))), (2, .int (iI (oy))), (0, .ref (qq)), (1, .int (iI (((j : Nat) : Int))))]) hx hb zd_Q_items_145 hl (by decide) rfl (fun ls hl => ?_)
                    refine lv_aload_n hx hb zd_Q_items_147 rfl (lv_at hl 6 rfl) ?_
                    refine lv_iload_n hx hb zd_Q_items_148 rfl (lv_at hl 7 rfl) ?_
                    by_cases ho149 : vOk j tf ln ((vAt j tf ln (x)) + 1) = true
                    · have hv149 := vOk_rg ho149 (by omega) hj
                      refine zk_W (As := [.int (iI (((j : Nat) : Int)))]) (b := qq) (own := "CronFinderModel") (nL := 11) (rest := []) hx hb hml hown hw (zE_y (c_Q_value l g hl0 qq rf (fl) (ln) (pl) (yy) (mm) (dd) ((vAt j tf ln (x)) + 1) (wa) (on) (tw) (hc) tf hln (by omega) hch t1 t2 mq mv wq wv j hj 0 0 (Or.inl ⟨ho149, rfl, rfl⟩)) ho149) zw_4_78 zw_4_80 zw_0_35 zw_1_7 zw_4_81 (np := 1) (by decide +kernel) rfl ⟨rfl, rfl, Nat.le_of_ble_eq_true rfl, Nat.le_of_ble_eq_true rfl⟩ (zQs_mv t1 t2 mq mv wq wv) hK (zQs_nar (zQs_now hT hS) (va_free hD hS hA [0, 1, 2, 3] rfl)) hP hD hS hA [0, 1, 2, 3] rfl (by decide) rfl (va_recv hK hP (ci := 5) (q0 := 0) rfl rfl) hl.1 rfl (Nat.le_of_ble_eq_true rfl) ⟨Nat.zero_le _, Nat.zero_le _⟩ zd_Q_items_149 (fun H locs hP hD hS => ?_)
                      have hP : va_P g.1 zCl [(qq, .inr (5, [.int (iI (fl)), .ref (rf 0), .int (iI (ln)), .int (iI (pl)), .int (iI (yy)), .int (iI (mm)), .int (iI (dd)), .int (iI (vAt j tf ln ((vAt j tf ln (x)) + 1))), .ref (rf 1), .ref (rf 2), .ref (rf 3), .ref (rf 4), .ref (rf 5), .ref (rf 6), .int (iI (wa)), .int (iI (on)), .int (iI (tw)), .ref (rf 7), .ref (rf 8), .ref (rf 9), .int (iI (hc))])), (rf 0, .inl (g.2 3, 400, .inl (zaI (zSg tf)))), (rf 7, .inl (g.2 8, 12, .inr (.inr (.inr (.inr (zaR mq)))))), (rf 8, .inl (g.2 8, 7, .inr (.inr (.inr (.inr (zaR wq)))))), (rf 2, .inl (g.2 5, 7, .inr (.inr (.inr (.inr (zaR ta)))))), (ta j, .inl (g.2 1, 330, .inl (zaB ff)))] H := hP
                      have hD : va_D A [(qq, .inr (5, [.int (iI (fl)), .ref (rf 0), .int (iI (ln)), .int (iI (pl)), .int (iI (yy)), .int (iI (mm)), .int (iI (dd)), .int (iI (vAt j tf ln ((vAt j tf ln (x)) + 1))), .ref (rf 1), .ref (rf 2), .ref (rf 3), .ref (rf 4), .ref (rf 5), .ref (rf 6), .int (iI (wa)), .int (iI (on)), .int (iI (tw)), .ref (rf 7), .ref (rf 8), .ref (rf 9), .int (iI (hc))])), (rf 0, .inl (g.2 3, 400, .inl (zaI (zSg tf)))), (rf 7, .inl (g.2 8, 12, .inr (.inr (.inr (.inr (zaR mq)))))), (rf 8, .inl (g.2 8, 7, .inr (.inr (.inr (.inr (zaR wq)))))), (rf 2, .inl (g.2 5, 7, .inr (.inr (.inr (.inr (zaR ta)))))), (ta j, .inl (g.2 1, 330, .inl (zaB ff)))] := hD
                      refine lv_istore (lv' := [(5, .int (iI (vVl j tf ln ((vAt j tf ln (x)) + 1)))), (7, .int (iI ((vAt j tf ln (x)) + 1))), (6, .int (iI (0))), (4, .int (iI (vVl j tf ln (x)))), (3, .int (iI (0))), (2, .int (iI (oy))), (0, .ref (qq)), (1, .int (iI (((j : Nat) : Int))))]) hx hb zd_Q_items_152 hl (by decide) rfl (fun ls hl => ?_)
                      refine lv_iload_n hx hb zd_Q_items_154 rfl (lv_at hl 7 rfl) ?_
                      refine zi_bipush hx hb zd_Q_items_155 (by decide) ?_
                      refine zi_icmp_ne (tgt := 173) hx hb zd_Q_items_157 (by decide) (by omega) (fun c157 => ?_) (fun c157 => ?_)
                      · refine lv_goto (tgt := 185) hx hb zd_Q_items_173 (by decide) ?_
                        obtain ⟨v1, hp1⟩ : ∃ v1, pI1 j tf ln x vl9 = (true, vAt j tf ln ((vAt j tf ln (x)) + 1), vVl j tf ln (x), vVl j tf ln ((vAt j tf ln (x)) + 1), v1) := by first | exact ⟨_, pI1_1 c32⟩ | exact ⟨_, pI1_5 c32 ho77 c128 ho149 (fun h9 => by have := h9.2; omega)⟩ | exact ⟨_, pI1_5 c32 ho77 c128 ho149 (fun h9 => absurd h9.1 (by omega))⟩ | exact ⟨_, pI1_6 c32 ho77 hn45 h47⟩ | exact ⟨_, pI1_7 c32 ho77 hn45 hn47⟩
                        exact tail185 (vVl j tf ln (x)) (vVl j tf ln ((vAt j tf ln (x)) + 1)) (vAt j tf ln ((vAt j tf ln (x)) + 1)) v1 H locs ls (by omega) (by omega) hp1 hP hD hS (lv_sub hl [0, 3, 6, 7] rfl)
                      · refine lv_iload hx hb zd_Q_items_160 (lv_at hl 3 rfl) ?_
                        refine lv_iload hx hb zd_Q_items_162 (lv_at hl 0 rfl) ?_
                        refine zi_icmp_le (tgt := 173) hx hb zd_Q_items_164 (by decide) (by omega) (fun c164 => ?_) (fun c164 => ?_)
                        · refine lv_goto (tgt := 185) hx hb zd_Q_items_173 (by decide) ?_
                          obtain ⟨v1, hp1⟩ : ∃ v1, pI1 j tf ln x vl9 = (true, vAt j tf ln ((vAt j tf ln (x)) + 1), vVl j tf ln (x), vVl j tf ln ((vAt j tf ln (x)) + 1), v1) := by first | exact ⟨_, pI1_1 c32⟩ | exact ⟨_, pI1_5 c32 ho77 c128 ho149 (fun h9 => by have := h9.2; omega)⟩ | exact ⟨_, pI1_5 c32 ho77 c128 ho149 (fun h9 => absurd h9.1 (by omega))⟩ | exact ⟨_, pI1_6 c32 ho77 hn45 h47⟩ | exact ⟨_, pI1_7 c32 ho77 hn45 hn47⟩
                          exact tail185 (vVl j tf ln (x)) (vVl j tf ln ((vAt j tf ln (x)) + 1)) (vAt j tf ln ((vAt j tf ln (x)) + 1)) v1 H locs ls (by omega) (by omega) hp1 hP hD hS (lv_sub hl [0, 3, 6, 7] rfl)
                        · refine lv_aload_n hx hb zd_Q_items_167 rfl (lv_at hl 6 rfl) ?_
                          refine lv_iload hx hb zd_Q_items_168 (lv_at hl 1 rfl) ?_
                          have hpq := (pIs_1 (n := n9) (f := ff) (pI_0 (pI1_4 c32 ho77 c128 ho149 ⟨by omega, by omega⟩))).symm.trans hF
                          simp only [pFi, pFd, pT, Prod.mk.injEq] at hpq
                          obtain ⟨e1, e2, -⟩ := hpq
                          subst e1
                          subst e2
                          exact zk_X (As := [.int (iI ((vAt j tf ln (x)) + 1))]) (b := qq) (own := "CronFinderModel") (nL := 11) (rest := []) hx hb hml hown hw (c_Q_bad l g hl0 qq rf (fl) (ln) (pl) (yy) (mm) (dd) (vAt j tf ln ((vAt j tf ln (x)) + 1)) (wa) (on) (tw) (hc) ((vAt j tf ln (x)) + 1)) zw_4_43 zw_4_45 zw_0_31 zw_1_7 zw_4_46 (np := 1) (by decide +kernel) rfl ⟨rfl, rfl, Nat.le_of_ble_eq_true rfl, Nat.le_of_ble_eq_true rfl⟩ zTh_mv hK (zTh_nar (zTh_now hT.1 hS) (va_free hD hS hA [0] rfl)) hP hD hS hA [0] rfl (by decide) (fun _ => rfl) (va_recv hK hP (ci := 5) (q0 := 0) rfl rfl) hl.1 rfl (Nat.le_of_ble_eq_true rfl) (zHm_1 hmc (by decide)) zd_Q_items_170 hno hlk (by decide) (fun u _ h => ⟨(zj [vAt j tf ln ((vAt j tf ln (x)) + 1), wa, on, tw], fun _ => ff), h⟩) (zHm_1 hmc (by decide))
                    · have hpq := (pIs_1 (n := n9) (f := ff) (pI_0 (pI1_3 c32 ho77 c128 ho149))).symm.trans hF
                      simp only [pFi, pFd, pT, Prod.mk.injEq] at hpq
                      obtain ⟨e1, e2, -⟩ := hpq
                      subst e1
                      subst e2
                      exact zk_X (As := [.int (iI (((j : Nat) : Int)))]) (b := qq) (own := "CronFinderModel") (nL := 11) (rest := []) hx hb hml hown hw (zE_n (c_Q_value l g hl0 qq rf (fl) (ln) (pl) (yy) (mm) (dd) ((vAt j tf ln (x)) + 1) (wa) (on) (tw) (hc) tf hln (by omega) hch t1 t2 mq mv wq wv j hj 1 6 (Or.inr ⟨ho149, rfl, rfl⟩)) ho149) zw_4_78 zw_4_80 zw_0_35 zw_1_7 zw_4_81 (np := 1) (by decide +kernel) rfl ⟨rfl, rfl, Nat.le_of_ble_eq_true rfl, Nat.le_of_ble_eq_true rfl⟩ (zQs_mv t1 t2 mq mv wq wv) hK (zQs_nar (zQs_now hT hS) (va_free hD hS hA [0, 1, 2, 3] rfl)) hP hD hS hA [0, 1, 2, 3] rfl (by decide) (fun _ => rfl) (va_recv hK hP (ci := 5) (q0 := 0) rfl rfl) hl.1 rfl (Nat.le_of_ble_eq_true rfl) (zHm_1 hmc (by decide)) zd_Q_items_149 hno hlk (by decide) (fun u _ h => ⟨(zj [u.1 0, wa, on, tw], fun _ => ff), h⟩) (zHm_1 hmc (by decide))
                  · refine lv_aload_n hx hb zd_Q_items_106 rfl (lv_at hl 5 rfl) ?_
                    refine zk_V (As := []) (b := qq) (own := "CronFinderModel") (nL := 11) (rest := []) hx hb hml hown hw (c_Q_peek l g qq rf (fl) (ln) (pl) (yy) (mm) (dd) (vAt j tf ln (x)) (wa) (on) (tw) (hc) tf hln (by omega) hch) zw_4_39 zw_4_41 zw_0_30 zw_1_7 zw_4_42 (np := 0) (by decide +kernel) rfl ⟨rfl, rfl, Nat.le_of_ble_eq_true rfl, Nat.le_of_ble_eq_true rfl⟩ zN_mv hK trivial (hP.sub (ws' := [(qq, .inr (5, [.int (iI (fl)), .ref (rf 0), .int (iI (ln)), .int (iI (pl)), .int (iI (yy)), .int (iI (mm)), .int (iI (dd)), .int (iI (vAt j tf ln (x))), .ref (rf 1), .ref (rf 2), .ref (rf 3), .ref (rf 4), .ref (rf 5), .ref (rf 6), .int (iI (wa)), .int (iI (on)), .int (iI (tw)), .ref (rf 7), .ref (rf 8), .ref (rf 9), .int (iI (hc))])), (rf 0, .inl (g.2 3, 400, .inl (zaI (zSg tf))))]) [0, 1] rfl) (va_recv hK hP (ci := 5) (q0 := 0) rfl rfl) hl.1 rfl (Nat.le_of_ble_eq_true rfl) ⟨Nat.zero_le _, Nat.zero_le _⟩ zd_Q_items_107 ?_
                    have hk107 := rk_rg tf ln (vAt j tf ln (x)) hch
                    refine zi_bipush hx hb zd_Q_items_110 (by decide) ?_
                    refine zi_icmp_eq (tgt := 119) hx hb zd_Q_items_112 (by decide) (by omega) (fun c112 => ?_) (fun c112 => ?_)
                    · refine zi_iconst hx hb zd_Q_items_119 ?_
                      refine lv_istore (lv' := [(6, .int (iI (0))), (4, .int (iI (vVl j tf ln (x)))), (5, .int (iI (fHi j))), (3, .int (iI (0))), (2, .int (iI (oy))), (0, .ref (qq)), (1, .int (iI (((j : Nat) : Int))))]) hx hb zd_Q_items_120 hl (by decide) rfl (fun ls hl => ?_)
                      refine lv_aload_n hx hb zd_Q_items_122 rfl (lv_at hl 5 rfl) ?_
                      refine zk_V (As := []) (b := qq) (own := "CronFinderModel") (nL := 11) (rest := []) hx hb hml hown hw (c_Q_peek l g qq rf (fl) (ln) (pl) (yy) (mm) (dd) (vAt j tf ln (x)) (wa) (on) (tw) (hc) tf hln (by omega) hch) zw_4_39 zw_4_41 zw_0_30 zw_1_7 zw_4_42 (np := 0) (by decide +kernel) rfl ⟨rfl, rfl, Nat.le_of_ble_eq_true rfl, Nat.le_of_ble_eq_true rfl⟩ zN_mv hK trivial (hP.sub (ws' := [(qq, .inr (5, [.int (iI (fl)), .ref (rf 0), .int (iI (ln)), .int (iI (pl)), .int (iI (yy)), .int (iI (mm)), .int (iI (dd)), .int (iI (vAt j tf ln (x))), .ref (rf 1), .ref (rf 2), .ref (rf 3), .ref (rf 4), .ref (rf 5), .ref (rf 6), .int (iI (wa)), .int (iI (on)), .int (iI (tw)), .ref (rf 7), .ref (rf 8), .ref (rf 9), .int (iI (hc))])), (rf 0, .inl (g.2 3, 400, .inl (zaI (zSg tf))))]) [0, 1] rfl) (va_recv hK hP (ci := 5) (q0 := 0) rfl rfl) hl.1 rfl (Nat.le_of_ble_eq_true rfl) ⟨Nat.zero_le _, Nat.zero_le _⟩ zd_Q_items_123 ?_
                      have hk123 := rk_rg tf ln (vAt j tf ln (x)) hch
                      refine zi_bipush hx hb zd_Q_items_126 (by decide) ?_
                      refine zi_icmp_ne (tgt := 176) hx hb zd_Q_items_128 (by decide) (by omega) (fun c128 => ?_) (fun c128 => absurd c128 c103)
                      have hn45 : ¬ rk tf ln (vAt j tf ln x) = 45 := c128
                      have h47 : rk tf ln (vAt j tf ln x) = 47 := c112
                      refine lv_iload hx hb zd_Q_items_176 (lv_at hl 0 rfl) ?_
                      refine zi_if_eq (tgt := 185) hx hb zd_Q_items_178 (by decide) (by omega) (fun _ => ?_) (fun c178 => absurd c178 (by decide))
                      obtain ⟨v1, hp1⟩ : ∃ v1, pI1 j tf ln x vl9 = (true, vAt j tf ln (x), vVl j tf ln (x), fHi j, v1) := by first | exact ⟨_, pI1_1 c32⟩ | exact ⟨_, pI1_5 c32 ho77 c128 ho149 (fun h9 => by have := h9.2; omega)⟩ | exact ⟨_, pI1_5 c32 ho77 c128 ho149 (fun h9 => absurd h9.1 (by omega))⟩ | exact ⟨_, pI1_6 c32 ho77 hn45 h47⟩ | exact ⟨_, pI1_7 c32 ho77 hn45 hn47⟩
                      exact tail185 (vVl j tf ln (x)) (fHi j) (vAt j tf ln (x)) v1 H locs ls (by omega) (by omega) hp1 hP hD hS (lv_sub hl [2, 1, 5, 6] rfl)
                    · refine zi_iconst hx hb zd_Q_items_115 ?_
                      refine lv_goto (tgt := 120) hx hb zd_Q_items_116 (by decide) ?_
                      refine lv_istore (lv' := [(6, .int (iI (1))), (4, .int (iI (vVl j tf ln (x)))), (5, .int (iI (fHi j))), (3, .int (iI (0))), (2, .int (iI (oy))), (0, .ref (qq)), (1, .int (iI (((j : Nat) : Int))))]) hx hb zd_Q_items_120 hl (by decide) rfl (fun ls hl => ?_)
                      refine lv_aload_n hx hb zd_Q_items_122 rfl (lv_at hl 5 rfl) ?_
                      refine zk_V (As := []) (b := qq) (own := "CronFinderModel") (nL := 11) (rest := []) hx hb hml hown hw (c_Q_peek l g qq rf (fl) (ln) (pl) (yy) (mm) (dd) (vAt j tf ln (x)) (wa) (on) (tw) (hc) tf hln (by omega) hch) zw_4_39 zw_4_41 zw_0_30 zw_1_7 zw_4_42 (np := 0) (by decide +kernel) rfl ⟨rfl, rfl, Nat.le_of_ble_eq_true rfl, Nat.le_of_ble_eq_true rfl⟩ zN_mv hK trivial (hP.sub (ws' := [(qq, .inr (5, [.int (iI (fl)), .ref (rf 0), .int (iI (ln)), .int (iI (pl)), .int (iI (yy)), .int (iI (mm)), .int (iI (dd)), .int (iI (vAt j tf ln (x))), .ref (rf 1), .ref (rf 2), .ref (rf 3), .ref (rf 4), .ref (rf 5), .ref (rf 6), .int (iI (wa)), .int (iI (on)), .int (iI (tw)), .ref (rf 7), .ref (rf 8), .ref (rf 9), .int (iI (hc))])), (rf 0, .inl (g.2 3, 400, .inl (zaI (zSg tf))))]) [0, 1] rfl) (va_recv hK hP (ci := 5) (q0 := 0) rfl rfl) hl.1 rfl (Nat.le_of_ble_eq_true rfl) ⟨Nat.zero_le _, Nat.zero_le _⟩ zd_Q_items_123 ?_
                      have hk123 := rk_rg tf ln (vAt j tf ln (x)) hch
                      refine zi_bipush hx hb zd_Q_items_126 (by decide) ?_
                      refine zi_icmp_ne (tgt := 176) hx hb zd_Q_items_128 (by decide) (by omega) (fun c128 => ?_) (fun c128 => absurd c128 c103)
                      have hn45 : ¬ rk tf ln (vAt j tf ln x) = 45 := c128
                      have hn47 : ¬ rk tf ln (vAt j tf ln x) = 47 := c112
                      refine lv_iload hx hb zd_Q_items_176 (lv_at hl 0 rfl) ?_
                      refine zi_if_eq (tgt := 185) hx hb zd_Q_items_178 (by decide) (by omega) (fun c178 => absurd c178 (by decide)) (fun _ => ?_)
                      refine lv_iload hx hb zd_Q_items_181 (lv_at hl 1 rfl) ?_
                      refine lv_istore (lv' := [(5, .int (iI (vVl j tf ln (x)))), (6, .int (iI (1))), (4, .int (iI (vVl j tf ln (x)))), (3, .int (iI (0))), (2, .int (iI (oy))), (0, .ref (qq)), (1, .int (iI (((j : Nat) : Int))))]) hx hb zd_Q_items_183 hl (by decide) rfl (fun ls hl => ?_)
                      obtain ⟨v1, hp1⟩ : ∃ v1, pI1 j tf ln x vl9 = (true, vAt j tf ln (x), vVl j tf ln (x), vVl j tf ln (x), v1) := by first | exact ⟨_, pI1_1 c32⟩ | exact ⟨_, pI1_5 c32 ho77 c128 ho149 (fun h9 => by have := h9.2; omega)⟩ | exact ⟨_, pI1_5 c32 ho77 c128 ho149 (fun h9 => absurd h9.1 (by omega))⟩ | exact ⟨_, pI1_6 c32 ho77 hn45 h47⟩ | exact ⟨_, pI1_7 c32 ho77 hn45 hn47⟩
                      exact tail185 (vVl j tf ln (x)) (vVl j tf ln (x)) (vAt j tf ln (x)) v1 H locs ls (by omega) (by omega) hp1 hP hD hS (lv_sub hl [0, 2, 5, 6] rfl)
              · have hpq := (pIs_1 (n := n9) (f := ff) (pI_0 (pI1_2 c32 ho77))).symm.trans hF
                simp only [pFi, pFd, pT, Prod.mk.injEq] at hpq
                obtain ⟨e1, e2, -⟩ := hpq
                subst e1
                subst e2
                exact zk_X (As := [.int (iI (((j : Nat) : Int)))]) (b := qq) (own := "CronFinderModel") (nL := 11) (rest := []) hx hb hml hown hw (zE_n (c_Q_value l g hl0 qq rf (fl) (ln) (pl) (yy) (mm) (dd) (x) (wa) (on) (tw) (hc) tf hln (by omega) hch t1 t2 mq mv wq wv j hj 1 6 (Or.inr ⟨ho77, rfl, rfl⟩)) ho77) zw_4_78 zw_4_80 zw_0_35 zw_1_7 zw_4_81 (np := 1) (by decide +kernel) rfl ⟨rfl, rfl, Nat.le_of_ble_eq_true rfl, Nat.le_of_ble_eq_true rfl⟩ (zQs_mv t1 t2 mq mv wq wv) hK (zQs_nar (zQs_now hT hS) (va_free hD hS hA [0, 1, 2, 3] rfl)) hP hD hS hA [0, 1, 2, 3] rfl (by decide) (fun _ => rfl) (va_recv hK hP (ci := 5) (q0 := 0) rfl rfl) hl.1 rfl (Nat.le_of_ble_eq_true rfl) (zHm_1 hmc (by decide)) zd_Q_items_77 hno hlk (by decide) (fun u _ h => ⟨(zj [u.1 0, wa, on, tw], fun _ => ff), h⟩) (zHm_1 hmc (by decide))
            · refine zi_iconst hx hb zd_Q_items_35 ?_
              refine lv_goto (tgt := 40) hx hb zd_Q_items_36 (by decide) ?_
              refine lv_istore_n (lv' := [(3, .int (iI (1))), (2, .int (iI (oy))), (0, .ref (qq)), (1, .int (iI (((j : Nat) : Int))))]) hx hb zd_Q_items_40 rfl hl (by decide) rfl (fun ls hl => ?_)
              refine va_gets hx hb hT.2.1.1 hS hown (hw _ zw_4_74) (fun _ h9 => h9) zd_Q_items_41 ?_
              refine lv_iload_n hx hb zd_Q_items_44 rfl (lv_at hl 3 rfl) ?_
              refine zi_ti hx hb hT.2.1.2.1 hS (by omega) zd_Q_items_45 ?_
              refine zi_as (fLo j) (fLoI_n j) ?_
              refine lv_istore (lv' := [(4, .int (iI (fLo j))), (3, .int (iI (1))), (2, .int (iI (oy))), (0, .ref (qq)), (1, .int (iI (((j : Nat) : Int))))]) hx hb zd_Q_items_46 hl (by decide) rfl (fun ls hl => ?_)
              refine va_gets hx hb hT.2.1.2.2.1 hS hown (hw _ zw_4_76) (fun _ h9 => h9) zd_Q_items_48 ?_
              refine lv_iload_n hx hb zd_Q_items_51 rfl (lv_at hl 4 rfl) ?_
              refine zi_ti hx hb hT.2.1.2.2.2 hS (by omega) zd_Q_items_52 ?_
              refine zi_as (fHi j) (fHiI_n j) ?_
              refine lv_istore (lv' := [(5, .int (iI (fHi j))), (4, .int (iI (fLo j))), (3, .int (iI (1))), (2, .int (iI (oy))), (0, .ref (qq)), (1, .int (iI (((j : Nat) : Int))))]) hx hb zd_Q_items_53 hl (by decide) rfl (fun ls hl => ?_)
              refine zi_iconst hx hb zd_Q_items_55 ?_
              refine lv_istore (lv' := [(6, .int (iI (0))), (5, .int (iI (fHi j))), (4, .int (iI (fLo j))), (3, .int (iI (1))), (2, .int (iI (oy))), (0, .ref (qq)), (1, .int (iI (((j : Nat) : Int))))]) hx hb zd_Q_items_56 hl (by decide) rfl (fun ls hl => ?_)
              refine lv_iload_n hx hb zd_Q_items_58 rfl (lv_at hl 3 rfl) ?_
              refine zi_if_eq (tgt := 75) hx hb zd_Q_items_59 (by decide) (by omega) (fun c59 => absurd c59 (by decide)) (fun _ => ?_)
              have hx9 := rk_lt c32 (by decide)
              refine lv_aload_n hx hb zd_Q_items_62 rfl (lv_at hl 5 rfl) ?_
              refine lv_dup hx hb zd_Q_items_63 rfl ?_
              refine va_get (D := g.1) (ci := 5) (v := .int (iI (x))) (C := zR_Q) (T := zT_Q) (N := 21) hx hb hw zin_Q hown hK hP 0 rfl rfl 7 (by decide) (hw _ zw_3_205) (fun _ h9 => h9) rfl zd_Q_items_64 ?_
              refine zi_iconst hx hb zd_Q_items_67 ?_
              refine zi_iadd hx hb zd_Q_items_68 ?_
              refine va_put (D := g.1) (ci := 5) (v := .int (iI (x + 1))) (ty := .int) (C := zR_Q) (T := zT_Q) (N := 21) hx hb hw zin_Q zt_Q zto_Q zn_Q hown hK hP hD hS 0 rfl rfl 7 (by decide) (hw _ zw_3_205) (fun _ h9 => h9) rfl  (by decide +kernel) rfl rfl (Nat.le_of_ble_eq_true rfl) zd_Q_items_69 (fun H locs hP hD hS => ?_)
              have hP : va_P g.1 zCl [(qq, .inr (5, [.int (iI (fl)), .ref (rf 0), .int (iI (ln)), .int (iI (pl)), .int (iI (yy)), .int (iI (mm)), .int (iI (dd)), .int (iI (x + 1)), .ref (rf 1), .ref (rf 2), .ref (rf 3), .ref (rf 4), .ref (rf 5), .ref (rf 6), .int (iI (wa)), .int (iI (on)), .int (iI (tw)), .ref (rf 7), .ref (rf 8), .ref (rf 9), .int (iI (hc))])), (rf 0, .inl (g.2 3, 400, .inl (zaI (zSg tf)))), (rf 7, .inl (g.2 8, 12, .inr (.inr (.inr (.inr (zaR mq)))))), (rf 8, .inl (g.2 8, 7, .inr (.inr (.inr (.inr (zaR wq)))))), (rf 2, .inl (g.2 5, 7, .inr (.inr (.inr (.inr (zaR ta)))))), (ta j, .inl (g.2 1, 330, .inl (zaB ff)))] H := hP
              have hD : va_D A [(qq, .inr (5, [.int (iI (fl)), .ref (rf 0), .int (iI (ln)), .int (iI (pl)), .int (iI (yy)), .int (iI (mm)), .int (iI (dd)), .int (iI (x + 1)), .ref (rf 1), .ref (rf 2), .ref (rf 3), .ref (rf 4), .ref (rf 5), .ref (rf 6), .int (iI (wa)), .int (iI (on)), .int (iI (tw)), .ref (rf 7), .ref (rf 8), .ref (rf 9), .int (iI (hc))])), (rf 0, .inl (g.2 3, 400, .inl (zaI (zSg tf)))), (rf 7, .inl (g.2 8, 12, .inr (.inr (.inr (.inr (zaR mq)))))), (rf 8, .inl (g.2 8, 7, .inr (.inr (.inr (.inr (zaR wq)))))), (rf 2, .inl (g.2 5, 7, .inr (.inr (.inr (.inr (zaR ta)))))), (ta j, .inl (g.2 1, 330, .inl (zaB ff)))] := hD
              refine lv_goto (tgt := 185) hx hb zd_Q_items_72 (by decide) ?_
              obtain ⟨v1, hp1⟩ : ∃ v1, pI1 j tf ln x vl9 = (true, x + 1, fLo j, fHi j, v1) := by first | exact ⟨_, pI1_1 c32⟩ | exact ⟨_, pI1_5 c32 ho77 c128 ho149 (fun h9 => by have := h9.2; omega)⟩ | exact ⟨_, pI1_5 c32 ho77 c128 ho149 (fun h9 => absurd h9.1 (by omega))⟩ | exact ⟨_, pI1_6 c32 ho77 hn45 h47⟩ | exact ⟨_, pI1_7 c32 ho77 hn45 hn47⟩
              exact tail185 (fLo j) (fHi j) (x + 1) v1 H locs ls (by omega) (by omega) hp1 hP hD hS (lv_sub hl [1, 2, 5, 6] rfl)
        exact loop n at0 vl (fun _ => false) 1 H locs ls (by omega) (by omega) (fun _ => rfl) hres (by omega) hP hD hS (lv_sub hl [0, 1, 2] rfl)
      · refine lv_aload_n hx hb zd_Q_items_9 rfl (lv_at hl 1 rfl) ?_
        refine va_get (D := g.1) (ci := 5) (v := .ref (rf 2)) (C := zR_Q) (T := zT_Q) (N := 21) hx hb hw zin_Q hown hK hP 0 rfl rfl 9 (by decide) (hw _ zw_3_207) (fun _ h9 => h9) rfl zd_Q_items_10 ?_
        refine lv_iload_n hx hb zd_Q_items_13 rfl (lv_at hl 2 rfl) ?_
        refine zi_aald (k := j) hx hb hK hP 4 5 rfl rfl (by omega) (Int.toNat_natCast _) zd_Q_items_14 ?_
        refine lv_iload_n hx hb zd_Q_items_15 rfl (lv_at hl 0 rfl) ?_
        refine zi_iconst hx hb zd_Q_items_16 ?_
        refine zb_as (x := false) rfl ?_
        refine zi_zast hx hb hK hP hD hS 5 1 rfl rfl (by omega) zd_Q_items_17 (fun H locs hP hD hS => ?_)
        have hP : va_P g.1 zCl [(qq, .inr (5, [.int (iI (fl)), .ref (rf 0), .int (iI (ln)), .int (iI (pl)), .int (iI (yy)), .int (iI (mm)), .int (iI (dd)), .int (iI (at0)), .ref (rf 1), .ref (rf 2), .ref (rf 3), .ref (rf 4), .ref (rf 5), .ref (rf 6), .int (iI (wa)), .int (iI (on)), .int (iI (tw)), .ref (rf 7), .ref (rf 8), .ref (rf 9), .int (iI (hc))])), (rf 0, .inl (g.2 3, 400, .inl (zaI (zSg tf)))), (rf 7, .inl (g.2 8, 12, .inr (.inr (.inr (.inr (zaR mq)))))), (rf 8, .inl (g.2 8, 7, .inr (.inr (.inr (.inr (zaR wq)))))), (rf 2, .inl (g.2 5, 7, .inr (.inr (.inr (.inr (zaR ta)))))), (ta j, .inl (g.2 1, 330, .inl (zaB (zu fc (k).toNat (false)))))] H := hP
        have hD : va_D A [(qq, .inr (5, [.int (iI (fl)), .ref (rf 0), .int (iI (ln)), .int (iI (pl)), .int (iI (yy)), .int (iI (mm)), .int (iI (dd)), .int (iI (at0)), .ref (rf 1), .ref (rf 2), .ref (rf 3), .ref (rf 4), .ref (rf 5), .ref (rf 6), .int (iI (wa)), .int (iI (on)), .int (iI (tw)), .ref (rf 7), .ref (rf 8), .ref (rf 9), .int (iI (hc))])), (rf 0, .inl (g.2 3, 400, .inl (zaI (zSg tf)))), (rf 7, .inl (g.2 8, 12, .inr (.inr (.inr (.inr (zaR mq)))))), (rf 8, .inl (g.2 8, 7, .inr (.inr (.inr (.inr (zaR wq)))))), (rf 2, .inl (g.2 5, 7, .inr (.inr (.inr (.inr (zaR ta)))))), (ta j, .inl (g.2 1, 330, .inl (zaB (zu fc (k).toNat (false)))))] := hD
        refine lv_iinc (v := iI (k + 1)) (lv' := [(2, .int (iI (k + 1))), (0, .ref (qq)), (1, .int (iI (((j : Nat) : Int))))]) hx hb zd_Q_items_18 hl (k := 0) rfl (iI_add _ _) (by decide) rfl (fun ls hl => ?_)
        refine lv_goto (tgt := 2) hx hb zd_Q_items_21 (by decide) ?_
        exact ihc (k + 1) (zu fc k.toNat false) H locs ls ⟨by omega, oCl_nx hc0.2 (by omega)⟩ (by omega) hP hD hS (lv_sub hl [0, 1, 2] rfl)
  exact loopc 331 0 f0 s.heap [] ls ⟨by omega, fun i hi => absurd hi (by omega)⟩ (by omega) hP hD hS (lv_sub hl [0, 1, 2] rfl)
theorem c_Q_itm (l : Launch) (g : zGl) (hl0 : l.stackTraces = false) (qq : Nat) (rf : Nat → Nat) (fl ln pl yy mm dd at0 wa on tw hc : Int) (tf : Nat → Int) (hln : 0 ≤ ln ∧ ln ≤ 400) (hat : 0 ≤ at0 ∧ at0 ≤ ln) (hch : ∀ j : Nat, 0 ≤ tf j ∧ tf j < 256) (t1 t2 : Nat) (mq mv wq wv : Nat → Nat) (ta : Nat → Nat) (j : Nat) (hj : j < 7) (f0 : Nat → Bool) (vl : Int) (ok : Bool) (b v' : Int) (f' : Nat → Bool) (hres : pIs j tf ln ln.toNat at0 vl (fun _ => false) = (ok, b, v', f')) (hns : qNs j tf ln at0) (mc ms : Nat) (hmc : zHm (ok = true) mc ms) : zEi l zy_Q_items zc_Q_items 11 none ({ frames := 9, cells := mc, slots := ms, locals := 190 }) g (zQs t1 t2 mq mv wq wv) [.ref qq, .int (iI ((j : Nat) : Int))] [(qq, .inr (5, [.int (iI (fl)), .ref (rf 0), .int (iI (ln)), .int (iI (pl)), .int (iI (yy)), .int (iI (mm)), .int (iI (dd)), .int (iI (at0)), .ref (rf 1), .ref (rf 2), .ref (rf 3), .ref (rf 4), .ref (rf 5), .ref (rf 6), .int (iI (wa)), .int (iI (on)), .int (iI (tw)), .ref (rf 7), .ref (rf 8), .ref (rf 9), .int (iI (hc))])), (rf 0, .inl (g.2 3, 400, .inl (zaI (zSg tf)))), (rf 7, .inl (g.2 8, 12, .inr (.inr (.inr (.inr (zaR mq)))))), (rf 8, .inl (g.2 8, 7, .inr (.inr (.inr (.inr (zaR wq)))))), (rf 2, .inl (g.2 5, 7, .inr (.inr (.inr (.inr (zaR ta)))))), (ta j, .inl (g.2 1, 330, .inl (zaB f0)))] (ok = true) none (fun _ => [(qq, .inr (5, [.int (iI (fl)), .ref (rf 0), .int (iI (ln)), .int (iI (pl)), .int (iI (yy)), .int (iI (mm)), .int (iI (dd)), .int (iI (b)), .ref (rf 1), .ref (rf 2), .ref (rf 3), .ref (rf 4), .ref (rf 5), .ref (rf 6), .int (iI (wa)), .int (iI (on)), .int (iI (tw)), .ref (rf 7), .ref (rf 8), .ref (rf 9), .int (iI (hc))])), (rf 0, .inl (g.2 3, 400, .inl (zaI (zSg tf)))), (rf 7, .inl (g.2 8, 12, .inr (.inr (.inr (.inr (zaR mq)))))), (rf 8, .inl (g.2 8, 7, .inr (.inr (.inr (.inr (zaR wq)))))), (rf 2, .inl (g.2 5, 7, .inr (.inr (.inr (.inr (zaR ta)))))), (ta j, .inl (g.2 1, 330, .inl (zaB f')))]) "java/lang/UnsupportedOperationException" (fun u => [(qq, .inr (5, [.int (iI (fl)), .ref (rf 0), .int (iI (ln)), .int (iI (b)), .int (iI (yy)), .int (iI (mm)), .int (iI (dd)), .int (iI (u.1 0)), .ref (rf 1), .ref (rf 2), .ref (rf 3), .ref (rf 4), .ref (rf 5), .ref (rf 6), .int (iI (u.1 1)), .int (iI (u.1 2)), .int (iI (u.1 3)), .ref (rf 7), .ref (rf 8), .ref (rf 9), .int (iI (hc))])), (rf 0, .inl (g.2 3, 400, .inl (zaI (zSg tf)))), (rf 7, .inl (g.2 8, 12, .inr (.inr (.inr (.inr (zaR mq)))))), (rf 8, .inl (g.2 8, 7, .inr (.inr (.inr (.inr (zaR wq)))))), (rf 2, .inl (g.2 5, 7, .inr (.inr (.inr (.inr (zaR ta)))))), (ta j, .inl (g.2 1, 330, .inl (zaB (u.2 0))))]) mc ms := by
  by_cases h0 : ln = 0
  · refine c_Q_items l g hl0 qq rf fl ln pl yy mm dd at0 wa on tw hc tf hln hat hch t1 t2 mq mv wq wv ta j hj f0 vl 1 ok b v' f' ?_ (by omega) hns mc ms hmc
    rw [← hres, show ln.toNat = 0 by omega]
    exact (pIs_z h0 (by omega)).symm
  · exact c_Q_items l g hl0 qq rf fl ln pl yy mm dd at0 wa on tw hc tf hln hat hch t1 t2 mq mv wq wv ta j hj f0 vl ln.toNat ok b v' f' hres (by omega) hns mc ms hmc
theorem vOk_ch {j : Nat} {tf : Nat → Int} {ln a : Int} (h : vOk j tf ln a = true) : ¬ rk tf ln a = 42 := fun q => by
  have h1 : qLt (rk tf ln a) = false := by rw [q]; decide
  have h2 : qDg (rk tf ln a) = false := by rw [q]; decide
  have h3 : vNm j ln tf a = 0 := by
    unfold vNm
    rw [nmA_nl fMon_L h1, nmA_nl fWd_L h1]
    split
    · rfl
    · split <;> rfl
  exact rNm_nd h2 ((vOk_0 h3).mp h)
set_option maxHeartbeats 4000000 in
set_option maxRecDepth 100000 in
theorem c_Q_it_W (l : Launch) (g : zGl) (hl0 : l.stackTraces = false) (qq : Nat) (rf : Nat → Nat) (fl ln pl yy mm dd at0 wa on tw hc : Int) (tf : Nat → Int) (hln : 0 ≤ ln ∧ ln ≤ 400) (hat : 0 ≤ at0 ∧ at0 ≤ ln) (hch : ∀ j : Nat, 0 ≤ tf j ∧ tf j < 256) (t1 t2 : Nat) (mq mv wq wv : Nat → Nat) (ta : Nat → Nat) (f0 : Nat → Bool) (hv : vOk 3 tf ln at0 = true) (hk : rk tf ln (vAt 3 tf ln at0) = 87) (mc ms : Nat) (hmc : zHm (True) mc ms) : zEi l zy_Q_items zc_Q_items 11 none ({ frames := 9, cells := mc, slots := ms, locals := 190 }) g (zQs t1 t2 mq mv wq wv) [.ref (qq), .int (iI (3))] [(qq, .inr (5, [.int (iI (fl)), .ref (rf 0), .int (iI (ln)), .int (iI (pl)), .int (iI (yy)), .int (iI (mm)), .int (iI (dd)), .int (iI (at0)), .ref (rf 1), .ref (rf 2), .ref (rf 3), .ref (rf 4), .ref (rf 5), .ref (rf 6), .int (iI (wa)), .int (iI (on)), .int (iI (tw)), .ref (rf 7), .ref (rf 8), .ref (rf 9), .int (iI (hc))])), (rf 0, .inl (g.2 3, 400, .inl (zaI (zSg tf)))), (rf 7, .inl (g.2 8, 12, .inr (.inr (.inr (.inr (zaR mq)))))), (rf 8, .inl (g.2 8, 7, .inr (.inr (.inr (.inr (zaR wq)))))), (rf 2, .inl (g.2 5, 7, .inr (.inr (.inr (.inr (zaR ta)))))), (ta 3, .inl (g.2 1, 330, .inl (zaB f0)))] (True) (none) (fun _ => [(qq, .inr (5, [.int (iI (fl)), .ref (rf 0), .int (iI (ln)), .int (iI (pl)), .int (iI (yy)), .int (iI (mm)), .int (iI (dd)), .int (iI (vAt 3 tf ln at0 + 1)), .ref (rf 1), .ref (rf 2), .ref (rf 3), .ref (rf 4), .ref (rf 5), .ref (rf 6), .int (iI (4)), .int (iI (vVl 3 tf ln at0)), .int (iI (tw)), .ref (rf 7), .ref (rf 8), .ref (rf 9), .int (iI (hc))])), (rf 0, .inl (g.2 3, 400, .inl (zaI (zSg tf)))), (rf 7, .inl (g.2 8, 12, .inr (.inr (.inr (.inr (zaR mq)))))), (rf 8, .inl (g.2 8, 7, .inr (.inr (.inr (.inr (zaR wq)))))), (rf 2, .inl (g.2 5, 7, .inr (.inr (.inr (.inr (zaR ta)))))), (ta 3, .inl (g.2 1, 330, .inl (zaB (fun _ => false))))]) "java/lang/UnsupportedOperationException" (fun u => [(qq, .inr (5, [.int (iI (fl)), .ref (rf 0), .int (iI (ln)), .int (iI (pl)), .int (iI (yy)), .int (iI (mm)), .int (iI (dd)), .int (iI (u.1 0)), .ref (rf 1), .ref (rf 2), .ref (rf 3), .ref (rf 4), .ref (rf 5), .ref (rf 6), .int (iI (wa)), .int (iI (on)), .int (iI (tw)), .ref (rf 7), .ref (rf 8), .ref (rf 9), .int (iI (hc))])), (rf 0, .inl (g.2 3, 400, .inl (zaI (zSg tf)))), (rf 7, .inl (g.2 8, 12, .inr (.inr (.inr (.inr (zaR mq)))))), (rf 8, .inl (g.2 8, 7, .inr (.inr (.inr (.inr (zaR wq)))))), (rf 2, .inl (g.2 5, 7, .inr (.inr (.inr (.inr (zaR ta)))))), (ta 3, .inl (g.2 1, 330, .inl (zaB (u.2 0))))]) mc ms := by
  refine ze_open (by decide +kernel) (Nat.le_of_ble_eq_true rfl) ?_
  intro p e s m below meth c ls A hx hb hml hr hno hlk hown hw hK hT hP hD hS hA hl
  have hown : s.vm.findClass "CronFinderModel" = some m.cls := hown
  have hl : lv_has ls 11 [(0, .ref (qq)), (1, .int (iI (3)))] := hl
  refine zi_iconst hx hb zd_Q_items_0 ?_
  refine lv_istore_n (lv' := [(2, .int (iI (0))), (0, .ref (qq)), (1, .int (iI (3)))]) hx hb zd_Q_items_1 rfl hl (by decide) rfl (fun ls hl => ?_)
  have hLH := fLH (j := 3) (by decide)
  have loopc : ∀ (nc : Nat) (k : Int) (fc : Nat → Bool) (H : Heap) (locs : List Loc) (ls : Array Slot), ((0 ≤ k ∧ k ≤ 330) ∧ ∀ i : Nat, (i : Int) < k → fc i = false) → ((330 - k).toNat < nc) → va_P g.1 zCl [(qq, .inr (5, [.int (iI (fl)), .ref (rf 0), .int (iI (ln)), .int (iI (pl)), .int (iI (yy)), .int (iI (mm)), .int (iI (dd)), .int (iI (at0)), .ref (rf 1), .ref (rf 2), .ref (rf 3), .ref (rf 4), .ref (rf 5), .ref (rf 6), .int (iI (wa)), .int (iI (on)), .int (iI (tw)), .ref (rf 7), .ref (rf 8), .ref (rf 9), .int (iI (hc))])), (rf 0, .inl (g.2 3, 400, .inl (zaI (zSg tf)))), (rf 7, .inl (g.2 8, 12, .inr (.inr (.inr (.inr (zaR mq)))))), (rf 8, .inl (g.2 8, 7, .inr (.inr (.inr (.inr (zaR wq)))))), (rf 2, .inl (g.2 5, 7, .inr (.inr (.inr (.inr (zaR ta)))))), (ta 3, .inl (g.2 1, 330, .inl (zaB fc)))] H → va_D A [(qq, .inr (5, [.int (iI (fl)), .ref (rf 0), .int (iI (ln)), .int (iI (pl)), .int (iI (yy)), .int (iI (mm)), .int (iI (dd)), .int (iI (at0)), .ref (rf 1), .ref (rf 2), .ref (rf 3), .ref (rf 4), .ref (rf 5), .ref (rf 6), .int (iI (wa)), .int (iI (on)), .int (iI (tw)), .ref (rf 7), .ref (rf 8), .ref (rf 9), .int (iI (hc))])), (rf 0, .inl (g.2 3, 400, .inl (zaI (zSg tf)))), (rf 7, .inl (g.2 8, 12, .inr (.inr (.inr (.inr (zaR mq)))))), (rf 8, .inl (g.2 8, 7, .inr (.inr (.inr (.inr (zaR wq)))))), (rf 2, .inl (g.2 5, 7, .inr (.inr (.inr (.inr (zaR ta)))))), (ta 3, .inl (g.2 1, 330, .inl (zaB fc)))] → va_S A s.heap H locs → lv_has ls 11 [(2, .int (iI (k))), (0, .ref (qq)), (1, .int (iI (3)))] → W p l e ({ frames := 9, cells := mc, slots := ms, locals := 190 }) s m [.ref (qq), .int (iI (3))].toArray below meth c H locs 0 0 (vx_MQ below (zQC g (True) (none) (fun _ => [(qq, .inr (5, [.int (iI (fl)), .ref (rf 0), .int (iI (ln)), .int (iI (pl)), .int (iI (yy)), .int (iI (mm)), .int (iI (dd)), .int (iI (vAt 3 tf ln at0 + 1)), .ref (rf 1), .ref (rf 2), .ref (rf 3), .ref (rf 4), .ref (rf 5), .ref (rf 6), .int (iI (4)), .int (iI (vVl 3 tf ln at0)), .int (iI (tw)), .ref (rf 7), .ref (rf 8), .ref (rf 9), .int (iI (hc))])), (rf 0, .inl (g.2 3, 400, .inl (zaI (zSg tf)))), (rf 7, .inl (g.2 8, 12, .inr (.inr (.inr (.inr (zaR mq)))))), (rf 8, .inl (g.2 8, 7, .inr (.inr (.inr (.inr (zaR wq)))))), (rf 2, .inl (g.2 5, 7, .inr (.inr (.inr (.inr (zaR ta)))))), (ta 3, .inl (g.2 1, 330, .inl (zaB (fun _ => false))))]) A) (zXC g (True) "java/lang/UnsupportedOperationException" (fun u => [(qq, .inr (5, [.int (iI (fl)), .ref (rf 0), .int (iI (ln)), .int (iI (pl)), .int (iI (yy)), .int (iI (mm)), .int (iI (dd)), .int (iI (u.1 0)), .ref (rf 1), .ref (rf 2), .ref (rf 3), .ref (rf 4), .ref (rf 5), .ref (rf 6), .int (iI (wa)), .int (iI (on)), .int (iI (tw)), .ref (rf 7), .ref (rf 8), .ref (rf 9), .int (iI (hc))])), (rf 0, .inl (g.2 3, 400, .inl (zaI (zSg tf)))), (rf 7, .inl (g.2 8, 12, .inr (.inr (.inr (.inr (zaR mq)))))), (rf 8, .inl (g.2 8, 7, .inr (.inr (.inr (.inr (zaR wq)))))), (rf 2, .inl (g.2 5, 7, .inr (.inr (.inr (.inr (zaR ta)))))), (ta 3, .inl (g.2 1, 330, .inl (zaB (u.2 0))))]) A) [.ref (qq), .int (iI (3))].toArray s mc ms A) (F0 m 2 ls []) := by
    intro nc
    induction nc with
    | zero =>
      intro k fc H locs ls hc0 hc2 hP hD hS hl
      exact absurd hc2 (by omega)
    | succ nc ihc =>
      intro k fc H locs ls hc0 hc2 hP hD hS hl
      refine lv_iload_n hx hb zd_Q_items_2 rfl (lv_at hl 0 rfl) ?_
      refine zi_sipush hx hb zd_Q_items_3 (by decide) ?_
      refine zi_icmp_ge (tgt := 24) hx hb zd_Q_items_6 (by decide) (by omega) (fun c6 => ?_) (fun c6 => ?_)
      · have hP : va_P g.1 zCl [(qq, .inr (5, [.int (iI (fl)), .ref (rf 0), .int (iI (ln)), .int (iI (pl)), .int (iI (yy)), .int (iI (mm)), .int (iI (dd)), .int (iI (at0)), .ref (rf 1), .ref (rf 2), .ref (rf 3), .ref (rf 4), .ref (rf 5), .ref (rf 6), .int (iI (wa)), .int (iI (on)), .int (iI (tw)), .ref (rf 7), .ref (rf 8), .ref (rf 9), .int (iI (hc))])), (rf 0, .inl (g.2 3, 400, .inl (zaI (zSg tf)))), (rf 7, .inl (g.2 8, 12, .inr (.inr (.inr (.inr (zaR mq)))))), (rf 8, .inl (g.2 8, 7, .inr (.inr (.inr (.inr (zaR wq)))))), (rf 2, .inl (g.2 5, 7, .inr (.inr (.inr (.inr (zaR ta)))))), (ta 3, .inl (g.2 1, 330, .inl (zaB (fun _ => false))))] H := zB_ext (k := 5) hP rfl (fun i hi => hc0.2 i (by omega))
        have hD : va_D A [(qq, .inr (5, [.int (iI (fl)), .ref (rf 0), .int (iI (ln)), .int (iI (pl)), .int (iI (yy)), .int (iI (mm)), .int (iI (dd)), .int (iI (at0)), .ref (rf 1), .ref (rf 2), .ref (rf 3), .ref (rf 4), .ref (rf 5), .ref (rf 6), .int (iI (wa)), .int (iI (on)), .int (iI (tw)), .ref (rf 7), .ref (rf 8), .ref (rf 9), .int (iI (hc))])), (rf 0, .inl (g.2 3, 400, .inl (zaI (zSg tf)))), (rf 7, .inl (g.2 8, 12, .inr (.inr (.inr (.inr (zaR mq)))))), (rf 8, .inl (g.2 8, 7, .inr (.inr (.inr (.inr (zaR wq)))))), (rf 2, .inl (g.2 5, 7, .inr (.inr (.inr (.inr (zaR ta)))))), (ta 3, .inl (g.2 1, 330, .inl (zaB (fun _ => false))))] := zD_ad hD rfl
        refine zi_iconst hx hb zd_Q_items_24 ?_
        refine lv_istore_n (lv' := [(2, .int (iI (1))), (0, .ref (qq)), (1, .int (iI (3)))]) hx hb zd_Q_items_25 rfl hl (by decide) rfl (fun ls hl => ?_)
        refine lv_aload_n hx hb zd_Q_items_26 rfl (lv_at hl 1 rfl) ?_
        refine zk_V (As := []) (b := qq) (own := "CronFinderModel") (nL := 11) (rest := []) hx hb hml hown hw (c_Q_peek l g qq rf (fl) (ln) (pl) (yy) (mm) (dd) (at0) (wa) (on) (tw) (hc) tf hln (by omega) hch) zw_4_39 zw_4_41 zw_0_30 zw_1_7 zw_4_42 (np := 0) (by decide +kernel) rfl ⟨rfl, rfl, Nat.le_of_ble_eq_true rfl, Nat.le_of_ble_eq_true rfl⟩ zN_mv hK trivial (hP.sub (ws' := [(qq, .inr (5, [.int (iI (fl)), .ref (rf 0), .int (iI (ln)), .int (iI (pl)), .int (iI (yy)), .int (iI (mm)), .int (iI (dd)), .int (iI (at0)), .ref (rf 1), .ref (rf 2), .ref (rf 3), .ref (rf 4), .ref (rf 5), .ref (rf 6), .int (iI (wa)), .int (iI (on)), .int (iI (tw)), .ref (rf 7), .ref (rf 8), .ref (rf 9), .int (iI (hc))])), (rf 0, .inl (g.2 3, 400, .inl (zaI (zSg tf))))]) [0, 1] rfl) (va_recv hK hP (ci := 5) (q0 := 0) rfl rfl) hl.1 rfl (Nat.le_of_ble_eq_true rfl) ⟨Nat.zero_le _, Nat.zero_le _⟩ zd_Q_items_27 ?_
        have hk27 := rk_rg tf ln (at0) hch
        refine zi_bipush hx hb zd_Q_items_30 (by decide) ?_
        refine zi_icmp_ne (tgt := 39) hx hb zd_Q_items_32 (by decide) (by omega) (fun c32 => ?_) (fun c32 => ?_)
        · refine zi_iconst hx hb zd_Q_items_39 ?_
          refine lv_istore_n (lv' := [(3, .int (iI (0))), (2, .int (iI (1))), (0, .ref (qq)), (1, .int (iI (3)))]) hx hb zd_Q_items_40 rfl hl (by decide) rfl (fun ls hl => ?_)
          refine va_gets hx hb hT.2.1.1 hS hown (hw _ zw_4_74) (fun _ h9 => h9) zd_Q_items_41 ?_
          refine lv_iload_n hx hb zd_Q_items_44 rfl (lv_at hl 3 rfl) ?_
          refine zi_ti hx hb hT.2.1.2.1 hS (by omega) zd_Q_items_45 ?_
          refine zi_as (fLo 3) (fLoI_n 3) ?_
          refine lv_istore (lv' := [(4, .int (iI (fLo 3))), (3, .int (iI (0))), (2, .int (iI (1))), (0, .ref (qq)), (1, .int (iI (3)))]) hx hb zd_Q_items_46 hl (by decide) rfl (fun ls hl => ?_)
          refine va_gets hx hb hT.2.1.2.2.1 hS hown (hw _ zw_4_76) (fun _ h9 => h9) zd_Q_items_48 ?_
          refine lv_iload_n hx hb zd_Q_items_51 rfl (lv_at hl 4 rfl) ?_
          refine zi_ti hx hb hT.2.1.2.2.2 hS (by omega) zd_Q_items_52 ?_
          refine zi_as (fHi 3) (fHiI_n 3) ?_
          refine lv_istore (lv' := [(5, .int (iI (fHi 3))), (4, .int (iI (fLo 3))), (3, .int (iI (0))), (2, .int (iI (1))), (0, .ref (qq)), (1, .int (iI (3)))]) hx hb zd_Q_items_53 hl (by decide) rfl (fun ls hl => ?_)
          refine zi_iconst hx hb zd_Q_items_55 ?_
          refine lv_istore (lv' := [(6, .int (iI (0))), (5, .int (iI (fHi 3))), (4, .int (iI (fLo 3))), (3, .int (iI (0))), (2, .int (iI (1))), (0, .ref (qq)), (1, .int (iI (3)))]) hx hb zd_Q_items_56 hl (by decide) rfl (fun ls hl => ?_)
          refine lv_iload_n hx hb zd_Q_items_58 rfl (lv_at hl 3 rfl) ?_
          refine zi_if_eq (tgt := 75) hx hb zd_Q_items_59 (by decide) (by omega) (fun _ => ?_) (fun c59 => absurd c59 (by decide))
          refine lv_aload_n hx hb zd_Q_items_75 rfl (lv_at hl 5 rfl) ?_
          refine lv_iload_n hx hb zd_Q_items_76 rfl (lv_at hl 6 rfl) ?_
          by_cases ho77 : vOk 3 tf ln (at0) = true
          · have hv77 := vOk_rg ho77 (by omega) (by decide)
            refine zk_W (As := [.int (iI (3))]) (b := qq) (own := "CronFinderModel") (nL := 11) (rest := []) hx hb hml hown hw (zE_y (c_Q_value l g hl0 qq rf (fl) (ln) (pl) (yy) (mm) (dd) (at0) (wa) (on) (tw) (hc) tf hln (by omega) hch t1 t2 mq mv wq wv 3 (by decide) 0 0 (Or.inl ⟨ho77, rfl, rfl⟩)) ho77) zw_4_78 zw_4_80 zw_0_35 zw_1_7 zw_4_81 (np := 1) (by decide +kernel) rfl ⟨rfl, rfl, Nat.le_of_ble_eq_true rfl, Nat.le_of_ble_eq_true rfl⟩ (zQs_mv t1 t2 mq mv wq wv) hK (zQs_nar (zQs_now hT hS) (va_free hD hS hA [0, 1, 2, 3] rfl)) hP hD hS hA [0, 1, 2, 3] rfl (by decide) rfl (va_recv hK hP (ci := 5) (q0 := 0) rfl rfl) hl.1 rfl (Nat.le_of_ble_eq_true rfl) ⟨Nat.zero_le _, Nat.zero_le _⟩ zd_Q_items_77 (fun H locs hP hD hS => ?_)
            have hP : va_P g.1 zCl [(qq, .inr (5, [.int (iI (fl)), .ref (rf 0), .int (iI (ln)), .int (iI (pl)), .int (iI (yy)), .int (iI (mm)), .int (iI (dd)), .int (iI (vAt 3 tf ln (at0))), .ref (rf 1), .ref (rf 2), .ref (rf 3), .ref (rf 4), .ref (rf 5), .ref (rf 6), .int (iI (wa)), .int (iI (on)), .int (iI (tw)), .ref (rf 7), .ref (rf 8), .ref (rf 9), .int (iI (hc))])), (rf 0, .inl (g.2 3, 400, .inl (zaI (zSg tf)))), (rf 7, .inl (g.2 8, 12, .inr (.inr (.inr (.inr (zaR mq)))))), (rf 8, .inl (g.2 8, 7, .inr (.inr (.inr (.inr (zaR wq)))))), (rf 2, .inl (g.2 5, 7, .inr (.inr (.inr (.inr (zaR ta)))))), (ta 3, .inl (g.2 1, 330, .inl (zaB (fun _ => false))))] H := hP
            have hD : va_D A [(qq, .inr (5, [.int (iI (fl)), .ref (rf 0), .int (iI (ln)), .int (iI (pl)), .int (iI (yy)), .int (iI (mm)), .int (iI (dd)), .int (iI (vAt 3 tf ln (at0))), .ref (rf 1), .ref (rf 2), .ref (rf 3), .ref (rf 4), .ref (rf 5), .ref (rf 6), .int (iI (wa)), .int (iI (on)), .int (iI (tw)), .ref (rf 7), .ref (rf 8), .ref (rf 9), .int (iI (hc))])), (rf 0, .inl (g.2 3, 400, .inl (zaI (zSg tf)))), (rf 7, .inl (g.2 8, 12, .inr (.inr (.inr (.inr (zaR mq)))))), (rf 8, .inl (g.2 8, 7, .inr (.inr (.inr (.inr (zaR wq)))))), (rf 2, .inl (g.2 5, 7, .inr (.inr (.inr (.inr (zaR ta)))))), (ta 3, .inl (g.2 1, 330, .inl (zaB (fun _ => false))))] := hD
            refine lv_istore (lv' := [(4, .int (iI (vVl 3 tf ln (at0)))), (6, .int (iI (0))), (5, .int (iI (fHi 3))), (3, .int (iI (0))), (2, .int (iI (1))), (0, .ref (qq)), (1, .int (iI (3)))]) hx hb zd_Q_items_80 hl (by decide) rfl (fun ls hl => ?_)
            refine lv_iload_n hx hb zd_Q_items_82 rfl (lv_at hl 4 rfl) ?_
            refine zi_if_eq (tgt := 97) hx hb zd_Q_items_83 (by decide) (by omega) (fun c83 => absurd c83 (by decide)) (fun _ => ?_)
            refine lv_aload_n hx hb zd_Q_items_86 rfl (lv_at hl 5 rfl) ?_
            refine lv_iload_n hx hb zd_Q_items_87 rfl (lv_at hl 6 rfl) ?_
            refine lv_iload hx hb zd_Q_items_88 (lv_at hl 0 rfl) ?_
            have hx7 := rk_lt hk (by decide)
            refine zk_W (As := [.int (iI (3)), .int (iI (vVl 3 tf ln (at0)))]) (b := qq) (own := "CronFinderModel") (nL := 11) (rest := []) hx hb hml hown hw (c_Q_sp_W l g qq rf (fl) (ln) (pl) (yy) (mm) (dd) (vAt 3 tf ln (at0)) (wa) (on) (tw) (hc) tf hln (by omega) hch (vVl 3 tf ln (at0)) hk) zw_4_86 zw_4_88 zw_0_36 zw_1_7 zw_4_89 (np := 2) (by decide +kernel) rfl ⟨rfl, rfl, Nat.le_of_ble_eq_true rfl, Nat.le_of_ble_eq_true rfl⟩ (fun _ => zN_mv) hK trivial hP hD hS hA [0, 1] rfl (by decide) rfl (va_recv hK hP (ci := 5) (q0 := 0) rfl rfl) hl.1 rfl (Nat.le_of_ble_eq_true rfl) ⟨Nat.zero_le _, Nat.zero_le _⟩ zd_Q_items_90 (fun H locs hP hD hS => ?_)
            have hP : va_P g.1 zCl [(qq, .inr (5, [.int (iI (fl)), .ref (rf 0), .int (iI (ln)), .int (iI (pl)), .int (iI (yy)), .int (iI (mm)), .int (iI (dd)), .int (iI ((vAt 3 tf ln (at0)) + 1)), .ref (rf 1), .ref (rf 2), .ref (rf 3), .ref (rf 4), .ref (rf 5), .ref (rf 6), .int (iI (4)), .int (iI (vVl 3 tf ln (at0))), .int (iI (tw)), .ref (rf 7), .ref (rf 8), .ref (rf 9), .int (iI (hc))])), (rf 0, .inl (g.2 3, 400, .inl (zaI (zSg tf)))), (rf 7, .inl (g.2 8, 12, .inr (.inr (.inr (.inr (zaR mq)))))), (rf 8, .inl (g.2 8, 7, .inr (.inr (.inr (.inr (zaR wq)))))), (rf 2, .inl (g.2 5, 7, .inr (.inr (.inr (.inr (zaR ta)))))), (ta 3, .inl (g.2 1, 330, .inl (zaB (fun _ => false))))] H := hP
            have hD : va_D A [(qq, .inr (5, [.int (iI (fl)), .ref (rf 0), .int (iI (ln)), .int (iI (pl)), .int (iI (yy)), .int (iI (mm)), .int (iI (dd)), .int (iI ((vAt 3 tf ln (at0)) + 1)), .ref (rf 1), .ref (rf 2), .ref (rf 3), .ref (rf 4), .ref (rf 5), .ref (rf 6), .int (iI (4)), .int (iI (vVl 3 tf ln (at0))), .int (iI (tw)), .ref (rf 7), .ref (rf 8), .ref (rf 9), .int (iI (hc))])), (rf 0, .inl (g.2 3, 400, .inl (zaI (zSg tf)))), (rf 7, .inl (g.2 8, 12, .inr (.inr (.inr (.inr (zaR mq)))))), (rf 8, .inl (g.2 8, 7, .inr (.inr (.inr (.inr (zaR wq)))))), (rf 2, .inl (g.2 5, 7, .inr (.inr (.inr (.inr (zaR ta)))))), (ta 3, .inl (g.2 1, 330, .inl (zaB (fun _ => false))))] := hD
            refine zb_if_eq (tgt := 97) hx hb zd_Q_items_93 (by decide) (fun c93 => by cases c93) (fun _ => ?_)
            have hok9 := trivial
            exact zq_vret hx hb hr hlk (fun _ => 0, fun _ _ => false) hP hS hok9 (zHm_y hmc hok9) zd_Q_items_96
          · exact zk_X (As := [.int (iI (3))]) (b := qq) (own := "CronFinderModel") (nL := 11) (rest := []) hx hb hml hown hw (zE_n (c_Q_value l g hl0 qq rf (fl) (ln) (pl) (yy) (mm) (dd) (at0) (wa) (on) (tw) (hc) tf hln (by omega) hch t1 t2 mq mv wq wv 3 (by decide) 1 6 (Or.inr ⟨ho77, rfl, rfl⟩)) ho77) zw_4_78 zw_4_80 zw_0_35 zw_1_7 zw_4_81 (np := 1) (by decide +kernel) rfl ⟨rfl, rfl, Nat.le_of_ble_eq_true rfl, Nat.le_of_ble_eq_true rfl⟩ (zQs_mv t1 t2 mq mv wq wv) hK (zQs_nar (zQs_now hT hS) (va_free hD hS hA [0, 1, 2, 3] rfl)) hP hD hS hA [0, 1, 2, 3] rfl (by decide) (fun _ => rfl) (va_recv hK hP (ci := 5) (q0 := 0) rfl rfl) hl.1 rfl (Nat.le_of_ble_eq_true rfl) (zHm_1 hmc (absurd hv ho77)) zd_Q_items_77 hno hlk (absurd hv ho77) (fun _ _ _ => absurd hv ho77) (zHm_1 hmc (absurd hv ho77))
        · exact absurd c32 (vOk_ch hv)
      · refine lv_aload_n hx hb zd_Q_items_9 rfl (lv_at hl 1 rfl) ?_
        refine va_get (D := g.1) (ci := 5) (v := .ref (rf 2)) (C := zR_Q) (T := zT_Q) (N := 21) hx hb hw zin_Q hown hK hP 0 rfl rfl 9 (by decide) (hw _ zw_3_207) (fun _ h9 => h9) rfl zd_Q_items_10 ?_
        refine lv_iload_n hx hb zd_Q_items_13 rfl (lv_at hl 2 rfl) ?_
        refine zi_aald (k := 3) hx hb hK hP 4 5 rfl rfl (by omega) rfl zd_Q_items_14 ?_
        refine lv_iload_n hx hb zd_Q_items_15 rfl (lv_at hl 0 rfl) ?_
        refine zi_iconst hx hb zd_Q_items_16 ?_
        refine zb_as (x := false) rfl ?_
        refine zi_zast hx hb hK hP hD hS 5 1 rfl rfl (by omega) zd_Q_items_17 (fun H locs hP hD hS => ?_)
        have hP : va_P g.1 zCl [(qq, .inr (5, [.int (iI (fl)), .ref (rf 0), .int (iI (ln)), .int (iI (pl)), .int (iI (yy)), .int (iI (mm)), .int (iI (dd)), .int (iI (at0)), .ref (rf 1), .ref (rf 2), .ref (rf 3), .ref (rf 4), .ref (rf 5), .ref (rf 6), .int (iI (wa)), .int (iI (on)), .int (iI (tw)), .ref (rf 7), .ref (rf 8), .ref (rf 9), .int (iI (hc))])), (rf 0, .inl (g.2 3, 400, .inl (zaI (zSg tf)))), (rf 7, .inl (g.2 8, 12, .inr (.inr (.inr (.inr (zaR mq)))))), (rf 8, .inl (g.2 8, 7, .inr (.inr (.inr (.inr (zaR wq)))))), (rf 2, .inl (g.2 5, 7, .inr (.inr (.inr (.inr (zaR ta)))))), (ta 3, .inl (g.2 1, 330, .inl (zaB (zu fc (k).toNat (false)))))] H := hP
        have hD : va_D A [(qq, .inr (5, [.int (iI (fl)), .ref (rf 0), .int (iI (ln)), .int (iI (pl)), .int (iI (yy)), .int (iI (mm)), .int (iI (dd)), .int (iI (at0)), .ref (rf 1), .ref (rf 2), .ref (rf 3), .ref (rf 4), .ref (rf 5), .ref (rf 6), .int (iI (wa)), .int (iI (on)), .int (iI (tw)), .ref (rf 7), .ref (rf 8), .ref (rf 9), .int (iI (hc))])), (rf 0, .inl (g.2 3, 400, .inl (zaI (zSg tf)))), (rf 7, .inl (g.2 8, 12, .inr (.inr (.inr (.inr (zaR mq)))))), (rf 8, .inl (g.2 8, 7, .inr (.inr (.inr (.inr (zaR wq)))))), (rf 2, .inl (g.2 5, 7, .inr (.inr (.inr (.inr (zaR ta)))))), (ta 3, .inl (g.2 1, 330, .inl (zaB (zu fc (k).toNat (false)))))] := hD
        refine lv_iinc (v := iI (k + 1)) (lv' := [(2, .int (iI (k + 1))), (0, .ref (qq)), (1, .int (iI (3)))]) hx hb zd_Q_items_18 hl (k := 0) rfl (iI_add _ _) (by decide) rfl (fun ls hl => ?_)
        refine lv_goto (tgt := 2) hx hb zd_Q_items_21 (by decide) ?_
        exact ihc (k + 1) (zu fc k.toNat false) H locs ls ⟨by omega, oCl_nx hc0.2 (by omega)⟩ (by omega) hP hD hS (lv_sub hl [0, 1, 2] rfl)
  exact loopc 331 0 f0 s.heap [] ls ⟨by omega, fun i hi => absurd hi (by omega)⟩ (by omega) hP hD hS (lv_sub hl [0, 1, 2] rfl)
set_option maxHeartbeats 4000000 in
set_option maxRecDepth 100000 in
theorem c_Q_it_L (l : Launch) (g : zGl) (hl0 : l.stackTraces = false) (qq : Nat) (rf : Nat → Nat) (fl ln pl yy mm dd at0 wa on tw hc : Int) (tf : Nat → Int) (hln : 0 ≤ ln ∧ ln ≤ 400) (hat : 0 ≤ at0 ∧ at0 ≤ ln) (hch : ∀ j : Nat, 0 ≤ tf j ∧ tf j < 256) (t1 t2 : Nat) (mq mv wq wv : Nat → Nat) (ta : Nat → Nat) (f0 : Nat → Bool) (hv : vOk 5 tf ln at0 = true) (hk : rk tf ln (vAt 5 tf ln at0) = 76) (mc ms : Nat) (hmc : zHm (True) mc ms) : zEi l zy_Q_items zc_Q_items 11 none ({ frames := 9, cells := mc, slots := ms, locals := 190 }) g (zQs t1 t2 mq mv wq wv) [.ref (qq), .int (iI (5))] [(qq, .inr (5, [.int (iI (fl)), .ref (rf 0), .int (iI (ln)), .int (iI (pl)), .int (iI (yy)), .int (iI (mm)), .int (iI (dd)), .int (iI (at0)), .ref (rf 1), .ref (rf 2), .ref (rf 3), .ref (rf 4), .ref (rf 5), .ref (rf 6), .int (iI (wa)), .int (iI (on)), .int (iI (tw)), .ref (rf 7), .ref (rf 8), .ref (rf 9), .int (iI (hc))])), (rf 0, .inl (g.2 3, 400, .inl (zaI (zSg tf)))), (rf 7, .inl (g.2 8, 12, .inr (.inr (.inr (.inr (zaR mq)))))), (rf 8, .inl (g.2 8, 7, .inr (.inr (.inr (.inr (zaR wq)))))), (rf 2, .inl (g.2 5, 7, .inr (.inr (.inr (.inr (zaR ta)))))), (ta 5, .inl (g.2 1, 330, .inl (zaB f0)))] (True) (none) (fun _ => [(qq, .inr (5, [.int (iI (fl)), .ref (rf 0), .int (iI (ln)), .int (iI (pl)), .int (iI (yy)), .int (iI (mm)), .int (iI (dd)), .int (iI (vAt 5 tf ln at0 + 1)), .ref (rf 1), .ref (rf 2), .ref (rf 3), .ref (rf 4), .ref (rf 5), .ref (rf 6), .int (iI (5)), .int (iI (vVl 5 tf ln at0)), .int (iI (tw)), .ref (rf 7), .ref (rf 8), .ref (rf 9), .int (iI (hc))])), (rf 0, .inl (g.2 3, 400, .inl (zaI (zSg tf)))), (rf 7, .inl (g.2 8, 12, .inr (.inr (.inr (.inr (zaR mq)))))), (rf 8, .inl (g.2 8, 7, .inr (.inr (.inr (.inr (zaR wq)))))), (rf 2, .inl (g.2 5, 7, .inr (.inr (.inr (.inr (zaR ta)))))), (ta 5, .inl (g.2 1, 330, .inl (zaB (fun _ => false))))]) "java/lang/UnsupportedOperationException" (fun u => [(qq, .inr (5, [.int (iI (fl)), .ref (rf 0), .int (iI (ln)), .int (iI (pl)), .int (iI (yy)), .int (iI (mm)), .int (iI (dd)), .int (iI (u.1 0)), .ref (rf 1), .ref (rf 2), .ref (rf 3), .ref (rf 4), .ref (rf 5), .ref (rf 6), .int (iI (wa)), .int (iI (on)), .int (iI (tw)), .ref (rf 7), .ref (rf 8), .ref (rf 9), .int (iI (hc))])), (rf 0, .inl (g.2 3, 400, .inl (zaI (zSg tf)))), (rf 7, .inl (g.2 8, 12, .inr (.inr (.inr (.inr (zaR mq)))))), (rf 8, .inl (g.2 8, 7, .inr (.inr (.inr (.inr (zaR wq)))))), (rf 2, .inl (g.2 5, 7, .inr (.inr (.inr (.inr (zaR ta)))))), (ta 5, .inl (g.2 1, 330, .inl (zaB (u.2 0))))]) mc ms := by
  refine ze_open (by decide +kernel) (Nat.le_of_ble_eq_true rfl) ?_
  intro p e s m below meth c ls A hx hb hml hr hno hlk hown hw hK hT hP hD hS hA hl
  have hown : s.vm.findClass "CronFinderModel" = some m.cls := hown
  have hl : lv_has ls 11 [(0, .ref (qq)), (1, .int (iI (5)))] := hl
  refine zi_iconst hx hb zd_Q_items_0 ?_
  refine lv_istore_n (lv' := [(2, .int (iI (0))), (0, .ref (qq)), (1, .int (iI (5)))]) hx hb zd_Q_items_1 rfl hl (by decide) rfl (fun ls hl => ?_)
  have hLH := fLH (j := 5) (by decide)
  have loopc : ∀ (nc : Nat) (k : Int) (fc : Nat → Bool) (H : Heap) (locs : List Loc) (ls : Array Slot), ((0 ≤ k ∧ k ≤ 330) ∧ ∀ i : Nat, (i : Int) < k → fc i = false) → ((330 - k).toNat < nc) → va_P g.1 zCl [(qq, .inr (5, [.int (iI (fl)), .ref (rf 0), .int (iI (ln)), .int (iI (pl)), .int (iI (yy)), .int (iI (mm)), .int (iI (dd)), .int (iI (at0)), .ref (rf 1), .ref (rf 2), .ref (rf 3), .ref (rf 4), .ref (rf 5), .ref (rf 6), .int (iI (wa)), .int (iI (on)), .int (iI (tw)), .ref (rf 7), .ref (rf 8), .ref (rf 9), .int (iI (hc))])), (rf 0, .inl (g.2 3, 400, .inl (zaI (zSg tf)))), (rf 7, .inl (g.2 8, 12, .inr (.inr (.inr (.inr (zaR mq)))))), (rf 8, .inl (g.2 8, 7, .inr (.inr (.inr (.inr (zaR wq)))))), (rf 2, .inl (g.2 5, 7, .inr (.inr (.inr (.inr (zaR ta)))))), (ta 5, .inl (g.2 1, 330, .inl (zaB fc)))] H → va_D A [(qq, .inr (5, [.int (iI (fl)), .ref (rf 0), .int (iI (ln)), .int (iI (pl)), .int (iI (yy)), .int (iI (mm)), .int (iI (dd)), .int (iI (at0)), .ref (rf 1), .ref (rf 2), .ref (rf 3), .ref (rf 4), .ref (rf 5), .ref (rf 6), .int (iI (wa)), .int (iI (on)), .int (iI (tw)), .ref (rf 7), .ref (rf 8), .ref (rf 9), .int (iI (hc))])), (rf 0, .inl (g.2 3, 400, .inl (zaI (zSg tf)))), (rf 7, .inl (g.2 8, 12, .inr (.inr (.inr (.inr (zaR mq)))))), (rf 8, .inl (g.2 8, 7, .inr (.inr (.inr (.inr (zaR wq)))))), (rf 2, .inl (g.2 5, 7, .inr (.inr (.inr (.inr (zaR ta)))))), (ta 5, .inl (g.2 1, 330, .inl (zaB fc)))] → va_S A s.heap H locs → lv_has ls 11 [(2, .int (iI (k))), (0, .ref (qq)), (1, .int (iI (5)))] → W p l e ({ frames := 9, cells := mc, slots := ms, locals := 190 }) s m [.ref (qq), .int (iI (5))].toArray below meth c H locs 0 0 (vx_MQ below (zQC g (True) (none) (fun _ => [(qq, .inr (5, [.int (iI (fl)), .ref (rf 0), .int (iI (ln)), .int (iI (pl)), .int (iI (yy)), .int (iI (mm)), .int (iI (dd)), .int (iI (vAt 5 tf ln at0 + 1)), .ref (rf 1), .ref (rf 2), .ref (rf 3), .ref (rf 4), .ref (rf 5), .ref (rf 6), .int (iI (5)), .int (iI (vVl 5 tf ln at0)), .int (iI (tw)), .ref (rf 7), .ref (rf 8), .ref (rf 9), .int (iI (hc))])), (rf 0, .inl (g.2 3, 400, .inl (zaI (zSg tf)))), (rf 7, .inl (g.2 8, 12, .inr (.inr (.inr (.inr (zaR mq)))))), (rf 8, .inl (g.2 8, 7, .inr (.inr (.inr (.inr (zaR wq)))))), (rf 2, .inl (g.2 5, 7, .inr (.inr (.inr (.inr (zaR ta)))))), (ta 5, .inl (g.2 1, 330, .inl (zaB (fun _ => false))))]) A) (zXC g (True) "java/lang/UnsupportedOperationException" (fun u => [(qq, .inr (5, [.int (iI (fl)), .ref (rf 0), .int (iI (ln)), .int (iI (pl)), .int (iI (yy)), .int (iI (mm)), .int (iI (dd)), .int (iI (u.1 0)), .ref (rf 1), .ref (rf 2), .ref (rf 3), .ref (rf 4), .ref (rf 5), .ref (rf 6), .int (iI (wa)), .int (iI (on)), .int (iI (tw)), .ref (rf 7), .ref (rf 8), .ref (rf 9), .int (iI (hc))])), (rf 0, .inl (g.2 3, 400, .inl (zaI (zSg tf)))), (rf 7, .inl (g.2 8, 12, .inr (.inr (.inr (.inr (zaR mq)))))), (rf 8, .inl (g.2 8, 7, .inr (.inr (.inr (.inr (zaR wq)))))), (rf 2, .inl (g.2 5, 7, .inr (.inr (.inr (.inr (zaR ta)))))), (ta 5, .inl (g.2 1, 330, .inl (zaB (u.2 0))))]) A) [.ref (qq), .int (iI (5))].toArray s mc ms A) (F0 m 2 ls []) := by
    intro nc
    induction nc with
    | zero =>
      intro k fc H locs ls hc0 hc2 hP hD hS hl
      exact absurd hc2 (by omega)
    | succ nc ihc =>
      intro k fc H locs ls hc0 hc2 hP hD hS hl
      refine lv_iload_n hx hb zd_Q_items_2 rfl (lv_at hl 0 rfl) ?_
      refine zi_sipush hx hb zd_Q_items_3 (by decide) ?_
      refine zi_icmp_ge (tgt := 24) hx hb zd_Q_items_6 (by decide) (by omega) (fun c6 => ?_) (fun c6 => ?_)
      · have hP : va_P g.1 zCl [(qq, .inr (5, [.int (iI (fl)), .ref (rf 0), .int (iI (ln)), .int (iI (pl)), .int (iI (yy)), .int (iI (mm)), .int (iI (dd)), .int (iI (at0)), .ref (rf 1), .ref (rf 2), .ref (rf 3), .ref (rf 4), .ref (rf 5), .ref (rf 6), .int (iI (wa)), .int (iI (on)), .int (iI (tw)), .ref (rf 7), .ref (rf 8), .ref (rf 9), .int (iI (hc))])), (rf 0, .inl (g.2 3, 400, .inl (zaI (zSg tf)))), (rf 7, .inl (g.2 8, 12, .inr (.inr (.inr (.inr (zaR mq)))))), (rf 8, .inl (g.2 8, 7, .inr (.inr (.inr (.inr (zaR wq)))))), (rf 2, .inl (g.2 5, 7, .inr (.inr (.inr (.inr (zaR ta)))))), (ta 5, .inl (g.2 1, 330, .inl (zaB (fun _ => false))))] H := zB_ext (k := 5) hP rfl (fun i hi => hc0.2 i (by omega))
        have hD : va_D A [(qq, .inr (5, [.int (iI (fl)), .ref (rf 0), .int (iI (ln)), .int (iI (pl)), .int (iI (yy)), .int (iI (mm)), .int (iI (dd)), .int (iI (at0)), .ref (rf 1), .ref (rf 2), .ref (rf 3), .ref (rf 4), .ref (rf 5), .ref (rf 6), .int (iI (wa)), .int (iI (on)), .int (iI (tw)), .ref (rf 7), .ref (rf 8), .ref (rf 9), .int (iI (hc))])), (rf 0, .inl (g.2 3, 400, .inl (zaI (zSg tf)))), (rf 7, .inl (g.2 8, 12, .inr (.inr (.inr (.inr (zaR mq)))))), (rf 8, .inl (g.2 8, 7, .inr (.inr (.inr (.inr (zaR wq)))))), (rf 2, .inl (g.2 5, 7, .inr (.inr (.inr (.inr (zaR ta)))))), (ta 5, .inl (g.2 1, 330, .inl (zaB (fun _ => false))))] := zD_ad hD rfl
        refine zi_iconst hx hb zd_Q_items_24 ?_
        refine lv_istore_n (lv' := [(2, .int (iI (1))), (0, .ref (qq)), (1, .int (iI (5)))]) hx hb zd_Q_items_25 rfl hl (by decide) rfl (fun ls hl => ?_)
        refine lv_aload_n hx hb zd_Q_items_26 rfl (lv_at hl 1 rfl) ?_
        refine zk_V (As := []) (b := qq) (own := "CronFinderModel") (nL := 11) (rest := []) hx hb hml hown hw (c_Q_peek l g qq rf (fl) (ln) (pl) (yy) (mm) (dd) (at0) (wa) (on) (tw) (hc) tf hln (by omega) hch) zw_4_39 zw_4_41 zw_0_30 zw_1_7 zw_4_42 (np := 0) (by decide +kernel) rfl ⟨rfl, rfl, Nat.le_of_ble_eq_true rfl, Nat.le_of_ble_eq_true rfl⟩ zN_mv hK trivial (hP.sub (ws' := [(qq, .inr (5, [.int (iI (fl)), .ref (rf 0), .int (iI (ln)), .int (iI (pl)), .int (iI (yy)), .int (iI (mm)), .int (iI (dd)), .int (iI (at0)), .ref (rf 1), .ref (rf 2), .ref (rf 3), .ref (rf 4), .ref (rf 5), .ref (rf 6), .int (iI (wa)), .int (iI (on)), .int (iI (tw)), .ref (rf 7), .ref (rf 8), .ref (rf 9), .int (iI (hc))])), (rf 0, .inl (g.2 3, 400, .inl (zaI (zSg tf))))]) [0, 1] rfl) (va_recv hK hP (ci := 5) (q0 := 0) rfl rfl) hl.1 rfl (Nat.le_of_ble_eq_true rfl) ⟨Nat.zero_le _, Nat.zero_le _⟩ zd_Q_items_27 ?_
        have hk27 := rk_rg tf ln (at0) hch
        refine zi_bipush hx hb zd_Q_items_30 (by decide) ?_
        refine zi_icmp_ne (tgt := 39) hx hb zd_Q_items_32 (by decide) (by omega) (fun c32 => ?_) (fun c32 => ?_)
        · refine zi_iconst hx hb zd_Q_items_39 ?_
          refine lv_istore_n (lv' := [(3, .int (iI (0))), (2, .int (iI (1))), (0, .ref (qq)), (1, .int (iI (5)))]) hx hb zd_Q_items_40 rfl hl (by decide) rfl (fun ls hl => ?_)
          refine va_gets hx hb hT.2.1.1 hS hown (hw _ zw_4_74) (fun _ h9 => h9) zd_Q_items_41 ?_
          refine lv_iload_n hx hb zd_Q_items_44 rfl (lv_at hl 3 rfl) ?_
          refine zi_ti hx hb hT.2.1.2.1 hS (by omega) zd_Q_items_45 ?_
          refine zi_as (fLo 5) (fLoI_n 5) ?_
          refine lv_istore (lv' := [(4, .int (iI (fLo 5))), (3, .int (iI (0))), (2, .int (iI (1))), (0, .ref (qq)), (1, .int (iI (5)))]) hx hb zd_Q_items_46 hl (by decide) rfl (fun ls hl => ?_)
          refine va_gets hx hb hT.2.1.2.2.1 hS hown (hw _ zw_4_76) (fun _ h9 => h9) zd_Q_items_48 ?_
          refine lv_iload_n hx hb zd_Q_items_51 rfl (lv_at hl 4 rfl) ?_
          refine zi_ti hx hb hT.2.1.2.2.2 hS (by omega) zd_Q_items_52 ?_
          refine zi_as (fHi 5) (fHiI_n 5) ?_
          refine lv_istore (lv' := [(5, .int (iI (fHi 5))), (4, .int (iI (fLo 5))), (3, .int (iI (0))), (2, .int (iI (1))), (0, .ref (qq)), (1, .int (iI (5)))]) hx hb zd_Q_items_53 hl (by decide) rfl (fun ls hl => ?_)
          refine zi_iconst hx hb zd_Q_items_55 ?_
          refine lv_istore (lv' := [(6, .int (iI (0))), (5, .int (iI (fHi 5))), (4, .int (iI (fLo 5))), (3, .int (iI (0))), (2, .int (iI (1))), (0, .ref (qq)), (1, .int (iI (5)))]) hx hb zd_Q_items_56 hl (by decide) rfl (fun ls hl => ?_)
          refine lv_iload_n hx hb zd_Q_items_58 rfl (lv_at hl 3 rfl) ?_
          refine zi_if_eq (tgt := 75) hx hb zd_Q_items_59 (by decide) (by omega) (fun _ => ?_) (fun c59 => absurd c59 (by decide))
          refine lv_aload_n hx hb zd_Q_items_75 rfl (lv_at hl 5 rfl) ?_
          refine lv_iload_n hx hb zd_Q_items_76 rfl (lv_at hl 6 rfl) ?_
          by_cases ho77 : vOk 5 tf ln (at0) = true
          · have hv77 := vOk_rg ho77 (by omega) (by decide)
            refine zk_W (As := [.int (iI (5))]) (b := qq) (own := "CronFinderModel") (nL := 11) (rest := []) hx hb hml hown hw (zE_y (c_Q_value l g hl0 qq rf (fl) (ln) (pl) (yy) (mm) (dd) (at0) (wa) (on) (tw) (hc) tf hln (by omega) hch t1 t2 mq mv wq wv 5 (by decide) 0 0 (Or.inl ⟨ho77, rfl, rfl⟩)) ho77) zw_4_78 zw_4_80 zw_0_35 zw_1_7 zw_4_81 (np := 1) (by decide +kernel) rfl ⟨rfl, rfl, Nat.le_of_ble_eq_true rfl, Nat.le_of_ble_eq_true rfl⟩ (zQs_mv t1 t2 mq mv wq wv) hK (zQs_nar (zQs_now hT hS) (va_free hD hS hA [0, 1, 2, 3] rfl)) hP hD hS hA [0, 1, 2, 3] rfl (by decide) rfl (va_recv hK hP (ci := 5) (q0 := 0) rfl rfl) hl.1 rfl (Nat.le_of_ble_eq_true rfl) ⟨Nat.zero_le _, Nat.zero_le _⟩ zd_Q_items_77 (fun H locs hP hD hS => ?_)
            have hP : va_P g.1 zCl [(qq, .inr (5, [.int (iI (fl)), .ref (rf 0), .int (iI (ln)), .int (iI (pl)), .int (iI (yy)), .int (iI (mm)), .int (iI (dd)), .int (iI (vAt 5 tf ln (at0))), .ref (rf 1), .ref (rf 2), .ref (rf 3), .ref (rf 4), .ref (rf 5), .ref (rf 6), .int (iI (wa)), .int (iI (on)), .int (iI (tw)), .ref (rf 7), .ref (rf 8), .ref (rf 9), .int (iI (hc))])), (rf 0, .inl (g.2 3, 400, .inl (zaI (zSg tf)))), (rf 7, .inl (g.2 8, 12, .inr (.inr (.inr (.inr (zaR mq)))))), (rf 8, .inl (g.2 8, 7, .inr (.inr (.inr (.inr (zaR wq)))))), (rf 2, .inl (g.2 5, 7, .inr (.inr (.inr (.inr (zaR ta)))))), (ta 5, .inl (g.2 1, 330, .inl (zaB (fun _ => false))))] H := hP
            have hD : va_D A [(qq, .inr (5, [.int (iI (fl)), .ref (rf 0), .int (iI (ln)), .int (iI (pl)), .int (iI (yy)), .int (iI (mm)), .int (iI (dd)), .int (iI (vAt 5 tf ln (at0))), .ref (rf 1), .ref (rf 2), .ref (rf 3), .ref (rf 4), .ref (rf 5), .ref (rf 6), .int (iI (wa)), .int (iI (on)), .int (iI (tw)), .ref (rf 7), .ref (rf 8), .ref (rf 9), .int (iI (hc))])), (rf 0, .inl (g.2 3, 400, .inl (zaI (zSg tf)))), (rf 7, .inl (g.2 8, 12, .inr (.inr (.inr (.inr (zaR mq)))))), (rf 8, .inl (g.2 8, 7, .inr (.inr (.inr (.inr (zaR wq)))))), (rf 2, .inl (g.2 5, 7, .inr (.inr (.inr (.inr (zaR ta)))))), (ta 5, .inl (g.2 1, 330, .inl (zaB (fun _ => false))))] := hD
            refine lv_istore (lv' := [(4, .int (iI (vVl 5 tf ln (at0)))), (6, .int (iI (0))), (5, .int (iI (fHi 5))), (3, .int (iI (0))), (2, .int (iI (1))), (0, .ref (qq)), (1, .int (iI (5)))]) hx hb zd_Q_items_80 hl (by decide) rfl (fun ls hl => ?_)
            refine lv_iload_n hx hb zd_Q_items_82 rfl (lv_at hl 4 rfl) ?_
            refine zi_if_eq (tgt := 97) hx hb zd_Q_items_83 (by decide) (by omega) (fun c83 => absurd c83 (by decide)) (fun _ => ?_)
            refine lv_aload_n hx hb zd_Q_items_86 rfl (lv_at hl 5 rfl) ?_
            refine lv_iload_n hx hb zd_Q_items_87 rfl (lv_at hl 6 rfl) ?_
            refine lv_iload hx hb zd_Q_items_88 (lv_at hl 0 rfl) ?_
            have hx7 := rk_lt hk (by decide)
            refine zk_W (As := [.int (iI (5)), .int (iI (vVl 5 tf ln (at0)))]) (b := qq) (own := "CronFinderModel") (nL := 11) (rest := []) hx hb hml hown hw (c_Q_sp_L l g qq rf (fl) (ln) (pl) (yy) (mm) (dd) (vAt 5 tf ln (at0)) (wa) (on) (tw) (hc) tf hln (by omega) hch (vVl 5 tf ln (at0)) hk) zw_4_86 zw_4_88 zw_0_36 zw_1_7 zw_4_89 (np := 2) (by decide +kernel) rfl ⟨rfl, rfl, Nat.le_of_ble_eq_true rfl, Nat.le_of_ble_eq_true rfl⟩ (fun _ => zN_mv) hK trivial hP hD hS hA [0, 1] rfl (by decide) rfl (va_recv hK hP (ci := 5) (q0 := 0) rfl rfl) hl.1 rfl (Nat.le_of_ble_eq_true rfl) ⟨Nat.zero_le _, Nat.zero_le _⟩ zd_Q_items_90 (fun H locs hP hD hS => ?_)
            have hP : va_P g.1 zCl [(qq, .inr (5, [.int (iI (fl)), .ref (rf 0), .int (iI (ln)), .int (iI (pl)), .int (iI (yy)), .int (iI (mm)), .int (iI (dd)), .int (iI ((vAt 5 tf ln (at0)) + 1)), .ref (rf 1), .ref (rf 2), .ref (rf 3), .ref (rf 4), .ref (rf 5), .ref (rf 6), .int (iI (5)), .int (iI (vVl 5 tf ln (at0))), .int (iI (tw)), .ref (rf 7), .ref (rf 8), .ref (rf 9), .int (iI (hc))])), (rf 0, .inl (g.2 3, 400, .inl (zaI (zSg tf)))), (rf 7, .inl (g.2 8, 12, .inr (.inr (.inr (.inr (zaR mq)))))), (rf 8, .inl (g.2 8, 7, .inr (.inr (.inr (.inr (zaR wq)))))), (rf 2, .inl (g.2 5, 7, .inr (.inr (.inr (.inr (zaR ta)))))), (ta 5, .inl (g.2 1, 330, .inl (zaB (fun _ => false))))] H := hP
            have hD : va_D A [(qq, .inr (5, [.int (iI (fl)), .ref (rf 0), .int (iI (ln)), .int (iI (pl)), .int (iI (yy)), .int (iI (mm)), .int (iI (dd)), .int (iI ((vAt 5 tf ln (at0)) + 1)), .ref (rf 1), .ref (rf 2), .ref (rf 3), .ref (rf 4), .ref (rf 5), .ref (rf 6), .int (iI (5)), .int (iI (vVl 5 tf ln (at0))), .int (iI (tw)), .ref (rf 7), .ref (rf 8), .ref (rf 9), .int (iI (hc))])), (rf 0, .inl (g.2 3, 400, .inl (zaI (zSg tf)))), (rf 7, .inl (g.2 8, 12, .inr (.inr (.inr (.inr (zaR mq)))))), (rf 8, .inl (g.2 8, 7, .inr (.inr (.inr (.inr (zaR wq)))))), (rf 2, .inl (g.2 5, 7, .inr (.inr (.inr (.inr (zaR ta)))))), (ta 5, .inl (g.2 1, 330, .inl (zaB (fun _ => false))))] := hD
            refine zb_if_eq (tgt := 97) hx hb zd_Q_items_93 (by decide) (fun c93 => by cases c93) (fun _ => ?_)
            have hok9 := trivial
            exact zq_vret hx hb hr hlk (fun _ => 0, fun _ _ => false) hP hS hok9 (zHm_y hmc hok9) zd_Q_items_96
          · exact zk_X (As := [.int (iI (5))]) (b := qq) (own := "CronFinderModel") (nL := 11) (rest := []) hx hb hml hown hw (zE_n (c_Q_value l g hl0 qq rf (fl) (ln) (pl) (yy) (mm) (dd) (at0) (wa) (on) (tw) (hc) tf hln (by omega) hch t1 t2 mq mv wq wv 5 (by decide) 1 6 (Or.inr ⟨ho77, rfl, rfl⟩)) ho77) zw_4_78 zw_4_80 zw_0_35 zw_1_7 zw_4_81 (np := 1) (by decide +kernel) rfl ⟨rfl, rfl, Nat.le_of_ble_eq_true rfl, Nat.le_of_ble_eq_true rfl⟩ (zQs_mv t1 t2 mq mv wq wv) hK (zQs_nar (zQs_now hT hS) (va_free hD hS hA [0, 1, 2, 3] rfl)) hP hD hS hA [0, 1, 2, 3] rfl (by decide) (fun _ => rfl) (va_recv hK hP (ci := 5) (q0 := 0) rfl rfl) hl.1 rfl (Nat.le_of_ble_eq_true rfl) (zHm_1 hmc (absurd hv ho77)) zd_Q_items_77 hno hlk (absurd hv ho77) (fun _ _ _ => absurd hv ho77) (zHm_1 hmc (absurd hv ho77))
        · exact absurd c32 (vOk_ch hv)
      · refine lv_aload_n hx hb zd_Q_items_9 rfl (lv_at hl 1 rfl) ?_
        refine va_get (D := g.1) (ci := 5) (v := .ref (rf 2)) (C := zR_Q) (T := zT_Q) (N := 21) hx hb hw zin_Q hown hK hP 0 rfl rfl 9 (by decide) (hw _ zw_3_207) (fun _ h9 => h9) rfl zd_Q_items_10 ?_
        refine lv_iload_n hx hb zd_Q_items_13 rfl (lv_at hl 2 rfl) ?_
        refine zi_aald (k := 5) hx hb hK hP 4 5 rfl rfl (by omega) rfl zd_Q_items_14 ?_
        refine lv_iload_n hx hb zd_Q_items_15 rfl (lv_at hl 0 rfl) ?_
        refine zi_iconst hx hb zd_Q_items_16 ?_
        refine zb_as (x := false) rfl ?_
        refine zi_zast hx hb hK hP hD hS 5 1 rfl rfl (by omega) zd_Q_items_17 (fun H locs hP hD hS => ?_)
        have hP : va_P g.1 zCl [(qq, .inr (5, [.int (iI (fl)), .ref (rf 0), .int (iI (ln)), .int (iI (pl)), .int (iI (yy)), .int (iI (mm)), .int (iI (dd)), .int (iI (at0)), .ref (rf 1), .ref (rf 2), .ref (rf 3), .ref (rf 4), .ref (rf 5), .ref (rf 6), .int (iI (wa)), .int (iI (on)), .int (iI (tw)), .ref (rf 7), .ref (rf 8), .ref (rf 9), .int (iI (hc))])), (rf 0, .inl (g.2 3, 400, .inl (zaI (zSg tf)))), (rf 7, .inl (g.2 8, 12, .inr (.inr (.inr (.inr (zaR mq)))))), (rf 8, .inl (g.2 8, 7, .inr (.inr (.inr (.inr (zaR wq)))))), (rf 2, .inl (g.2 5, 7, .inr (.inr (.inr (.inr (zaR ta)))))), (ta 5, .inl (g.2 1, 330, .inl (zaB (zu fc (k).toNat (false)))))] H := hP
        have hD : va_D A [(qq, .inr (5, [.int (iI (fl)), .ref (rf 0), .int (iI (ln)), .int (iI (pl)), .int (iI (yy)), .int (iI (mm)), .int (iI (dd)), .int (iI (at0)), .ref (rf 1), .ref (rf 2), .ref (rf 3), .ref (rf 4), .ref (rf 5), .ref (rf 6), .int (iI (wa)), .int (iI (on)), .int (iI (tw)), .ref (rf 7), .ref (rf 8), .ref (rf 9), .int (iI (hc))])), (rf 0, .inl (g.2 3, 400, .inl (zaI (zSg tf)))), (rf 7, .inl (g.2 8, 12, .inr (.inr (.inr (.inr (zaR mq)))))), (rf 8, .inl (g.2 8, 7, .inr (.inr (.inr (.inr (zaR wq)))))), (rf 2, .inl (g.2 5, 7, .inr (.inr (.inr (.inr (zaR ta)))))), (ta 5, .inl (g.2 1, 330, .inl (zaB (zu fc (k).toNat (false)))))] := hD
        refine lv_iinc (v := iI (k + 1)) (lv' := [(2, .int (iI (k + 1))), (0, .ref (qq)), (1, .int (iI (5)))]) hx hb zd_Q_items_18 hl (k := 0) rfl (iI_add _ _) (by decide) rfl (fun ls hl => ?_)
        refine lv_goto (tgt := 2) hx hb zd_Q_items_21 (by decide) ?_
        exact ihc (k + 1) (zu fc k.toNat false) H locs ls ⟨by omega, oCl_nx hc0.2 (by omega)⟩ (by omega) hP hD hS (lv_sub hl [0, 1, 2] rfl)
  exact loopc 331 0 f0 s.heap [] ls ⟨by omega, fun i hi => absurd hi (by omega)⟩ (by omega) hP hD hS (lv_sub hl [0, 1, 2] rfl)
set_option maxHeartbeats 4000000 in
set_option maxRecDepth 100000 in
theorem c_Q_it_o (l : Launch) (g : zGl) (hl0 : l.stackTraces = false) (qq : Nat) (rf : Nat → Nat) (fl ln pl yy mm dd at0 wa on tw hc : Int) (tf : Nat → Int) (hln : 0 ≤ ln ∧ ln ≤ 400) (hat : 0 ≤ at0 ∧ at0 ≤ ln) (hch : ∀ j : Nat, 0 ≤ tf j ∧ tf j < 256) (t1 t2 : Nat) (mq mv wq wv : Nat → Nat) (ta : Nat → Nat) (f0 : Nat → Bool) (hv : vOk 5 tf ln at0 = true) (hk : rk tf ln (vAt 5 tf ln at0) = 35) (mc ms : Nat) (hmc : zHm (rNm tf ln 1 5 (vAt 5 tf ln at0 + 1)) mc ms) : zEi l zy_Q_items zc_Q_items 11 none ({ frames := 9, cells := mc, slots := ms, locals := 190 }) g (zQs t1 t2 mq mv wq wv) [.ref (qq), .int (iI (5))] [(qq, .inr (5, [.int (iI (fl)), .ref (rf 0), .int (iI (ln)), .int (iI (pl)), .int (iI (yy)), .int (iI (mm)), .int (iI (dd)), .int (iI (at0)), .ref (rf 1), .ref (rf 2), .ref (rf 3), .ref (rf 4), .ref (rf 5), .ref (rf 6), .int (iI (wa)), .int (iI (on)), .int (iI (tw)), .ref (rf 7), .ref (rf 8), .ref (rf 9), .int (iI (hc))])), (rf 0, .inl (g.2 3, 400, .inl (zaI (zSg tf)))), (rf 7, .inl (g.2 8, 12, .inr (.inr (.inr (.inr (zaR mq)))))), (rf 8, .inl (g.2 8, 7, .inr (.inr (.inr (.inr (zaR wq)))))), (rf 2, .inl (g.2 5, 7, .inr (.inr (.inr (.inr (zaR ta)))))), (ta 5, .inl (g.2 1, 330, .inl (zaB f0)))] (rNm tf ln 1 5 (vAt 5 tf ln at0 + 1)) (none) (fun _ => [(qq, .inr (5, [.int (iI (fl)), .ref (rf 0), .int (iI (ln)), .int (iI (pl)), .int (iI (yy)), .int (iI (mm)), .int (iI (dd)), .int (iI ((num tf ln (vAt 5 tf ln at0 + 1)).1)), .ref (rf 1), .ref (rf 2), .ref (rf 3), .ref (rf 4), .ref (rf 5), .ref (rf 6), .int (iI (6)), .int (iI (vVl 5 tf ln at0)), .int (iI ((num tf ln (vAt 5 tf ln at0 + 1)).2)), .ref (rf 7), .ref (rf 8), .ref (rf 9), .int (iI (hc))])), (rf 0, .inl (g.2 3, 400, .inl (zaI (zSg tf)))), (rf 7, .inl (g.2 8, 12, .inr (.inr (.inr (.inr (zaR mq)))))), (rf 8, .inl (g.2 8, 7, .inr (.inr (.inr (.inr (zaR wq)))))), (rf 2, .inl (g.2 5, 7, .inr (.inr (.inr (.inr (zaR ta)))))), (ta 5, .inl (g.2 1, 330, .inl (zaB (fun _ => false))))]) "java/lang/UnsupportedOperationException" (fun u => [(qq, .inr (5, [.int (iI (fl)), .ref (rf 0), .int (iI (ln)), .int (iI (vAt 5 tf ln at0 + 1)), .int (iI (yy)), .int (iI (mm)), .int (iI (dd)), .int (iI (u.1 0)), .ref (rf 1), .ref (rf 2), .ref (rf 3), .ref (rf 4), .ref (rf 5), .ref (rf 6), .int (iI (6)), .int (iI (vVl 5 tf ln at0)), .int (iI (tw)), .ref (rf 7), .ref (rf 8), .ref (rf 9), .int (iI (hc))])), (rf 0, .inl (g.2 3, 400, .inl (zaI (zSg tf)))), (rf 7, .inl (g.2 8, 12, .inr (.inr (.inr (.inr (zaR mq)))))), (rf 8, .inl (g.2 8, 7, .inr (.inr (.inr (.inr (zaR wq)))))), (rf 2, .inl (g.2 5, 7, .inr (.inr (.inr (.inr (zaR ta)))))), (ta 5, .inl (g.2 1, 330, .inl (zaB (u.2 0))))]) mc ms := by
  refine ze_open (by decide +kernel) (Nat.le_of_ble_eq_true rfl) ?_
  intro p e s m below meth c ls A hx hb hml hr hno hlk hown hw hK hT hP hD hS hA hl
  have hown : s.vm.findClass "CronFinderModel" = some m.cls := hown
  have hl : lv_has ls 11 [(0, .ref (qq)), (1, .int (iI (5)))] := hl
  refine zi_iconst hx hb zd_Q_items_0 ?_
  refine lv_istore_n (lv' := [(2, .int (iI (0))), (0, .ref (qq)), (1, .int (iI (5)))]) hx hb zd_Q_items_1 rfl hl (by decide) rfl (fun ls hl => ?_)
  have hLH := fLH (j := 5) (by decide)
  have loopc : ∀ (nc : Nat) (k : Int) (fc : Nat → Bool) (H : Heap) (locs : List Loc) (ls : Array Slot), ((0 ≤ k ∧ k ≤ 330) ∧ ∀ i : Nat, (i : Int) < k → fc i = false) → ((330 - k).toNat < nc) → va_P g.1 zCl [(qq, .inr (5, [.int (iI (fl)), .ref (rf 0), .int (iI (ln)), .int (iI (pl)), .int (iI (yy)), .int (iI (mm)), .int (iI (dd)), .int (iI (at0)), .ref (rf 1), .ref (rf 2), .ref (rf 3), .ref (rf 4), .ref (rf 5), .ref (rf 6), .int (iI (wa)), .int (iI (on)), .int (iI (tw)), .ref (rf 7), .ref (rf 8), .ref (rf 9), .int (iI (hc))])), (rf 0, .inl (g.2 3, 400, .inl (zaI (zSg tf)))), (rf 7, .inl (g.2 8, 12, .inr (.inr (.inr (.inr (zaR mq)))))), (rf 8, .inl (g.2 8, 7, .inr (.inr (.inr (.inr (zaR wq)))))), (rf 2, .inl (g.2 5, 7, .inr (.inr (.inr (.inr (zaR ta)))))), (ta 5, .inl (g.2 1, 330, .inl (zaB fc)))] H → va_D A [(qq, .inr (5, [.int (iI (fl)), .ref (rf 0), .int (iI (ln)), .int (iI (pl)), .int (iI (yy)), .int (iI (mm)), .int (iI (dd)), .int (iI (at0)), .ref (rf 1), .ref (rf 2), .ref (rf 3), .ref (rf 4), .ref (rf 5), .ref (rf 6), .int (iI (wa)), .int (iI (on)), .int (iI (tw)), .ref (rf 7), .ref (rf 8), .ref (rf 9), .int (iI (hc))])), (rf 0, .inl (g.2 3, 400, .inl (zaI (zSg tf)))), (rf 7, .inl (g.2 8, 12, .inr (.inr (.inr (.inr (zaR mq)))))), (rf 8, .inl (g.2 8, 7, .inr (.inr (.inr (.inr (zaR wq)))))), (rf 2, .inl (g.2 5, 7, .inr (.inr (.inr (.inr (zaR ta)))))), (ta 5, .inl (g.2 1, 330, .inl (zaB fc)))] → va_S A s.heap H locs → lv_has ls 11 [(2, .int (iI (k))), (0, .ref (qq)), (1, .int (iI (5)))] → W p l e ({ frames := 9, cells := mc, slots := ms, locals := 190 }) s m [.ref (qq), .int (iI (5))].toArray below meth c H locs 0 0 (vx_MQ below (zQC g (rNm tf ln 1 5 (vAt 5 tf ln at0 + 1)) (none) (fun _ => [(qq, .inr (5, [.int (iI (fl)), .ref (rf 0), .int (iI (ln)), .int (iI (pl)), .int (iI (yy)), .int (iI (mm)), .int (iI (dd)), .int (iI ((num tf ln (vAt 5 tf ln at0 + 1)).1)), .ref (rf 1), .ref (rf 2), .ref (rf 3), .ref (rf 4), .ref (rf 5), .ref (rf 6), .int (iI (6)), .int (iI (vVl 5 tf ln at0)), .int (iI ((num tf ln (vAt 5 tf ln at0 + 1)).2)), .ref (rf 7), .ref (rf 8), .ref (rf 9), .int (iI (hc))])), (rf 0, .inl (g.2 3, 400, .inl (zaI (zSg tf)))), (rf 7, .inl (g.2 8, 12, .inr (.inr (.inr (.inr (zaR mq)))))), (rf 8, .inl (g.2 8, 7, .inr (.inr (.inr (.inr (zaR wq)))))), (rf 2, .inl (g.2 5, 7, .inr (.inr (.inr (.inr (zaR ta)))))), (ta 5, .inl (g.2 1, 330, .inl (zaB (fun _ => false))))]) A) (zXC g (rNm tf ln 1 5 (vAt 5 tf ln at0 + 1)) "java/lang/UnsupportedOperationException" (fun u => [(qq, .inr (5, [.int (iI (fl)), .ref (rf 0), .int (iI (ln)), .int (iI (vAt 5 tf ln at0 + 1)), .int (iI (yy)), .int (iI (mm)), .int (iI (dd)), .int (iI (u.1 0)), .ref (rf 1), .ref (rf 2), .ref (rf 3), .ref (rf 4), .ref (rf 5), .ref (rf 6), .int (iI (6)), .int (iI (vVl 5 tf ln at0)), .int (iI (tw)), .ref (rf 7), .ref (rf 8), .ref (rf 9), .int (iI (hc))])), (rf 0, .inl (g.2 3, 400, .inl (zaI (zSg tf)))), (rf 7, .inl (g.2 8, 12, .inr (.inr (.inr (.inr (zaR mq)))))), (rf 8, .inl (g.2 8, 7, .inr (.inr (.inr (.inr (zaR wq)))))), (rf 2, .inl (g.2 5, 7, .inr (.inr (.inr (.inr (zaR ta)))))), (ta 5, .inl (g.2 1, 330, .inl (zaB (u.2 0))))]) A) [.ref (qq), .int (iI (5))].toArray s mc ms A) (F0 m 2 ls []) := by
    intro nc
    induction nc with
    | zero =>
      intro k fc H locs ls hc0 hc2 hP hD hS hl
      exact absurd hc2 (by omega)
    | succ nc ihc =>
      intro k fc H locs ls hc0 hc2 hP hD hS hl
      refine lv_iload_n hx hb zd_Q_items_2 rfl (lv_at hl 0 rfl) ?_
      refine zi_sipush hx hb zd_Q_items_3 (by decide) ?_
      refine zi_icmp_ge (tgt := 24) hx hb zd_Q_items_6 (by decide) (by omega) (fun c6 => ?_) (fun c6 => ?_)
      · have hP : va_P g.1 zCl [(qq, .inr (5, [.int (iI (fl)), .ref (rf 0), .int (iI (ln)), .int (iI (pl)), .int (iI (yy)), .int (iI (mm)), .int (iI (dd)), .int (iI (at0)), .ref (rf 1), .ref (rf 2), .ref (rf 3), .ref (rf 4), .ref (rf 5), .ref (rf 6), .int (iI (wa)), .int (iI (on)), .int (iI (tw)), .ref (rf 7), .ref (rf 8), .ref (rf 9), .int (iI (hc))])), (rf 0, .inl (g.2 3, 400, .inl (zaI (zSg tf)))), (rf 7, .inl (g.2 8, 12, .inr (.inr (.inr (.inr (zaR mq)))))), (rf 8, .inl (g.2 8, 7, .inr (.inr (.inr (.inr (zaR wq)))))), (rf 2, .inl (g.2 5, 7, .inr (.inr (.inr (.inr (zaR ta)))))), (ta 5, .inl (g.2 1, 330, .inl (zaB (fun _ => false))))] H := zB_ext (k := 5) hP rfl (fun i hi => hc0.2 i (by omega))
        have hD : va_D A [(qq, .inr (5, [.int (iI (fl)), .ref (rf 0), .int (iI (ln)), .int (iI (pl)), .int (iI (yy)), .int (iI (mm)), .int (iI (dd)), .int (iI (at0)), .ref (rf 1), .ref (rf 2), .ref (rf 3), .ref (rf 4), .ref (rf 5), .ref (rf 6), .int (iI (wa)), .int (iI (on)), .int (iI (tw)), .ref (rf 7), .ref (rf 8), .ref (rf 9), .int (iI (hc))])), (rf 0, .inl (g.2 3, 400, .inl (zaI (zSg tf)))), (rf 7, .inl (g.2 8, 12, .inr (.inr (.inr (.inr (zaR mq)))))), (rf 8, .inl (g.2 8, 7, .inr (.inr (.inr (.inr (zaR wq)))))), (rf 2, .inl (g.2 5, 7, .inr (.inr (.inr (.inr (zaR ta)))))), (ta 5, .inl (g.2 1, 330, .inl (zaB (fun _ => false))))] := zD_ad hD rfl
        refine zi_iconst hx hb zd_Q_items_24 ?_
        refine lv_istore_n (lv' := [(2, .int (iI (1))), (0, .ref (qq)), (1, .int (iI (5)))]) hx hb zd_Q_items_25 rfl hl (by decide) rfl (fun ls hl => ?_)
        refine lv_aload_n hx hb zd_Q_items_26 rfl (lv_at hl 1 rfl) ?_
        refine zk_V (As := []) (b := qq) (own := "CronFinderModel") (nL := 11) (rest := []) hx hb hml hown hw (c_Q_peek l g qq rf (fl) (ln) (pl) (yy) (mm) (dd) (at0) (wa) (on) (tw) (hc) tf hln (by omega) hch) zw_4_39 zw_4_41 zw_0_30 zw_1_7 zw_4_42 (np := 0) (by decide +kernel) rfl ⟨rfl, rfl, Nat.le_of_ble_eq_true rfl, Nat.le_of_ble_eq_true rfl⟩ zN_mv hK trivial (hP.sub (ws' := [(qq, .inr (5, [.int (iI (fl)), .ref (rf 0), .int (iI (ln)), .int (iI (pl)), .int (iI (yy)), .int (iI (mm)), .int (iI (dd)), .int (iI (at0)), .ref (rf 1), .ref (rf 2), .ref (rf 3), .ref (rf 4), .ref (rf 5), .ref (rf 6), .int (iI (wa)), .int (iI (on)), .int (iI (tw)), .ref (rf 7), .ref (rf 8), .ref (rf 9), .int (iI (hc))])), (rf 0, .inl (g.2 3, 400, .inl (zaI (zSg tf))))]) [0, 1] rfl) (va_recv hK hP (ci := 5) (q0 := 0) rfl rfl) hl.1 rfl (Nat.le_of_ble_eq_true rfl) ⟨Nat.zero_le _, Nat.zero_le _⟩ zd_Q_items_27 ?_
        have hk27 := rk_rg tf ln (at0) hch
        refine zi_bipush hx hb zd_Q_items_30 (by decide) ?_
        refine zi_icmp_ne (tgt := 39) hx hb zd_Q_items_32 (by decide) (by omega) (fun c32 => ?_) (fun c32 => ?_)
        · refine zi_iconst hx hb zd_Q_items_39 ?_
          refine lv_istore_n (lv' := [(3, .int (iI (0))), (2, .int (iI (1))), (0, .ref (qq)), (1, .int (iI (5)))]) hx hb zd_Q_items_40 rfl hl (by decide) rfl (fun ls hl => ?_)
          refine va_gets hx hb hT.2.1.1 hS hown (hw _ zw_4_74) (fun _ h9 => h9) zd_Q_items_41 ?_
          refine lv_iload_n hx hb zd_Q_items_44 rfl (lv_at hl 3 rfl) ?_
          refine zi_ti hx hb hT.2.1.2.1 hS (by omega) zd_Q_items_45 ?_
          refine zi_as (fLo 5) (fLoI_n 5) ?_
          refine lv_istore (lv' := [(4, .int (iI (fLo 5))), (3, .int (iI (0))), (2, .int (iI (1))), (0, .ref (qq)), (1, .int (iI (5)))]) hx hb zd_Q_items_46 hl (by decide) rfl (fun ls hl => ?_)
          refine va_gets hx hb hT.2.1.2.2.1 hS hown (hw _ zw_4_76) (fun _ h9 => h9) zd_Q_items_48 ?_
          refine lv_iload_n hx hb zd_Q_items_51 rfl (lv_at hl 4 rfl) ?_
          refine zi_ti hx hb hT.2.1.2.2.2 hS (by omega) zd_Q_items_52 ?_
          refine zi_as (fHi 5) (fHiI_n 5) ?_
          refine lv_istore (lv' := [(5, .int (iI (fHi 5))), (4, .int (iI (fLo 5))), (3, .int (iI (0))), (2, .int (iI (1))), (0, .ref (qq)), (1, .int (iI (5)))]) hx hb zd_Q_items_53 hl (by decide) rfl (fun ls hl => ?_)
          refine zi_iconst hx hb zd_Q_items_55 ?_
          refine lv_istore (lv' := [(6, .int (iI (0))), (5, .int (iI (fHi 5))), (4, .int (iI (fLo 5))), (3, .int (iI (0))), (2, .int (iI (1))), (0, .ref (qq)), (1, .int (iI (5)))]) hx hb zd_Q_items_56 hl (by decide) rfl (fun ls hl => ?_)
          refine lv_iload_n hx hb zd_Q_items_58 rfl (lv_at hl 3 rfl) ?_
          refine zi_if_eq (tgt := 75) hx hb zd_Q_items_59 (by decide) (by omega) (fun _ => ?_) (fun c59 => absurd c59 (by decide))
          refine lv_aload_n hx hb zd_Q_items_75 rfl (lv_at hl 5 rfl) ?_
          refine lv_iload_n hx hb zd_Q_items_76 rfl (lv_at hl 6 rfl) ?_
          by_cases ho77 : vOk 5 tf ln (at0) = true
          · have hv77 := vOk_rg ho77 (by omega) (by decide)
            refine zk_W (As := [.int (iI (5))]) (b := qq) (own := "CronFinderModel") (nL := 11) (rest := []) hx hb hml hown hw (zE_y (c_Q_value l g hl0 qq rf (fl) (ln) (pl) (yy) (mm) (dd) (at0) (wa) (on) (tw) (hc) tf hln (by omega) hch t1 t2 mq mv wq wv 5 (by decide) 0 0 (Or.inl ⟨ho77, rfl, rfl⟩)) ho77) zw_4_78 zw_4_80 zw_0_35 zw_1_7 zw_4_81 (np := 1) (by decide +kernel) rfl ⟨rfl, rfl, Nat.le_of_ble_eq_true rfl, Nat.le_of_ble_eq_true rfl⟩ (zQs_mv t1 t2 mq mv wq wv) hK (zQs_nar (zQs_now hT hS) (va_free hD hS hA [0, 1, 2, 3] rfl)) hP hD hS hA [0, 1, 2, 3] rfl (by decide) rfl (va_recv hK hP (ci := 5) (q0 := 0) rfl rfl) hl.1 rfl (Nat.le_of_ble_eq_true rfl) ⟨Nat.zero_le _, Nat.zero_le _⟩ zd_Q_items_77 (fun H locs hP hD hS => ?_)
            have hP : va_P g.1 zCl [(qq, .inr (5, [.int (iI (fl)), .ref (rf 0), .int (iI (ln)), .int (iI (pl)), .int (iI (yy)), .int (iI (mm)), .int (iI (dd)), .int (iI (vAt 5 tf ln (at0))), .ref (rf 1), .ref (rf 2), .ref (rf 3), .ref (rf 4), .ref (rf 5), .ref (rf 6), .int (iI (wa)), .int (iI (on)), .int (iI (tw)), .ref (rf 7), .ref (rf 8), .ref (rf 9), .int (iI (hc))])), (rf 0, .inl (g.2 3, 400, .inl (zaI (zSg tf)))), (rf 7, .inl (g.2 8, 12, .inr (.inr (.inr (.inr (zaR mq)))))), (rf 8, .inl (g.2 8, 7, .inr (.inr (.inr (.inr (zaR wq)))))), (rf 2, .inl (g.2 5, 7, .inr (.inr (.inr (.inr (zaR ta)))))), (ta 5, .inl (g.2 1, 330, .inl (zaB (fun _ => false))))] H := hP
            have hD : va_D A [(qq, .inr (5, [.int (iI (fl)), .ref (rf 0), .int (iI (ln)), .int (iI (pl)), .int (iI (yy)), .int (iI (mm)), .int (iI (dd)), .int (iI (vAt 5 tf ln (at0))), .ref (rf 1), .ref (rf 2), .ref (rf 3), .ref (rf 4), .ref (rf 5), .ref (rf 6), .int (iI (wa)), .int (iI (on)), .int (iI (tw)), .ref (rf 7), .ref (rf 8), .ref (rf 9), .int (iI (hc))])), (rf 0, .inl (g.2 3, 400, .inl (zaI (zSg tf)))), (rf 7, .inl (g.2 8, 12, .inr (.inr (.inr (.inr (zaR mq)))))), (rf 8, .inl (g.2 8, 7, .inr (.inr (.inr (.inr (zaR wq)))))), (rf 2, .inl (g.2 5, 7, .inr (.inr (.inr (.inr (zaR ta)))))), (ta 5, .inl (g.2 1, 330, .inl (zaB (fun _ => false))))] := hD
            refine lv_istore (lv' := [(4, .int (iI (vVl 5 tf ln (at0)))), (6, .int (iI (0))), (5, .int (iI (fHi 5))), (3, .int (iI (0))), (2, .int (iI (1))), (0, .ref (qq)), (1, .int (iI (5)))]) hx hb zd_Q_items_80 hl (by decide) rfl (fun ls hl => ?_)
            refine lv_iload_n hx hb zd_Q_items_82 rfl (lv_at hl 4 rfl) ?_
            refine zi_if_eq (tgt := 97) hx hb zd_Q_items_83 (by decide) (by omega) (fun c83 => absurd c83 (by decide)) (fun _ => ?_)
            refine lv_aload_n hx hb zd_Q_items_86 rfl (lv_at hl 5 rfl) ?_
            refine lv_iload_n hx hb zd_Q_items_87 rfl (lv_at hl 6 rfl) ?_
            refine lv_iload hx hb zd_Q_items_88 (lv_at hl 0 rfl) ?_
            by_cases ho90 : rNm tf ln 1 5 (vAt 5 tf ln at0 + 1)
            · refine zk_W (As := [.int (iI (5)), .int (iI (vVl 5 tf ln (at0)))]) (b := qq) (own := "CronFinderModel") (nL := 11) (rest := []) hx hb hml hown hw (zE_y (c_Q_sp_o l g hl0 qq rf (fl) (ln) (pl) (yy) (mm) (dd) (vAt 5 tf ln (at0)) (wa) (on) (tw) (hc) tf hln (by omega) hch (vVl 5 tf ln (at0)) hk 0 0 (Or.inl ⟨ho90, rfl, rfl⟩)) ho90) zw_4_86 zw_4_88 zw_0_36 zw_1_7 zw_4_89 (np := 2) (by decide +kernel) rfl ⟨rfl, rfl, Nat.le_of_ble_eq_true rfl, Nat.le_of_ble_eq_true rfl⟩ zTh_mv hK (zTh_nar (zTh_now hT.1 hS) (va_free hD hS hA [0, 1] rfl)) hP hD hS hA [0, 1] rfl (by decide) rfl (va_recv hK hP (ci := 5) (q0 := 0) rfl rfl) hl.1 rfl (Nat.le_of_ble_eq_true rfl) ⟨Nat.zero_le _, Nat.zero_le _⟩ zd_Q_items_90 (fun H locs hP hD hS => ?_)
              have hP : va_P g.1 zCl [(qq, .inr (5, [.int (iI (fl)), .ref (rf 0), .int (iI (ln)), .int (iI (pl)), .int (iI (yy)), .int (iI (mm)), .int (iI (dd)), .int (iI ((num tf ln (vAt 5 tf ln at0 + 1)).1)), .ref (rf 1), .ref (rf 2), .ref (rf 3), .ref (rf 4), .ref (rf 5), .ref (rf 6), .int (iI (6)), .int (iI (vVl 5 tf ln (at0))), .int (iI ((num tf ln (vAt 5 tf ln at0 + 1)).2)), .ref (rf 7), .ref (rf 8), .ref (rf 9), .int (iI (hc))])), (rf 0, .inl (g.2 3, 400, .inl (zaI (zSg tf)))), (rf 7, .inl (g.2 8, 12, .inr (.inr (.inr (.inr (zaR mq)))))), (rf 8, .inl (g.2 8, 7, .inr (.inr (.inr (.inr (zaR wq)))))), (rf 2, .inl (g.2 5, 7, .inr (.inr (.inr (.inr (zaR ta)))))), (ta 5, .inl (g.2 1, 330, .inl (zaB (fun _ => false))))] H := hP
              have hD : va_D A [(qq, .inr (5, [.int (iI (fl)), .ref (rf 0), .int (iI (ln)), .int (iI (pl)), .int (iI (yy)), .int (iI (mm)), .int (iI (dd)), .int (iI ((num tf ln (vAt 5 tf ln at0 + 1)).1)), .ref (rf 1), .ref (rf 2), .ref (rf 3), .ref (rf 4), .ref (rf 5), .ref (rf 6), .int (iI (6)), .int (iI (vVl 5 tf ln (at0))), .int (iI ((num tf ln (vAt 5 tf ln at0 + 1)).2)), .ref (rf 7), .ref (rf 8), .ref (rf 9), .int (iI (hc))])), (rf 0, .inl (g.2 3, 400, .inl (zaI (zSg tf)))), (rf 7, .inl (g.2 8, 12, .inr (.inr (.inr (.inr (zaR mq)))))), (rf 8, .inl (g.2 8, 7, .inr (.inr (.inr (.inr (zaR wq)))))), (rf 2, .inl (g.2 5, 7, .inr (.inr (.inr (.inr (zaR ta)))))), (ta 5, .inl (g.2 1, 330, .inl (zaB (fun _ => false))))] := hD
              refine zb_if_eq (tgt := 97) hx hb zd_Q_items_93 (by decide) (fun c93 => by cases c93) (fun _ => ?_)
              have hok9 := ho90
              exact zq_vret hx hb hr hlk (fun _ => 0, fun _ _ => false) hP hS hok9 (zHm_y hmc hok9) zd_Q_items_96
            · exact zk_X (As := [.int (iI (5)), .int (iI (vVl 5 tf ln (at0)))]) (b := qq) (own := "CronFinderModel") (nL := 11) (rest := []) hx hb hml hown hw (zE_n (c_Q_sp_o l g hl0 qq rf (fl) (ln) (pl) (yy) (mm) (dd) (vAt 5 tf ln (at0)) (wa) (on) (tw) (hc) tf hln (by omega) hch (vVl 5 tf ln (at0)) hk 1 6 (Or.inr ⟨ho90, rfl, rfl⟩)) ho90) zw_4_86 zw_4_88 zw_0_36 zw_1_7 zw_4_89 (np := 2) (by decide +kernel) rfl ⟨rfl, rfl, Nat.le_of_ble_eq_true rfl, Nat.le_of_ble_eq_true rfl⟩ zTh_mv hK (zTh_nar (zTh_now hT.1 hS) (va_free hD hS hA [0, 1] rfl)) hP hD hS hA [0, 1] rfl (by decide) (fun _ => rfl) (va_recv hK hP (ci := 5) (q0 := 0) rfl rfl) hl.1 rfl (Nat.le_of_ble_eq_true rfl) (zHm_1 hmc ho90) zd_Q_items_90 hno hlk ho90 (fun u _ h => ⟨(zj [u.1 0], fun _ => (fun _ => false)), h⟩) (zHm_1 hmc ho90)
          · exact zk_X (As := [.int (iI (5))]) (b := qq) (own := "CronFinderModel") (nL := 11) (rest := []) hx hb hml hown hw (zE_n (c_Q_value l g hl0 qq rf (fl) (ln) (pl) (yy) (mm) (dd) (at0) (wa) (on) (tw) (hc) tf hln (by omega) hch t1 t2 mq mv wq wv 5 (by decide) 1 6 (Or.inr ⟨ho77, rfl, rfl⟩)) ho77) zw_4_78 zw_4_80 zw_0_35 zw_1_7 zw_4_81 (np := 1) (by decide +kernel) rfl ⟨rfl, rfl, Nat.le_of_ble_eq_true rfl, Nat.le_of_ble_eq_true rfl⟩ (zQs_mv t1 t2 mq mv wq wv) hK (zQs_nar (zQs_now hT hS) (va_free hD hS hA [0, 1, 2, 3] rfl)) hP hD hS hA [0, 1, 2, 3] rfl (by decide) (fun _ => rfl) (va_recv hK hP (ci := 5) (q0 := 0) rfl rfl) hl.1 rfl (Nat.le_of_ble_eq_true rfl) (zHm_1 hmc (absurd hv ho77)) zd_Q_items_77 hno hlk (absurd hv ho77) (fun _ _ _ => absurd hv ho77) (zHm_1 hmc (absurd hv ho77))
        · exact absurd c32 (vOk_ch hv)
      · refine lv_aload_n hx hb zd_Q_items_9 rfl (lv_at hl 1 rfl) ?_
        refine va_get (D := g.1) (ci := 5) (v := .ref (rf 2)) (C := zR_Q) (T := zT_Q) (N := 21) hx hb hw zin_Q hown hK hP 0 rfl rfl 9 (by decide) (hw _ zw_3_207) (fun _ h9 => h9) rfl zd_Q_items_10 ?_
        refine lv_iload_n hx hb zd_Q_items_13 rfl (lv_at hl 2 rfl) ?_
        refine zi_aald (k := 5) hx hb hK hP 4 5 rfl rfl (by omega) rfl zd_Q_items_14 ?_
        refine lv_iload_n hx hb zd_Q_items_15 rfl (lv_at hl 0 rfl) ?_
        refine zi_iconst hx hb zd_Q_items_16 ?_
        refine zb_as (x := false) rfl ?_
        refine zi_zast hx hb hK hP hD hS 5 1 rfl rfl (by omega) zd_Q_items_17 (fun H locs hP hD hS => ?_)
        have hP : va_P g.1 zCl [(qq, .inr (5, [.int (iI (fl)), .ref (rf 0), .int (iI (ln)), .int (iI (pl)), .int (iI (yy)), .int (iI (mm)), .int (iI (dd)), .int (iI (at0)), .ref (rf 1), .ref (rf 2), .ref (rf 3), .ref (rf 4), .ref (rf 5), .ref (rf 6), .int (iI (wa)), .int (iI (on)), .int (iI (tw)), .ref (rf 7), .ref (rf 8), .ref (rf 9), .int (iI (hc))])), (rf 0, .inl (g.2 3, 400, .inl (zaI (zSg tf)))), (rf 7, .inl (g.2 8, 12, .inr (.inr (.inr (.inr (zaR mq)))))), (rf 8, .inl (g.2 8, 7, .inr (.inr (.inr (.inr (zaR wq)))))), (rf 2, .inl (g.2 5, 7, .inr (.inr (.inr (.inr (zaR ta)))))), (ta 5, .inl (g.2 1, 330, .inl (zaB (zu fc (k).toNat (false)))))] H := hP
        have hD : va_D A [(qq, .inr (5, [.int (iI (fl)), .ref (rf 0), .int (iI (ln)), .int (iI (pl)), .int (iI (yy)), .int (iI (mm)), .int (iI (dd)), .int (iI (at0)), .ref (rf 1), .ref (rf 2), .ref (rf 3), .ref (rf 4), .ref (rf 5), .ref (rf 6), .int (iI (wa)), .int (iI (on)), .int (iI (tw)), .ref (rf 7), .ref (rf 8), .ref (rf 9), .int (iI (hc))])), (rf 0, .inl (g.2 3, 400, .inl (zaI (zSg tf)))), (rf 7, .inl (g.2 8, 12, .inr (.inr (.inr (.inr (zaR mq)))))), (rf 8, .inl (g.2 8, 7, .inr (.inr (.inr (.inr (zaR wq)))))), (rf 2, .inl (g.2 5, 7, .inr (.inr (.inr (.inr (zaR ta)))))), (ta 5, .inl (g.2 1, 330, .inl (zaB (zu fc (k).toNat (false)))))] := hD
        refine lv_iinc (v := iI (k + 1)) (lv' := [(2, .int (iI (k + 1))), (0, .ref (qq)), (1, .int (iI (5)))]) hx hb zd_Q_items_18 hl (k := 0) rfl (iI_add _ _) (by decide) rfl (fun ls hl => ?_)
        refine lv_goto (tgt := 2) hx hb zd_Q_items_21 (by decide) ?_
        exact ihc (k + 1) (zu fc k.toNat false) H locs ls ⟨by omega, oCl_nx hc0.2 (by omega)⟩ (by omega) hP hD hS (lv_sub hl [0, 1, 2] rfl)
  exact loopc 331 0 f0 s.heap [] ls ⟨by omega, fun i hi => absurd hi (by omega)⟩ (by omega) hP hD hS (lv_sub hl [0, 1, 2] rfl)
