/-! the reference: secondFrom, secondTo -/
theorem zd_Q_secondFrom_0 : decode zc_Q_secondFrom 0 = .ok (.iload_n 2, 1) := by decide +kernel
theorem zd_Q_secondFrom_1 : decode zc_Q_secondFrom 1 = .ok (.sipush 3600, 3) := by decide +kernel
theorem zd_Q_secondFrom_4 : decode zc_Q_secondFrom 4 = .ok (.idiv, 1) := by decide +kernel
theorem zd_Q_secondFrom_5 : decode zc_Q_secondFrom 5 = .ok (.istore_n 3, 1) := by decide +kernel
theorem zd_Q_secondFrom_6 : decode zc_Q_secondFrom 6 = .ok (.iload_n 3, 1) := by decide +kernel
theorem zd_Q_secondFrom_7 : decode zc_Q_secondFrom 7 = .ok (.bipush 24, 2) := by decide +kernel
theorem zd_Q_secondFrom_9 : decode zc_Q_secondFrom 9 = .ok (.if_icmp .ge 143, 3) := by decide +kernel
theorem zd_Q_secondFrom_12 : decode zc_Q_secondFrom 12 = .ok (.aload_n 0, 1) := by decide +kernel
theorem zd_Q_secondFrom_13 : decode zc_Q_secondFrom 13 = .ok (.getfield 19, 3) := by decide +kernel
theorem zd_Q_secondFrom_16 : decode zc_Q_secondFrom 16 = .ok (.iload_n 1, 1) := by decide +kernel
theorem zd_Q_secondFrom_17 : decode zc_Q_secondFrom 17 = .ok (.aaload, 1) := by decide +kernel
theorem zd_Q_secondFrom_18 : decode zc_Q_secondFrom 18 = .ok (.iconst 2, 1) := by decide +kernel
theorem zd_Q_secondFrom_19 : decode zc_Q_secondFrom 19 = .ok (.aaload, 1) := by decide +kernel
theorem zd_Q_secondFrom_20 : decode zc_Q_secondFrom 20 = .ok (.iload_n 3, 1) := by decide +kernel
theorem zd_Q_secondFrom_21 : decode zc_Q_secondFrom 21 = .ok (.baload, 1) := by decide +kernel
theorem zd_Q_secondFrom_22 : decode zc_Q_secondFrom 22 = .ok (.ifCond .ne 6, 3) := by decide +kernel
theorem zd_Q_secondFrom_25 : decode zc_Q_secondFrom 25 = .ok (.goto 121, 3) := by decide +kernel
theorem zd_Q_secondFrom_28 : decode zc_Q_secondFrom 28 = .ok (.iload_n 3, 1) := by decide +kernel
theorem zd_Q_secondFrom_29 : decode zc_Q_secondFrom 29 = .ok (.iload_n 2, 1) := by decide +kernel
theorem zd_Q_secondFrom_30 : decode zc_Q_secondFrom 30 = .ok (.sipush 3600, 3) := by decide +kernel
theorem zd_Q_secondFrom_33 : decode zc_Q_secondFrom 33 = .ok (.idiv, 1) := by decide +kernel
theorem zd_Q_secondFrom_34 : decode zc_Q_secondFrom 34 = .ok (.if_icmp .ne 13, 3) := by decide +kernel
theorem zd_Q_secondFrom_37 : decode zc_Q_secondFrom 37 = .ok (.iload_n 2, 1) := by decide +kernel
theorem zd_Q_secondFrom_38 : decode zc_Q_secondFrom 38 = .ok (.bipush 60, 2) := by decide +kernel
theorem zd_Q_secondFrom_40 : decode zc_Q_secondFrom 40 = .ok (.idiv, 1) := by decide +kernel
theorem zd_Q_secondFrom_41 : decode zc_Q_secondFrom 41 = .ok (.bipush 60, 2) := by decide +kernel
theorem zd_Q_secondFrom_43 : decode zc_Q_secondFrom 43 = .ok (.irem, 1) := by decide +kernel
theorem zd_Q_secondFrom_44 : decode zc_Q_secondFrom 44 = .ok (.goto 4, 3) := by decide +kernel
theorem zd_Q_secondFrom_47 : decode zc_Q_secondFrom 47 = .ok (.iconst 0, 1) := by decide +kernel
theorem zd_Q_secondFrom_48 : decode zc_Q_secondFrom 48 = .ok (.istore 4, 2) := by decide +kernel
theorem zd_Q_secondFrom_50 : decode zc_Q_secondFrom 50 = .ok (.iload 4, 2) := by decide +kernel
theorem zd_Q_secondFrom_52 : decode zc_Q_secondFrom 52 = .ok (.bipush 60, 2) := by decide +kernel
theorem zd_Q_secondFrom_54 : decode zc_Q_secondFrom 54 = .ok (.if_icmp .ge 92, 3) := by decide +kernel
theorem zd_Q_secondFrom_57 : decode zc_Q_secondFrom 57 = .ok (.aload_n 0, 1) := by decide +kernel
theorem zd_Q_secondFrom_58 : decode zc_Q_secondFrom 58 = .ok (.getfield 19, 3) := by decide +kernel
theorem zd_Q_secondFrom_61 : decode zc_Q_secondFrom 61 = .ok (.iload_n 1, 1) := by decide +kernel
theorem zd_Q_secondFrom_62 : decode zc_Q_secondFrom 62 = .ok (.aaload, 1) := by decide +kernel
theorem zd_Q_secondFrom_63 : decode zc_Q_secondFrom 63 = .ok (.iconst 1, 1) := by decide +kernel
theorem zd_Q_secondFrom_64 : decode zc_Q_secondFrom 64 = .ok (.aaload, 1) := by decide +kernel
theorem zd_Q_secondFrom_65 : decode zc_Q_secondFrom 65 = .ok (.iload 4, 2) := by decide +kernel
theorem zd_Q_secondFrom_67 : decode zc_Q_secondFrom 67 = .ok (.baload, 1) := by decide +kernel
theorem zd_Q_secondFrom_68 : decode zc_Q_secondFrom 68 = .ok (.ifCond .ne 6, 3) := by decide +kernel
theorem zd_Q_secondFrom_71 : decode zc_Q_secondFrom 71 = .ok (.goto 69, 3) := by decide +kernel
theorem zd_Q_secondFrom_74 : decode zc_Q_secondFrom 74 = .ok (.bipush 60, 2) := by decide +kernel
theorem zd_Q_secondFrom_76 : decode zc_Q_secondFrom 76 = .ok (.bipush 60, 2) := by decide +kernel
theorem zd_Q_secondFrom_78 : decode zc_Q_secondFrom 78 = .ok (.iload_n 3, 1) := by decide +kernel
theorem zd_Q_secondFrom_79 : decode zc_Q_secondFrom 79 = .ok (.imul, 1) := by decide +kernel
theorem zd_Q_secondFrom_80 : decode zc_Q_secondFrom 80 = .ok (.iload 4, 2) := by decide +kernel
theorem zd_Q_secondFrom_82 : decode zc_Q_secondFrom 82 = .ok (.iadd, 1) := by decide +kernel
theorem zd_Q_secondFrom_83 : decode zc_Q_secondFrom 83 = .ok (.imul, 1) := by decide +kernel
theorem zd_Q_secondFrom_84 : decode zc_Q_secondFrom 84 = .ok (.iload_n 2, 1) := by decide +kernel
theorem zd_Q_secondFrom_85 : decode zc_Q_secondFrom 85 = .ok (.if_icmp .ge 10, 3) := by decide +kernel
theorem zd_Q_secondFrom_88 : decode zc_Q_secondFrom 88 = .ok (.iload_n 2, 1) := by decide +kernel
theorem zd_Q_secondFrom_89 : decode zc_Q_secondFrom 89 = .ok (.bipush 60, 2) := by decide +kernel
theorem zd_Q_secondFrom_91 : decode zc_Q_secondFrom 91 = .ok (.irem, 1) := by decide +kernel
theorem zd_Q_secondFrom_92 : decode zc_Q_secondFrom 92 = .ok (.goto 4, 3) := by decide +kernel
theorem zd_Q_secondFrom_95 : decode zc_Q_secondFrom 95 = .ok (.iconst 0, 1) := by decide +kernel
theorem zd_Q_secondFrom_96 : decode zc_Q_secondFrom 96 = .ok (.istore 5, 2) := by decide +kernel
theorem zd_Q_secondFrom_98 : decode zc_Q_secondFrom 98 = .ok (.iload 5, 2) := by decide +kernel
theorem zd_Q_secondFrom_100 : decode zc_Q_secondFrom 100 = .ok (.bipush 60, 2) := by decide +kernel
theorem zd_Q_secondFrom_102 : decode zc_Q_secondFrom 102 = .ok (.if_icmp .ge 38, 3) := by decide +kernel
theorem zd_Q_secondFrom_105 : decode zc_Q_secondFrom 105 = .ok (.aload_n 0, 1) := by decide +kernel
theorem zd_Q_secondFrom_106 : decode zc_Q_secondFrom 106 = .ok (.getfield 19, 3) := by decide +kernel
theorem zd_Q_secondFrom_109 : decode zc_Q_secondFrom 109 = .ok (.iload_n 1, 1) := by decide +kernel
theorem zd_Q_secondFrom_110 : decode zc_Q_secondFrom 110 = .ok (.aaload, 1) := by decide +kernel
theorem zd_Q_secondFrom_111 : decode zc_Q_secondFrom 111 = .ok (.iconst 0, 1) := by decide +kernel
theorem zd_Q_secondFrom_112 : decode zc_Q_secondFrom 112 = .ok (.aaload, 1) := by decide +kernel
theorem zd_Q_secondFrom_113 : decode zc_Q_secondFrom 113 = .ok (.iload 5, 2) := by decide +kernel
theorem zd_Q_secondFrom_115 : decode zc_Q_secondFrom 115 = .ok (.baload, 1) := by decide +kernel
theorem zd_Q_secondFrom_116 : decode zc_Q_secondFrom 116 = .ok (.ifCond .eq 18, 3) := by decide +kernel
theorem zd_Q_secondFrom_119 : decode zc_Q_secondFrom 119 = .ok (.sipush 3600, 3) := by decide +kernel
theorem zd_Q_secondFrom_122 : decode zc_Q_secondFrom 122 = .ok (.iload_n 3, 1) := by decide +kernel
theorem zd_Q_secondFrom_123 : decode zc_Q_secondFrom 123 = .ok (.imul, 1) := by decide +kernel
theorem zd_Q_secondFrom_124 : decode zc_Q_secondFrom 124 = .ok (.bipush 60, 2) := by decide +kernel
theorem zd_Q_secondFrom_126 : decode zc_Q_secondFrom 126 = .ok (.iload 4, 2) := by decide +kernel
theorem zd_Q_secondFrom_128 : decode zc_Q_secondFrom 128 = .ok (.imul, 1) := by decide +kernel
theorem zd_Q_secondFrom_129 : decode zc_Q_secondFrom 129 = .ok (.iadd, 1) := by decide +kernel
theorem zd_Q_secondFrom_130 : decode zc_Q_secondFrom 130 = .ok (.iload 5, 2) := by decide +kernel
theorem zd_Q_secondFrom_132 : decode zc_Q_secondFrom 132 = .ok (.iadd, 1) := by decide +kernel
theorem zd_Q_secondFrom_133 : decode zc_Q_secondFrom 133 = .ok (.ireturn, 1) := by decide +kernel
theorem zd_Q_secondFrom_134 : decode zc_Q_secondFrom 134 = .ok (.iinc 5 1, 3) := by decide +kernel
theorem zd_Q_secondFrom_137 : decode zc_Q_secondFrom 137 = .ok (.goto (-39), 3) := by decide +kernel
theorem zd_Q_secondFrom_140 : decode zc_Q_secondFrom 140 = .ok (.iinc 4 1, 3) := by decide +kernel
theorem zd_Q_secondFrom_143 : decode zc_Q_secondFrom 143 = .ok (.goto (-93), 3) := by decide +kernel
theorem zd_Q_secondFrom_146 : decode zc_Q_secondFrom 146 = .ok (.iinc 3 1, 3) := by decide +kernel
theorem zd_Q_secondFrom_149 : decode zc_Q_secondFrom 149 = .ok (.goto (-143), 3) := by decide +kernel
theorem zd_Q_secondFrom_152 : decode zc_Q_secondFrom 152 = .ok (.iconst (-1), 1) := by decide +kernel
theorem zd_Q_secondFrom_153 : decode zc_Q_secondFrom 153 = .ok (.ireturn, 1) := by decide +kernel
theorem zd_Q_secondTo_0 : decode zc_Q_secondTo 0 = .ok (.iload_n 2, 1) := by decide +kernel
theorem zd_Q_secondTo_1 : decode zc_Q_secondTo 1 = .ok (.sipush 3600, 3) := by decide +kernel
theorem zd_Q_secondTo_4 : decode zc_Q_secondTo 4 = .ok (.idiv, 1) := by decide +kernel
theorem zd_Q_secondTo_5 : decode zc_Q_secondTo 5 = .ok (.istore_n 3, 1) := by decide +kernel
theorem zd_Q_secondTo_6 : decode zc_Q_secondTo 6 = .ok (.iload_n 3, 1) := by decide +kernel
theorem zd_Q_secondTo_7 : decode zc_Q_secondTo 7 = .ok (.ifCond .lt 144, 3) := by decide +kernel
theorem zd_Q_secondTo_10 : decode zc_Q_secondTo 10 = .ok (.aload_n 0, 1) := by decide +kernel
theorem zd_Q_secondTo_11 : decode zc_Q_secondTo 11 = .ok (.getfield 19, 3) := by decide +kernel
theorem zd_Q_secondTo_14 : decode zc_Q_secondTo 14 = .ok (.iload_n 1, 1) := by decide +kernel
theorem zd_Q_secondTo_15 : decode zc_Q_secondTo 15 = .ok (.aaload, 1) := by decide +kernel
theorem zd_Q_secondTo_16 : decode zc_Q_secondTo 16 = .ok (.iconst 2, 1) := by decide +kernel
theorem zd_Q_secondTo_17 : decode zc_Q_secondTo 17 = .ok (.aaload, 1) := by decide +kernel
theorem zd_Q_secondTo_18 : decode zc_Q_secondTo 18 = .ok (.iload_n 3, 1) := by decide +kernel
theorem zd_Q_secondTo_19 : decode zc_Q_secondTo 19 = .ok (.baload, 1) := by decide +kernel
theorem zd_Q_secondTo_20 : decode zc_Q_secondTo 20 = .ok (.ifCond .ne 6, 3) := by decide +kernel
theorem zd_Q_secondTo_23 : decode zc_Q_secondTo 23 = .ok (.goto 122, 3) := by decide +kernel
theorem zd_Q_secondTo_26 : decode zc_Q_secondTo 26 = .ok (.iload_n 3, 1) := by decide +kernel
theorem zd_Q_secondTo_27 : decode zc_Q_secondTo 27 = .ok (.iload_n 2, 1) := by decide +kernel
theorem zd_Q_secondTo_28 : decode zc_Q_secondTo 28 = .ok (.sipush 3600, 3) := by decide +kernel
theorem zd_Q_secondTo_31 : decode zc_Q_secondTo 31 = .ok (.idiv, 1) := by decide +kernel
theorem zd_Q_secondTo_32 : decode zc_Q_secondTo 32 = .ok (.if_icmp .ne 13, 3) := by decide +kernel
theorem zd_Q_secondTo_35 : decode zc_Q_secondTo 35 = .ok (.iload_n 2, 1) := by decide +kernel
theorem zd_Q_secondTo_36 : decode zc_Q_secondTo 36 = .ok (.bipush 60, 2) := by decide +kernel
theorem zd_Q_secondTo_38 : decode zc_Q_secondTo 38 = .ok (.idiv, 1) := by decide +kernel
theorem zd_Q_secondTo_39 : decode zc_Q_secondTo 39 = .ok (.bipush 60, 2) := by decide +kernel
theorem zd_Q_secondTo_41 : decode zc_Q_secondTo 41 = .ok (.irem, 1) := by decide +kernel
theorem zd_Q_secondTo_42 : decode zc_Q_secondTo 42 = .ok (.goto 5, 3) := by decide +kernel
theorem zd_Q_secondTo_45 : decode zc_Q_secondTo 45 = .ok (.bipush 59, 2) := by decide +kernel
theorem zd_Q_secondTo_47 : decode zc_Q_secondTo 47 = .ok (.istore 4, 2) := by decide +kernel
theorem zd_Q_secondTo_49 : decode zc_Q_secondTo 49 = .ok (.iload 4, 2) := by decide +kernel
theorem zd_Q_secondTo_51 : decode zc_Q_secondTo 51 = .ok (.ifCond .lt 94, 3) := by decide +kernel
theorem zd_Q_secondTo_54 : decode zc_Q_secondTo 54 = .ok (.aload_n 0, 1) := by decide +kernel
theorem zd_Q_secondTo_55 : decode zc_Q_secondTo 55 = .ok (.getfield 19, 3) := by decide +kernel
theorem zd_Q_secondTo_58 : decode zc_Q_secondTo 58 = .ok (.iload_n 1, 1) := by decide +kernel
theorem zd_Q_secondTo_59 : decode zc_Q_secondTo 59 = .ok (.aaload, 1) := by decide +kernel
theorem zd_Q_secondTo_60 : decode zc_Q_secondTo 60 = .ok (.iconst 1, 1) := by decide +kernel
theorem zd_Q_secondTo_61 : decode zc_Q_secondTo 61 = .ok (.aaload, 1) := by decide +kernel
theorem zd_Q_secondTo_62 : decode zc_Q_secondTo 62 = .ok (.iload 4, 2) := by decide +kernel
theorem zd_Q_secondTo_64 : decode zc_Q_secondTo 64 = .ok (.baload, 1) := by decide +kernel
theorem zd_Q_secondTo_65 : decode zc_Q_secondTo 65 = .ok (.ifCond .ne 6, 3) := by decide +kernel
theorem zd_Q_secondTo_68 : decode zc_Q_secondTo 68 = .ok (.goto 71, 3) := by decide +kernel
theorem zd_Q_secondTo_71 : decode zc_Q_secondTo 71 = .ok (.bipush 60, 2) := by decide +kernel
theorem zd_Q_secondTo_73 : decode zc_Q_secondTo 73 = .ok (.bipush 60, 2) := by decide +kernel
theorem zd_Q_secondTo_75 : decode zc_Q_secondTo 75 = .ok (.iload_n 3, 1) := by decide +kernel
theorem zd_Q_secondTo_76 : decode zc_Q_secondTo 76 = .ok (.imul, 1) := by decide +kernel
theorem zd_Q_secondTo_77 : decode zc_Q_secondTo 77 = .ok (.iload 4, 2) := by decide +kernel
theorem zd_Q_secondTo_79 : decode zc_Q_secondTo 79 = .ok (.iadd, 1) := by decide +kernel
theorem zd_Q_secondTo_80 : decode zc_Q_secondTo 80 = .ok (.imul, 1) := by decide +kernel
theorem zd_Q_secondTo_81 : decode zc_Q_secondTo 81 = .ok (.bipush 59, 2) := by decide +kernel
theorem zd_Q_secondTo_83 : decode zc_Q_secondTo 83 = .ok (.iadd, 1) := by decide +kernel
theorem zd_Q_secondTo_84 : decode zc_Q_secondTo 84 = .ok (.iload_n 2, 1) := by decide +kernel
theorem zd_Q_secondTo_85 : decode zc_Q_secondTo 85 = .ok (.if_icmp .le 10, 3) := by decide +kernel
theorem zd_Q_secondTo_88 : decode zc_Q_secondTo 88 = .ok (.iload_n 2, 1) := by decide +kernel
theorem zd_Q_secondTo_89 : decode zc_Q_secondTo 89 = .ok (.bipush 60, 2) := by decide +kernel
theorem zd_Q_secondTo_91 : decode zc_Q_secondTo 91 = .ok (.irem, 1) := by decide +kernel
theorem zd_Q_secondTo_92 : decode zc_Q_secondTo 92 = .ok (.goto 5, 3) := by decide +kernel
theorem zd_Q_secondTo_95 : decode zc_Q_secondTo 95 = .ok (.bipush 59, 2) := by decide +kernel
theorem zd_Q_secondTo_97 : decode zc_Q_secondTo 97 = .ok (.istore 5, 2) := by decide +kernel
theorem zd_Q_secondTo_99 : decode zc_Q_secondTo 99 = .ok (.iload 5, 2) := by decide +kernel
theorem zd_Q_secondTo_101 : decode zc_Q_secondTo 101 = .ok (.ifCond .lt 38, 3) := by decide +kernel
theorem zd_Q_secondTo_104 : decode zc_Q_secondTo 104 = .ok (.aload_n 0, 1) := by decide +kernel
theorem zd_Q_secondTo_105 : decode zc_Q_secondTo 105 = .ok (.getfield 19, 3) := by decide +kernel
theorem zd_Q_secondTo_108 : decode zc_Q_secondTo 108 = .ok (.iload_n 1, 1) := by decide +kernel
theorem zd_Q_secondTo_109 : decode zc_Q_secondTo 109 = .ok (.aaload, 1) := by decide +kernel
theorem zd_Q_secondTo_110 : decode zc_Q_secondTo 110 = .ok (.iconst 0, 1) := by decide +kernel
theorem zd_Q_secondTo_111 : decode zc_Q_secondTo 111 = .ok (.aaload, 1) := by decide +kernel
theorem zd_Q_secondTo_112 : decode zc_Q_secondTo 112 = .ok (.iload 5, 2) := by decide +kernel
theorem zd_Q_secondTo_114 : decode zc_Q_secondTo 114 = .ok (.baload, 1) := by decide +kernel
theorem zd_Q_secondTo_115 : decode zc_Q_secondTo 115 = .ok (.ifCond .eq 18, 3) := by decide +kernel
theorem zd_Q_secondTo_118 : decode zc_Q_secondTo 118 = .ok (.sipush 3600, 3) := by decide +kernel
theorem zd_Q_secondTo_121 : decode zc_Q_secondTo 121 = .ok (.iload_n 3, 1) := by decide +kernel
theorem zd_Q_secondTo_122 : decode zc_Q_secondTo 122 = .ok (.imul, 1) := by decide +kernel
theorem zd_Q_secondTo_123 : decode zc_Q_secondTo 123 = .ok (.bipush 60, 2) := by decide +kernel
theorem zd_Q_secondTo_125 : decode zc_Q_secondTo 125 = .ok (.iload 4, 2) := by decide +kernel
theorem zd_Q_secondTo_127 : decode zc_Q_secondTo 127 = .ok (.imul, 1) := by decide +kernel
theorem zd_Q_secondTo_128 : decode zc_Q_secondTo 128 = .ok (.iadd, 1) := by decide +kernel
theorem zd_Q_secondTo_129 : decode zc_Q_secondTo 129 = .ok (.iload 5, 2) := by decide +kernel
theorem zd_Q_secondTo_131 : decode zc_Q_secondTo 131 = .ok (.iadd, 1) := by decide +kernel
theorem zd_Q_secondTo_132 : decode zc_Q_secondTo 132 = .ok (.ireturn, 1) := by decide +kernel
theorem zd_Q_secondTo_133 : decode zc_Q_secondTo 133 = .ok (.iinc 5 (-1), 3) := by decide +kernel
theorem zd_Q_secondTo_136 : decode zc_Q_secondTo 136 = .ok (.goto (-37), 3) := by decide +kernel
theorem zd_Q_secondTo_139 : decode zc_Q_secondTo 139 = .ok (.iinc 4 (-1), 3) := by decide +kernel
theorem zd_Q_secondTo_142 : decode zc_Q_secondTo 142 = .ok (.goto (-93), 3) := by decide +kernel
theorem zd_Q_secondTo_145 : decode zc_Q_secondTo 145 = .ok (.iinc 3 (-1), 3) := by decide +kernel
theorem zd_Q_secondTo_148 : decode zc_Q_secondTo 148 = .ok (.goto (-142), 3) := by decide +kernel
theorem zd_Q_secondTo_151 : decode zc_Q_secondTo 151 = .ok (.iconst (-1), 1) := by decide +kernel
theorem zd_Q_secondTo_152 : decode zc_Q_secondTo 152 = .ok (.ireturn, 1) := by decide +kernel
section QSE
variable {f0 f1 f2 : Nat → Bool} {x h m s : Int}
def sNo (f0 f1 f2 : Nat → Bool) (a b : Int) : Prop := ∀ y, a ≤ y → y < b → sOk f0 f1 f2 y = false
theorem sOk_h {y : Int} (e : y / 3600 = h) (q : f2 h.toNat = false) : sOk f0 f1 f2 y = false := by unfold sOk; rw [e, q]; rfl
theorem sOk_m {y : Int} (e : y / 60 % 60 = m) (q : f1 m.toNat = false) : sOk f0 f1 f2 y = false := by unfold sOk; rw [e, q, Bool.false_and, Bool.and_false]
theorem sOk_s {y : Int} (e : y % 60 = s) (q : f0 s.toNat = false) : sOk f0 f1 f2 y = false := by unfold sOk; rw [e, q, Bool.and_false, Bool.and_false]
theorem sOk_y {y : Int} (e2 : y / 3600 = h) (e1 : y / 60 % 60 = m) (e0 : y % 60 = s) (q2 : f2 h.toNat = true) (q1 : f1 m.toNat = true) (q0 : f0 s.toNat = true) : sOk f0 f1 f2 y = true := by unfold sOk; rw [e2, e1, e0, q2, q1, q0]; rfl
theorem sNo_0 {a b : Int} (h : b ≤ a) : sNo f0 f1 f2 a b := fun y h1 h2 => absurd h1 (by omega)
theorem sNo_h (hN : sNo f0 f1 f2 x (3600 * h)) (q : f2 h.toNat = false) : sNo f0 f1 f2 x (3600 * (h + 1)) := fun y h1 h2 => by
  by_cases e : y < 3600 * h
  · exact hN y h1 e
  · exact sOk_h (h := h) (by omega) q
theorem sNo_m (hm : 0 ≤ m ∧ m < 60) (hN : sNo f0 f1 f2 x (3600 * h + 60 * m)) (q : f1 m.toNat = false) : sNo f0 f1 f2 x (3600 * h + 60 * (m + 1)) := fun y h1 h2 => by
  by_cases e : y < 3600 * h + 60 * m
  · exact hN y h1 e
  · exact sOk_m (m := m) (by omega) q
theorem sNo_s (hs : 0 ≤ s ∧ s < 60) (hN : sNo f0 f1 f2 x (3600 * h + 60 * m + s)) (q : f0 s.toNat = false) : sNo f0 f1 f2 x (3600 * h + 60 * m + (s + 1)) := fun y h1 h2 => by
  by_cases e : y < 3600 * h + 60 * m + s
  · exact hN y h1 e
  · exact sOk_s (s := s) (by omega) q
theorem sNo_e {a b b' : Int} (hN : sNo f0 f1 f2 a b) (e : b = b') : sNo f0 f1 f2 a b' := e ▸ hN
theorem sNo_a {a a' b : Int} (hN : sNo f0 f1 f2 a b) (e : a = a') : sNo f0 f1 f2 a' b := e ▸ hN
theorem sNo_hit (hh : 0 ≤ h ∧ h < 24) (hm : 0 ≤ m ∧ m < 60) (hs : 0 ≤ s ∧ s < 60) (hx : x ≤ 3600 * h + 60 * m + s) (hN : sNo f0 f1 f2 x (3600 * h + 60 * m + s)) (q2 : f2 h.toNat = true) (q1 : f1 m.toNat = true) (q0 : f0 s.toNat = true) : sSF f0 f1 f2 x (3600 * h + 60 * m + s) :=
  Or.inr ⟨hx, by omega, sOk_y (h := h) (m := m) (s := s) (by omega) (by omega) (by omega) q2 q1 q0, hN⟩
theorem sNo_end (hN : sNo f0 f1 f2 x (3600 * 24)) : sSF f0 f1 f2 x (-1) := Or.inl ⟨rfl, fun y h1 h2 => hN y h1 (by omega)⟩
-- backwards: none above
theorem sNb_h (hN : sNo f0 f1 f2 (3600 * (h + 1)) x) (q : f2 h.toNat = false) : sNo f0 f1 f2 (3600 * h) x := fun y h1 h2 => by
  by_cases e : 3600 * (h + 1) ≤ y
  · exact hN y e h2
  · exact sOk_h (h := h) (by omega) q
theorem sNb_m (hm : 0 ≤ m ∧ m < 60) (hN : sNo f0 f1 f2 (3600 * h + 60 * (m + 1)) x) (q : f1 m.toNat = false) : sNo f0 f1 f2 (3600 * h + 60 * m) x := fun y h1 h2 => by
  by_cases e : 3600 * h + 60 * (m + 1) ≤ y
  · exact hN y e h2
  · exact sOk_m (m := m) (by omega) q
theorem sNb_s (hs : 0 ≤ s ∧ s < 60) (hN : sNo f0 f1 f2 (3600 * h + 60 * m + (s + 1)) x) (q : f0 s.toNat = false) : sNo f0 f1 f2 (3600 * h + 60 * m + s) x := fun y h1 h2 => by
  by_cases e : 3600 * h + 60 * m + (s + 1) ≤ y
  · exact hN y e h2
  · exact sOk_s (s := s) (by omega) q
theorem sNb_hit (hh : 0 ≤ h ∧ h < 24) (hm : 0 ≤ m ∧ m < 60) (hs : 0 ≤ s ∧ s < 60) (hx : 3600 * h + 60 * m + s ≤ x) (hN : sNo f0 f1 f2 (3600 * h + 60 * m + (s + 1)) (x + 1)) (q2 : f2 h.toNat = true) (q1 : f1 m.toNat = true) (q0 : f0 s.toNat = true) : sSB f0 f1 f2 x (3600 * h + 60 * m + s) :=
  Or.inr ⟨by omega, hx, sOk_y (h := h) (m := m) (s := s) (by omega) (by omega) (by omega) q2 q1 q0, fun y h1 h2 => hN y (by omega) (by omega)⟩
theorem sNb_end (hN : sNo f0 f1 f2 0 (x + 1)) : sSB f0 f1 f2 x (-1) := Or.inl ⟨rfl, fun y h1 h2 => hN y h1 (by omega)⟩
end QSE
set_option maxHeartbeats 4000000 in
set_option maxRecDepth 100000 in
theorem c_Q_secondFrom (l : Launch) (g : zGl) (qq : Nat) (rf : Nat → Nat) (fl ln pl yy mm dd at0 wa on tw hc : Int) (sa sr : Nat → Nat) (st : Nat → Nat → Bool) (x r : Int) (hx0 : 0 ≤ x ∧ x < 86400) (hj : sSF (st 0) (st 1) (st 2) x r) : zSi l zy_Q_secondFrom zc_Q_secondFrom 6 (some .int) ({ frames := 0, cells := 0, slots := 0, locals := 0 }) g zN [.ref (qq), .int (iI (0)), .int (iI (x))] [(qq, .inr (5, [.int (iI (fl)), .ref (rf 0), .int (iI (ln)), .int (iI (pl)), .int (iI (yy)), .int (iI (mm)), .int (iI (dd)), .int (iI (at0)), .ref (rf 1), .ref (rf 2), .ref (rf 3), .ref (rf 4), .ref (rf 5), .ref (rf 6), .int (iI (wa)), .int (iI (on)), .int (iI (tw)), .ref (rf 7), .ref (rf 8), .ref (rf 9), .int (iI (hc))])), (rf 1, .inl (g.2 6, 1, .inr (.inr (.inr (.inr (zaR sa)))))), (sa 0, .inl (g.2 5, 7, .inr (.inr (.inr (.inr (zaR sr)))))), (sr 0, .inl (g.2 1, 330, .inl (zaB (st 0)))), (sr 1, .inl (g.2 1, 330, .inl (zaB (st 1)))), (sr 2, .inl (g.2 1, 330, .inl (zaB (st 2))))] (some (.int (iI (r)))) := by
  refine zs_open (by decide +kernel) (Nat.le_of_ble_eq_true rfl) ?_
  intro p e s m below meth c ls hx hb hml hr hlk hown hw hK hT hP hl
  have hown : s.vm.findClass "CronFinderModel" = some m.cls := hown
  have hl : lv_has ls 6 [(0, .ref (qq)), (1, .int (iI (0))), (2, .int (iI (x)))] := hl
  refine lv_iload_n hx hb zd_Q_secondFrom_0 rfl (lv_at hl 2 rfl) ?_
  refine zi_sipush hx hb zd_Q_secondFrom_1 (by decide) ?_
  refine zi_idiv hx hb zd_Q_secondFrom_4 (by omega) ?_
  refine lv_istore_n (lv' := [(3, .int (iI (x / 3600))), (0, .ref (qq)), (1, .int (iI (0))), (2, .int (iI (x)))]) hx hb zd_Q_secondFrom_5 rfl hl (by decide) rfl (fun ls hl => ?_)
  have looph : ∀ (n7 : Nat) (h : Int) (ls : Array Slot), (x / 3600 ≤ h ∧ h ≤ 24) → (sNo (st 0) (st 1) (st 2) x (3600 * h)) → ((24 - h).toNat < n7) → lv_has ls 6 [(3, .int (iI (h))), (0, .ref (qq)), (1, .int (iI (0))), (2, .int (iI (x)))] → W p l e ({ frames := 0, cells := 0, slots := 0, locals := 0 }) s m [.ref (qq), .int (iI (0)), .int (iI (x))].toArray below meth c s.heap [] 0 0 (MQ below (zSil (some (.int (iI (r))))) [.ref (qq), .int (iI (0)), .int (iI (x))].toArray s 0 0 (fun _ => False)) (F0 m 6 ls []) := by
    intro n7
    induction n7 with
    | zero =>
      intro h ls h1 hNh h2 hl
      exact absurd h2 (by omega)
    | succ n7 ihh =>
      intro h ls h1 hNh h2 hl
      refine lv_iload_n hx hb zd_Q_secondFrom_6 rfl (lv_at hl 0 rfl) ?_
      refine zi_bipush hx hb zd_Q_secondFrom_7 (by decide) ?_
      refine zi_icmp_ge (tgt := 152) hx hb zd_Q_secondFrom_9 (by decide) (by omega) (fun c9 => ?_) (fun c9 => ?_)
      · refine zi_iconst hx hb zd_Q_secondFrom_152 ?_
        refine zi_as r (sSF_un hx0.1 (sNo_end (sNo_e hNh (by omega))) hj) ?_
        exact zs_iret hx hb hr hlk zd_Q_secondFrom_153
      · refine lv_aload_n hx hb zd_Q_secondFrom_12 rfl (lv_at hl 1 rfl) ?_
        refine va_get (D := g.1) (ci := 5) (v := .ref (rf 1)) (C := zR_Q) (T := zT_Q) (N := 21) hx hb hw zin_Q hown hK hP 0 rfl rfl 8 (by decide) (hw _ zw_3_206) (fun _ h9 => h9) rfl zd_Q_secondFrom_13 ?_
        refine lv_iload_n hx hb zd_Q_secondFrom_16 rfl (lv_at hl 2 rfl) ?_
        refine zi_aald (k := 0) hx hb hK hP 1 6 rfl rfl (by omega) rfl zd_Q_secondFrom_17 ?_
        refine zi_iconst hx hb zd_Q_secondFrom_18 ?_
        refine zi_aald (k := 2) hx hb hK hP 2 5 rfl rfl (by omega) rfl zd_Q_secondFrom_19 ?_
        refine lv_iload_n hx hb zd_Q_secondFrom_20 rfl (lv_at hl 0 rfl) ?_
        refine zi_zald hx hb hK hP 5 1 rfl rfl (by omega) zd_Q_secondFrom_21 ?_
        refine zb_if_ne (tgt := 28) hx hb zd_Q_secondFrom_22 (by decide) (fun c22 => ?_) (fun c22 => ?_)
        · refine lv_iload_n hx hb zd_Q_secondFrom_28 rfl (lv_at hl 0 rfl) ?_
          refine lv_iload_n hx hb zd_Q_secondFrom_29 rfl (lv_at hl 3 rfl) ?_
          refine zi_sipush hx hb zd_Q_secondFrom_30 (by decide) ?_
          refine zi_idiv hx hb zd_Q_secondFrom_33 (by omega) ?_
          refine zi_icmp_ne (tgt := 47) hx hb zd_Q_secondFrom_34 (by decide) (by omega) (fun c34 => ?_) (fun c34 => ?_)
          · refine zi_iconst hx hb zd_Q_secondFrom_47 ?_
            refine lv_istore (lv' := [(4, .int (iI (0))), (3, .int (iI (h))), (0, .ref (qq)), (1, .int (iI (0))), (2, .int (iI (x)))]) hx hb zd_Q_secondFrom_48 hl (by decide) rfl (fun ls hl => ?_)
            have loopm : ∀ (n8 : Nat) (m0 : Int) (ls : Array Slot), (0 ≤ m0 ∧ m0 ≤ 60 ∧ x - x % 60 ≤ 3600 * h + 60 * m0) → (sNo (st 0) (st 1) (st 2) x (3600 * h + 60 * m0)) → ((60 - m0).toNat < n8) → lv_has ls 6 [(4, .int (iI (m0))), (3, .int (iI (h))), (0, .ref (qq)), (1, .int (iI (0))), (2, .int (iI (x)))] → W p l e ({ frames := 0, cells := 0, slots := 0, locals := 0 }) s m [.ref (qq), .int (iI (0)), .int (iI (x))].toArray below meth c s.heap [] 0 0 (MQ below (zSil (some (.int (iI (r))))) [.ref (qq), .int (iI (0)), .int (iI (x))].toArray s 0 0 (fun _ => False)) (F0 m 50 ls []) := by
              intro n8
              induction n8 with
              | zero =>
                intro m0 ls g1 hNm g2 hl
                exact absurd g2 (by omega)
              | succ n8 ihm =>
                intro m0 ls g1 hNm g2 hl
                refine lv_iload hx hb zd_Q_secondFrom_50 (lv_at hl 0 rfl) ?_
                refine zi_bipush hx hb zd_Q_secondFrom_52 (by decide) ?_
                refine zi_icmp_ge (tgt := 146) hx hb zd_Q_secondFrom_54 (by decide) (by omega) (fun c54 => ?_) (fun c54 => ?_)
                · refine lv_iinc (v := iI (h + 1)) (lv' := [(3, .int (iI (h + 1))), (4, .int (iI (m0))), (0, .ref (qq)), (1, .int (iI (0))), (2, .int (iI (x)))]) hx hb zd_Q_secondFrom_146 hl (k := 1) rfl (iI_add _ _) (by decide) rfl (fun ls hl => ?_)
                  refine lv_goto (tgt := 6) hx hb zd_Q_secondFrom_149 (by decide) ?_
                  exact ihh (h + 1) ls (by omega) (sNo_e hNm (by omega)) (by omega) (lv_sub hl [0, 2, 3, 4] rfl)
                · refine lv_aload_n hx hb zd_Q_secondFrom_57 rfl (lv_at hl 2 rfl) ?_
                  refine va_get (D := g.1) (ci := 5) (v := .ref (rf 1)) (C := zR_Q) (T := zT_Q) (N := 21) hx hb hw zin_Q hown hK hP 0 rfl rfl 8 (by decide) (hw _ zw_3_206) (fun _ h9 => h9) rfl zd_Q_secondFrom_58 ?_
                  refine lv_iload_n hx hb zd_Q_secondFrom_61 rfl (lv_at hl 3 rfl) ?_
                  refine zi_aald (k := 0) hx hb hK hP 1 6 rfl rfl (by omega) rfl zd_Q_secondFrom_62 ?_
                  refine zi_iconst hx hb zd_Q_secondFrom_63 ?_
                  refine zi_aald (k := 1) hx hb hK hP 2 5 rfl rfl (by omega) rfl zd_Q_secondFrom_64 ?_
                  refine lv_iload hx hb zd_Q_secondFrom_65 (lv_at hl 0 rfl) ?_
                  refine zi_zald hx hb hK hP 4 1 rfl rfl (by omega) zd_Q_secondFrom_67 ?_
                  refine zb_if_ne (tgt := 74) hx hb zd_Q_secondFrom_68 (by decide) (fun c68 => ?_) (fun c68 => ?_)
                  · refine zi_bipush hx hb zd_Q_secondFrom_74 (by decide) ?_
                    refine zi_bipush hx hb zd_Q_secondFrom_76 (by decide) ?_
                    refine lv_iload_n hx hb zd_Q_secondFrom_78 rfl (lv_at hl 1 rfl) ?_
                    refine zi_imul hx hb zd_Q_secondFrom_79 ?_
                    refine lv_iload hx hb zd_Q_secondFrom_80 (lv_at hl 0 rfl) ?_
                    refine zi_iadd hx hb zd_Q_secondFrom_82 ?_
                    refine zi_imul hx hb zd_Q_secondFrom_83 ?_
                    refine lv_iload_n hx hb zd_Q_secondFrom_84 rfl (lv_at hl 4 rfl) ?_
                    refine zi_icmp_ge (tgt := 95) hx hb zd_Q_secondFrom_85 (by decide) (by omega) (fun c85 => ?_) (fun c85 => ?_)
                    · refine zi_iconst hx hb zd_Q_secondFrom_95 ?_
                      refine lv_istore (lv' := [(5, .int (iI (0))), (4, .int (iI (m0))), (3, .int (iI (h))), (0, .ref (qq)), (1, .int (iI (0))), (2, .int (iI (x)))]) hx hb zd_Q_secondFrom_96 hl (by decide) rfl (fun ls hl => ?_)
                      have loops : ∀ (n9 : Nat) (s0 : Int) (ls : Array Slot), (0 ≤ s0 ∧ s0 ≤ 60 ∧ x ≤ 3600 * h + 60 * m0 + s0) → (sNo (st 0) (st 1) (st 2) x (3600 * h + 60 * m0 + s0)) → ((60 - s0).toNat < n9) → lv_has ls 6 [(5, .int (iI (s0))), (4, .int (iI (m0))), (3, .int (iI (h))), (0, .ref (qq)), (1, .int (iI (0))), (2, .int (iI (x)))] → W p l e ({ frames := 0, cells := 0, slots := 0, locals := 0 }) s m [.ref (qq), .int (iI (0)), .int (iI (x))].toArray below meth c s.heap [] 0 0 (MQ below (zSil (some (.int (iI (r))))) [.ref (qq), .int (iI (0)), .int (iI (x))].toArray s 0 0 (fun _ => False)) (F0 m 98 ls []) := by
                        intro n9
                        induction n9 with
                        | zero =>
                          intro s0 ls k1 hNs k2 hl
                          exact absurd k2 (by omega)
                        | succ n9 ihs =>
                          intro s0 ls k1 hNs k2 hl
                          refine lv_iload hx hb zd_Q_secondFrom_98 (lv_at hl 0 rfl) ?_
                          refine zi_bipush hx hb zd_Q_secondFrom_100 (by decide) ?_
                          refine zi_icmp_ge (tgt := 140) hx hb zd_Q_secondFrom_102 (by decide) (by omega) (fun c102 => ?_) (fun c102 => ?_)
                          · refine lv_iinc (v := iI (m0 + 1)) (lv' := [(4, .int (iI (m0 + 1))), (5, .int (iI (s0))), (3, .int (iI (h))), (0, .ref (qq)), (1, .int (iI (0))), (2, .int (iI (x)))]) hx hb zd_Q_secondFrom_140 hl (k := 1) rfl (iI_add _ _) (by decide) rfl (fun ls hl => ?_)
                            refine lv_goto (tgt := 50) hx hb zd_Q_secondFrom_143 (by decide) ?_
                            exact ihm (m0 + 1) ls (by omega) (sNo_e hNs (by omega)) (by omega) (lv_sub hl [0, 2, 3, 4, 5] rfl)
                          · refine lv_aload_n hx hb zd_Q_secondFrom_105 rfl (lv_at hl 3 rfl) ?_
                            refine va_get (D := g.1) (ci := 5) (v := .ref (rf 1)) (C := zR_Q) (T := zT_Q) (N := 21) hx hb hw zin_Q hown hK hP 0 rfl rfl 8 (by decide) (hw _ zw_3_206) (fun _ h9 => h9) rfl zd_Q_secondFrom_106 ?_
                            refine lv_iload_n hx hb zd_Q_secondFrom_109 rfl (lv_at hl 4 rfl) ?_
                            refine zi_aald (k := 0) hx hb hK hP 1 6 rfl rfl (by omega) rfl zd_Q_secondFrom_110 ?_
                            refine zi_iconst hx hb zd_Q_secondFrom_111 ?_
                            refine zi_aald (k := 0) hx hb hK hP 2 5 rfl rfl (by omega) rfl zd_Q_secondFrom_112 ?_
                            refine lv_iload hx hb zd_Q_secondFrom_113 (lv_at hl 0 rfl) ?_
                            refine zi_zald hx hb hK hP 3 1 rfl rfl (by omega) zd_Q_secondFrom_115 ?_
                            refine zb_if_eq (tgt := 134) hx hb zd_Q_secondFrom_116 (by decide) (fun c116 => ?_) (fun c116 => ?_)
                            · refine lv_iinc (v := iI (s0 + 1)) (lv' := [(5, .int (iI (s0 + 1))), (4, .int (iI (m0))), (3, .int (iI (h))), (0, .ref (qq)), (1, .int (iI (0))), (2, .int (iI (x)))]) hx hb zd_Q_secondFrom_134 hl (k := 0) rfl (iI_add _ _) (by decide) rfl (fun ls hl => ?_)
                              refine lv_goto (tgt := 98) hx hb zd_Q_secondFrom_137 (by decide) ?_
                              exact ihs (s0 + 1) ls (by omega) (sNo_s (by omega) hNs c116) (by omega) (lv_sub hl [0, 1, 2, 3, 4, 5] rfl)
                            · refine zi_sipush hx hb zd_Q_secondFrom_119 (by decide) ?_
                              refine lv_iload_n hx hb zd_Q_secondFrom_122 rfl (lv_at hl 2 rfl) ?_
                              refine zi_imul hx hb zd_Q_secondFrom_123 ?_
                              refine zi_bipush hx hb zd_Q_secondFrom_124 (by decide) ?_
                              refine lv_iload hx hb zd_Q_secondFrom_126 (lv_at hl 1 rfl) ?_
                              refine zi_imul hx hb zd_Q_secondFrom_128 ?_
                              refine zi_iadd hx hb zd_Q_secondFrom_129 ?_
                              refine lv_iload hx hb zd_Q_secondFrom_130 (lv_at hl 0 rfl) ?_
                              refine zi_iadd hx hb zd_Q_secondFrom_132 ?_
                              refine zi_as r (sSF_un hx0.1 (sNo_hit (by omega) (by omega) (by omega) (by omega) hNs c22 c68 c116) hj) ?_
                              exact zs_iret hx hb hr hlk zd_Q_secondFrom_133
                      exact loops 61 (0) ls (by omega) (by first | exact (sNo_e hNm (by omega)) | exact sNo_0 (by omega)) (by omega) (lv_sub hl [0, 1, 2, 3, 4, 5] rfl)
                    · refine lv_iload_n hx hb zd_Q_secondFrom_88 rfl (lv_at hl 4 rfl) ?_
                      refine zi_bipush hx hb zd_Q_secondFrom_89 (by decide) ?_
                      refine zi_irem hx hb zd_Q_secondFrom_91 (by omega) ?_
                      refine lv_goto (tgt := 96) hx hb zd_Q_secondFrom_92 (by decide) ?_
                      refine lv_istore (lv' := [(5, .int (iI (x % 60))), (4, .int (iI (m0))), (3, .int (iI (h))), (0, .ref (qq)), (1, .int (iI (0))), (2, .int (iI (x)))]) hx hb zd_Q_secondFrom_96 hl (by decide) rfl (fun ls hl => ?_)
                      have loops : ∀ (n9 : Nat) (s0 : Int) (ls : Array Slot), (0 ≤ s0 ∧ s0 ≤ 60 ∧ x ≤ 3600 * h + 60 * m0 + s0) → (sNo (st 0) (st 1) (st 2) x (3600 * h + 60 * m0 + s0)) → ((60 - s0).toNat < n9) → lv_has ls 6 [(5, .int (iI (s0))), (4, .int (iI (m0))), (3, .int (iI (h))), (0, .ref (qq)), (1, .int (iI (0))), (2, .int (iI (x)))] → W p l e ({ frames := 0, cells := 0, slots := 0, locals := 0 }) s m [.ref (qq), .int (iI (0)), .int (iI (x))].toArray below meth c s.heap [] 0 0 (MQ below (zSil (some (.int (iI (r))))) [.ref (qq), .int (iI (0)), .int (iI (x))].toArray s 0 0 (fun _ => False)) (F0 m 98 ls []) := by
                        intro n9
                        induction n9 with
                        | zero =>
                          intro s0 ls k1 hNs k2 hl
                          exact absurd k2 (by omega)
                        | succ n9 ihs =>
                          intro s0 ls k1 hNs k2 hl
                          refine lv_iload hx hb zd_Q_secondFrom_98 (lv_at hl 0 rfl) ?_
                          refine zi_bipush hx hb zd_Q_secondFrom_100 (by decide) ?_
                          refine zi_icmp_ge (tgt := 140) hx hb zd_Q_secondFrom_102 (by decide) (by omega) (fun c102 => ?_) (fun c102 => ?_)
                          · refine lv_iinc (v := iI (m0 + 1)) (lv' := [(4, .int (iI (m0 + 1))), (5, .int (iI (s0))), (3, .int (iI (h))), (0, .ref (qq)), (1, .int (iI (0))), (2, .int (iI (x)))]) hx hb zd_Q_secondFrom_140 hl (k := 1) rfl (iI_add _ _) (by decide) rfl (fun ls hl => ?_)
                            refine lv_goto (tgt := 50) hx hb zd_Q_secondFrom_143 (by decide) ?_
                            exact ihm (m0 + 1) ls (by omega) (sNo_e hNs (by omega)) (by omega) (lv_sub hl [0, 2, 3, 4, 5] rfl)
                          · refine lv_aload_n hx hb zd_Q_secondFrom_105 rfl (lv_at hl 3 rfl) ?_
                            refine va_get (D := g.1) (ci := 5) (v := .ref (rf 1)) (C := zR_Q) (T := zT_Q) (N := 21) hx hb hw zin_Q hown hK hP 0 rfl rfl 8 (by decide) (hw _ zw_3_206) (fun _ h9 => h9) rfl zd_Q_secondFrom_106 ?_
                            refine lv_iload_n hx hb zd_Q_secondFrom_109 rfl (lv_at hl 4 rfl) ?_
                            refine zi_aald (k := 0) hx hb hK hP 1 6 rfl rfl (by omega) rfl zd_Q_secondFrom_110 ?_
                            refine zi_iconst hx hb zd_Q_secondFrom_111 ?_
                            refine zi_aald (k := 0) hx hb hK hP 2 5 rfl rfl (by omega) rfl zd_Q_secondFrom_112 ?_
                            refine lv_iload hx hb zd_Q_secondFrom_113 (lv_at hl 0 rfl) ?_
                            refine zi_zald hx hb hK hP 3 1 rfl rfl (by omega) zd_Q_secondFrom_115 ?_
                            refine zb_if_eq (tgt := 134) hx hb zd_Q_secondFrom_116 (by decide) (fun c116 => ?_) (fun c116 => ?_)
                            · refine lv_iinc (v := iI (s0 + 1)) (lv' := [(5, .int (iI (s0 + 1))), (4, .int (iI (m0))), (3, .int (iI (h))), (0, .ref (qq)), (1, .int (iI (0))), (2, .int (iI (x)))]) hx hb zd_Q_secondFrom_134 hl (k := 0) rfl (iI_add _ _) (by decide) rfl (fun ls hl => ?_)
                              refine lv_goto (tgt := 98) hx hb zd_Q_secondFrom_137 (by decide) ?_
                              exact ihs (s0 + 1) ls (by omega) (sNo_s (by omega) hNs c116) (by omega) (lv_sub hl [0, 1, 2, 3, 4, 5] rfl)
                            · refine zi_sipush hx hb zd_Q_secondFrom_119 (by decide) ?_
                              refine lv_iload_n hx hb zd_Q_secondFrom_122 rfl (lv_at hl 2 rfl) ?_
                              refine zi_imul hx hb zd_Q_secondFrom_123 ?_
                              refine zi_bipush hx hb zd_Q_secondFrom_124 (by decide) ?_
                              refine lv_iload hx hb zd_Q_secondFrom_126 (lv_at hl 1 rfl) ?_
                              refine zi_imul hx hb zd_Q_secondFrom_128 ?_
                              refine zi_iadd hx hb zd_Q_secondFrom_129 ?_
                              refine lv_iload hx hb zd_Q_secondFrom_130 (lv_at hl 0 rfl) ?_
                              refine zi_iadd hx hb zd_Q_secondFrom_132 ?_
                              refine zi_as r (sSF_un hx0.1 (sNo_hit (by omega) (by omega) (by omega) (by omega) hNs c22 c68 c116) hj) ?_
                              exact zs_iret hx hb hr hlk zd_Q_secondFrom_133
                      exact loops 61 (x % 60) ls (by omega) (by first | exact (sNo_e hNm (by omega)) | exact sNo_0 (by omega)) (by omega) (lv_sub hl [0, 1, 2, 3, 4, 5] rfl)
                  · refine lv_goto (tgt := 140) hx hb zd_Q_secondFrom_71 (by decide) ?_
                    refine lv_iinc (v := iI (m0 + 1)) (lv' := [(4, .int (iI (m0 + 1))), (3, .int (iI (h))), (0, .ref (qq)), (1, .int (iI (0))), (2, .int (iI (x)))]) hx hb zd_Q_secondFrom_140 hl (k := 0) rfl (iI_add _ _) (by decide) rfl (fun ls hl => ?_)
                    refine lv_goto (tgt := 50) hx hb zd_Q_secondFrom_143 (by decide) ?_
                    exact ihm (m0 + 1) ls (by omega) (sNo_m (by omega) hNm c68) (by omega) (lv_sub hl [0, 1, 2, 3, 4] rfl)
            exact loopm 61 (0) ls (by omega) (by first | exact (sNo_e hNh (by omega)) | exact sNo_0 (by omega)) (by omega) (lv_sub hl [0, 1, 2, 3, 4] rfl)
          · refine lv_iload_n hx hb zd_Q_secondFrom_37 rfl (lv_at hl 3 rfl) ?_
            refine zi_bipush hx hb zd_Q_secondFrom_38 (by decide) ?_
            refine zi_idiv hx hb zd_Q_secondFrom_40 (by omega) ?_
            refine zi_bipush hx hb zd_Q_secondFrom_41 (by decide) ?_
            refine zi_irem hx hb zd_Q_secondFrom_43 (by omega) ?_
            refine lv_goto (tgt := 48) hx hb zd_Q_secondFrom_44 (by decide) ?_
            refine lv_istore (lv' := [(4, .int (iI ((x / 60) % 60))), (3, .int (iI (h))), (0, .ref (qq)), (1, .int (iI (0))), (2, .int (iI (x)))]) hx hb zd_Q_secondFrom_48 hl (by decide) rfl (fun ls hl => ?_)
            have loopm : ∀ (n8 : Nat) (m0 : Int) (ls : Array Slot), (0 ≤ m0 ∧ m0 ≤ 60 ∧ x - x % 60 ≤ 3600 * h + 60 * m0) → (sNo (st 0) (st 1) (st 2) x (3600 * h + 60 * m0)) → ((60 - m0).toNat < n8) → lv_has ls 6 [(4, .int (iI (m0))), (3, .int (iI (h))), (0, .ref (qq)), (1, .int (iI (0))), (2, .int (iI (x)))] → W p l e ({ frames := 0, cells := 0, slots := 0, locals := 0 }) s m [.ref (qq), .int (iI (0)), .int (iI (x))].toArray below meth c s.heap [] 0 0 (MQ below (zSil (some (.int (iI (r))))) [.ref (qq), .int (iI (0)), .int (iI (x))].toArray s 0 0 (fun _ => False)) (F0 m 50 ls []) := by
              intro n8
              induction n8 with
              | zero =>
                intro m0 ls g1 hNm g2 hl
                exact absurd g2 (by omega)
              | succ n8 ihm =>
                intro m0 ls g1 hNm g2 hl
                refine lv_iload hx hb zd_Q_secondFrom_50 (lv_at hl 0 rfl) ?_
                refine zi_bipush hx hb zd_Q_secondFrom_52 (by decide) ?_
                refine zi_icmp_ge (tgt := 146) hx hb zd_Q_secondFrom_54 (by decide) (by omega) (fun c54 => ?_) (fun c54 => ?_)
                · refine lv_iinc (v := iI (h + 1)) (lv' := [(3, .int (iI (h + 1))), (4, .int (iI (m0))), (0, .ref (qq)), (1, .int (iI (0))), (2, .int (iI (x)))]) hx hb zd_Q_secondFrom_146 hl (k := 1) rfl (iI_add _ _) (by decide) rfl (fun ls hl => ?_)
                  refine lv_goto (tgt := 6) hx hb zd_Q_secondFrom_149 (by decide) ?_
                  exact ihh (h + 1) ls (by omega) (sNo_e hNm (by omega)) (by omega) (lv_sub hl [0, 2, 3, 4] rfl)
                · refine lv_aload_n hx hb zd_Q_secondFrom_57 rfl (lv_at hl 2 rfl) ?_
                  refine va_get (D := g.1) (ci := 5) (v := .ref (rf 1)) (C := zR_Q) (T := zT_Q) (N := 21) hx hb hw zin_Q hown hK hP 0 rfl rfl 8 (by decide) (hw _ zw_3_206) (fun _ h9 => h9) rfl zd_Q_secondFrom_58 ?_
                  refine lv_iload_n hx hb zd_Q_secondFrom_61 rfl (lv_at hl 3 rfl) ?_
                  refine zi_aald (k := 0) hx hb hK hP 1 6 rfl rfl (by omega) rfl zd_Q_secondFrom_62 ?_
                  refine zi_iconst hx hb zd_Q_secondFrom_63 ?_
                  refine zi_aald (k := 1) hx hb hK hP 2 5 rfl rfl (by omega) rfl zd_Q_secondFrom_64 ?_
                  refine lv_iload hx hb zd_Q_secondFrom_65 (lv_at hl 0 rfl) ?_
                  refine zi_zald hx hb hK hP 4 1 rfl rfl (by omega) zd_Q_secondFrom_67 ?_
                  refine zb_if_ne (tgt := 74) hx hb zd_Q_secondFrom_68 (by decide) (fun c68 => ?_) (fun c68 => ?_)
                  · refine zi_bipush hx hb zd_Q_secondFrom_74 (by decide) ?_
                    refine zi_bipush hx hb zd_Q_secondFrom_76 (by decide) ?_
                    refine lv_iload_n hx hb zd_Q_secondFrom_78 rfl (lv_at hl 1 rfl) ?_
                    refine zi_imul hx hb zd_Q_secondFrom_79 ?_
                    refine lv_iload hx hb zd_Q_secondFrom_80 (lv_at hl 0 rfl) ?_
                    refine zi_iadd hx hb zd_Q_secondFrom_82 ?_
                    refine zi_imul hx hb zd_Q_secondFrom_83 ?_
                    refine lv_iload_n hx hb zd_Q_secondFrom_84 rfl (lv_at hl 4 rfl) ?_
                    refine zi_icmp_ge (tgt := 95) hx hb zd_Q_secondFrom_85 (by decide) (by omega) (fun c85 => ?_) (fun c85 => ?_)
                    · refine zi_iconst hx hb zd_Q_secondFrom_95 ?_
                      refine lv_istore (lv' := [(5, .int (iI (0))), (4, .int (iI (m0))), (3, .int (iI (h))), (0, .ref (qq)), (1, .int (iI (0))), (2, .int (iI (x)))]) hx hb zd_Q_secondFrom_96 hl (by decide) rfl (fun ls hl => ?_)
                      have loops : ∀ (n9 : Nat) (s0 : Int) (ls : Array Slot), (0 ≤ s0 ∧ s0 ≤ 60 ∧ x ≤ 3600 * h + 60 * m0 + s0) → (sNo (st 0) (st 1) (st 2) x (3600 * h + 60 * m0 + s0)) → ((60 - s0).toNat < n9) → lv_has ls 6 [(5, .int (iI (s0))), (4, .int (iI (m0))), (3, .int (iI (h))), (0, .ref (qq)), (1, .int (iI (0))), (2, .int (iI (x)))] → W p l e ({ frames := 0, cells := 0, slots := 0, locals := 0 }) s m [.ref (qq), .int (iI (0)), .int (iI (x))].toArray below meth c s.heap [] 0 0 (MQ below (zSil (some (.int (iI (r))))) [.ref (qq), .int (iI (0)), .int (iI (x))].toArray s 0 0 (fun _ => False)) (F0 m 98 ls []) := by
                        intro n9
                        induction n9 with
                        | zero =>
                          intro s0 ls k1 hNs k2 hl
                          exact absurd k2 (by omega)
                        | succ n9 ihs =>
                          intro s0 ls k1 hNs k2 hl
                          refine lv_iload hx hb zd_Q_secondFrom_98 (lv_at hl 0 rfl) ?_
                          refine zi_bipush hx hb zd_Q_secondFrom_100 (by decide) ?_
                          refine zi_icmp_ge (tgt := 140) hx hb zd_Q_secondFrom_102 (by decide) (by omega) (fun c102 => ?_) (fun c102 => ?_)
                          · refine lv_iinc (v := iI (m0 + 1)) (lv' := [(4, .int (iI (m0 + 1))), (5, .int (iI (s0))), (3, .int (iI (h))), (0, .ref (qq)), (1, .int (iI (0))), (2, .int (iI (x)))]) hx hb zd_Q_secondFrom_140 hl (k := 1) rfl (iI_add _ _) (by decide) rfl (fun ls hl => ?_)
                            refine lv_goto (tgt := 50) hx hb zd_Q_secondFrom_143 (by decide) ?_
                            exact ihm (m0 + 1) ls (by omega) (sNo_e hNs (by omega)) (by omega) (lv_sub hl [0, 2, 3, 4, 5] rfl)
                          · refine lv_aload_n hx hb zd_Q_secondFrom_105 rfl (lv_at hl 3 rfl) ?_
                            refine va_get (D := g.1) (ci := 5) (v := .ref (rf 1)) (C := zR_Q) (T := zT_Q) (N := 21) hx hb hw zin_Q hown hK hP 0 rfl rfl 8 (by decide) (hw _ zw_3_206) (fun _ h9 => h9) rfl zd_Q_secondFrom_106 ?_
                            refine lv_iload_n hx hb zd_Q_secondFrom_109 rfl (lv_at hl 4 rfl) ?_
                            refine zi_aald (k := 0) hx hb hK hP 1 6 rfl rfl (by omega) rfl zd_Q_secondFrom_110 ?_
                            refine zi_iconst hx hb zd_Q_secondFrom_111 ?_
                            refine zi_aald (k := 0) hx hb hK hP 2 5 rfl rfl (by omega) rfl zd_Q_secondFrom_112 ?_
                            refine lv_iload hx hb zd_Q_secondFrom_113 (lv_at hl 0 rfl) ?_
                            refine zi_zald hx hb hK hP 3 1 rfl rfl (by omega) zd_Q_secondFrom_115 ?_
                            refine zb_if_eq (tgt := 134) hx hb zd_Q_secondFrom_116 (by decide) (fun c116 => ?_) (fun c116 => ?_)
                            · refine lv_iinc (v := iI (s0 + 1)) (lv' := [(5, .int (iI (s0 + 1))), (4, .int (iI (m0))), (3, .int (iI (h))), (0, .ref (qq)), (1, .int (iI (0))), (2, .int (iI (x)))]) hx hb zd_Q_secondFrom_134 hl (k := 0) rfl (iI_add _ _) (by decide) rfl (fun ls hl => ?_)
                              refine lv_goto (tgt := 98) hx hb zd_Q_secondFrom_137 (by decide) ?_
                              exact ihs (s0 + 1) ls (by omega) (sNo_s (by omega) hNs c116) (by omega) (lv_sub hl [0, 1, 2, 3, 4, 5] rfl)
                            · refine zi_sipush hx hb zd_Q_secondFrom_119 (by decide) ?_
                              refine lv_iload_n hx hb zd_Q_secondFrom_122 rfl (lv_at hl 2 rfl) ?_
                              refine zi_imul hx hb zd_Q_secondFrom_123 ?_
                              refine zi_bipush hx hb zd_Q_secondFrom_124 (by decide) ?_
                              refine lv_iload hx hb zd_Q_secondFrom_126 (lv_at hl 1 rfl) ?_
                              refine zi_imul hx hb zd_Q_secondFrom_128 ?_
                              refine zi_iadd hx hb zd_Q_secondFrom_129 ?_
                              refine lv_iload hx hb zd_Q_secondFrom_130 (lv_at hl 0 rfl) ?_
                              refine zi_iadd hx hb zd_Q_secondFrom_132 ?_
                              refine zi_as r (sSF_un hx0.1 (sNo_hit (by omega) (by omega) (by omega) (by omega) hNs c22 c68 c116) hj) ?_
                              exact zs_iret hx hb hr hlk zd_Q_secondFrom_133
                      exact loops 61 (0) ls (by omega) (by first | exact (sNo_e hNm (by omega)) | exact sNo_0 (by omega)) (by omega) (lv_sub hl [0, 1, 2, 3, 4, 5] rfl)
                    · refine lv_iload_n hx hb zd_Q_secondFrom_88 rfl (lv_at hl 4 rfl) ?_
                      refine zi_bipush hx hb zd_Q_secondFrom_89 (by decide) ?_
                      refine zi_irem hx hb zd_Q_secondFrom_91 (by omega) ?_
                      refine lv_goto (tgt := 96) hx hb zd_Q_secondFrom_92 (by decide) ?_
                      refine lv_istore (lv' := [(5, .int (iI (x % 60))), (4, .int (iI (m0))), (3, .int (iI (h))), (0, .ref (qq)), (1, .int (iI (0))), (2, .int (iI (x)))]) hx hb zd_Q_secondFrom_96 hl (by decide) rfl (fun ls hl => ?_)
                      have loops : ∀ (n9 : Nat) (s0 : Int) (ls : Array Slot), (0 ≤ s0 ∧ s0 ≤ 60 ∧ x ≤ 3600 * h + 60 * m0 + s0) → (sNo (st 0) (st 1) (st 2) x (3600 * h + 60 * m0 + s0)) → ((60 - s0).toNat < n9) → lv_has ls 6 [(5, .int (iI (s0))), (4, .int (iI (m0))), (3, .int (iI (h))), (0, .ref (qq)), (1, .int (iI (0))), (2, .int (iI (x)))] → W p l e ({ frames := 0, cells := 0, slots := 0, locals := 0 }) s m [.ref (qq), .int (iI (0)), .int (iI (x))].toArray below meth c s.heap [] 0 0 (MQ below (zSil (some (.int (iI (r))))) [.ref (qq), .int (iI (0)), .int (iI (x))].toArray s 0 0 (fun _ => False)) (F0 m 98 ls []) := by
                        intro n9
                        induction n9 with
                        | zero =>
                          intro s0 ls k1 hNs k2 hl
                          exact absurd k2 (by omega)
                        | succ n9 ihs =>
                          intro s0 ls k1 hNs k2 hl
                          refine lv_iload hx hb zd_Q_secondFrom_98 (lv_at hl 0 rfl) ?_
                          refine zi_bipush hx hb zd_Q_secondFrom_100 (by decide) ?_
                          refine zi_icmp_ge (tgt := 140) hx hb zd_Q_secondFrom_102 (by decide) (by omega) (fun c102 => ?_) (fun c102 => ?_)
                          · refine lv_iinc (v := iI (m0 + 1)) (lv' := [(4, .int (iI (m0 + 1))), (5, .int (iI (s0))), (3, .int (iI (h))), (0, .ref (qq)), (1, .int (iI (0))), (2, .int (iI (x)))]) hx hb zd_Q_secondFrom_140 hl (k := 1) rfl (iI_add _ _) (by decide) rfl (fun ls hl => ?_)
                            refine lv_goto (tgt := 50) hx hb zd_Q_secondFrom_143 (by decide) ?_
                            exact ihm (m0 + 1) ls (by omega) (sNo_e hNs (by omega)) (by omega) (lv_sub hl [0, 2, 3, 4, 5] rfl)
                          · refine lv_aload_n hx hb zd_Q_secondFrom_105 rfl (lv_at hl 3 rfl) ?_
                            refine va_get (D := g.1) (ci := 5) (v := .ref (rf 1)) (C := zR_Q) (T := zT_Q) (N := 21) hx hb hw zin_Q hown hK hP 0 rfl rfl 8 (by decide) (hw _ zw_3_206) (fun _ h9 => h9) rfl zd_Q_secondFrom_106 ?_
                            refine lv_iload_n hx hb zd_Q_secondFrom_109 rfl (lv_at hl 4 rfl) ?_
                            refine zi_aald (k := 0) hx hb hK hP 1 6 rfl rfl (by omega) rfl zd_Q_secondFrom_110 ?_
                            refine zi_iconst hx hb zd_Q_secondFrom_111 ?_
                            refine zi_aald (k := 0) hx hb hK hP 2 5 rfl rfl (by omega) rfl zd_Q_secondFrom_112 ?_
                            refine lv_iload hx hb zd_Q_secondFrom_113 (lv_at hl 0 rfl) ?_
                            refine zi_zald hx hb hK hP 3 1 rfl rfl (by omega) zd_Q_secondFrom_115 ?_
                            refine zb_if_eq (tgt := 134) hx hb zd_Q_secondFrom_116 (by decide) (fun c116 => ?_) (fun c116 => ?_)
                            · refine lv_iinc (v := iI (s0 + 1)) (lv' := [(5, .int (iI (s0 + 1))), (4, .int (iI (m0))), (3, .int (iI (h))), (0, .ref (qq)), (1, .int (iI (0))), (2, .int (iI (x)))]) hx hb zd_Q_secondFrom_134 hl (k := 0) rfl (iI_add _ _) (by decide) rfl (fun ls hl => ?_)
                              refine lv_goto (tgt := 98) hx hb zd_Q_secondFrom_137 (by decide) ?_
                              exact ihs (s0 + 1) ls (by omega) (sNo_s (by omega) hNs c116) (by omega) (lv_sub hl [0, 1, 2, 3, 4, 5] rfl)
                            · refine zi_sipush hx hb zd_Q_secondFrom_119 (by decide) ?_
                              refine lv_iload_n hx hb zd_Q_secondFrom_122 rfl (lv_at hl 2 rfl) ?_
                              refine zi_imul hx hb zd_Q_secondFrom_123 ?_
                              refine zi_bipush hx hb zd_Q_secondFrom_124 (by decide) ?_
                              refine lv_iload hx hb zd_Q_secondFrom_126 (lv_at hl 1 rfl) ?_
                              refine zi_imul hx hb zd_Q_secondFrom_128 ?_
                              refine zi_iadd hx hb zd_Q_secondFrom_129 ?_
                              refine lv_iload hx hb zd_Q_secondFrom_130 (lv_at hl 0 rfl) ?_
                              refine zi_iadd hx hb zd_Q_secondFrom_132 ?_
                              refine zi_as r (sSF_un hx0.1 (sNo_hit (by omega) (by omega) (by omega) (by omega) hNs c22 c68 c116) hj) ?_
                              exact zs_iret hx hb hr hlk zd_Q_secondFrom_133
                      exact loops 61 (x % 60) ls (by omega) (by first | exact (sNo_e hNm (by omega)) | exact sNo_0 (by omega)) (by omega) (lv_sub hl [0, 1, 2, 3, 4, 5] rfl)
                  · refine lv_goto (tgt := 140) hx hb zd_Q_secondFrom_71 (by decide) ?_
                    refine lv_iinc (v := iI (m0 + 1)) (lv' := [(4, .int (iI (m0 + 1))), (3, .int (iI (h))), (0, .ref (qq)), (1, .int (iI (0))), (2, .int (iI (x)))]) hx hb zd_Q_secondFrom_140 hl (k := 0) rfl (iI_add _ _) (by decide) rfl (fun ls hl => ?_)
                    refine lv_goto (tgt := 50) hx hb zd_Q_secondFrom_143 (by decide) ?_
                    exact ihm (m0 + 1) ls (by omega) (sNo_m (by omega) hNm c68) (by omega) (lv_sub hl [0, 1, 2, 3, 4] rfl)
            exact loopm 61 ((x / 60) % 60) ls (by omega) (by first | exact (sNo_e hNh (by omega)) | exact sNo_0 (by omega)) (by omega) (lv_sub hl [0, 1, 2, 3, 4] rfl)
        · refine lv_goto (tgt := 146) hx hb zd_Q_secondFrom_25 (by decide) ?_
          refine lv_iinc (v := iI (h + 1)) (lv' := [(3, .int (iI (h + 1))), (0, .ref (qq)), (1, .int (iI (0))), (2, .int (iI (x)))]) hx hb zd_Q_secondFrom_146 hl (k := 0) rfl (iI_add _ _) (by decide) rfl (fun ls hl => ?_)
          refine lv_goto (tgt := 6) hx hb zd_Q_secondFrom_149 (by decide) ?_
          exact ihh (h + 1) ls (by omega) (sNo_h hNh c22) (by omega) (lv_sub hl [0, 1, 2, 3] rfl)
  exact looph 25 (x / 3600) ls (by omega) (sNo_0 (by omega)) (by omega) (lv_sub hl [0, 1, 2, 3] rfl)
set_option maxHeartbeats 4000000 in
set_option maxRecDepth 100000 in
theorem c_Q_secondTo (l : Launch) (g : zGl) (qq : Nat) (rf : Nat → Nat) (fl ln pl yy mm dd at0 wa on tw hc : Int) (sa sr : Nat → Nat) (st : Nat → Nat → Bool) (x r : Int) (hx0 : 0 ≤ x ∧ x < 86400) (hj : sSB (st 0) (st 1) (st 2) x r) : zSi l zy_Q_secondTo zc_Q_secondTo 6 (some .int) ({ frames := 0, cells := 0, slots := 0, locals := 0 }) g zN [.ref (qq), .int (iI (0)), .int (iI (x))] [(qq, .inr (5, [.int (iI (fl)), .ref (rf 0), .int (iI (ln)), .int (iI (pl)), .int (iI (yy)), .int (iI (mm)), .int (iI (dd)), .int (iI (at0)), .ref (rf 1), .ref (rf 2), .ref (rf 3), .ref (rf 4), .ref (rf 5), .ref (rf 6), .int (iI (wa)), .int (iI (on)), .int (iI (tw)), .ref (rf 7), .ref (rf 8), .ref (rf 9), .int (iI (hc))])), (rf 1, .inl (g.2 6, 1, .inr (.inr (.inr (.inr (zaR sa)))))), (sa 0, .inl (g.2 5, 7, .inr (.inr (.inr (.inr (zaR sr)))))), (sr 0, .inl (g.2 1, 330, .inl (zaB (st 0)))), (sr 1, .inl (g.2 1, 330, .inl (zaB (st 1)))), (sr 2, .inl (g.2 1, 330, .inl (zaB (st 2))))] (some (.int (iI (r)))) := by
  refine zs_open (by decide +kernel) (Nat.le_of_ble_eq_true rfl) ?_
  intro p e s m below meth c ls hx hb hml hr hlk hown hw hK hT hP hl
  have hown : s.vm.findClass "CronFinderModel" = some m.cls := hown
  have hl : lv_has ls 6 [(0, .ref (qq)), (1, .int (iI (0))), (2, .int (iI (x)))] := hl
  refine lv_iload_n hx hb zd_Q_secondTo_0 rfl (lv_at hl 2 rfl) ?_
  refine zi_sipush hx hb zd_Q_secondTo_1 (by decide) ?_
  refine zi_idiv hx hb zd_Q_secondTo_4 (by omega) ?_
  refine lv_istore_n (lv' := [(3, .int (iI (x / 3600))), (0, .ref (qq)), (1, .int (iI (0))), (2, .int (iI (x)))]) hx hb zd_Q_secondTo_5 rfl hl (by decide) rfl (fun ls hl => ?_)
  have looph : ∀ (n7 : Nat) (h : Int) (ls : Array Slot), (-1 ≤ h ∧ h ≤ x / 3600) → (sNo (st 0) (st 1) (st 2) (3600 * (h + 1)) (x + 1)) → ((h + 1).toNat < n7) → lv_has ls 6 [(3, .int (iI (h))), (0, .ref (qq)), (1, .int (iI (0))), (2, .int (iI (x)))] → W p l e ({ frames := 0, cells := 0, slots := 0, locals := 0 }) s m [.ref (qq), .int (iI (0)), .int (iI (x))].toArray below meth c s.heap [] 0 0 (MQ below (zSil (some (.int (iI (r))))) [.ref (qq), .int (iI (0)), .int (iI (x))].toArray s 0 0 (fun _ => False)) (F0 m 6 ls []) := by
    intro n7
    induction n7 with
    | zero =>
      intro h ls h1 hNh h2 hl
      exact absurd h2 (by omega)
    | succ n7 ihh =>
      intro h ls h1 hNh h2 hl
      refine lv_iload_n hx hb zd_Q_secondTo_6 rfl (lv_at hl 0 rfl) ?_
      refine zi_if_lt (tgt := 151) hx hb zd_Q_secondTo_7 (by decide) (by omega) (fun c7 => ?_) (fun c7 => ?_)
      · refine zi_iconst hx hb zd_Q_secondTo_151 ?_
        refine zi_as r (sSB_un (sNb_end (sNo_a hNh (by omega))) hj) ?_
        exact zs_iret hx hb hr hlk zd_Q_secondTo_152
      · refine lv_aload_n hx hb zd_Q_secondTo_10 rfl (lv_at hl 1 rfl) ?_
        refine va_get (D := g.1) (ci := 5) (v := .ref (rf 1)) (C := zR_Q) (T := zT_Q) (N := 21) hx hb hw zin_Q hown hK hP 0 rfl rfl 8 (by decide) (hw _ zw_3_206) (fun _ h9 => h9) rfl zd_Q_secondTo_11 ?_
        refine lv_iload_n hx hb zd_Q_secondTo_14 rfl (lv_at hl 2 rfl) ?_
        refine zi_aald (k := 0) hx hb hK hP 1 6 rfl rfl (by omega) rfl zd_Q_secondTo_15 ?_
        refine zi_iconst hx hb zd_Q_secondTo_16 ?_
        refine zi_aald (k := 2) hx hb hK hP 2 5 rfl rfl (by omega) rfl zd_Q_secondTo_17 ?_
        refine lv_iload_n hx hb zd_Q_secondTo_18 rfl (lv_at hl 0 rfl) ?_
        refine zi_zald hx hb hK hP 5 1 rfl rfl (by omega) zd_Q_secondTo_19 ?_
        refine zb_if_ne (tgt := 26) hx hb zd_Q_secondTo_20 (by decide) (fun c20 => ?_) (fun c20 => ?_)
        · refine lv_iload_n hx hb zd_Q_secondTo_26 rfl (lv_at hl 0 rfl) ?_
          refine lv_iload_n hx hb zd_Q_secondTo_27 rfl (lv_at hl 3 rfl) ?_
          refine zi_sipush hx hb zd_Q_secondTo_28 (by decide) ?_
          refine zi_idiv hx hb zd_Q_secondTo_31 (by omega) ?_
          refine zi_icmp_ne (tgt := 45) hx hb zd_Q_secondTo_32 (by decide) (by omega) (fun c32 => ?_) (fun c32 => ?_)
          · refine zi_bipush hx hb zd_Q_secondTo_45 (by decide) ?_
            refine lv_istore (lv' := [(4, .int (iI (59))), (3, .int (iI (h))), (0, .ref (qq)), (1, .int (iI (0))), (2, .int (iI (x)))]) hx hb zd_Q_secondTo_47 hl (by decide) rfl (fun ls hl => ?_)
            have loopm : ∀ (n8 : Nat) (m0 : Int) (ls : Array Slot), (-1 ≤ m0 ∧ m0 ≤ 59 ∧ 3600 * h + 60 * m0 ≤ x) → (sNo (st 0) (st 1) (st 2) (3600 * h + 60 * (m0 + 1)) (x + 1)) → ((m0 + 1).toNat < n8) → lv_has ls 6 [(4, .int (iI (m0))), (3, .int (iI (h))), (0, .ref (qq)), (1, .int (iI (0))), (2, .int (iI (x)))] → W p l e ({ frames := 0, cells := 0, slots := 0, locals := 0 }) s m [.ref (qq), .int (iI (0)), .int (iI (x))].toArray below meth c s.heap [] 0 0 (MQ below (zSil (some (.int (iI (r))))) [.ref (qq), .int (iI (0)), .int (iI (x))].toArray s 0 0 (fun _ => False)) (F0 m 49 ls []) := by
              intro n8
              induction n8 with
              | zero =>
                intro m0 ls g1 hNm g2 hl
                exact absurd g2 (by omega)
              | succ n8 ihm =>
                intro m0 ls g1 hNm g2 hl
                refine lv_iload hx hb zd_Q_secondTo_49 (lv_at hl 0 rfl) ?_
                refine zi_if_lt (tgt := 145) hx hb zd_Q_secondTo_51 (by decide) (by omega) (fun c51 => ?_) (fun c51 => ?_)
                · refine lv_iinc (v := iI (h + (-1))) (lv' := [(3, .int (iI (h + (-1)))), (4, .int (iI (m0))), (0, .ref (qq)), (1, .int (iI (0))), (2, .int (iI (x)))]) hx hb zd_Q_secondTo_145 hl (k := 1) rfl (iI_add _ _) (by decide) rfl (fun ls hl => ?_)
                  refine lv_goto (tgt := 6) hx hb zd_Q_secondTo_148 (by decide) ?_
                  exact ihh (h - 1) ls (by omega) (sNo_a hNm (by omega)) (by omega) (lv_sub hl [0, 2, 3, 4] rfl)
                · refine lv_aload_n hx hb zd_Q_secondTo_54 rfl (lv_at hl 2 rfl) ?_
                  refine va_get (D := g.1) (ci := 5) (v := .ref (rf 1)) (C := zR_Q) (T := zT_Q) (N := 21) hx hb hw zin_Q hown hK hP 0 rfl rfl 8 (by decide) (hw _ zw_3_206) (fun _ h9 => h9) rfl zd_Q_secondTo_55 ?_
                  refine lv_iload_n hx hb zd_Q_secondTo_58 rfl (lv_at hl 3 rfl) ?_
                  refine zi_aald (k := 0) hx hb hK hP 1 6 rfl rfl (by omega) rfl zd_Q_secondTo_59 ?_
                  refine zi_iconst hx hb zd_Q_secondTo_60 ?_
                  refine zi_aald (k := 1) hx hb hK hP 2 5 rfl rfl (by omega) rfl zd_Q_secondTo_61 ?_
                  refine lv_iload hx hb zd_Q_secondTo_62 (lv_at hl 0 rfl) ?_
                  refine zi_zald hx hb hK hP 4 1 rfl rfl (by omega) zd_Q_secondTo_64 ?_
                  refine zb_if_ne (tgt := 71) hx hb zd_Q_secondTo_65 (by decide) (fun c65 => ?_) (fun c65 => ?_)
                  · refine zi_bipush hx hb zd_Q_secondTo_71 (by decide) ?_
                    refine zi_bipush hx hb zd_Q_secondTo_73 (by decide) ?_
                    refine lv_iload_n hx hb zd_Q_secondTo_75 rfl (lv_at hl 1 rfl) ?_
                    refine zi_imul hx hb zd_Q_secondTo_76 ?_
                    refine lv_iload hx hb zd_Q_secondTo_77 (lv_at hl 0 rfl) ?_
                    refine zi_iadd hx hb zd_Q_secondTo_79 ?_
                    refine zi_imul hx hb zd_Q_secondTo_80 ?_
                    refine zi_bipush hx hb zd_Q_secondTo_81 (by decide) ?_
                    refine zi_iadd hx hb zd_Q_secondTo_83 ?_
                    refine lv_iload_n hx hb zd_Q_secondTo_84 rfl (lv_at hl 4 rfl) ?_
                    refine zi_icmp_le (tgt := 95) hx hb zd_Q_secondTo_85 (by decide) (by omega) (fun c85 => ?_) (fun c85 => ?_)
                    · refine zi_bipush hx hb zd_Q_secondTo_95 (by decide) ?_
                      refine lv_istore (lv' := [(5, .int (iI (59))), (4, .int (iI (m0))), (3, .int (iI (h))), (0, .ref (qq)), (1, .int (iI (0))), (2, .int (iI (x)))]) hx hb zd_Q_secondTo_97 hl (by decide) rfl (fun ls hl => ?_)
                      have loops : ∀ (n9 : Nat) (s0 : Int) (ls : Array Slot), (-1 ≤ s0 ∧ s0 ≤ 59 ∧ 3600 * h + 60 * m0 + s0 ≤ x) → (sNo (st 0) (st 1) (st 2) (3600 * h + 60 * m0 + (s0 + 1)) (x + 1)) → ((s0 + 1).toNat < n9) → lv_has ls 6 [(5, .int (iI (s0))), (4, .int (iI (m0))), (3, .int (iI (h))), (0, .ref (qq)), (1, .int (iI (0))), (2, .int (iI (x)))] → W p l e ({ frames := 0, cells := 0, slots := 0, locals := 0 }) s m [.ref (qq), .int (iI (0)), .int (iI (x))].toArray below meth c s.heap [] 0 0 (MQ below (zSil (some (.int (iI (r))))) [.ref (qq), .int (iI (0)), .int (iI (x))].toArray s 0 0 (fun _ => False)) (F0 m 99 ls []) := by
                        intro n9
                        induction n9 with
                        | zero =>
                          intro s0 ls k1 hNs k2 hl
                          exact absurd k2 (by omega)
                        | succ n9 ihs =>
                          intro s0 ls k1 hNs k2 hl
                          refine lv_iload hx hb zd_Q_secondTo_99 (lv_at hl 0 rfl) ?_
                          refine zi_if_lt (tgt := 139) hx hb zd_Q_secondTo_101 (by decide) (by omega) (fun c101 => ?_) (fun c101 => ?_)
                          · refine lv_iinc (v := iI (m0 + (-1))) (lv' := [(4, .int (iI (m0 + (-1)))), (5, .int (iI (s0))), (3, .int (iI (h))), (0, .ref (qq)), (1, .int (iI (0))), (2, .int (iI (x)))]) hx hb zd_Q_secondTo_139 hl (k := 1) rfl (iI_add _ _) (by decide) rfl (fun ls hl => ?_)
                            refine lv_goto (tgt := 49) hx hb zd_Q_secondTo_142 (by decide) ?_
                            exact ihm (m0 - 1) ls (by omega) (sNo_a hNs (by omega)) (by omega) (lv_sub hl [0, 2, 3, 4, 5] rfl)
                          · refine lv_aload_n hx hb zd_Q_secondTo_104 rfl (lv_at hl 3 rfl) ?_
                            refine va_get (D := g.1) (ci := 5) (v := .ref (rf 1)) (C := zR_Q) (T := zT_Q) (N := 21) hx hb hw zin_Q hown hK hP 0 rfl rfl 8 (by decide) (hw _ zw_3_206) (fun _ h9 => h9) rfl zd_Q_secondTo_105 ?_
                            refine lv_iload_n hx hb zd_Q_secondTo_108 rfl (lv_at hl 4 rfl) ?_
                            refine zi_aald (k := 0) hx hb hK hP 1 6 rfl rfl (by omega) rfl zd_Q_secondTo_109 ?_
                            refine zi_iconst hx hb zd_Q_secondTo_110 ?_
                            refine zi_aald (k := 0) hx hb hK hP 2 5 rfl rfl (by omega) rfl zd_Q_secondTo_111 ?_
                            refine lv_iload hx hb zd_Q_secondTo_112 (lv_at hl 0 rfl) ?_
                            refine zi_zald hx hb hK hP 3 1 rfl rfl (by omega) zd_Q_secondTo_114 ?_
                            refine zb_if_eq (tgt := 133) hx hb zd_Q_secondTo_115 (by decide) (fun c115 => ?_) (fun c115 => ?_)
                            · refine lv_iinc (v := iI (s0 + (-1))) (lv' := [(5, .int (iI (s0 + (-1)))), (4, .int (iI (m0))), (3, .int (iI (h))), (0, .ref (qq)), (1, .int (iI (0))), (2, .int (iI (x)))]) hx hb zd_Q_secondTo_133 hl (k := 0) rfl (iI_add _ _) (by decide) rfl (fun ls hl => ?_)
                              refine lv_goto (tgt := 99) hx hb zd_Q_secondTo_136 (by decide) ?_
                              exact ihs (s0 - 1) ls (by omega) (sNo_a (sNb_s (by omega) hNs c115) (by omega)) (by omega) (lv_sub hl [0, 1, 2, 3, 4, 5] rfl)
                            · refine zi_sipush hx hb zd_Q_secondTo_118 (by decide) ?_
                              refine lv_iload_n hx hb zd_Q_secondTo_121 rfl (lv_at hl 2 rfl) ?_
                              refine zi_imul hx hb zd_Q_secondTo_122 ?_
                              refine zi_bipush hx hb zd_Q_secondTo_123 (by decide) ?_
                              refine lv_iload hx hb zd_Q_secondTo_125 (lv_at hl 1 rfl) ?_
                              refine zi_imul hx hb zd_Q_secondTo_127 ?_
                              refine zi_iadd hx hb zd_Q_secondTo_128 ?_
                              refine lv_iload hx hb zd_Q_secondTo_129 (lv_at hl 0 rfl) ?_
                              refine zi_iadd hx hb zd_Q_secondTo_131 ?_
                              refine zi_as r (sSB_un (sNb_hit (by omega) (by omega) (by omega) (by omega) hNs c20 c65 c115) hj) ?_
                              exact zs_iret hx hb hr hlk zd_Q_secondTo_132
                      exact loops 61 (59) ls (by omega) (by first | exact (sNo_a hNm (by omega)) | exact sNo_0 (by omega)) (by omega) (lv_sub hl [0, 1, 2, 3, 4, 5] rfl)
                    · refine lv_iload_n hx hb zd_Q_secondTo_88 rfl (lv_at hl 4 rfl) ?_
                      refine zi_bipush hx hb zd_Q_secondTo_89 (by decide) ?_
                      refine zi_irem hx hb zd_Q_secondTo_91 (by omega) ?_
                      refine lv_goto (tgt := 97) hx hb zd_Q_secondTo_92 (by decide) ?_
                      refine lv_istore (lv' := [(5, .int (iI (x % 60))), (4, .int (iI (m0))), (3, .int (iI (h))), (0, .ref (qq)), (1, .int (iI (0))), (2, .int (iI (x)))]) hx hb zd_Q_secondTo_97 hl (by decide) rfl (fun ls hl => ?_)
                      have loops : ∀ (n9 : Nat) (s0 : Int) (ls : Array Slot), (-1 ≤ s0 ∧ s0 ≤ 59 ∧ 3600 * h + 60 * m0 + s0 ≤ x) → (sNo (st 0) (st 1) (st 2) (3600 * h + 60 * m0 + (s0 + 1)) (x + 1)) → ((s0 + 1).toNat < n9) → lv_has ls 6 [(5, .int (iI (s0))), (4, .int (iI (m0))), (3, .int (iI (h))), (0, .ref (qq)), (1, .int (iI (0))), (2, .int (iI (x)))] → W p l e ({ frames := 0, cells := 0, slots := 0, locals := 0 }) s m [.ref (qq), .int (iI (0)), .int (iI (x))].toArray below meth c s.heap [] 0 0 (MQ below (zSil (some (.int (iI (r))))) [.ref (qq), .int (iI (0)), .int (iI (x))].toArray s 0 0 (fun _ => False)) (F0 m 99 ls []) := by
                        intro n9
                        induction n9 with
                        | zero =>
                          intro s0 ls k1 hNs k2 hl
                          exact absurd k2 (by omega)
                        | succ n9 ihs =>
                          intro s0 ls k1 hNs k2 hl
                          refine lv_iload hx hb zd_Q_secondTo_99 (lv_at hl 0 rfl) ?_
                          refine zi_if_lt (tgt := 139) hx hb zd_Q_secondTo_101 (by decide) (by omega) (fun c101 => ?_) (fun c101 => ?_)
                          · refine lv_iinc (v := iI (m0 + (-1))) (lv' := [(4, .int (iI (m0 + (-1)))), (5, .int (iI (s0))), (3, .int (iI (h))), (0, .ref (qq)), (1, .int (iI (0))), (2, .int (iI (x)))]) hx hb zd_Q_secondTo_139 hl (k := 1) rfl (iI_add _ _) (by decide) rfl (fun ls hl => ?_)
                            refine lv_goto (tgt := 49) hx hb zd_Q_secondTo_142 (by decide) ?_
                            exact ihm (m0 - 1) ls (by omega) (sNo_a hNs (by omega)) (by omega) (lv_sub hl [0, 2, 3, 4, 5] rfl)
                          · refine lv_aload_n hx hb zd_Q_secondTo_104 rfl (lv_at hl 3 rfl) ?_
                            refine va_get (D := g.1) (ci := 5) (v := .ref (rf 1)) (C := zR_Q) (T := zT_Q) (N := 21) hx hb hw zin_Q hown hK hP 0 rfl rfl 8 (by decide) (hw _ zw_3_206) (fun _ h9 => h9) rfl zd_Q_secondTo_105 ?_
                            refine lv_iload_n hx hb zd_Q_secondTo_108 rfl (lv_at hl 4 rfl) ?_
                            refine zi_aald (k := 0) hx hb hK hP 1 6 rfl rfl (by omega) rfl zd_Q_secondTo_109 ?_
                            refine zi_iconst hx hb zd_Q_secondTo_110 ?_
                            refine zi_aald (k := 0) hx hb hK hP 2 5 rfl rfl (by omega) rfl zd_Q_secondTo_111 ?_
                            refine lv_iload hx hb zd_Q_secondTo_112 (lv_at hl 0 rfl) ?_
                            refine zi_zald hx hb hK hP 3 1 rfl rfl (by omega) zd_Q_secondTo_114 ?_
                            refine zb_if_eq (tgt := 133) hx hb zd_Q_secondTo_115 (by decide) (fun c115 => ?_) (fun c115 => ?_)
                            · refine lv_iinc (v := iI (s0 + (-1))) (lv' := [(5, .int (iI (s0 + (-1)))), (4, .int (iI (m0))), (3, .int (iI (h))), (0, .ref (qq)), (1, .int (iI (0))), (2, .int (iI (x)))]) hx hb zd_Q_secondTo_133 hl (k := 0) rfl (iI_add _ _) (by decide) rfl (fun ls hl => ?_)
                              refine lv_goto (tgt := 99) hx hb zd_Q_secondTo_136 (by decide) ?_
                              exact ihs (s0 - 1) ls (by omega) (sNo_a (sNb_s (by omega) hNs c115) (by omega)) (by omega) (lv_sub hl [0, 1, 2, 3, 4, 5] rfl)
                            · refine zi_sipush hx hb zd_Q_secondTo_118 (by decide) ?_
                              refine lv_iload_n hx hb zd_Q_secondTo_121 rfl (lv_at hl 2 rfl) ?_
                              refine zi_imul hx hb zd_Q_secondTo_122 ?_
                              refine zi_bipush hx hb zd_Q_secondTo_123 (by decide) ?_
                              refine lv_iload hx hb zd_Q_secondTo_125 (lv_at hl 1 rfl) ?_
                              refine zi_imul hx hb zd_Q_secondTo_127 ?_
                              refine zi_iadd hx hb zd_Q_secondTo_128 ?_
                              refine lv_iload hx hb zd_Q_secondTo_129 (lv_at hl 0 rfl) ?_
                              refine zi_iadd hx hb zd_Q_secondTo_131 ?_
                              refine zi_as r (sSB_un (sNb_hit (by omega) (by omega) (by omega) (by omega) hNs c20 c65 c115) hj) ?_
                              exact zs_iret hx hb hr hlk zd_Q_secondTo_132
                      exact loops 61 (x % 60) ls (by omega) (by first | exact (sNo_a hNm (by omega)) | exact sNo_0 (by omega)) (by omega) (lv_sub hl [0, 1, 2, 3, 4, 5] rfl)
                  · refine lv_goto (tgt := 139) hx hb zd_Q_secondTo_68 (by decide) ?_
                    refine lv_iinc (v := iI (m0 + (-1))) (lv' := [(4, .int (iI (m0 + (-1)))), (3, .int (iI (h))), (0, .ref (qq)), (1, .int (iI (0))), (2, .int (iI (x)))]) hx hb zd_Q_secondTo_139 hl (k := 0) rfl (iI_add _ _) (by decide) rfl (fun ls hl => ?_)
                    refine lv_goto (tgt := 49) hx hb zd_Q_secondTo_142 (by decide) ?_
                    exact ihm (m0 - 1) ls (by omega) (sNo_a (sNb_m (by omega) hNm c65) (by omega)) (by omega) (lv_sub hl [0, 1, 2, 3, 4] rfl)
            exact loopm 61 (59) ls (by omega) (by first | exact (sNo_a hNh (by omega)) | exact sNo_0 (by omega)) (by omega) (lv_sub hl [0, 1, 2, 3, 4] rfl)
          · refine lv_iload_n hx hb zd_Q_secondTo_35 rfl (lv_at hl 3 rfl) ?_
            refine zi_bipush hx hb zd_Q_secondTo_36 (by decide) ?_
            refine zi_idiv hx hb zd_Q_secondTo_38 (by omega) ?_
            refine zi_bipush hx hb zd_Q_secondTo_39 (by decide) ?_
            refine zi_irem hx hb zd_Q_secondTo_41 (by omega) ?_
            refine lv_goto (tgt := 47) hx hb zd_Q_secondTo_42 (by decide) ?_
            refine lv_istore (lv' := [(4, .int (iI ((x / 60) % 60))), (3, .int (iI (h))), (0, .ref (qq)), (1, .int (iI (0))), (2, .int (iI (x)))]) hx hb zd_Q_secondTo_47 hl (by decide) rfl (fun ls hl => ?_)
            have loopm : ∀ (n8 : Nat) (m0 : Int) (ls : Array Slot), (-1 ≤ m0 ∧ m0 ≤ 59 ∧ 3600 * h + 60 * m0 ≤ x) → (sNo (st 0) (st 1) (st 2) (3600 * h + 60 * (m0 + 1)) (x + 1)) → ((m0 + 1).toNat < n8) → lv_has ls 6 [(4, .int (iI (m0))), (3, .int (iI (h))), (0, .ref (qq)), (1, .int (iI (0))), (2, .int (iI (x)))] → W p l e ({ frames := 0, cells := 0, slots := 0, locals := 0 }) s m [.ref (qq), .int (iI (0)), .int (iI (x))].toArray below meth c s.heap [] 0 0 (MQ below (zSil (some (.int (iI (r))))) [.ref (qq), .int (iI (0)), .int (iI (x))].toArray s 0 0 (fun _ => False)) (F0 m 49 ls []) := by
              intro n8
              induction n8 with
              | zero =>
                intro m0 ls g1 hNm g2 hl
                exact absurd g2 (by omega)
              | succ n8 ihm =>
                intro m0 ls g1 hNm g2 hl
                refine lv_iload hx hb zd_Q_secondTo_49 (lv_at hl 0 rfl) ?_
                refine zi_if_lt (tgt := 145) hx hb zd_Q_secondTo_51 (by decide) (by omega) (fun c51 => ?_) (fun c51 => ?_)
                · refine lv_iinc (v := iI (h + (-1))) (lv' := [(3, .int (iI (h + (-1)))), (4, .int (iI (m0))), (0, .ref (qq)), (1, .int (iI (0))), (2, .int (iI (x)))]) hx hb zd_Q_secondTo_145 hl (k := 1) rfl (iI_add _ _) (by decide) rfl (fun ls hl => ?_)
                  refine lv_goto (tgt := 6) hx hb zd_Q_secondTo_148 (by decide) ?_
                  exact ihh (h - 1) ls (by omega) (sNo_a hNm (by omega)) (by omega) (lv_sub hl [0, 2, 3, 4] rfl)
                · refine lv_aload_n hx hb zd_Q_secondTo_54 rfl (lv_at hl 2 rfl) ?_
                  refine va_get (D := g.1) (ci := 5) (v := .ref (rf 1)) (C := zR_Q) (T := zT_Q) (N := 21) hx hb hw zin_Q hown hK hP 0 rfl rfl 8 (by decide) (hw _ zw_3_206) (fun _ h9 => h9) rfl zd_Q_secondTo_55 ?_
                  refine lv_iload_n hx hb zd_Q_secondTo_58 rfl (lv_at hl 3 rfl) ?_
                  refine zi_aald (k := 0) hx hb hK hP 1 6 rfl rfl (by omega) rfl zd_Q_secondTo_59 ?_
                  refine zi_iconst hx hb zd_Q_secondTo_60 ?_
                  refine zi_aald (k := 1) hx hb hK hP 2 5 rfl rfl (by omega) rfl zd_Q_secondTo_61 ?_
                  refine lv_iload hx hb zd_Q_secondTo_62 (lv_at hl 0 rfl) ?_
                  refine zi_zald hx hb hK hP 4 1 rfl rfl (by omega) zd_Q_secondTo_64 ?_
                  refine zb_if_ne (tgt := 71) hx hb zd_Q_secondTo_65 (by decide) (fun c65 => ?_) (fun c65 => ?_)
                  · refine zi_bipush hx hb zd_Q_secondTo_71 (by decide) ?_
                    refine zi_bipush hx hb zd_Q_secondTo_73 (by decide) ?_
                    refine lv_iload_n hx hb zd_Q_secondTo_75 rfl (lv_at hl 1 rfl) ?_
                    refine zi_imul hx hb zd_Q_secondTo_76 ?_
                    refine lv_iload hx hb zd_Q_secondTo_77 (lv_at hl 0 rfl) ?_
                    refine zi_iadd hx hb zd_Q_secondTo_79 ?_
                    refine zi_imul hx hb zd_Q_secondTo_80 ?_
                    refine zi_bipush hx hb zd_Q_secondTo_81 (by decide) ?_
                    refine zi_iadd hx hb zd_Q_secondTo_83 ?_
                    refine lv_iload_n hx hb zd_Q_secondTo_84 rfl (lv_at hl 4 rfl) ?_
                    refine zi_icmp_le (tgt := 95) hx hb zd_Q_secondTo_85 (by decide) (by omega) (fun c85 => ?_) (fun c85 => ?_)
                    · refine zi_bipush hx hb zd_Q_secondTo_95 (by decide) ?_
                      refine lv_istore (lv' := [(5, .int (iI (59))), (4, .int (iI (m0))), (3, .int (iI (h))), (0, .ref (qq)), (1, .int (iI (0))), (2, .int (iI (x)))]) hx hb zd_Q_secondTo_97 hl (by decide) rfl (fun ls hl => ?_)
                      have loops : ∀ (n9 : Nat) (s0 : Int) (ls : Array Slot), (-1 ≤ s0 ∧ s0 ≤ 59 ∧ 3600 * h + 60 * m0 + s0 ≤ x) → (sNo (st 0) (st 1) (st 2) (3600 * h + 60 * m0 + (s0 + 1)) (x + 1)) → ((s0 + 1).toNat < n9) → lv_has ls 6 [(5, .int (iI (s0))), (4, .int (iI (m0))), (3, .int (iI (h))), (0, .ref (qq)), (1, .int (iI (0))), (2, .int (iI (x)))] → W p l e ({ frames := 0, cells := 0, slots := 0, locals := 0 }) s m [.ref (qq), .int (iI (0)), .int (iI (x))].toArray below meth c s.heap [] 0 0 (MQ below (zSil (some (.int (iI (r))))) [.ref (qq), .int (iI (0)), .int (iI (x))].toArray s 0 0 (fun _ => False)) (F0 m 99 ls []) := by
                        intro n9
                        induction n9 with
                        | zero =>
                          intro s0 ls k1 hNs k2 hl
                          exact absurd k2 (by omega)
                        | succ n9 ihs =>
                          intro s0 ls k1 hNs k2 hl
                          refine lv_iload hx hb zd_Q_secondTo_99 (lv_at hl 0 rfl) ?_
                          refine zi_if_lt (tgt := 139) hx hb zd_Q_secondTo_101 (by decide) (by omega) (fun c101 => ?_) (fun c101 => ?_)
                          · refine lv_iinc (v := iI (m0 + (-1))) (lv' := [(4, .int (iI (m0 + (-1)))), (5, .int (iI (s0))), (3, .int (iI (h))), (0, .ref (qq)), (1, .int (iI (0))), (2, .int (iI (x)))]) hx hb zd_Q_secondTo_139 hl (k := 1) rfl (iI_add _ _) (by decide) rfl (fun ls hl => ?_)
                            refine lv_goto (tgt := 49) hx hb zd_Q_secondTo_142 (by decide) ?_
                            exact ihm (m0 - 1) ls (by omega) (sNo_a hNs (by omega)) (by omega) (lv_sub hl [0, 2, 3, 4, 5] rfl)
                          · refine lv_aload_n hx hb zd_Q_secondTo_104 rfl (lv_at hl 3 rfl) ?_
                            refine va_get (D := g.1) (ci := 5) (v := .ref (rf 1)) (C := zR_Q) (T := zT_Q) (N := 21) hx hb hw zin_Q hown hK hP 0 rfl rfl 8 (by decide) (hw _ zw_3_206) (fun _ h9 => h9) rfl zd_Q_secondTo_105 ?_
                            refine lv_iload_n hx hb zd_Q_secondTo_108 rfl (lv_at hl 4 rfl) ?_
                            refine zi_aald (k := 0) hx hb hK hP 1 6 rfl rfl (by omega) rfl zd_Q_secondTo_109 ?_
                            refine zi_iconst hx hb zd_Q_secondTo_110 ?_
                            refine zi_aald (k := 0) hx hb hK hP 2 5 rfl rfl (by omega) rfl zd_Q_secondTo_111 ?_
                            refine lv_iload hx hb zd_Q_secondTo_112 (lv_at hl 0 rfl) ?_
                            refine zi_zald hx hb hK hP 3 1 rfl rfl (by omega) zd_Q_secondTo_114 ?_
                            refine zb_if_eq (tgt := 133) hx hb zd_Q_secondTo_115 (by decide) (fun c115 => ?_) (fun c115 => ?_)
                            · refine lv_iinc (v := iI (s0 + (-1))) (lv' := [(5, .int (iI (s0 + (-1)))), (4, .int (iI (m0))), (3, .int (iI (h))), (0, .ref (qq)), (1, .int (iI (0))), (2, .int (iI (x)))]) hx hb zd_Q_secondTo_133 hl (k := 0) rfl (iI_add _ _) (by decide) rfl (fun ls hl => ?_)
                              refine lv_goto (tgt := 99) hx hb zd_Q_secondTo_136 (by decide) ?_
                              exact ihs (s0 - 1) ls (by omega) (sNo_a (sNb_s (by omega) hNs c115) (by omega)) (by omega) (lv_sub hl [0, 1, 2, 3, 4, 5] rfl)
                            · refine zi_sipush hx hb zd_Q_secondTo_118 (by decide) ?_
                              refine lv_iload_n hx hb zd_Q_secondTo_121 rfl (lv_at hl 2 rfl) ?_
                              refine zi_imul hx hb zd_Q_secondTo_122 ?_
                              refine zi_bipush hx hb zd_Q_secondTo_123 (by decide) ?_
                              refine lv_iload hx hb zd_Q_secondTo_125 (lv_at hl 1 rfl) ?_
                              refine zi_imul hx hb zd_Q_secondTo_127 ?_
                              refine zi_iadd hx hb zd_Q_secondTo_128 ?_
                              refine lv_iload hx hb zd_Q_secondTo_129 (lv_at hl 0 rfl) ?_
                              refine zi_iadd hx hb zd_Q_secondTo_131 ?_
                              refine zi_as r (sSB_un (sNb_hit (by omega) (by omega) (by omega) (by omega) hNs c20 c65 c115) hj) ?_
                              exact zs_iret hx hb hr hlk zd_Q_secondTo_132
                      exact loops 61 (59) ls (by omega) (by first | exact (sNo_a hNm (by omega)) | exact sNo_0 (by omega)) (by omega) (lv_sub hl [0, 1, 2, 3, 4, 5] rfl)
                    · refine lv_iload_n hx hb zd_Q_secondTo_88 rfl (lv_at hl 4 rfl) ?_
                      refine zi_bipush hx hb zd_Q_secondTo_89 (by decide) ?_
                      refine zi_irem hx hb zd_Q_secondTo_91 (by omega) ?_
                      refine lv_goto (tgt := 97) hx hb zd_Q_secondTo_92 (by decide) ?_
                      refine lv_istore (lv' := [(5, .int (iI (x % 60))), (4, .int (iI (m0))), (3, .int (iI (h))), (0, .ref (qq)), (1, .int (iI (0))), (2, .int (iI (x)))]) hx hb zd_Q_secondTo_97 hl (by decide) rfl (fun ls hl => ?_)
                      have loops : ∀ (n9 : Nat) (s0 : Int) (ls : Array Slot), (-1 ≤ s0 ∧ s0 ≤ 59 ∧ 3600 * h + 60 * m0 + s0 ≤ x) → (sNo (st 0) (st 1) (st 2) (3600 * h + 60 * m0 + (s0 + 1)) (x + 1)) → ((s0 + 1).toNat < n9) → lv_has ls 6 [(5, .int (iI (s0))), (4, .int (iI (m0))), (3, .int (iI (h))), (0, .ref (qq)), (1, .int (iI (0))), (2, .int (iI (x)))] → W p l e ({ frames := 0, cells := 0, slots := 0, locals := 0 }) s m [.ref (qq), .int (iI (0)), .int (iI (x))].toArray below meth c s.heap [] 0 0 (MQ below (zSil (some (.int (iI (r))))) [.ref (qq), .int (iI (0)), .int (iI (x))].toArray s 0 0 (fun _ => False)) (F0 m 99 ls []) := by
                        intro n9
                        induction n9 with
                        | zero =>
                          intro s0 ls k1 hNs k2 hl
                          exact absurd k2 (by omega)
                        | succ n9 ihs =>
                          intro s0 ls k1 hNs k2 hl
                          refine lv_iload hx hb zd_Q_secondTo_99 (lv_at hl 0 rfl) ?_
                          refine zi_if_lt (tgt := 139) hx hb zd_Q_secondTo_101 (by decide) (by omega) (fun c101 => ?_) (fun c101 => ?_)
                          · refine lv_iinc (v := iI (m0 + (-1))) (lv' := [(4, .int (iI (m0 + (-1)))), (5, .int (iI (s0))), (3, .int (iI (h))), (0, .ref (qq)), (1, .int (iI (0))), (2, .int (iI (x)))]) hx hb zd_Q_secondTo_139 hl (k := 1) rfl (iI_add _ _) (by decide) rfl (fun ls hl => ?_)
                            refine lv_goto (tgt := 49) hx hb zd_Q_secondTo_142 (by decide) ?_
                            exact ihm (m0 - 1) ls (by omega) (sNo_a hNs (by omega)) (by omega) (lv_sub hl [0, 2, 3, 4, 5] rfl)
                          · refine lv_aload_n hx hb zd_Q_secondTo_104 rfl (lv_at hl 3 rfl) ?_
                            refine va_get (D := g.1) (ci := 5) (v := .ref (rf 1)) (C := zR_Q) (T := zT_Q) (N := 21) hx hb hw zin_Q hown hK hP 0 rfl rfl 8 (by decide) (hw _ zw_3_206) (fun _ h9 => h9) rfl zd_Q_secondTo_105 ?_
                            refine lv_iload_n hx hb zd_Q_secondTo_108 rfl (lv_at hl 4 rfl) ?_
                            refine zi_aald (k := 0) hx hb hK hP 1 6 rfl rfl (by omega) rfl zd_Q_secondTo_109 ?_
                            refine zi_iconst hx hb zd_Q_secondTo_110 ?_
                            refine zi_aald (k := 0) hx hb hK hP 2 5 rfl rfl (by omega) rfl zd_Q_secondTo_111 ?_
                            refine lv_iload hx hb zd_Q_secondTo_112 (lv_at hl 0 rfl) ?_
                            refine zi_zald hx hb hK hP 3 1 rfl rfl (by omega) zd_Q_secondTo_114 ?_
                            refine zb_if_eq (tgt := 133) hx hb zd_Q_secondTo_115 (by decide) (fun c115 => ?_) (fun c115 => ?_)
                            · refine lv_iinc (v := iI (s0 + (-1))) (lv' := [(5, .int (iI (s0 + (-1)))), (4, .int (iI (m0))), (3, .int (iI (h))), (0, .ref (qq)), (1, .int (iI (0))), (2, .int (iI (x)))]) hx hb zd_Q_secondTo_133 hl (k := 0) rfl (iI_add _ _) (by decide) rfl (fun ls hl => ?_)
                              refine lv_goto (tgt := 99) hx hb zd_Q_secondTo_136 (by decide) ?_
                              exact ihs (s0 - 1) ls (by omega) (sNo_a (sNb_s (by omega) hNs c115) (by omega)) (by omega) (lv_sub hl [0, 1, 2, 3, 4, 5] rfl)
                            · refine zi_sipush hx hb zd_Q_secondTo_118 (by decide) ?_
                              refine lv_iload_n hx hb zd_Q_secondTo_121 rfl (lv_at hl 2 rfl) ?_
                              refine zi_imul hx hb zd_Q_secondTo_122 ?_
                              refine zi_bipush hx hb zd_Q_secondTo_123 (by decide) ?_
                              refine lv_iload hx hb zd_Q_secondTo_125 (lv_at hl 1 rfl) ?_
                              refine zi_imul hx hb zd_Q_secondTo_127 ?_
                              refine zi_iadd hx hb zd_Q_secondTo_128 ?_
                              refine lv_iload hx hb zd_Q_secondTo_129 (lv_at hl 0 rfl) ?_
                              refine zi_iadd hx hb zd_Q_secondTo_131 ?_
                              refine zi_as r (sSB_un (sNb_hit (by omega) (by omega) (by omega) (by omega) hNs c20 c65 c115) hj) ?_
                              exact zs_iret hx hb hr hlk zd_Q_secondTo_132
                      exact loops 61 (x % 60) ls (by omega) (by first | exact (sNo_a hNm (by omega)) | exact sNo_0 (by omega)) (by omega) (lv_sub hl [0, 1, 2, 3, 4, 5] rfl)
                  · refine lv_goto (tgt := 139) hx hb zd_Q_secondTo_68 (by decide) ?_
                    refine lv_iinc (v := iI (m0 + (-1))) (lv' := [(4, .int (iI (m0 + (-1)))), (3, .int (iI (h))), (0, .ref (qq)), (1, .int (iI (0))), (2, .int (iI (x)))]) hx hb zd_Q_secondTo_139 hl (k := 0) rfl (iI_add _ _) (by decide) rfl (fun ls hl => ?_)
                    refine lv_goto (tgt := 49) hx hb zd_Q_secondTo_142 (by decide) ?_
                    exact ihm (m0 - 1) ls (by omega) (sNo_a (sNb_m (by omega) hNm c65) (by omega)) (by omega) (lv_sub hl [0, 1, 2, 3, 4] rfl)
            exact loopm 61 ((x / 60) % 60) ls (by omega) (by first | exact (sNo_a hNh (by omega)) | exact sNo_0 (by omega)) (by omega) (lv_sub hl [0, 1, 2, 3, 4] rfl)
        · refine lv_goto (tgt := 145) hx hb zd_Q_secondTo_23 (by decide) ?_
          refine lv_iinc (v := iI (h + (-1))) (lv' := [(3, .int (iI (h + (-1)))), (0, .ref (qq)), (1, .int (iI (0))), (2, .int (iI (x)))]) hx hb zd_Q_secondTo_145 hl (k := 0) rfl (iI_add _ _) (by decide) rfl (fun ls hl => ?_)
          refine lv_goto (tgt := 6) hx hb zd_Q_secondTo_148 (by decide) ?_
          exact ihh (h - 1) ls (by omega) (sNo_a (sNb_h hNh c20) (by omega)) (by omega) (lv_sub hl [0, 1, 2, 3] rfl)
  exact looph 25 (x / 3600) ls (by omega) (sNo_0 (by omega)) (by omega) (lv_sub hl [0, 1, 2, 3] rfl)
