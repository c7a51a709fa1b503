/-! the law: its state, its cases -/
def wLaw (g : zGl) (fq tp hq ha oa qq : Nat) (rf ta sa sr fa wya sea mq wq : Nat → Nat) (en : Nat → Nat) (fl ln br yy mm dd at0 wa on tw cnt sub od sb2 od2 : Int) (pq sq : Nat) (ra aa rb ab : Nat → Nat) (ru rl2 : Nat) (al bl tr st : Nat → Nat → Bool) (bits bits2 : Nat → Bool) (tf h wf fi sf ou : Nat → Int) (to hdf : Nat → Bool) (hol : Int → Bool) : va_W := [(fq, .inr (0, [.ref (tp), .int (iI (ln)), .ref (pq), .ref (sq), .int (iI (br)), .ref (hq)])), (tp, .inl (g.2 2, 400, .inl (zaI tf))), (sq, .inr (3, [.ref (rb 0), .ref (rb 1), .ref (rb 2), .ref (rb 3), .ref (rb 4), .ref (rb 5), .ref (rb 6), .ref (rl2), .int (iI (sb2)), .int (iI (od2)), .int (zbits (bits2))])), (rb 0, .inr (2, [.int (iI (0)), .int (iI (59)), .ref (ab 0)])), (ab 0, .inl (g.2 1, 60, .inl (zaB (bl 0)))), (rb 1, .inr (2, [.int (iI (0)), .int (iI (59)), .ref (ab 1)])), (ab 1, .inl (g.2 1, 60, .inl (zaB (bl 1)))), (rb 2, .inr (2, [.int (iI (0)), .int (iI (23)), .ref (ab 2)])), (ab 2, .inl (g.2 1, 24, .inl (zaB (bl 2)))), (rb 3, .inr (2, [.int (iI (1)), .int (iI (31)), .ref (ab 3)])), (ab 3, .inl (g.2 1, 31, .inl (zaB (bl 3)))), (rb 4, .inr (2, [.int (iI (1)), .int (iI (12)), .ref (ab 4)])), (ab 4, .inl (g.2 1, 12, .inl (zaB (bl 4)))), (rb 5, .inr (2, [.int (iI (1)), .int (iI (7)), .ref (ab 5)])), (ab 5, .inl (g.2 1, 7, .inl (zaB (bl 5)))), (rb 6, .inr (2, [.int (iI (1970)), .int (iI (2299)), .ref (ab 6)])), (ab 6, .inl (g.2 1, 330, .inl (zaB (bl 6)))), (pq, .inr (3, [.ref (ra 0), .ref (ra 1), .ref (ra 2), .ref (ra 3), .ref (ra 4), .ref (ra 5), .ref (ra 6), .ref (en ru), .int (iI (sub)), .int (iI (od)), .int (zbits (bits))])), (ra 0, .inr (2, [.int (iI (0)), .int (iI (59)), .ref (aa 0)])), (aa 0, .inl (g.2 1, 60, .inl (zaB (al 0)))), (ra 1, .inr (2, [.int (iI (0)), .int (iI (59)), .ref (aa 1)])), (aa 1, .inl (g.2 1, 60, .inl (zaB (al 1)))), (ra 2, .inr (2, [.int (iI (0)), .int (iI (23)), .ref (aa 2)])), (aa 2, .inl (g.2 1, 24, .inl (zaB (al 2)))), (ra 3, .inr (2, [.int (iI (1)), .int (iI (31)), .ref (aa 3)])), (aa 3, .inl (g.2 1, 31, .inl (zaB (al 3)))), (ra 4, .inr (2, [.int (iI (1)), .int (iI (12)), .ref (aa 4)])), (aa 4, .inl (g.2 1, 12, .inl (zaB (al 4)))), (ra 5, .inr (2, [.int (iI (1)), .int (iI (7)), .ref (aa 5)])), (aa 5, .inl (g.2 1, 7, .inl (zaB (al 5)))), (ra 6, .inr (2, [.int (iI (1970)), .int (iI (2299)), .ref (aa 6)])), (aa 6, .inl (g.2 1, 330, .inl (zaB (al 6)))), (hq, .inr (1, [.ref (ha), .int (iI (cnt))])), (ha, .inl (g.2 0, 200, .inl (zaI h))), (oa, .inl (g.2 4, 1, .inr (.inl (zaL ou)))), (qq, .inr (5, [.int (iI (fl)), .ref (rf 0), .int (iI (ln)), .int (iI (br)), .int (iI (yy)), .int (iI (mm)), .int (iI (dd)), .int (iI (at0)), .ref (rf 1), .ref (rf 2), .ref (rf 3), .ref (rf 4), .ref (rf 5), .ref (rf 6), .int (iI (wa)), .int (iI (on)), .int (iI (tw)), .ref (rf 7), .ref (rf 8), .ref (rf 9), .int (iI (cnt))])), (rf 0, .inl (g.2 3, 400, .inl (zaI (zSg tf)))), (rf 7, .inl (g.2 8, 12, .inr (.inr (.inr (.inr (zaR mq)))))), (rf 8, .inl (g.2 8, 7, .inr (.inr (.inr (.inr (zaR wq)))))), (rf 2, .inl (g.2 5, 7, .inr (.inr (.inr (.inr (zaR ta)))))), (ta 0, .inl (g.2 1, 330, .inl (zaB (tr 0)))), (ta 1, .inl (g.2 1, 330, .inl (zaB (tr 1)))), (ta 2, .inl (g.2 1, 330, .inl (zaB (tr 2)))), (ta 3, .inl (g.2 1, 330, .inl (zaB (tr 3)))), (ta 4, .inl (g.2 1, 330, .inl (zaB (tr 4)))), (ta 5, .inl (g.2 1, 330, .inl (zaB (tr 5)))), (ta 6, .inl (g.2 1, 330, .inl (zaB (tr 6)))), (rf 1, .inl (g.2 6, 1, .inr (.inr (.inr (.inr (zaR sa)))))), (sa 0, .inl (g.2 5, 7, .inr (.inr (.inr (.inr (zaR sr)))))), (sr 0, .inl (g.2 1, 330, .inl (zaB (st 0)))), (sr 1, .inl (g.2 1, 330, .inl (zaB (st 1)))), (sr 2, .inl (g.2 1, 330, .inl (zaB (st 2)))), (sr 3, .inl (g.2 1, 330, .inl (zaB (st 3)))), (sr 4, .inl (g.2 1, 330, .inl (zaB (st 4)))), (sr 5, .inl (g.2 1, 330, .inl (zaB (st 5)))), (sr 6, .inl (g.2 1, 330, .inl (zaB (st 6)))), (rf 4, .inl (g.2 7, 1, .inr (.inr (.inr (.inr (zaR wya)))))), (wya 0, .inl (g.2 0, 2, .inl (zaI wf))), (rf 5, .inl (g.2 7, 1, .inr (.inr (.inr (.inr (zaR fa)))))), (fa 0, .inl (g.2 0, 2, .inl (zaI fi))), (rf 6, .inl (g.2 7, 1, .inr (.inr (.inr (.inr (zaR sea)))))), (sea 0, .inl (g.2 0, 2, .inl (zaI sf))), (rf 3, .inl (g.2 1, 1, .inl (zaB to))), (rf 9, .inl (g.2 1, 120530, .inl (zaB hdf)))]
def iLaw (fl ln br yy mm dd at0 wa on tw cnt sub od sb2 od2 : Int) (pq sq : Nat) (ra aa rb ab : Nat → Nat) (ru rl2 : Nat) (al bl tr st : Nat → Nat → Bool) (bits bits2 : Nat → Bool) (tf h wf fi sf ou : Nat → Int) (to hdf : Nat → Bool) (hol : Int → Bool) : Prop := (0 ≤ ln ∧ ln ≤ 400) ∧ (∀ j : Nat, 0 ≤ tf j ∧ tf j < 256) ∧ (-1 ≤ br ∧ br ≤ 400) ∧ dsR h cnt hol ∧ (∀ x : Int, 0 ≤ x → x ≤ 120529 → hdf x.toNat = hol x) ∧ pOk al (pDays al bits ru sub od) ∧ (0 ≤ sub ∧ sub ≤ 31 ∧ 0 ≤ od ∧ od ≤ 5) ∧ (ru < 7 ∧ (ru = 3 → 1 ≤ sub)) ∧ qHr wf fi sf ∧
  ((∀ k, k < 60 → st 0 k = al 0 k) ∧ (∀ k, k < 60 → st 1 k = al 1 k) ∧ (∀ k, k < 24 → st 2 k = al 2 k)) ∧ ((to 0 = true ∧ qRel st wf fi sf al bits ru sub od) ∨ (to 0 = false ∧ ∀ mo i, pDays al bits ru sub od mo i = false))
theorem zPut_id : ∀ (is : List Nat) (w ws : va_W), is.map (fun i => ws[i]?) = w.map some → zPut ws is w = ws := by
  intro is
  induction is with
  | nil => intro w ws h; cases w <;> rfl
  | cons i is ih =>
    intro w ws h
    cases w with
    | nil => rfl
    | cons q w =>
      simp only [List.map_cons, List.cons.injEq] at h
      have e : ws.set i q = ws := by
        refine List.ext_getElem? (fun k => ?_)
        by_cases hk : i = k
        · subst hk
          rw [List.getElem?_set_self (List.getElem?_eq_some_iff.mp h.1).1, h.1]
        · rw [List.getElem?_set_ne hk]
      show zPut (ws.set i q) is w = ws
      rw [e]
      exact ih w ws h.2
theorem zPut_one : ∀ (ws : va_W) (is1 is2 : List Nat) (w1 w2 : va_W) (k : Nat) (q : Nat × va_E), is1.map (fun i => ws[i]?) = w1.map some → is2.map (fun i => (ws.set k q)[i]?) = w2.map some → zPut ws (is1 ++ k :: is2) (w1 ++ q :: w2) = ws.set k q := by
  intro ws is1
  induction is1 with
  | nil =>
    intro is2 w1 w2 k q h1 h2
    cases w1 with
    | nil => exact zPut_id is2 w2 (ws.set k q) h2
    | cons _ _ => simp at h1
  | cons i is1 ih =>
    intro is2 w1 w2 k q h1 h2
    cases w1 with
    | nil => simp at h1
    | cons x w1 =>
      simp only [List.map_cons, List.cons.injEq] at h1
      have e : ws.set i x = ws := by
        have := zPut_id [i] [x] ws (by simp [h1.1])
        exact this
      show zPut (ws.set i x) (is1 ++ k :: is2) (w1 ++ q :: w2) = _
      rw [e]
      exact ih is2 w1 w2 k q h1.2 h2
theorem zd_L_law_0 : decode code 0 = .ok (.new 8, 3) := by decide +kernel
theorem zd_L_law_3 : decode code 3 = .ok (.dup, 1) := by decide +kernel
theorem zd_L_law_4 : decode code 4 = .ok (.invokespecial 45, 3) := by decide +kernel
theorem zd_L_law_7 : decode code 7 = .ok (.astore_n 1, 1) := by decide +kernel
theorem zd_L_law_8 : decode code 8 = .ok (.new 46, 3) := by decide +kernel
theorem zd_L_law_11 : decode code 11 = .ok (.dup, 1) := by decide +kernel
theorem zd_L_law_12 : decode code 12 = .ok (.invokespecial 48, 3) := by decide +kernel
theorem zd_L_law_15 : decode code 15 = .ok (.astore_n 2, 1) := by decide +kernel
theorem zd_L_law_16 : decode code 16 = .ok (.iconst 1, 1) := by decide +kernel
theorem zd_L_law_17 : decode code 17 = .ok (.newarray .long, 2) := by decide +kernel
theorem zd_L_law_19 : decode code 19 = .ok (.astore_n 3, 1) := by decide +kernel
theorem zd_L_law_20 : decode code 20 = .ok (.iconst 0, 1) := by decide +kernel
theorem zd_L_law_21 : decode code 21 = .ok (.istore 4, 2) := by decide +kernel
theorem zd_L_law_23 : decode code 23 = .ok (.iload 4, 2) := by decide +kernel
theorem zd_L_law_25 : decode code 25 = .ok (.aload_n 0, 1) := by decide +kernel
theorem zd_L_law_26 : decode code 26 = .ok (.arraylength, 1) := by decide +kernel
theorem zd_L_law_27 : decode code 27 = .ok (.bipush 6, 2) := by decide +kernel
theorem zd_L_law_29 : decode code 29 = .ok (.isub, 1) := by decide +kernel
theorem zd_L_law_30 : decode code 30 = .ok (.if_icmp .gt 717, 3) := by decide +kernel
theorem zd_L_law_33 : decode code 33 = .ok (.aload_n 0, 1) := by decide +kernel
theorem zd_L_law_34 : decode code 34 = .ok (.iload 4, 2) := by decide +kernel
theorem zd_L_law_36 : decode code 36 = .ok (.iaload, 1) := by decide +kernel
theorem zd_L_law_37 : decode code 37 = .ok (.bipush 15, 2) := by decide +kernel
theorem zd_L_law_39 : decode code 39 = .ok (.iand, 1) := by decide +kernel
theorem zd_L_law_40 : decode code 40 = .ok (.tableswitch 701 0 8 #[52, 156, 212, 236, 320, 407, 494, 593, 688], 52) := by decide +kernel
theorem zd_L_law_92 : decode code 92 = .ok (.aload_n 1, 1) := by decide +kernel
theorem zd_L_law_93 : decode code 93 = .ok (.aload_n 0, 1) := by decide +kernel
theorem zd_L_law_94 : decode code 94 = .ok (.iload 4, 2) := by decide +kernel
theorem zd_L_law_96 : decode code 96 = .ok (.iconst 1, 1) := by decide +kernel
theorem zd_L_law_97 : decode code 97 = .ok (.iadd, 1) := by decide +kernel
theorem zd_L_law_98 : decode code 98 = .ok (.iaload, 1) := by decide +kernel
theorem zd_L_law_99 : decode code 99 = .ok (.aload_n 0, 1) := by decide +kernel
theorem zd_L_law_100 : decode code 100 = .ok (.iload 4, 2) := by decide +kernel
theorem zd_L_law_102 : decode code 102 = .ok (.iconst 2, 1) := by decide +kernel
theorem zd_L_law_103 : decode code 103 = .ok (.iadd, 1) := by decide +kernel
theorem zd_L_law_104 : decode code 104 = .ok (.iaload, 1) := by decide +kernel
theorem zd_L_law_105 : decode code 105 = .ok (.aload_n 0, 1) := by decide +kernel
theorem zd_L_law_106 : decode code 106 = .ok (.iload 4, 2) := by decide +kernel
theorem zd_L_law_108 : decode code 108 = .ok (.iconst 3, 1) := by decide +kernel
theorem zd_L_law_109 : decode code 109 = .ok (.iadd, 1) := by decide +kernel
theorem zd_L_law_110 : decode code 110 = .ok (.iaload, 1) := by decide +kernel
theorem zd_L_law_111 : decode code 111 = .ok (.aload_n 0, 1) := by decide +kernel
theorem zd_L_law_112 : decode code 112 = .ok (.iload 4, 2) := by decide +kernel
theorem zd_L_law_114 : decode code 114 = .ok (.iconst 4, 1) := by decide +kernel
theorem zd_L_law_115 : decode code 115 = .ok (.iadd, 1) := by decide +kernel
theorem zd_L_law_116 : decode code 116 = .ok (.iaload, 1) := by decide +kernel
theorem zd_L_law_117 : decode code 117 = .ok (.aload_n 0, 1) := by decide +kernel
theorem zd_L_law_118 : decode code 118 = .ok (.iload 4, 2) := by decide +kernel
theorem zd_L_law_120 : decode code 120 = .ok (.iconst 5, 1) := by decide +kernel
theorem zd_L_law_121 : decode code 121 = .ok (.iadd, 1) := by decide +kernel
theorem zd_L_law_122 : decode code 122 = .ok (.iaload, 1) := by decide +kernel
theorem zd_L_law_123 : decode code 123 = .ok (.aload_n 3, 1) := by decide +kernel
theorem zd_L_law_124 : decode code 124 = .ok (.invokestatic 49, 3) := by decide +kernel
theorem zd_L_law_127 : decode code 127 = .ok (.istore 5, 2) := by decide +kernel
theorem zd_L_law_129 : decode code 129 = .ok (.aload_n 2, 1) := by decide +kernel
theorem zd_L_law_130 : decode code 130 = .ok (.aload_n 0, 1) := by decide +kernel
theorem zd_L_law_131 : decode code 131 = .ok (.iload 4, 2) := by decide +kernel
theorem zd_L_law_133 : decode code 133 = .ok (.iconst 1, 1) := by decide +kernel
theorem zd_L_law_134 : decode code 134 = .ok (.iadd, 1) := by decide +kernel
theorem zd_L_law_135 : decode code 135 = .ok (.iaload, 1) := by decide +kernel
theorem zd_L_law_136 : decode code 136 = .ok (.aload_n 0, 1) := by decide +kernel
theorem zd_L_law_137 : decode code 137 = .ok (.iload 4, 2) := by decide +kernel
theorem zd_L_law_139 : decode code 139 = .ok (.iconst 2, 1) := by decide +kernel
theorem zd_L_law_140 : decode code 140 = .ok (.iadd, 1) := by decide +kernel
theorem zd_L_law_141 : decode code 141 = .ok (.iaload, 1) := by decide +kernel
theorem zd_L_law_142 : decode code 142 = .ok (.aload_n 0, 1) := by decide +kernel
theorem zd_L_law_143 : decode code 143 = .ok (.iload 4, 2) := by decide +kernel
theorem zd_L_law_145 : decode code 145 = .ok (.iconst 3, 1) := by decide +kernel
theorem zd_L_law_146 : decode code 146 = .ok (.iadd, 1) := by decide +kernel
theorem zd_L_law_147 : decode code 147 = .ok (.iaload, 1) := by decide +kernel
theorem zd_L_law_148 : decode code 148 = .ok (.aload_n 0, 1) := by decide +kernel
theorem zd_L_law_149 : decode code 149 = .ok (.iload 4, 2) := by decide +kernel
theorem zd_L_law_151 : decode code 151 = .ok (.iconst 4, 1) := by decide +kernel
theorem zd_L_law_152 : decode code 152 = .ok (.iadd, 1) := by decide +kernel
theorem zd_L_law_153 : decode code 153 = .ok (.iaload, 1) := by decide +kernel
theorem zd_L_law_154 : decode code 154 = .ok (.aload_n 0, 1) := by decide +kernel
theorem zd_L_law_155 : decode code 155 = .ok (.iload 4, 2) := by decide +kernel
theorem zd_L_law_157 : decode code 157 = .ok (.iconst 5, 1) := by decide +kernel
theorem zd_L_law_158 : decode code 158 = .ok (.iadd, 1) := by decide +kernel
theorem zd_L_law_159 : decode code 159 = .ok (.iaload, 1) := by decide +kernel
theorem zd_L_law_160 : decode code 160 = .ok (.invokevirtual 54, 3) := by decide +kernel
theorem zd_L_law_163 : decode code 163 = .ok (.istore 6, 2) := by decide +kernel
theorem zd_L_law_165 : decode code 165 = .ok (.aload_n 2, 1) := by decide +kernel
theorem zd_L_law_166 : decode code 166 = .ok (.invokevirtual 55, 3) := by decide +kernel
theorem zd_L_law_169 : decode code 169 = .ok (.iload 5, 2) := by decide +kernel
theorem zd_L_law_171 : decode code 171 = .ok (.if_icmp .eq 5, 3) := by decide +kernel
theorem zd_L_law_174 : decode code 174 = .ok (.iconst 0, 1) := by decide +kernel
theorem zd_L_law_175 : decode code 175 = .ok (.ireturn, 1) := by decide +kernel
theorem zd_L_law_176 : decode code 176 = .ok (.iload 5, 2) := by decide +kernel
theorem zd_L_law_178 : decode code 178 = .ok (.ifCond .ne 15, 3) := by decide +kernel
theorem zd_L_law_181 : decode code 181 = .ok (.aload_n 3, 1) := by decide +kernel
theorem zd_L_law_182 : decode code 182 = .ok (.iconst 0, 1) := by decide +kernel
theorem zd_L_law_183 : decode code 183 = .ok (.laload, 1) := by decide +kernel
theorem zd_L_law_184 : decode code 184 = .ok (.iload 6, 2) := by decide +kernel
theorem zd_L_law_186 : decode code 186 = .ok (.i2l, 1) := by decide +kernel
theorem zd_L_law_187 : decode code 187 = .ok (.lcmp, 1) := by decide +kernel
theorem zd_L_law_188 : decode code 188 = .ok (.ifCond .eq 5, 3) := by decide +kernel
theorem zd_L_law_191 : decode code 191 = .ok (.iconst 0, 1) := by decide +kernel
theorem zd_L_law_192 : decode code 192 = .ok (.ireturn, 1) := by decide +kernel
theorem zd_L_law_193 : decode code 193 = .ok (.goto 548, 3) := by decide +kernel
theorem zd_L_law_196 : decode code 196 = .ok (.aload_n 1, 1) := by decide +kernel
theorem zd_L_law_197 : decode code 197 = .ok (.aload_n 0, 1) := by decide +kernel
theorem zd_L_law_198 : decode code 198 = .ok (.iload 4, 2) := by decide +kernel
theorem zd_L_law_200 : decode code 200 = .ok (.iconst 1, 1) := by decide +kernel
theorem zd_L_law_201 : decode code 201 = .ok (.iadd, 1) := by decide +kernel
theorem zd_L_law_202 : decode code 202 = .ok (.iaload, 1) := by decide +kernel
theorem zd_L_law_203 : decode code 203 = .ok (.aload_n 3, 1) := by decide +kernel
theorem zd_L_law_204 : decode code 204 = .ok (.invokestatic 59, 3) := by decide +kernel
theorem zd_L_law_207 : decode code 207 = .ok (.istore 5, 2) := by decide +kernel
theorem zd_L_law_209 : decode code 209 = .ok (.aload_n 2, 1) := by decide +kernel
theorem zd_L_law_210 : decode code 210 = .ok (.aload_n 0, 1) := by decide +kernel
theorem zd_L_law_211 : decode code 211 = .ok (.iload 4, 2) := by decide +kernel
theorem zd_L_law_213 : decode code 213 = .ok (.iconst 1, 1) := by decide +kernel
theorem zd_L_law_214 : decode code 214 = .ok (.iadd, 1) := by decide +kernel
theorem zd_L_law_215 : decode code 215 = .ok (.iaload, 1) := by decide +kernel
theorem zd_L_law_216 : decode code 216 = .ok (.invokevirtual 62, 3) := by decide +kernel
theorem zd_L_law_219 : decode code 219 = .ok (.istore 6, 2) := by decide +kernel
theorem zd_L_law_221 : decode code 221 = .ok (.aload_n 2, 1) := by decide +kernel
theorem zd_L_law_222 : decode code 222 = .ok (.invokevirtual 55, 3) := by decide +kernel
theorem zd_L_law_225 : decode code 225 = .ok (.iload 5, 2) := by decide +kernel
theorem zd_L_law_227 : decode code 227 = .ok (.if_icmp .eq 5, 3) := by decide +kernel
theorem zd_L_law_230 : decode code 230 = .ok (.iconst 0, 1) := by decide +kernel
theorem zd_L_law_231 : decode code 231 = .ok (.ireturn, 1) := by decide +kernel
theorem zd_L_law_232 : decode code 232 = .ok (.iload 5, 2) := by decide +kernel
theorem zd_L_law_234 : decode code 234 = .ok (.ifCond .ne 15, 3) := by decide +kernel
theorem zd_L_law_237 : decode code 237 = .ok (.aload_n 3, 1) := by decide +kernel
theorem zd_L_law_238 : decode code 238 = .ok (.iconst 0, 1) := by decide +kernel
theorem zd_L_law_239 : decode code 239 = .ok (.laload, 1) := by decide +kernel
theorem zd_L_law_240 : decode code 240 = .ok (.iload 6, 2) := by decide +kernel
theorem zd_L_law_242 : decode code 242 = .ok (.i2l, 1) := by decide +kernel
theorem zd_L_law_243 : decode code 243 = .ok (.lcmp, 1) := by decide +kernel
theorem zd_L_law_244 : decode code 244 = .ok (.ifCond .eq 5, 3) := by decide +kernel
theorem zd_L_law_247 : decode code 247 = .ok (.iconst 0, 1) := by decide +kernel
theorem zd_L_law_248 : decode code 248 = .ok (.ireturn, 1) := by decide +kernel
theorem zd_L_law_249 : decode code 249 = .ok (.goto 492, 3) := by decide +kernel
theorem zd_L_law_252 : decode code 252 = .ok (.aload_n 1, 1) := by decide +kernel
theorem zd_L_law_253 : decode code 253 = .ok (.invokestatic 63, 3) := by decide +kernel
theorem zd_L_law_256 : decode code 256 = .ok (.istore 5, 2) := by decide +kernel
theorem zd_L_law_258 : decode code 258 = .ok (.aload_n 2, 1) := by decide +kernel
theorem zd_L_law_259 : decode code 259 = .ok (.invokevirtual 66, 3) := by decide +kernel
theorem zd_L_law_262 : decode code 262 = .ok (.aload_n 2, 1) := by decide +kernel
theorem zd_L_law_263 : decode code 263 = .ok (.invokevirtual 55, 3) := by decide +kernel
theorem zd_L_law_266 : decode code 266 = .ok (.iload 5, 2) := by decide +kernel
theorem zd_L_law_268 : decode code 268 = .ok (.if_icmp .eq 5, 3) := by decide +kernel
theorem zd_L_law_271 : decode code 271 = .ok (.iconst 0, 1) := by decide +kernel
theorem zd_L_law_272 : decode code 272 = .ok (.ireturn, 1) := by decide +kernel
theorem zd_L_law_273 : decode code 273 = .ok (.goto 468, 3) := by decide +kernel
theorem zd_L_law_276 : decode code 276 = .ok (.aload_n 1, 1) := by decide +kernel
theorem zd_L_law_277 : decode code 277 = .ok (.aload_n 0, 1) := by decide +kernel
theorem zd_L_law_278 : decode code 278 = .ok (.iload 4, 2) := by decide +kernel
theorem zd_L_law_280 : decode code 280 = .ok (.iconst 1, 1) := by decide +kernel
theorem zd_L_law_281 : decode code 281 = .ok (.iadd, 1) := by decide +kernel
theorem zd_L_law_282 : decode code 282 = .ok (.iaload, 1) := by decide +kernel
theorem zd_L_law_283 : decode code 283 = .ok (.aload_n 0, 1) := by decide +kernel
theorem zd_L_law_284 : decode code 284 = .ok (.iload 4, 2) := by decide +kernel
theorem zd_L_law_286 : decode code 286 = .ok (.iconst 2, 1) := by decide +kernel
theorem zd_L_law_287 : decode code 287 = .ok (.iadd, 1) := by decide +kernel
theorem zd_L_law_288 : decode code 288 = .ok (.iaload, 1) := by decide +kernel
theorem zd_L_law_289 : decode code 289 = .ok (.ifCond .eq 7, 3) := by decide +kernel
theorem zd_L_law_292 : decode code 292 = .ok (.iconst 1, 1) := by decide +kernel
theorem zd_L_law_293 : decode code 293 = .ok (.goto 4, 3) := by decide +kernel
theorem zd_L_law_296 : decode code 296 = .ok (.iconst 0, 1) := by decide +kernel
theorem zd_L_law_297 : decode code 297 = .ok (.aload_n 3, 1) := by decide +kernel
theorem zd_L_law_298 : decode code 298 = .ok (.invokestatic 67, 3) := by decide +kernel
theorem zd_L_law_301 : decode code 301 = .ok (.istore 5, 2) := by decide +kernel
theorem zd_L_law_303 : decode code 303 = .ok (.aload_n 2, 1) := by decide +kernel
theorem zd_L_law_304 : decode code 304 = .ok (.aload_n 0, 1) := by decide +kernel
theorem zd_L_law_305 : decode code 305 = .ok (.iload 4, 2) := by decide +kernel
theorem zd_L_law_307 : decode code 307 = .ok (.iconst 1, 1) := by decide +kernel
theorem zd_L_law_308 : decode code 308 = .ok (.iadd, 1) := by decide +kernel
theorem zd_L_law_309 : decode code 309 = .ok (.iaload, 1) := by decide +kernel
theorem zd_L_law_310 : decode code 310 = .ok (.aload_n 0, 1) := by decide +kernel
theorem zd_L_law_311 : decode code 311 = .ok (.iload 4, 2) := by decide +kernel
theorem zd_L_law_313 : decode code 313 = .ok (.iconst 2, 1) := by decide +kernel
theorem zd_L_law_314 : decode code 314 = .ok (.iadd, 1) := by decide +kernel
theorem zd_L_law_315 : decode code 315 = .ok (.iaload, 1) := by decide +kernel
theorem zd_L_law_316 : decode code 316 = .ok (.ifCond .eq 7, 3) := by decide +kernel
theorem zd_L_law_319 : decode code 319 = .ok (.iconst 1, 1) := by decide +kernel
theorem zd_L_law_320 : decode code 320 = .ok (.goto 4, 3) := by decide +kernel
theorem zd_L_law_323 : decode code 323 = .ok (.iconst 0, 1) := by decide +kernel
theorem zd_L_law_324 : decode code 324 = .ok (.invokevirtual 70, 3) := by decide +kernel
theorem zd_L_law_327 : decode code 327 = .ok (.istore 6, 2) := by decide +kernel
theorem zd_L_law_329 : decode code 329 = .ok (.aload_n 2, 1) := by decide +kernel
theorem zd_L_law_330 : decode code 330 = .ok (.invokevirtual 55, 3) := by decide +kernel
theorem zd_L_law_333 : decode code 333 = .ok (.iload 5, 2) := by decide +kernel
theorem zd_L_law_335 : decode code 335 = .ok (.if_icmp .eq 5, 3) := by decide +kernel
theorem zd_L_law_338 : decode code 338 = .ok (.iconst 0, 1) := by decide +kernel
theorem zd_L_law_339 : decode code 339 = .ok (.ireturn, 1) := by decide +kernel
theorem zd_L_law_340 : decode code 340 = .ok (.iload 5, 2) := by decide +kernel
theorem zd_L_law_342 : decode code 342 = .ok (.ifCond .ne 15, 3) := by decide +kernel
theorem zd_L_law_345 : decode code 345 = .ok (.aload_n 3, 1) := by decide +kernel
theorem zd_L_law_346 : decode code 346 = .ok (.iconst 0, 1) := by decide +kernel
theorem zd_L_law_347 : decode code 347 = .ok (.laload, 1) := by decide +kernel
theorem zd_L_law_348 : decode code 348 = .ok (.iload 6, 2) := by decide +kernel
theorem zd_L_law_350 : decode code 350 = .ok (.i2l, 1) := by decide +kernel
theorem zd_L_law_351 : decode code 351 = .ok (.lcmp, 1) := by decide +kernel
theorem zd_L_law_352 : decode code 352 = .ok (.ifCond .eq 5, 3) := by decide +kernel
theorem zd_L_law_355 : decode code 355 = .ok (.iconst 0, 1) := by decide +kernel
theorem zd_L_law_356 : decode code 356 = .ok (.ireturn, 1) := by decide +kernel
theorem zd_L_law_357 : decode code 357 = .ok (.goto 384, 3) := by decide +kernel
theorem zd_L_law_360 : decode code 360 = .ok (.aload_n 1, 1) := by decide +kernel
theorem zd_L_law_361 : decode code 361 = .ok (.aload_n 0, 1) := by decide +kernel
theorem zd_L_law_362 : decode code 362 = .ok (.iload 4, 2) := by decide +kernel
theorem zd_L_law_364 : decode code 364 = .ok (.iconst 1, 1) := by decide +kernel
theorem zd_L_law_365 : decode code 365 = .ok (.iadd, 1) := by decide +kernel
theorem zd_L_law_366 : decode code 366 = .ok (.iaload, 1) := by decide +kernel
theorem zd_L_law_367 : decode code 367 = .ok (.i2l, 1) := by decide +kernel
theorem zd_L_law_368 : decode code 368 = .ok (.bipush 32, 2) := by decide +kernel
theorem zd_L_law_370 : decode code 370 = .ok (.lshl, 1) := by decide +kernel
theorem zd_L_law_371 : decode code 371 = .ok (.aload_n 0, 1) := by decide +kernel
theorem zd_L_law_372 : decode code 372 = .ok (.iload 4, 2) := by decide +kernel
theorem zd_L_law_374 : decode code 374 = .ok (.iconst 2, 1) := by decide +kernel
theorem zd_L_law_375 : decode code 375 = .ok (.iadd, 1) := by decide +kernel
theorem zd_L_law_376 : decode code 376 = .ok (.iaload, 1) := by decide +kernel
theorem zd_L_law_377 : decode code 377 = .ok (.i2l, 1) := by decide +kernel
theorem zd_L_law_378 : decode code 378 = .ok (.ldc2_w 71, 3) := by decide +kernel
theorem zd_L_law_381 : decode code 381 = .ok (.land, 1) := by decide +kernel
theorem zd_L_law_382 : decode code 382 = .ok (.lor, 1) := by decide +kernel
theorem zd_L_law_383 : decode code 383 = .ok (.aload_n 3, 1) := by decide +kernel
theorem zd_L_law_384 : decode code 384 = .ok (.invokestatic 73, 3) := by decide +kernel
theorem zd_L_law_387 : decode code 387 = .ok (.istore 5, 2) := by decide +kernel
theorem zd_L_law_389 : decode code 389 = .ok (.aload_n 2, 1) := by decide +kernel
theorem zd_L_law_390 : decode code 390 = .ok (.aload_n 0, 1) := by decide +kernel
theorem zd_L_law_391 : decode code 391 = .ok (.iload 4, 2) := by decide +kernel
theorem zd_L_law_393 : decode code 393 = .ok (.iconst 1, 1) := by decide +kernel
theorem zd_L_law_394 : decode code 394 = .ok (.iadd, 1) := by decide +kernel
theorem zd_L_law_395 : decode code 395 = .ok (.iaload, 1) := by decide +kernel
theorem zd_L_law_396 : decode code 396 = .ok (.i2l, 1) := by decide +kernel
theorem zd_L_law_397 : decode code 397 = .ok (.bipush 32, 2) := by decide +kernel
theorem zd_L_law_399 : decode code 399 = .ok (.lshl, 1) := by decide +kernel
theorem zd_L_law_400 : decode code 400 = .ok (.aload_n 0, 1) := by decide +kernel
theorem zd_L_law_401 : decode code 401 = .ok (.iload 4, 2) := by decide +kernel
theorem zd_L_law_403 : decode code 403 = .ok (.iconst 2, 1) := by decide +kernel
theorem zd_L_law_404 : decode code 404 = .ok (.iadd, 1) := by decide +kernel
theorem zd_L_law_405 : decode code 405 = .ok (.iaload, 1) := by decide +kernel
theorem zd_L_law_406 : decode code 406 = .ok (.i2l, 1) := by decide +kernel
theorem zd_L_law_407 : decode code 407 = .ok (.ldc2_w 71, 3) := by decide +kernel
theorem zd_L_law_410 : decode code 410 = .ok (.land, 1) := by decide +kernel
theorem zd_L_law_411 : decode code 411 = .ok (.lor, 1) := by decide +kernel
theorem zd_L_law_412 : decode code 412 = .ok (.invokevirtual 76, 3) := by decide +kernel
theorem zd_L_law_415 : decode code 415 = .ok (.lstore 6, 2) := by decide +kernel
theorem zd_L_law_417 : decode code 417 = .ok (.aload_n 2, 1) := by decide +kernel
theorem zd_L_law_418 : decode code 418 = .ok (.invokevirtual 55, 3) := by decide +kernel
theorem zd_L_law_421 : decode code 421 = .ok (.iload 5, 2) := by decide +kernel
theorem zd_L_law_423 : decode code 423 = .ok (.if_icmp .eq 5, 3) := by decide +kernel
theorem zd_L_law_426 : decode code 426 = .ok (.iconst 0, 1) := by decide +kernel
theorem zd_L_law_427 : decode code 427 = .ok (.ireturn, 1) := by decide +kernel
theorem zd_L_law_428 : decode code 428 = .ok (.iload 5, 2) := by decide +kernel
theorem zd_L_law_430 : decode code 430 = .ok (.ifCond .ne 14, 3) := by decide +kernel
theorem zd_L_law_433 : decode code 433 = .ok (.aload_n 3, 1) := by decide +kernel
theorem zd_L_law_434 : decode code 434 = .ok (.iconst 0, 1) := by decide +kernel
theorem zd_L_law_435 : decode code 435 = .ok (.laload, 1) := by decide +kernel
theorem zd_L_law_436 : decode code 436 = .ok (.lload 6, 2) := by decide +kernel
theorem zd_L_law_438 : decode code 438 = .ok (.lcmp, 1) := by decide +kernel
theorem zd_L_law_439 : decode code 439 = .ok (.ifCond .eq 5, 3) := by decide +kernel
theorem zd_L_law_442 : decode code 442 = .ok (.iconst 0, 1) := by decide +kernel
theorem zd_L_law_443 : decode code 443 = .ok (.ireturn, 1) := by decide +kernel
theorem zd_L_law_444 : decode code 444 = .ok (.goto 297, 3) := by decide +kernel
theorem zd_L_law_447 : decode code 447 = .ok (.aload_n 1, 1) := by decide +kernel
theorem zd_L_law_448 : decode code 448 = .ok (.aload_n 0, 1) := by decide +kernel
theorem zd_L_law_449 : decode code 449 = .ok (.iload 4, 2) := by decide +kernel
theorem zd_L_law_451 : decode code 451 = .ok (.iconst 1, 1) := by decide +kernel
theorem zd_L_law_452 : decode code 452 = .ok (.iadd, 1) := by decide +kernel
theorem zd_L_law_453 : decode code 453 = .ok (.iaload, 1) := by decide +kernel
theorem zd_L_law_454 : decode code 454 = .ok (.i2l, 1) := by decide +kernel
theorem zd_L_law_455 : decode code 455 = .ok (.bipush 32, 2) := by decide +kernel
theorem zd_L_law_457 : decode code 457 = .ok (.lshl, 1) := by decide +kernel
theorem zd_L_law_458 : decode code 458 = .ok (.aload_n 0, 1) := by decide +kernel
theorem zd_L_law_459 : decode code 459 = .ok (.iload 4, 2) := by decide +kernel
theorem zd_L_law_461 : decode code 461 = .ok (.iconst 2, 1) := by decide +kernel
theorem zd_L_law_462 : decode code 462 = .ok (.iadd, 1) := by decide +kernel
theorem zd_L_law_463 : decode code 463 = .ok (.iaload, 1) := by decide +kernel
theorem zd_L_law_464 : decode code 464 = .ok (.i2l, 1) := by decide +kernel
theorem zd_L_law_465 : decode code 465 = .ok (.ldc2_w 71, 3) := by decide +kernel
theorem zd_L_law_468 : decode code 468 = .ok (.land, 1) := by decide +kernel
theorem zd_L_law_469 : decode code 469 = .ok (.lor, 1) := by decide +kernel
theorem zd_L_law_470 : decode code 470 = .ok (.aload_n 3, 1) := by decide +kernel
theorem zd_L_law_471 : decode code 471 = .ok (.invokestatic 77, 3) := by decide +kernel
theorem zd_L_law_474 : decode code 474 = .ok (.istore 5, 2) := by decide +kernel
theorem zd_L_law_476 : decode code 476 = .ok (.aload_n 2, 1) := by decide +kernel
theorem zd_L_law_477 : decode code 477 = .ok (.aload_n 0, 1) := by decide +kernel
theorem zd_L_law_478 : decode code 478 = .ok (.iload 4, 2) := by decide +kernel
theorem zd_L_law_480 : decode code 480 = .ok (.iconst 1, 1) := by decide +kernel
theorem zd_L_law_481 : decode code 481 = .ok (.iadd, 1) := by decide +kernel
theorem zd_L_law_482 : decode code 482 = .ok (.iaload, 1) := by decide +kernel
theorem zd_L_law_483 : decode code 483 = .ok (.i2l, 1) := by decide +kernel
theorem zd_L_law_484 : decode code 484 = .ok (.bipush 32, 2) := by decide +kernel
theorem zd_L_law_486 : decode code 486 = .ok (.lshl, 1) := by decide +kernel
theorem zd_L_law_487 : decode code 487 = .ok (.aload_n 0, 1) := by decide +kernel
theorem zd_L_law_488 : decode code 488 = .ok (.iload 4, 2) := by decide +kernel
theorem zd_L_law_490 : decode code 490 = .ok (.iconst 2, 1) := by decide +kernel
theorem zd_L_law_491 : decode code 491 = .ok (.iadd, 1) := by decide +kernel
theorem zd_L_law_492 : decode code 492 = .ok (.iaload, 1) := by decide +kernel
theorem zd_L_law_493 : decode code 493 = .ok (.i2l, 1) := by decide +kernel
theorem zd_L_law_494 : decode code 494 = .ok (.ldc2_w 71, 3) := by decide +kernel
theorem zd_L_law_497 : decode code 497 = .ok (.land, 1) := by decide +kernel
theorem zd_L_law_498 : decode code 498 = .ok (.lor, 1) := by decide +kernel
theorem zd_L_law_499 : decode code 499 = .ok (.invokevirtual 79, 3) := by decide +kernel
theorem zd_L_law_502 : decode code 502 = .ok (.lstore 6, 2) := by decide +kernel
theorem zd_L_law_504 : decode code 504 = .ok (.aload_n 2, 1) := by decide +kernel
theorem zd_L_law_505 : decode code 505 = .ok (.invokevirtual 55, 3) := by decide +kernel
theorem zd_L_law_508 : decode code 508 = .ok (.iload 5, 2) := by decide +kernel
theorem zd_L_law_510 : decode code 510 = .ok (.if_icmp .eq 5, 3) := by decide +kernel
theorem zd_L_law_513 : decode code 513 = .ok (.iconst 0, 1) := by decide +kernel
theorem zd_L_law_514 : decode code 514 = .ok (.ireturn, 1) := by decide +kernel
theorem zd_L_law_515 : decode code 515 = .ok (.iload 5, 2) := by decide +kernel
theorem zd_L_law_517 : decode code 517 = .ok (.ifCond .ne 14, 3) := by decide +kernel
theorem zd_L_law_520 : decode code 520 = .ok (.aload_n 3, 1) := by decide +kernel
theorem zd_L_law_521 : decode code 521 = .ok (.iconst 0, 1) := by decide +kernel
theorem zd_L_law_522 : decode code 522 = .ok (.laload, 1) := by decide +kernel
theorem zd_L_law_523 : decode code 523 = .ok (.lload 6, 2) := by decide +kernel
theorem zd_L_law_525 : decode code 525 = .ok (.lcmp, 1) := by decide +kernel
theorem zd_L_law_526 : decode code 526 = .ok (.ifCond .eq 5, 3) := by decide +kernel
theorem zd_L_law_529 : decode code 529 = .ok (.iconst 0, 1) := by decide +kernel
theorem zd_L_law_530 : decode code 530 = .ok (.ireturn, 1) := by decide +kernel
theorem zd_L_law_531 : decode code 531 = .ok (.goto 210, 3) := by decide +kernel
theorem zd_L_law_534 : decode code 534 = .ok (.aload_n 1, 1) := by decide +kernel
theorem zd_L_law_535 : decode code 535 = .ok (.aload_n 0, 1) := by decide +kernel
theorem zd_L_law_536 : decode code 536 = .ok (.iload 4, 2) := by decide +kernel
theorem zd_L_law_538 : decode code 538 = .ok (.iconst 1, 1) := by decide +kernel
theorem zd_L_law_539 : decode code 539 = .ok (.iadd, 1) := by decide +kernel
theorem zd_L_law_540 : decode code 540 = .ok (.iaload, 1) := by decide +kernel
theorem zd_L_law_541 : decode code 541 = .ok (.i2l, 1) := by decide +kernel
theorem zd_L_law_542 : decode code 542 = .ok (.bipush 32, 2) := by decide +kernel
theorem zd_L_law_544 : decode code 544 = .ok (.lshl, 1) := by decide +kernel
theorem zd_L_law_545 : decode code 545 = .ok (.aload_n 0, 1) := by decide +kernel
theorem zd_L_law_546 : decode code 546 = .ok (.iload 4, 2) := by decide +kernel
theorem zd_L_law_548 : decode code 548 = .ok (.iconst 2, 1) := by decide +kernel
theorem zd_L_law_549 : decode code 549 = .ok (.iadd, 1) := by decide +kernel
theorem zd_L_law_550 : decode code 550 = .ok (.iaload, 1) := by decide +kernel
theorem zd_L_law_551 : decode code 551 = .ok (.i2l, 1) := by decide +kernel
theorem zd_L_law_552 : decode code 552 = .ok (.ldc2_w 71, 3) := by decide +kernel
theorem zd_L_law_555 : decode code 555 = .ok (.land, 1) := by decide +kernel
theorem zd_L_law_556 : decode code 556 = .ok (.lor, 1) := by decide +kernel
theorem zd_L_law_557 : decode code 557 = .ok (.aload_n 0, 1) := by decide +kernel
theorem zd_L_law_558 : decode code 558 = .ok (.iload 4, 2) := by decide +kernel
theorem zd_L_law_560 : decode code 560 = .ok (.iconst 3, 1) := by decide +kernel
theorem zd_L_law_561 : decode code 561 = .ok (.iadd, 1) := by decide +kernel
theorem zd_L_law_562 : decode code 562 = .ok (.iaload, 1) := by decide +kernel
theorem zd_L_law_563 : decode code 563 = .ok (.aload_n 3, 1) := by decide +kernel
theorem zd_L_law_564 : decode code 564 = .ok (.invokestatic 80, 3) := by decide +kernel
theorem zd_L_law_567 : decode code 567 = .ok (.istore 5, 2) := by decide +kernel
theorem zd_L_law_569 : decode code 569 = .ok (.aload_n 2, 1) := by decide +kernel
theorem zd_L_law_570 : decode code 570 = .ok (.aload_n 0, 1) := by decide +kernel
theorem zd_L_law_571 : decode code 571 = .ok (.iload 4, 2) := by decide +kernel
theorem zd_L_law_573 : decode code 573 = .ok (.iconst 1, 1) := by decide +kernel
theorem zd_L_law_574 : decode code 574 = .ok (.iadd, 1) := by decide +kernel
theorem zd_L_law_575 : decode code 575 = .ok (.iaload, 1) := by decide +kernel
theorem zd_L_law_576 : decode code 576 = .ok (.i2l, 1) := by decide +kernel
theorem zd_L_law_577 : decode code 577 = .ok (.bipush 32, 2) := by decide +kernel
theorem zd_L_law_579 : decode code 579 = .ok (.lshl, 1) := by decide +kernel
theorem zd_L_law_580 : decode code 580 = .ok (.aload_n 0, 1) := by decide +kernel
theorem zd_L_law_581 : decode code 581 = .ok (.iload 4, 2) := by decide +kernel
theorem zd_L_law_583 : decode code 583 = .ok (.iconst 2, 1) := by decide +kernel
theorem zd_L_law_584 : decode code 584 = .ok (.iadd, 1) := by decide +kernel
theorem zd_L_law_585 : decode code 585 = .ok (.iaload, 1) := by decide +kernel
theorem zd_L_law_586 : decode code 586 = .ok (.i2l, 1) := by decide +kernel
theorem zd_L_law_587 : decode code 587 = .ok (.ldc2_w 71, 3) := by decide +kernel
theorem zd_L_law_590 : decode code 590 = .ok (.land, 1) := by decide +kernel
theorem zd_L_law_591 : decode code 591 = .ok (.lor, 1) := by decide +kernel
theorem zd_L_law_592 : decode code 592 = .ok (.aload_n 0, 1) := by decide +kernel
theorem zd_L_law_593 : decode code 593 = .ok (.iload 4, 2) := by decide +kernel
theorem zd_L_law_595 : decode code 595 = .ok (.iconst 3, 1) := by decide +kernel
theorem zd_L_law_596 : decode code 596 = .ok (.iadd, 1) := by decide +kernel
theorem zd_L_law_597 : decode code 597 = .ok (.iaload, 1) := by decide +kernel
theorem zd_L_law_598 : decode code 598 = .ok (.invokevirtual 83, 3) := by decide +kernel
theorem zd_L_law_601 : decode code 601 = .ok (.lstore 6, 2) := by decide +kernel
theorem zd_L_law_603 : decode code 603 = .ok (.aload_n 2, 1) := by decide +kernel
theorem zd_L_law_604 : decode code 604 = .ok (.invokevirtual 55, 3) := by decide +kernel
theorem zd_L_law_607 : decode code 607 = .ok (.iload 5, 2) := by decide +kernel
theorem zd_L_law_609 : decode code 609 = .ok (.if_icmp .eq 5, 3) := by decide +kernel
theorem zd_L_law_612 : decode code 612 = .ok (.iconst 0, 1) := by decide +kernel
theorem zd_L_law_613 : decode code 613 = .ok (.ireturn, 1) := by decide +kernel
theorem zd_L_law_614 : decode code 614 = .ok (.iload 5, 2) := by decide +kernel
theorem zd_L_law_616 : decode code 616 = .ok (.ifCond .ne 14, 3) := by decide +kernel
theorem zd_L_law_619 : decode code 619 = .ok (.aload_n 3, 1) := by decide +kernel
theorem zd_L_law_620 : decode code 620 = .ok (.iconst 0, 1) := by decide +kernel
theorem zd_L_law_621 : decode code 621 = .ok (.laload, 1) := by decide +kernel
theorem zd_L_law_622 : decode code 622 = .ok (.lload 6, 2) := by decide +kernel
theorem zd_L_law_624 : decode code 624 = .ok (.lcmp, 1) := by decide +kernel
theorem zd_L_law_625 : decode code 625 = .ok (.ifCond .eq 5, 3) := by decide +kernel
theorem zd_L_law_628 : decode code 628 = .ok (.iconst 0, 1) := by decide +kernel
theorem zd_L_law_629 : decode code 629 = .ok (.ireturn, 1) := by decide +kernel
theorem zd_L_law_630 : decode code 630 = .ok (.goto 111, 3) := by decide +kernel
theorem zd_L_law_633 : decode code 633 = .ok (.aload_n 1, 1) := by decide +kernel
theorem zd_L_law_634 : decode code 634 = .ok (.aload_n 0, 1) := by decide +kernel
theorem zd_L_law_635 : decode code 635 = .ok (.iload 4, 2) := by decide +kernel
theorem zd_L_law_637 : decode code 637 = .ok (.iconst 1, 1) := by decide +kernel
theorem zd_L_law_638 : decode code 638 = .ok (.iadd, 1) := by decide +kernel
theorem zd_L_law_639 : decode code 639 = .ok (.iaload, 1) := by decide +kernel
theorem zd_L_law_640 : decode code 640 = .ok (.i2l, 1) := by decide +kernel
theorem zd_L_law_641 : decode code 641 = .ok (.bipush 32, 2) := by decide +kernel
theorem zd_L_law_643 : decode code 643 = .ok (.lshl, 1) := by decide +kernel
theorem zd_L_law_644 : decode code 644 = .ok (.aload_n 0, 1) := by decide +kernel
theorem zd_L_law_645 : decode code 645 = .ok (.iload 4, 2) := by decide +kernel
theorem zd_L_law_647 : decode code 647 = .ok (.iconst 2, 1) := by decide +kernel
theorem zd_L_law_648 : decode code 648 = .ok (.iadd, 1) := by decide +kernel
theorem zd_L_law_649 : decode code 649 = .ok (.iaload, 1) := by decide +kernel
theorem zd_L_law_650 : decode code 650 = .ok (.i2l, 1) := by decide +kernel
theorem zd_L_law_651 : decode code 651 = .ok (.ldc2_w 71, 3) := by decide +kernel
theorem zd_L_law_654 : decode code 654 = .ok (.land, 1) := by decide +kernel
theorem zd_L_law_655 : decode code 655 = .ok (.lor, 1) := by decide +kernel
theorem zd_L_law_656 : decode code 656 = .ok (.aload_n 3, 1) := by decide +kernel
theorem zd_L_law_657 : decode code 657 = .ok (.invokestatic 84, 3) := by decide +kernel
theorem zd_L_law_660 : decode code 660 = .ok (.istore 5, 2) := by decide +kernel
theorem zd_L_law_662 : decode code 662 = .ok (.aload_n 2, 1) := by decide +kernel
theorem zd_L_law_663 : decode code 663 = .ok (.aload_n 0, 1) := by decide +kernel
theorem zd_L_law_664 : decode code 664 = .ok (.iload 4, 2) := by decide +kernel
theorem zd_L_law_666 : decode code 666 = .ok (.iconst 1, 1) := by decide +kernel
theorem zd_L_law_667 : decode code 667 = .ok (.iadd, 1) := by decide +kernel
theorem zd_L_law_668 : decode code 668 = .ok (.iaload, 1) := by decide +kernel
theorem zd_L_law_669 : decode code 669 = .ok (.i2l, 1) := by decide +kernel
theorem zd_L_law_670 : decode code 670 = .ok (.bipush 32, 2) := by decide +kernel
theorem zd_L_law_672 : decode code 672 = .ok (.lshl, 1) := by decide +kernel
theorem zd_L_law_673 : decode code 673 = .ok (.aload_n 0, 1) := by decide +kernel
theorem zd_L_law_674 : decode code 674 = .ok (.iload 4, 2) := by decide +kernel
theorem zd_L_law_676 : decode code 676 = .ok (.iconst 2, 1) := by decide +kernel
theorem zd_L_law_677 : decode code 677 = .ok (.iadd, 1) := by decide +kernel
theorem zd_L_law_678 : decode code 678 = .ok (.iaload, 1) := by decide +kernel
theorem zd_L_law_679 : decode code 679 = .ok (.i2l, 1) := by decide +kernel
theorem zd_L_law_680 : decode code 680 = .ok (.ldc2_w 71, 3) := by decide +kernel
theorem zd_L_law_683 : decode code 683 = .ok (.land, 1) := by decide +kernel
theorem zd_L_law_684 : decode code 684 = .ok (.lor, 1) := by decide +kernel
theorem zd_L_law_685 : decode code 685 = .ok (.invokevirtual 86, 3) := by decide +kernel
theorem zd_L_law_688 : decode code 688 = .ok (.istore 6, 2) := by decide +kernel
theorem zd_L_law_690 : decode code 690 = .ok (.aload_n 2, 1) := by decide +kernel
theorem zd_L_law_691 : decode code 691 = .ok (.invokevirtual 55, 3) := by decide +kernel
theorem zd_L_law_694 : decode code 694 = .ok (.iload 5, 2) := by decide +kernel
theorem zd_L_law_696 : decode code 696 = .ok (.if_icmp .eq 5, 3) := by decide +kernel
theorem zd_L_law_699 : decode code 699 = .ok (.iconst 0, 1) := by decide +kernel
theorem zd_L_law_700 : decode code 700 = .ok (.ireturn, 1) := by decide +kernel
theorem zd_L_law_701 : decode code 701 = .ok (.iload 5, 2) := by decide +kernel
theorem zd_L_law_703 : decode code 703 = .ok (.ifCond .ne 22, 3) := by decide +kernel
theorem zd_L_law_706 : decode code 706 = .ok (.aload_n 3, 1) := by decide +kernel
theorem zd_L_law_707 : decode code 707 = .ok (.iconst 0, 1) := by decide +kernel
theorem zd_L_law_708 : decode code 708 = .ok (.laload, 1) := by decide +kernel
theorem zd_L_law_709 : decode code 709 = .ok (.iload 6, 2) := by decide +kernel
theorem zd_L_law_711 : decode code 711 = .ok (.ifCond .eq 7, 3) := by decide +kernel
theorem zd_L_law_714 : decode code 714 = .ok (.lconst 1, 1) := by decide +kernel
theorem zd_L_law_715 : decode code 715 = .ok (.goto 4, 3) := by decide +kernel
theorem zd_L_law_718 : decode code 718 = .ok (.lconst 0, 1) := by decide +kernel
theorem zd_L_law_719 : decode code 719 = .ok (.lcmp, 1) := by decide +kernel
theorem zd_L_law_720 : decode code 720 = .ok (.ifCond .eq 5, 3) := by decide +kernel
theorem zd_L_law_723 : decode code 723 = .ok (.iconst 0, 1) := by decide +kernel
theorem zd_L_law_724 : decode code 724 = .ok (.ireturn, 1) := by decide +kernel
theorem zd_L_law_725 : decode code 725 = .ok (.goto 16, 3) := by decide +kernel
theorem zd_L_law_728 : decode code 728 = .ok (.aload_n 1, 1) := by decide +kernel
theorem zd_L_law_729 : decode code 729 = .ok (.invokevirtual 87, 3) := by decide +kernel
theorem zd_L_law_732 : decode code 732 = .ok (.aload_n 2, 1) := by decide +kernel
theorem zd_L_law_733 : decode code 733 = .ok (.invokevirtual 90, 3) := by decide +kernel
theorem zd_L_law_736 : decode code 736 = .ok (.if_icmp .eq 5, 3) := by decide +kernel
theorem zd_L_law_739 : decode code 739 = .ok (.iconst 0, 1) := by decide +kernel
theorem zd_L_law_740 : decode code 740 = .ok (.ireturn, 1) := by decide +kernel
theorem zd_L_law_741 : decode code 741 = .ok (.iinc 4 6, 3) := by decide +kernel
theorem zd_L_law_744 : decode code 744 = .ok (.goto (-721), 3) := by decide +kernel
theorem zd_L_law_747 : decode code 747 = .ok (.iconst 1, 1) := by decide +kernel
theorem zd_L_law_748 : decode code 748 = .ok (.ireturn, 1) := by decide +kernel
set_option maxHeartbeats 4000000 in
set_option maxRecDepth 100000 in
theorem law_8 (l : Launch) (g : zGl) (hl0 : l.stackTraces = false) {p : Program} {e : Env} {s : State} {m : MethodId} {args : Array Value} {below : List Frame} {meth : Method} {c : Code} {Q : State → Prop} {b L : Nat} {xs : Nat → Int32} {A : Nat → Prop} (hx : p.tables.exec = Jvm.exec) (hb : c.code = code) (hml : c.maxLocals = 8) (hown : s.vm.findClass "CronFinderLaw" = some m.cls) (hw : ∀ w ∈ zW, w.before args s = true) (hK : zK g s) (hX : va_X b L xs s s.heap) (hbl : b < s.heap.size) (hbA : ¬ A b) (hA : ∀ q : Nat, s.heap.size ≤ q → A q) (fq tp hq ha oa qq : Nat) (rf ta sa sr fa wya sea mq wq : Nat → Nat) (en : Nat → Nat) (t tz q1 v1 q2 v2 : Nat) (kt : Nat → Nat) (t1 t2 : Nat) (mv wv : Nat → Nat) (hT : zLw t en tz q1 v1 q2 v2 kt A s s.heap) (hT2 : zQs t1 t2 mq mv wq wv A s s.heap) (fl ln br yy mm dd at0 wa on tw cnt sub od sb2 od2 : Int) (pq sq : Nat) (ra aa rb ab : Nat → Nat) (ru rl2 : Nat) (al bl tr st : Nat → Nat → Bool) (bits bits2 : Nat → Bool) (tf h wf fi sf ou : Nat → Int) (to hdf : Nat → Bool) (hol : Int → Bool) (hi : iLaw fl ln br yy mm dd at0 wa on tw cnt sub od sb2 od2 pq sq ra aa rb ab ru rl2 al bl tr st bits bits2 tf h wf fi sf ou to hdf hol) (i : Int) (hi0 : 0 ≤ i ∧ i + 6 ≤ (L : Int) ∧ (L : Int) ≤ 3072) {H : Heap} {locs : List Loc} {ls : Array Slot} {cells slots : Nat} (hrm : cells + 4 ≤ 601024 ∧ slots + 24 ≤ 7293034) (hP : va_P g.1 zCl (wLaw g fq tp hq ha oa qq rf ta sa sr fa wya sea mq wq en fl ln br yy mm dd at0 wa on tw cnt sub od sb2 od2 pq sq ra aa rb ab ru rl2 al bl tr st bits bits2 tf h wf fi sf ou to hdf hol) H) (hD : va_D A (wLaw g fq tp hq ha oa qq rf ta sa sr fa wya sea mq wq en fl ln br yy mm dd at0 wa on tw cnt sub od sb2 od2 pq sq ra aa rb ab ru rl2 al bl tr st bits bits2 tf h wf fi sf ou to hdf hol)) (hS : va_S A s.heap H locs) (hl : lv_has ls 8 [(4, .int (iI (i))), (3, .ref (oa)), (2, .ref (qq)), (1, .ref (fq)), (0, .ref (b))]) (kk : ∀ (fl ln br yy mm dd at0 wa on tw cnt sub od sb2 od2 : Int) (pq sq : Nat) (ra aa rb ab : Nat → Nat) (ru rl2 : Nat) (al bl tr st : Nat → Nat → Bool) (bits bits2 : Nat → Bool) (tf h wf fi sf ou : Nat → Int) (to hdf : Nat → Bool) (hol : Int → Bool) (H : Heap) (locs : List Loc) (ls : Array Slot), iLaw fl ln br yy mm dd at0 wa on tw cnt sub od sb2 od2 pq sq ra aa rb ab ru rl2 al bl tr st bits bits2 tf h wf fi sf ou to hdf hol → va_P g.1 zCl (wLaw g fq tp hq ha oa qq rf ta sa sr fa wya sea mq wq en fl ln br yy mm dd at0 wa on tw cnt sub od sb2 od2 pq sq ra aa rb ab ru rl2 al bl tr st bits bits2 tf h wf fi sf ou to hdf hol) H → va_D A (wLaw g fq tp hq ha oa qq rf ta sa sr fa wya sea mq wq en fl ln br yy mm dd at0 wa on tw cnt sub od sb2 od2 pq sq ra aa rb ab ru rl2 al bl tr st bits bits2 tf h wf fi sf ou to hdf hol) → va_S A s.heap H locs → lv_has ls 8 [(4, .int (iI (i))), (3, .ref (oa)), (2, .ref (qq)), (1, .ref (fq)), (0, .ref (b))] → W p l e room_1 s m args below meth c H locs (cells + 4) (slots + 24) Q (F0 m 741 ls [])) : W p l e room_1 s m args below meth c H locs cells slots Q (F0 m 728 ls []) := by
  obtain ⟨i1, i2, i3, i4, i5, i6, i7, i8, i9, i10, i11⟩ := hi
  have hP : va_P g.1 zCl [(fq, .inr (0, [.ref (tp), .int (iI (ln)), .ref (pq), .ref (sq), .int (iI (br)), .ref (hq)])), (tp, .inl (g.2 2, 400, .inl (zaI tf))), (sq, .inr (3, [.ref (rb 0), .ref (rb 1), .ref (rb 2), .ref (rb 3), .ref (rb 4), .ref (rb 5), .ref (rb 6), .ref (rl2), .int (iI (sb2)), .int (iI (od2)), .int (zbits (bits2))])), (rb 0, .inr (2, [.int (iI (0)), .int (iI (59)), .ref (ab 0)])), (ab 0, .inl (g.2 1, 60, .inl (zaB (bl 0)))), (rb 1, .inr (2, [.int (iI (0)), .int (iI (59)), .ref (ab 1)])), (ab 1, .inl (g.2 1, 60, .inl (zaB (bl 1)))), (rb 2, .inr (2, [.int (iI (0)), .int (iI (23)), .ref (ab 2)])), (ab 2, .inl (g.2 1, 24, .inl (zaB (bl 2)))), (rb 3, .inr (2, [.int (iI (1)), .int (iI (31)), .ref (ab 3)])), (ab 3, .inl (g.2 1, 31, .inl (zaB (bl 3)))), (rb 4, .inr (2, [.int (iI (1)), .int (iI (12)), .ref (ab 4)])), (ab 4, .inl (g.2 1, 12, .inl (zaB (bl 4)))), (rb 5, .inr (2, [.int (iI (1)), .int (iI (7)), .ref (ab 5)])), (ab 5, .inl (g.2 1, 7, .inl (zaB (bl 5)))), (rb 6, .inr (2, [.int (iI (1970)), .int (iI (2299)), .ref (ab 6)])), (ab 6, .inl (g.2 1, 330, .inl (zaB (bl 6)))), (pq, .inr (3, [.ref (ra 0), .ref (ra 1), .ref (ra 2), .ref (ra 3), .ref (ra 4), .ref (ra 5), .ref (ra 6), .ref (en ru), .int (iI (sub)), .int (iI (od)), .int (zbits (bits))])), (ra 0, .inr (2, [.int (iI (0)), .int (iI (59)), .ref (aa 0)])), (aa 0, .inl (g.2 1, 60, .inl (zaB (al 0)))), (ra 1, .inr (2, [.int (iI (0)), .int (iI (59)), .ref (aa 1)])), (aa 1, .inl (g.2 1, 60, .inl (zaB (al 1)))), (ra 2, .inr (2, [.int (iI (0)), .int (iI (23)), .ref (aa 2)])), (aa 2, .inl (g.2 1, 24, .inl (zaB (al 2)))), (ra 3, .inr (2, [.int (iI (1)), .int (iI (31)), .ref (aa 3)])), (aa 3, .inl (g.2 1, 31, .inl (zaB (al 3)))), (ra 4, .inr (2, [.int (iI (1)), .int (iI (12)), .ref (aa 4)])), (aa 4, .inl (g.2 1, 12, .inl (zaB (al 4)))), (ra 5, .inr (2, [.int (iI (1)), .int (iI (7)), .ref (aa 5)])), (aa 5, .inl (g.2 1, 7, .inl (zaB (al 5)))), (ra 6, .inr (2, [.int (iI (1970)), .int (iI (2299)), .ref (aa 6)])), (aa 6, .inl (g.2 1, 330, .inl (zaB (al 6)))), (hq, .inr (1, [.ref (ha), .int (iI (cnt))])), (ha, .inl (g.2 0, 200, .inl (zaI h))), (oa, .inl (g.2 4, 1, .inr (.inl (zaL ou)))), (qq, .inr (5, [.int (iI (fl)), .ref (rf 0), .int (iI (ln)), .int (iI (br)), .int (iI (yy)), .int (iI (mm)), .int (iI (dd)), .int (iI (at0)), .ref (rf 1), .ref (rf 2), .ref (rf 3), .ref (rf 4), .ref (rf 5), .ref (rf 6), .int (iI (wa)), .int (iI (on)), .int (iI (tw)), .ref (rf 7), .ref (rf 8), .ref (rf 9), .int (iI (cnt))])), (rf 0, .inl (g.2 3, 400, .inl (zaI (zSg tf)))), (rf 7, .inl (g.2 8, 12, .inr (.inr (.inr (.inr (zaR mq)))))), (rf 8, .inl (g.2 8, 7, .inr (.inr (.inr (.inr (zaR wq)))))), (rf 2, .inl (g.2 5, 7, .inr (.inr (.inr (.inr (zaR ta)))))), (ta 0, .inl (g.2 1, 330, .inl (zaB (tr 0)))), (ta 1, .inl (g.2 1, 330, .inl (zaB (tr 1)))), (ta 2, .inl (g.2 1, 330, .inl (zaB (tr 2)))), (ta 3, .inl (g.2 1, 330, .inl (zaB (tr 3)))), (ta 4, .inl (g.2 1, 330, .inl (zaB (tr 4)))), (ta 5, .inl (g.2 1, 330, .inl (zaB (tr 5)))), (ta 6, .inl (g.2 1, 330, .inl (zaB (tr 6)))), (rf 1, .inl (g.2 6, 1, .inr (.inr (.inr (.inr (zaR sa)))))), (sa 0, .inl (g.2 5, 7, .inr (.inr (.inr (.inr (zaR sr)))))), (sr 0, .inl (g.2 1, 330, .inl (zaB (st 0)))), (sr 1, .inl (g.2 1, 330, .inl (zaB (st 1)))), (sr 2, .inl (g.2 1, 330, .inl (zaB (st 2)))), (sr 3, .inl (g.2 1, 330, .inl (zaB (st 3)))), (sr 4, .inl (g.2 1, 330, .inl (zaB (st 4)))), (sr 5, .inl (g.2 1, 330, .inl (zaB (st 5)))), (sr 6, .inl (g.2 1, 330, .inl (zaB (st 6)))), (rf 4, .inl (g.2 7, 1, .inr (.inr (.inr (.inr (zaR wya)))))), (wya 0, .inl (g.2 0, 2, .inl (zaI wf))), (rf 5, .inl (g.2 7, 1, .inr (.inr (.inr (.inr (zaR fa)))))), (fa 0, .inl (g.2 0, 2, .inl (zaI fi))), (rf 6, .inl (g.2 7, 1, .inr (.inr (.inr (.inr (zaR sea)))))), (sea 0, .inl (g.2 0, 2, .inl (zaI sf))), (rf 3, .inl (g.2 1, 1, .inl (zaB to))), (rf 9, .inl (g.2 1, 120530, .inl (zaB hdf)))] H := hP
  have hD : va_D A [(fq, .inr (0, [.ref (tp), .int (iI (ln)), .ref (pq), .ref (sq), .int (iI (br)), .ref (hq)])), (tp, .inl (g.2 2, 400, .inl (zaI tf))), (sq, .inr (3, [.ref (rb 0), .ref (rb 1), .ref (rb 2), .ref (rb 3), .ref (rb 4), .ref (rb 5), .ref (rb 6), .ref (rl2), .int (iI (sb2)), .int (iI (od2)), .int (zbits (bits2))])), (rb 0, .inr (2, [.int (iI (0)), .int (iI (59)), .ref (ab 0)])), (ab 0, .inl (g.2 1, 60, .inl (zaB (bl 0)))), (rb 1, .inr (2, [.int (iI (0)), .int (iI (59)), .ref (ab 1)])), (ab 1, .inl (g.2 1, 60, .inl (zaB (bl 1)))), (rb 2, .inr (2, [.int (iI (0)), .int (iI (23)), .ref (ab 2)])), (ab 2, .inl (g.2 1, 24, .inl (zaB (bl 2)))), (rb 3, .inr (2, [.int (iI (1)), .int (iI (31)), .ref (ab 3)])), (ab 3, .inl (g.2 1, 31, .inl (zaB (bl 3)))), (rb 4, .inr (2, [.int (iI (1)), .int (iI (12)), .ref (ab 4)])), (ab 4, .inl (g.2 1, 12, .inl (zaB (bl 4)))), (rb 5, .inr (2, [.int (iI (1)), .int (iI (7)), .ref (ab 5)])), (ab 5, .inl (g.2 1, 7, .inl (zaB (bl 5)))), (rb 6, .inr (2, [.int (iI (1970)), .int (iI (2299)), .ref (ab 6)])), (ab 6, .inl (g.2 1, 330, .inl (zaB (bl 6)))), (pq, .inr (3, [.ref (ra 0), .ref (ra 1), .ref (ra 2), .ref (ra 3), .ref (ra 4), .ref (ra 5), .ref (ra 6), .ref (en ru), .int (iI (sub)), .int (iI (od)), .int (zbits (bits))])), (ra 0, .inr (2, [.int (iI (0)), .int (iI (59)), .ref (aa 0)])), (aa 0, .inl (g.2 1, 60, .inl (zaB (al 0)))), (ra 1, .inr (2, [.int (iI (0)), .int (iI (59)), .ref (aa 1)])), (aa 1, .inl (g.2 1, 60, .inl (zaB (al 1)))), (ra 2, .inr (2, [.int (iI (0)), .int (iI (23)), .ref (aa 2)])), (aa 2, .inl (g.2 1, 24, .inl (zaB (al 2)))), (ra 3, .inr (2, [.int (iI (1)), .int (iI (31)), .ref (aa 3)])), (aa 3, .inl (g.2 1, 31, .inl (zaB (al 3)))), (ra 4, .inr (2, [.int (iI (1)), .int (iI (12)), .ref (aa 4)])), (aa 4, .inl (g.2 1, 12, .inl (zaB (al 4)))), (ra 5, .inr (2, [.int (iI (1)), .int (iI (7)), .ref (aa 5)])), (aa 5, .inl (g.2 1, 7, .inl (zaB (al 5)))), (ra 6, .inr (2, [.int (iI (1970)), .int (iI (2299)), .ref (aa 6)])), (aa 6, .inl (g.2 1, 330, .inl (zaB (al 6)))), (hq, .inr (1, [.ref (ha), .int (iI (cnt))])), (ha, .inl (g.2 0, 200, .inl (zaI h))), (oa, .inl (g.2 4, 1, .inr (.inl (zaL ou)))), (qq, .inr (5, [.int (iI (fl)), .ref (rf 0), .int (iI (ln)), .int (iI (br)), .int (iI (yy)), .int (iI (mm)), .int (iI (dd)), .int (iI (at0)), .ref (rf 1), .ref (rf 2), .ref (rf 3), .ref (rf 4), .ref (rf 5), .ref (rf 6), .int (iI (wa)), .int (iI (on)), .int (iI (tw)), .ref (rf 7), .ref (rf 8), .ref (rf 9), .int (iI (cnt))])), (rf 0, .inl (g.2 3, 400, .inl (zaI (zSg tf)))), (rf 7, .inl (g.2 8, 12, .inr (.inr (.inr (.inr (zaR mq)))))), (rf 8, .inl (g.2 8, 7, .inr (.inr (.inr (.inr (zaR wq)))))), (rf 2, .inl (g.2 5, 7, .inr (.inr (.inr (.inr (zaR ta)))))), (ta 0, .inl (g.2 1, 330, .inl (zaB (tr 0)))), (ta 1, .inl (g.2 1, 330, .inl (zaB (tr 1)))), (ta 2, .inl (g.2 1, 330, .inl (zaB (tr 2)))), (ta 3, .inl (g.2 1, 330, .inl (zaB (tr 3)))), (ta 4, .inl (g.2 1, 330, .inl (zaB (tr 4)))), (ta 5, .inl (g.2 1, 330, .inl (zaB (tr 5)))), (ta 6, .inl (g.2 1, 330, .inl (zaB (tr 6)))), (rf 1, .inl (g.2 6, 1, .inr (.inr (.inr (.inr (zaR sa)))))), (sa 0, .inl (g.2 5, 7, .inr (.inr (.inr (.inr (zaR sr)))))), (sr 0, .inl (g.2 1, 330, .inl (zaB (st 0)))), (sr 1, .inl (g.2 1, 330, .inl (zaB (st 1)))), (sr 2, .inl (g.2 1, 330, .inl (zaB (st 2)))), (sr 3, .inl (g.2 1, 330, .inl (zaB (st 3)))), (sr 4, .inl (g.2 1, 330, .inl (zaB (st 4)))), (sr 5, .inl (g.2 1, 330, .inl (zaB (st 5)))), (sr 6, .inl (g.2 1, 330, .inl (zaB (st 6)))), (rf 4, .inl (g.2 7, 1, .inr (.inr (.inr (.inr (zaR wya)))))), (wya 0, .inl (g.2 0, 2, .inl (zaI wf))), (rf 5, .inl (g.2 7, 1, .inr (.inr (.inr (.inr (zaR fa)))))), (fa 0, .inl (g.2 0, 2, .inl (zaI fi))), (rf 6, .inl (g.2 7, 1, .inr (.inr (.inr (.inr (zaR sea)))))), (sea 0, .inl (g.2 0, 2, .inl (zaI sf))), (rf 3, .inl (g.2 1, 1, .inl (zaB to))), (rf 9, .inl (g.2 1, 120530, .inl (zaB hdf)))] := hD
  refine lv_aload_n hx hb zd_L_law_728 rfl (lv_at hl 3 rfl) ?_
  refine zk_V (As := []) (b := fq) (own := "CronFinderLaw") (nL := 8) (rest := []) hx hb hml hown hw (c_F_place l g fq tp ln pq sq br hq) zw_1_125 zw_1_126 zw_1_127 zw_1_1 zw_1_128 (np := 0) (by decide +kernel) rfl ⟨rfl, rfl, Nat.le_of_ble_eq_true rfl, Nat.le_of_ble_eq_true rfl⟩ zN_mv hK trivial (hP.sub (ws' := [(fq, .inr (0, [.ref (tp), .int (iI (ln)), .ref (pq), .ref (sq), .int (iI (br)), .ref (hq)]))]) [0] rfl) (va_recv hK hP (ci := 0) (q0 := 0) rfl rfl) hl.1 rfl (Nat.le_of_ble_eq_true rfl) ⟨by show _ ≤ 601024; omega, by show _ ≤ 7293034; omega⟩ zd_L_law_729 ?_
  refine lv_aload_n hx hb zd_L_law_732 rfl (lv_at hl 2 rfl) ?_
  refine zk_W (As := []) (b := qq) (own := "CronFinderLaw") (nL := 8) (rest := [.int (iI (br))]) hx hb hml hown hw (c_Q_place l g qq rf (fl) (ln) (br) (yy) (mm) (dd) (at0) (wa) (on) (tw) (cnt)) zw_4_166 zw_4_167 zw_4_168 zw_1_7 zw_4_169 (np := 0) (by decide +kernel) rfl ⟨rfl, rfl, Nat.le_of_ble_eq_true rfl, Nat.le_of_ble_eq_true rfl⟩ (fun _ => zN_mv) hK trivial hP hD hS hA [35] rfl (by decide) rfl (va_recv hK hP (ci := 5) (q0 := 35) rfl rfl) hl.1 rfl (Nat.le_of_ble_eq_true rfl) ⟨by show _ ≤ 601024; omega, by show _ ≤ 7293034; omega⟩ zd_L_law_733 (fun H locs hP hD hS => ?_)
  have hP : va_P g.1 zCl [(fq, .inr (0, [.ref (tp), .int (iI (ln)), .ref (pq), .ref (sq), .int (iI (br)), .ref (hq)])), (tp, .inl (g.2 2, 400, .inl (zaI tf))), (sq, .inr (3, [.ref (rb 0), .ref (rb 1), .ref (rb 2), .ref (rb 3), .ref (rb 4), .ref (rb 5), .ref (rb 6), .ref (rl2), .int (iI (sb2)), .int (iI (od2)), .int (zbits (bits2))])), (rb 0, .inr (2, [.int (iI (0)), .int (iI (59)), .ref (ab 0)])), (ab 0, .inl (g.2 1, 60, .inl (zaB (bl 0)))), (rb 1, .inr (2, [.int (iI (0)), .int (iI (59)), .ref (ab 1)])), (ab 1, .inl (g.2 1, 60, .inl (zaB (bl 1)))), (rb 2, .inr (2, [.int (iI (0)), .int (iI (23)), .ref (ab 2)])), (ab 2, .inl (g.2 1, 24, .inl (zaB (bl 2)))), (rb 3, .inr (2, [.int (iI (1)), .int (iI (31)), .ref (ab 3)])), (ab 3, .inl (g.2 1, 31, .inl (zaB (bl 3)))), (rb 4, .inr (2, [.int (iI (1)), .int (iI (12)), .ref (ab 4)])), (ab 4, .inl (g.2 1, 12, .inl (zaB (bl 4)))), (rb 5, .inr (2, [.int (iI (1)), .int (iI (7)), .ref (ab 5)])), (ab 5, .inl (g.2 1, 7, .inl (zaB (bl 5)))), (rb 6, .inr (2, [.int (iI (1970)), .int (iI (2299)), .ref (ab 6)])), (ab 6, .inl (g.2 1, 330, .inl (zaB (bl 6)))), (pq, .inr (3, [.ref (ra 0), .ref (ra 1), .ref (ra 2), .ref (ra 3), .ref (ra 4), .ref (ra 5), .ref (ra 6), .ref (en ru), .int (iI (sub)), .int (iI (od)), .int (zbits (bits))])), (ra 0, .inr (2, [.int (iI (0)), .int (iI (59)), .ref (aa 0)])), (aa 0, .inl (g.2 1, 60, .inl (zaB (al 0)))), (ra 1, .inr (2, [.int (iI (0)), .int (iI (59)), .ref (aa 1)])), (aa 1, .inl (g.2 1, 60, .inl (zaB (al 1)))), (ra 2, .inr (2, [.int (iI (0)), .int (iI (23)), .ref (aa 2)])), (aa 2, .inl (g.2 1, 24, .inl (zaB (al 2)))), (ra 3, .inr (2, [.int (iI (1)), .int (iI (31)), .ref (aa 3)])), (aa 3, .inl (g.2 1, 31, .inl (zaB (al 3)))), (ra 4, .inr (2, [.int (iI (1)), .int (iI (12)), .ref (aa 4)])), (aa 4, .inl (g.2 1, 12, .inl (zaB (al 4)))), (ra 5, .inr (2, [.int (iI (1)), .int (iI (7)), .ref (aa 5)])), (aa 5, .inl (g.2 1, 7, .inl (zaB (al 5)))), (ra 6, .inr (2, [.int (iI (1970)), .int (iI (2299)), .ref (aa 6)])), (aa 6, .inl (g.2 1, 330, .inl (zaB (al 6)))), (hq, .inr (1, [.ref (ha), .int (iI (cnt))])), (ha, .inl (g.2 0, 200, .inl (zaI h))), (oa, .inl (g.2 4, 1, .inr (.inl (zaL ou)))), (qq, .inr (5, [.int (iI (0)), .ref (rf 0), .int (iI (ln)), .int (iI (br)), .int (iI (yy)), .int (iI (mm)), .int (iI (dd)), .int (iI (at0)), .ref (rf 1), .ref (rf 2), .ref (rf 3), .ref (rf 4), .ref (rf 5), .ref (rf 6), .int (iI (wa)), .int (iI (on)), .int (iI (tw)), .ref (rf 7), .ref (rf 8), .ref (rf 9), .int (iI (cnt))])), (rf 0, .inl (g.2 3, 400, .inl (zaI (zSg tf)))), (rf 7, .inl (g.2 8, 12, .inr (.inr (.inr (.inr (zaR mq)))))), (rf 8, .inl (g.2 8, 7, .inr (.inr (.inr (.inr (zaR wq)))))), (rf 2, .inl (g.2 5, 7, .inr (.inr (.inr (.inr (zaR ta)))))), (ta 0, .inl (g.2 1, 330, .inl (zaB (tr 0)))), (ta 1, .inl (g.2 1, 330, .inl (zaB (tr 1)))), (ta 2, .inl (g.2 1, 330, .inl (zaB (tr 2)))), (ta 3, .inl (g.2 1, 330, .inl (zaB (tr 3)))), (ta 4, .inl (g.2 1, 330, .inl (zaB (tr 4)))), (ta 5, .inl (g.2 1, 330, .inl (zaB (tr 5)))), (ta 6, .inl (g.2 1, 330, .inl (zaB (tr 6)))), (rf 1, .inl (g.2 6, 1, .inr (.inr (.inr (.inr (zaR sa)))))), (sa 0, .inl (g.2 5, 7, .inr (.inr (.inr (.inr (zaR sr)))))), (sr 0, .inl (g.2 1, 330, .inl (zaB (st 0)))), (sr 1, .inl (g.2 1, 330, .inl (zaB (st 1)))), (sr 2, .inl (g.2 1, 330, .inl (zaB (st 2)))), (sr 3, .inl (g.2 1, 330, .inl (zaB (st 3)))), (sr 4, .inl (g.2 1, 330, .inl (zaB (st 4)))), (sr 5, .inl (g.2 1, 330, .inl (zaB (st 5)))), (sr 6, .inl (g.2 1, 330, .inl (zaB (st 6)))), (rf 4, .inl (g.2 7, 1, .inr (.inr (.inr (.inr (zaR wya)))))), (wya 0, .inl (g.2 0, 2, .inl (zaI wf))), (rf 5, .inl (g.2 7, 1, .inr (.inr (.inr (.inr (zaR fa)))))), (fa 0, .inl (g.2 0, 2, .inl (zaI fi))), (rf 6, .inl (g.2 7, 1, .inr (.inr (.inr (.inr (zaR sea)))))), (sea 0, .inl (g.2 0, 2, .inl (zaI sf))), (rf 3, .inl (g.2 1, 1, .inl (zaB to))), (rf 9, .inl (g.2 1, 120530, .inl (zaB hdf)))] H := hP
  have hD : va_D A [(fq, .inr (0, [.ref (tp), .int (iI (ln)), .ref (pq), .ref (sq), .int (iI (br)), .ref (hq)])), (tp, .inl (g.2 2, 400, .inl (zaI tf))), (sq, .inr (3, [.ref (rb 0), .ref (rb 1), .ref (rb 2), .ref (rb 3), .ref (rb 4), .ref (rb 5), .ref (rb 6), .ref (rl2), .int (iI (sb2)), .int (iI (od2)), .int (zbits (bits2))])), (rb 0, .inr (2, [.int (iI (0)), .int (iI (59)), .ref (ab 0)])), (ab 0, .inl (g.2 1, 60, .inl (zaB (bl 0)))), (rb 1, .inr (2, [.int (iI (0)), .int (iI (59)), .ref (ab 1)])), (ab 1, .inl (g.2 1, 60, .inl (zaB (bl 1)))), (rb 2, .inr (2, [.int (iI (0)), .int (iI (23)), .ref (ab 2)])), (ab 2, .inl (g.2 1, 24, .inl (zaB (bl 2)))), (rb 3, .inr (2, [.int (iI (1)), .int (iI (31)), .ref (ab 3)])), (ab 3, .inl (g.2 1, 31, .inl (zaB (bl 3)))), (rb 4, .inr (2, [.int (iI (1)), .int (iI (12)), .ref (ab 4)])), (ab 4, .inl (g.2 1, 12, .inl (zaB (bl 4)))), (rb 5, .inr (2, [.int (iI (1)), .int (iI (7)), .ref (ab 5)])), (ab 5, .inl (g.2 1, 7, .inl (zaB (bl 5)))), (rb 6, .inr (2, [.int (iI (1970)), .int (iI (2299)), .ref (ab 6)])), (ab 6, .inl (g.2 1, 330, .inl (zaB (bl 6)))), (pq, .inr (3, [.ref (ra 0), .ref (ra 1), .ref (ra 2), .ref (ra 3), .ref (ra 4), .ref (ra 5), .ref (ra 6), .ref (en ru), .int (iI (sub)), .int (iI (od)), .int (zbits (bits))])), (ra 0, .inr (2, [.int (iI (0)), .int (iI (59)), .ref (aa 0)])), (aa 0, .inl (g.2 1, 60, .inl (zaB (al 0)))), (ra 1, .inr (2, [.int (iI (0)), .int (iI (59)), .ref (aa 1)])), (aa 1, .inl (g.2 1, 60, .inl (zaB (al 1)))), (ra 2, .inr (2, [.int (iI (0)), .int (iI (23)), .ref (aa 2)])), (aa 2, .inl (g.2 1, 24, .inl (zaB (al 2)))), (ra 3, .inr (2, [.int (iI (1)), .int (iI (31)), .ref (aa 3)])), (aa 3, .inl (g.2 1, 31, .inl (zaB (al 3)))), (ra 4, .inr (2, [.int (iI (1)), .int (iI (12)), .ref (aa 4)])), (aa 4, .inl (g.2 1, 12, .inl (zaB (al 4)))), (ra 5, .inr (2, [.int (iI (1)), .int (iI (7)), .ref (aa 5)])), (aa 5, .inl (g.2 1, 7, .inl (zaB (al 5)))), (ra 6, .inr (2, [.int (iI (1970)), .int (iI (2299)), .ref (aa 6)])), (aa 6, .inl (g.2 1, 330, .inl (zaB (al 6)))), (hq, .inr (1, [.ref (ha), .int (iI (cnt))])), (ha, .inl (g.2 0, 200, .inl (zaI h))), (oa, .inl (g.2 4, 1, .inr (.inl (zaL ou)))), (qq, .inr (5, [.int (iI (0)), .ref (rf 0), .int (iI (ln)), .int (iI (br)), .int (iI (yy)), .int (iI (mm)), .int (iI (dd)), .int (iI (at0)), .ref (rf 1), .ref (rf 2), .ref (rf 3), .ref (rf 4), .ref (rf 5), .ref (rf 6), .int (iI (wa)), .int (iI (on)), .int (iI (tw)), .ref (rf 7), .ref (rf 8), .ref (rf 9), .int (iI (cnt))])), (rf 0, .inl (g.2 3, 400, .inl (zaI (zSg tf)))), (rf 7, .inl (g.2 8, 12, .inr (.inr (.inr (.inr (zaR mq)))))), (rf 8, .inl (g.2 8, 7, .inr (.inr (.inr (.inr (zaR wq)))))), (rf 2, .inl (g.2 5, 7, .inr (.inr (.inr (.inr (zaR ta)))))), (ta 0, .inl (g.2 1, 330, .inl (zaB (tr 0)))), (ta 1, .inl (g.2 1, 330, .inl (zaB (tr 1)))), (ta 2, .inl (g.2 1, 330, .inl (zaB (tr 2)))), (ta 3, .inl (g.2 1, 330, .inl (zaB (tr 3)))), (ta 4, .inl (g.2 1, 330, .inl (zaB (tr 4)))), (ta 5, .inl (g.2 1, 330, .inl (zaB (tr 5)))), (ta 6, .inl (g.2 1, 330, .inl (zaB (tr 6)))), (rf 1, .inl (g.2 6, 1, .inr (.inr (.inr (.inr (zaR sa)))))), (sa 0, .inl (g.2 5, 7, .inr (.inr (.inr (.inr (zaR sr)))))), (sr 0, .inl (g.2 1, 330, .inl (zaB (st 0)))), (sr 1, .inl (g.2 1, 330, .inl (zaB (st 1)))), (sr 2, .inl (g.2 1, 330, .inl (zaB (st 2)))), (sr 3, .inl (g.2 1, 330, .inl (zaB (st 3)))), (sr 4, .inl (g.2 1, 330, .inl (zaB (st 4)))), (sr 5, .inl (g.2 1, 330, .inl (zaB (st 5)))), (sr 6, .inl (g.2 1, 330, .inl (zaB (st 6)))), (rf 4, .inl (g.2 7, 1, .inr (.inr (.inr (.inr (zaR wya)))))), (wya 0, .inl (g.2 0, 2, .inl (zaI wf))), (rf 5, .inl (g.2 7, 1, .inr (.inr (.inr (.inr (zaR fa)))))), (fa 0, .inl (g.2 0, 2, .inl (zaI fi))), (rf 6, .inl (g.2 7, 1, .inr (.inr (.inr (.inr (zaR sea)))))), (sea 0, .inl (g.2 0, 2, .inl (zaI sf))), (rf 3, .inl (g.2 1, 1, .inl (zaB to))), (rf 9, .inl (g.2 1, 120530, .inl (zaB hdf)))] := hD
  refine zi_icmp_eq (tgt := 741) hx hb zd_L_law_736 (by decide) (by omega) (fun c736 => ?_) (fun c736 => ?_)
  · refine W.widen (k := cells + 4) (n := slots + 24) (by omega) (by omega) ?_
    exact kk 0 ln br yy mm dd at0 wa on tw cnt sub od sb2 od2 pq sq ra aa rb ab ru rl2 al bl tr st bits bits2 tf h wf fi sf ou to hdf hol H locs ls ⟨i1, i2, i3, i4, i5, i6, i7, i8, i9, i10, i11⟩ hP hD hS (lv_sub hl [0, 1, 2, 3, 4] rfl)
  · exact absurd rfl c736
set_option maxHeartbeats 4000000 in
set_option maxRecDepth 100000 in
theorem law_1 (l : Launch) (g : zGl) (hl0 : l.stackTraces = false) {p : Program} {e : Env} {s : State} {m : MethodId} {args : Array Value} {below : List Frame} {meth : Method} {c : Code} {Q : State → Prop} {b L : Nat} {xs : Nat → Int32} {A : Nat → Prop} (hx : p.tables.exec = Jvm.exec) (hb : c.code = code) (hml : c.maxLocals = 8) (hown : s.vm.findClass "CronFinderLaw" = some m.cls) (hw : ∀ w ∈ zW, w.before args s = true) (hK : zK g s) (hX : va_X b L xs s s.heap) (hbl : b < s.heap.size) (hbA : ¬ A b) (hA : ∀ q : Nat, s.heap.size ≤ q → A q) (fq tp hq ha oa qq : Nat) (rf ta sa sr fa wya sea mq wq : Nat → Nat) (en : Nat → Nat) (t tz q1 v1 q2 v2 : Nat) (kt : Nat → Nat) (t1 t2 : Nat) (mv wv : Nat → Nat) (hT : zLw t en tz q1 v1 q2 v2 kt A s s.heap) (hT2 : zQs t1 t2 mq mv wq wv A s s.heap) (fl ln br yy mm dd at0 wa on tw cnt sub od sb2 od2 : Int) (pq sq : Nat) (ra aa rb ab : Nat → Nat) (ru rl2 : Nat) (al bl tr st : Nat → Nat → Bool) (bits bits2 : Nat → Bool) (tf h wf fi sf ou : Nat → Int) (to hdf : Nat → Bool) (hol : Int → Bool) (hi : iLaw fl ln br yy mm dd at0 wa on tw cnt sub od sb2 od2 pq sq ra aa rb ab ru rl2 al bl tr st bits bits2 tf h wf fi sf ou to hdf hol) (i : Int) (hi0 : 0 ≤ i ∧ i + 6 ≤ (L : Int) ∧ (L : Int) ≤ 3072) {H : Heap} {locs : List Loc} {ls : Array Slot} {cells slots : Nat} (hrm : cells + 4 ≤ 601024 ∧ slots + 24 ≤ 7293034) (hP : va_P g.1 zCl (wLaw g fq tp hq ha oa qq rf ta sa sr fa wya sea mq wq en fl ln br yy mm dd at0 wa on tw cnt sub od sb2 od2 pq sq ra aa rb ab ru rl2 al bl tr st bits bits2 tf h wf fi sf ou to hdf hol) H) (hD : va_D A (wLaw g fq tp hq ha oa qq rf ta sa sr fa wya sea mq wq en fl ln br yy mm dd at0 wa on tw cnt sub od sb2 od2 pq sq ra aa rb ab ru rl2 al bl tr st bits bits2 tf h wf fi sf ou to hdf hol)) (hS : va_S A s.heap H locs) (hl : lv_has ls 8 [(4, .int (iI (i))), (3, .ref (oa)), (2, .ref (qq)), (1, .ref (fq)), (0, .ref (b))]) (kk : ∀ (fl ln br yy mm dd at0 wa on tw cnt sub od sb2 od2 : Int) (pq sq : Nat) (ra aa rb ab : Nat → Nat) (ru rl2 : Nat) (al bl tr st : Nat → Nat → Bool) (bits bits2 : Nat → Bool) (tf h wf fi sf ou : Nat → Int) (to hdf : Nat → Bool) (hol : Int → Bool) (H : Heap) (locs : List Loc) (ls : Array Slot), iLaw fl ln br yy mm dd at0 wa on tw cnt sub od sb2 od2 pq sq ra aa rb ab ru rl2 al bl tr st bits bits2 tf h wf fi sf ou to hdf hol → va_P g.1 zCl (wLaw g fq tp hq ha oa qq rf ta sa sr fa wya sea mq wq en fl ln br yy mm dd at0 wa on tw cnt sub od sb2 od2 pq sq ra aa rb ab ru rl2 al bl tr st bits bits2 tf h wf fi sf ou to hdf hol) H → va_D A (wLaw g fq tp hq ha oa qq rf ta sa sr fa wya sea mq wq en fl ln br yy mm dd at0 wa on tw cnt sub od sb2 od2 pq sq ra aa rb ab ru rl2 al bl tr st bits bits2 tf h wf fi sf ou to hdf hol) → va_S A s.heap H locs → lv_has ls 8 [(4, .int (iI (i))), (3, .ref (oa)), (2, .ref (qq)), (1, .ref (fq)), (0, .ref (b))] → W p l e room_1 s m args below meth c H locs (cells + 4) (slots + 24) Q (F0 m 741 ls [])) : W p l e room_1 s m args below meth c H locs cells slots Q (F0 m 196 ls []) := by
  obtain ⟨i1, i2, i3, i4, i5, i6, i7, i8, i9, i10, i11⟩ := hi
  have hP : va_P g.1 zCl [(fq, .inr (0, [.ref (tp), .int (iI (ln)), .ref (pq), .ref (sq), .int (iI (br)), .ref (hq)])), (tp, .inl (g.2 2, 400, .inl (zaI tf))), (sq, .inr (3, [.ref (rb 0), .ref (rb 1), .ref (rb 2), .ref (rb 3), .ref (rb 4), .ref (rb 5), .ref (rb 6), .ref (rl2), .int (iI (sb2)), .int (iI (od2)), .int (zbits (bits2))])), (rb 0, .inr (2, [.int (iI (0)), .int (iI (59)), .ref (ab 0)])), (ab 0, .inl (g.2 1, 60, .inl (zaB (bl 0)))), (rb 1, .inr (2, [.int (iI (0)), .int (iI (59)), .ref (ab 1)])), (ab 1, .inl (g.2 1, 60, .inl (zaB (bl 1)))), (rb 2, .inr (2, [.int (iI (0)), .int (iI (23)), .ref (ab 2)])), (ab 2, .inl (g.2 1, 24, .inl (zaB (bl 2)))), (rb 3, .inr (2, [.int (iI (1)), .int (iI (31)), .ref (ab 3)])), (ab 3, .inl (g.2 1, 31, .inl (zaB (bl 3)))), (rb 4, .inr (2, [.int (iI (1)), .int (iI (12)), .ref (ab 4)])), (ab 4, .inl (g.2 1, 12, .inl (zaB (bl 4)))), (rb 5, .inr (2, [.int (iI (1)), .int (iI (7)), .ref (ab 5)])), (ab 5, .inl (g.2 1, 7, .inl (zaB (bl 5)))), (rb 6, .inr (2, [.int (iI (1970)), .int (iI (2299)), .ref (ab 6)])), (ab 6, .inl (g.2 1, 330, .inl (zaB (bl 6)))), (pq, .inr (3, [.ref (ra 0), .ref (ra 1), .ref (ra 2), .ref (ra 3), .ref (ra 4), .ref (ra 5), .ref (ra 6), .ref (en ru), .int (iI (sub)), .int (iI (od)), .int (zbits (bits))])), (ra 0, .inr (2, [.int (iI (0)), .int (iI (59)), .ref (aa 0)])), (aa 0, .inl (g.2 1, 60, .inl (zaB (al 0)))), (ra 1, .inr (2, [.int (iI (0)), .int (iI (59)), .ref (aa 1)])), (aa 1, .inl (g.2 1, 60, .inl (zaB (al 1)))), (ra 2, .inr (2, [.int (iI (0)), .int (iI (23)), .ref (aa 2)])), (aa 2, .inl (g.2 1, 24, .inl (zaB (al 2)))), (ra 3, .inr (2, [.int (iI (1)), .int (iI (31)), .ref (aa 3)])), (aa 3, .inl (g.2 1, 31, .inl (zaB (al 3)))), (ra 4, .inr (2, [.int (iI (1)), .int (iI (12)), .ref (aa 4)])), (aa 4, .inl (g.2 1, 12, .inl (zaB (al 4)))), (ra 5, .inr (2, [.int (iI (1)), .int (iI (7)), .ref (aa 5)])), (aa 5, .inl (g.2 1, 7, .inl (zaB (al 5)))), (ra 6, .inr (2, [.int (iI (1970)), .int (iI (2299)), .ref (aa 6)])), (aa 6, .inl (g.2 1, 330, .inl (zaB (al 6)))), (hq, .inr (1, [.ref (ha), .int (iI (cnt))])), (ha, .inl (g.2 0, 200, .inl (zaI h))), (oa, .inl (g.2 4, 1, .inr (.inl (zaL ou)))), (qq, .inr (5, [.int (iI (fl)), .ref (rf 0), .int (iI (ln)), .int (iI (br)), .int (iI (yy)), .int (iI (mm)), .int (iI (dd)), .int (iI (at0)), .ref (rf 1), .ref (rf 2), .ref (rf 3), .ref (rf 4), .ref (rf 5), .ref (rf 6), .int (iI (wa)), .int (iI (on)), .int (iI (tw)), .ref (rf 7), .ref (rf 8), .ref (rf 9), .int (iI (cnt))])), (rf 0, .inl (g.2 3, 400, .inl (zaI (zSg tf)))), (rf 7, .inl (g.2 8, 12, .inr (.inr (.inr (.inr (zaR mq)))))), (rf 8, .inl (g.2 8, 7, .inr (.inr (.inr (.inr (zaR wq)))))), (rf 2, .inl (g.2 5, 7, .inr (.inr (.inr (.inr (zaR ta)))))), (ta 0, .inl (g.2 1, 330, .inl (zaB (tr 0)))), (ta 1, .inl (g.2 1, 330, .inl (zaB (tr 1)))), (ta 2, .inl (g.2 1, 330, .inl (zaB (tr 2)))), (ta 3, .inl (g.2 1, 330, .inl (zaB (tr 3)))), (ta 4, .inl (g.2 1, 330, .inl (zaB (tr 4)))), (ta 5, .inl (g.2 1, 330, .inl (zaB (tr 5)))), (ta 6, .inl (g.2 1, 330, .inl (zaB (tr 6)))), (rf 1, .inl (g.2 6, 1, .inr (.inr (.inr (.inr (zaR sa)))))), (sa 0, .inl (g.2 5, 7, .inr (.inr (.inr (.inr (zaR sr)))))), (sr 0, .inl (g.2 1, 330, .inl (zaB (st 0)))), (sr 1, .inl (g.2 1, 330, .inl (zaB (st 1)))), (sr 2, .inl (g.2 1, 330, .inl (zaB (st 2)))), (sr 3, .inl (g.2 1, 330, .inl (zaB (st 3)))), (sr 4, .inl (g.2 1, 330, .inl (zaB (st 4)))), (sr 5, .inl (g.2 1, 330, .inl (zaB (st 5)))), (sr 6, .inl (g.2 1, 330, .inl (zaB (st 6)))), (rf 4, .inl (g.2 7, 1, .inr (.inr (.inr (.inr (zaR wya)))))), (wya 0, .inl (g.2 0, 2, .inl (zaI wf))), (rf 5, .inl (g.2 7, 1, .inr (.inr (.inr (.inr (zaR fa)))))), (fa 0, .inl (g.2 0, 2, .inl (zaI fi))), (rf 6, .inl (g.2 7, 1, .inr (.inr (.inr (.inr (zaR sea)))))), (sea 0, .inl (g.2 0, 2, .inl (zaI sf))), (rf 3, .inl (g.2 1, 1, .inl (zaB to))), (rf 9, .inl (g.2 1, 120530, .inl (zaB hdf)))] H := hP
  have hD : va_D A [(fq, .inr (0, [.ref (tp), .int (iI (ln)), .ref (pq), .ref (sq), .int (iI (br)), .ref (hq)])), (tp, .inl (g.2 2, 400, .inl (zaI tf))), (sq, .inr (3, [.ref (rb 0), .ref (rb 1), .ref (rb 2), .ref (rb 3), .ref (rb 4), .ref (rb 5), .ref (rb 6), .ref (rl2), .int (iI (sb2)), .int (iI (od2)), .int (zbits (bits2))])), (rb 0, .inr (2, [.int (iI (0)), .int (iI (59)), .ref (ab 0)])), (ab 0, .inl (g.2 1, 60, .inl (zaB (bl 0)))), (rb 1, .inr (2, [.int (iI (0)), .int (iI (59)), .ref (ab 1)])), (ab 1, .inl (g.2 1, 60, .inl (zaB (bl 1)))), (rb 2, .inr (2, [.int (iI (0)), .int (iI (23)), .ref (ab 2)])), (ab 2, .inl (g.2 1, 24, .inl (zaB (bl 2)))), (rb 3, .inr (2, [.int (iI (1)), .int (iI (31)), .ref (ab 3)])), (ab 3, .inl (g.2 1, 31, .inl (zaB (bl 3)))), (rb 4, .inr (2, [.int (iI (1)), .int (iI (12)), .ref (ab 4)])), (ab 4, .inl (g.2 1, 12, .inl (zaB (bl 4)))), (rb 5, .inr (2, [.int (iI (1)), .int (iI (7)), .ref (ab 5)])), (ab 5, .inl (g.2 1, 7, .inl (zaB (bl 5)))), (rb 6, .inr (2, [.int (iI (1970)), .int (iI (2299)), .ref (ab 6)])), (ab 6, .inl (g.2 1, 330, .inl (zaB (bl 6)))), (pq, .inr (3, [.ref (ra 0), .ref (ra 1), .ref (ra 2), .ref (ra 3), .ref (ra 4), .ref (ra 5), .ref (ra 6), .ref (en ru), .int (iI (sub)), .int (iI (od)), .int (zbits (bits))])), (ra 0, .inr (2, [.int (iI (0)), .int (iI (59)), .ref (aa 0)])), (aa 0, .inl (g.2 1, 60, .inl (zaB (al 0)))), (ra 1, .inr (2, [.int (iI (0)), .int (iI (59)), .ref (aa 1)])), (aa 1, .inl (g.2 1, 60, .inl (zaB (al 1)))), (ra 2, .inr (2, [.int (iI (0)), .int (iI (23)), .ref (aa 2)])), (aa 2, .inl (g.2 1, 24, .inl (zaB (al 2)))), (ra 3, .inr (2, [.int (iI (1)), .int (iI (31)), .ref (aa 3)])), (aa 3, .inl (g.2 1, 31, .inl (zaB (al 3)))), (ra 4, .inr (2, [.int (iI (1)), .int (iI (12)), .ref (aa 4)])), (aa 4, .inl (g.2 1, 12, .inl (zaB (al 4)))), (ra 5, .inr (2, [.int (iI (1)), .int (iI (7)), .ref (aa 5)])), (aa 5, .inl (g.2 1, 7, .inl (zaB (al 5)))), (ra 6, .inr (2, [.int (iI (1970)), .int (iI (2299)), .ref (aa 6)])), (aa 6, .inl (g.2 1, 330, .inl (zaB (al 6)))), (hq, .inr (1, [.ref (ha), .int (iI (cnt))])), (ha, .inl (g.2 0, 200, .inl (zaI h))), (oa, .inl (g.2 4, 1, .inr (.inl (zaL ou)))), (qq, .inr (5, [.int (iI (fl)), .ref (rf 0), .int (iI (ln)), .int (iI (br)), .int (iI (yy)), .int (iI (mm)), .int (iI (dd)), .int (iI (at0)), .ref (rf 1), .ref (rf 2), .ref (rf 3), .ref (rf 4), .ref (rf 5), .ref (rf 6), .int (iI (wa)), .int (iI (on)), .int (iI (tw)), .ref (rf 7), .ref (rf 8), .ref (rf 9), .int (iI (cnt))])), (rf 0, .inl (g.2 3, 400, .inl (zaI (zSg tf)))), (rf 7, .inl (g.2 8, 12, .inr (.inr (.inr (.inr (zaR mq)))))), (rf 8, .inl (g.2 8, 7, .inr (.inr (.inr (.inr (zaR wq)))))), (rf 2, .inl (g.2 5, 7, .inr (.inr (.inr (.inr (zaR ta)))))), (ta 0, .inl (g.2 1, 330, .inl (zaB (tr 0)))), (ta 1, .inl (g.2 1, 330, .inl (zaB (tr 1)))), (ta 2, .inl (g.2 1, 330, .inl (zaB (tr 2)))), (ta 3, .inl (g.2 1, 330, .inl (zaB (tr 3)))), (ta 4, .inl (g.2 1, 330, .inl (zaB (tr 4)))), (ta 5, .inl (g.2 1, 330, .inl (zaB (tr 5)))), (ta 6, .inl (g.2 1, 330, .inl (zaB (tr 6)))), (rf 1, .inl (g.2 6, 1, .inr (.inr (.inr (.inr (zaR sa)))))), (sa 0, .inl (g.2 5, 7, .inr (.inr (.inr (.inr (zaR sr)))))), (sr 0, .inl (g.2 1, 330, .inl (zaB (st 0)))), (sr 1, .inl (g.2 1, 330, .inl (zaB (st 1)))), (sr 2, .inl (g.2 1, 330, .inl (zaB (st 2)))), (sr 3, .inl (g.2 1, 330, .inl (zaB (st 3)))), (sr 4, .inl (g.2 1, 330, .inl (zaB (st 4)))), (sr 5, .inl (g.2 1, 330, .inl (zaB (st 5)))), (sr 6, .inl (g.2 1, 330, .inl (zaB (st 6)))), (rf 4, .inl (g.2 7, 1, .inr (.inr (.inr (.inr (zaR wya)))))), (wya 0, .inl (g.2 0, 2, .inl (zaI wf))), (rf 5, .inl (g.2 7, 1, .inr (.inr (.inr (.inr (zaR fa)))))), (fa 0, .inl (g.2 0, 2, .inl (zaI fi))), (rf 6, .inl (g.2 7, 1, .inr (.inr (.inr (.inr (zaR sea)))))), (sea 0, .inl (g.2 0, 2, .inl (zaI sf))), (rf 3, .inl (g.2 1, 1, .inl (zaB to))), (rf 9, .inl (g.2 1, 120530, .inl (zaB hdf)))] := hD
  obtain ⟨n1, hn1⟩ : ∃ n, n = (xs (i + 1).toNat).toInt := ⟨_, rfl⟩
  have hr1 : -2147483648 ≤ n1 ∧ n1 < 2147483648 := by rw [hn1]; exact iI_rg _
  refine lv_aload_n hx hb zd_L_law_196 rfl (lv_at hl 3 rfl) ?_
  refine lv_aload_n hx hb zd_L_law_197 rfl (lv_at hl 4 rfl) ?_
  refine lv_iload hx hb zd_L_law_198 (lv_at hl 0 rfl) ?_
  refine zi_iconst hx hb zd_L_law_200 ?_
  refine zi_iadd hx hb zd_L_law_201 ?_
  refine va_sld hx hb hX hbl hbA hS (iI_in (by omega)) zd_L_law_202 ?_
  refine zi_asx _ n1 (by rw [iI_cl (by omega), hn1, iI_self]) ?_
  refine lv_aload_n hx hb zd_L_law_203 rfl (lv_at hl 1 rfl) ?_
  by_cases hc : 0 ≤ n1 ∧ n1 ≤ ln
  · refine zk_CS (As := [.ref (fq), .int (iI (n1)), .ref (oa)]) (own := "CronFinderLaw") (nL := 8) (rest := []) hx hb hml hown hw (c_L_end l g hl0 fq tp ln pq sq br hq n1 (by omega) t en tz q1 v1 q2 v2 kt oa ou) zw_1_209 zw_1_210 zw_1_0 zw_1_211 (np := 3) (by decide +kernel) rfl ⟨rfl, rfl, Nat.le_of_ble_eq_true rfl, Nat.le_of_ble_eq_true rfl⟩ (zLw_mv t en tz q1 v1 q2 v2 kt) hK (zLw_nar (zLw_now hT hS) (va_free hD hS hA [0, 34] rfl)) hP hD hS hA [0, 34] rfl (by decide) (fun _ => rfl) hl.1 rfl (Nat.le_of_ble_eq_true rfl) ⟨by show _ ≤ 601024; omega, by show _ ≤ 7293034; omega⟩ zd_L_law_204 (fun u204 H locs hP hD hS => ?_)
    have hP : va_P g.1 zCl [(fq, .inr (0, [.ref (tp), .int (iI (n1)), .ref (pq), .ref (sq), .int (iI (br)), .ref (hq)])), (tp, .inl (g.2 2, 400, .inl (zaI tf))), (sq, .inr (3, [.ref (rb 0), .ref (rb 1), .ref (rb 2), .ref (rb 3), .ref (rb 4), .ref (rb 5), .ref (rb 6), .ref (rl2), .int (iI (sb2)), .int (iI (od2)), .int (zbits (bits2))])), (rb 0, .inr (2, [.int (iI (0)), .int (iI (59)), .ref (ab 0)])), (ab 0, .inl (g.2 1, 60, .inl (zaB (bl 0)))), (rb 1, .inr (2, [.int (iI (0)), .int (iI (59)), .ref (ab 1)])), (ab 1, .inl (g.2 1, 60, .inl (zaB (bl 1)))), (rb 2, .inr (2, [.int (iI (0)), .int (iI (23)), .ref (ab 2)])), (ab 2, .inl (g.2 1, 24, .inl (zaB (bl 2)))), (rb 3, .inr (2, [.int (iI (1)), .int (iI (31)), .ref (ab 3)])), (ab 3, .inl (g.2 1, 31, .inl (zaB (bl 3)))), (rb 4, .inr (2, [.int (iI (1)), .int (iI (12)), .ref (ab 4)])), (ab 4, .inl (g.2 1, 12, .inl (zaB (bl 4)))), (rb 5, .inr (2, [.int (iI (1)), .int (iI (7)), .ref (ab 5)])), (ab 5, .inl (g.2 1, 7, .inl (zaB (bl 5)))), (rb 6, .inr (2, [.int (iI (1970)), .int (iI (2299)), .ref (ab 6)])), (ab 6, .inl (g.2 1, 330, .inl (zaB (bl 6)))), (pq, .inr (3, [.ref (ra 0), .ref (ra 1), .ref (ra 2), .ref (ra 3), .ref (ra 4), .ref (ra 5), .ref (ra 6), .ref (en ru), .int (iI (sub)), .int (iI (od)), .int (zbits (bits))])), (ra 0, .inr (2, [.int (iI (0)), .int (iI (59)), .ref (aa 0)])), (aa 0, .inl (g.2 1, 60, .inl (zaB (al 0)))), (ra 1, .inr (2, [.int (iI (0)), .int (iI (59)), .ref (aa 1)])), (aa 1, .inl (g.2 1, 60, .inl (zaB (al 1)))), (ra 2, .inr (2, [.int (iI (0)), .int (iI (23)), .ref (aa 2)])), (aa 2, .inl (g.2 1, 24, .inl (zaB (al 2)))), (ra 3, .inr (2, [.int (iI (1)), .int (iI (31)), .ref (aa 3)])), (aa 3, .inl (g.2 1, 31, .inl (zaB (al 3)))), (ra 4, .inr (2, [.int (iI (1)), .int (iI (12)), .ref (aa 4)])), (aa 4, .inl (g.2 1, 12, .inl (zaB (al 4)))), (ra 5, .inr (2, [.int (iI (1)), .int (iI (7)), .ref (aa 5)])), (aa 5, .inl (g.2 1, 7, .inl (zaB (al 5)))), (ra 6, .inr (2, [.int (iI (1970)), .int (iI (2299)), .ref (aa 6)])), (aa 6, .inl (g.2 1, 330, .inl (zaB (al 6)))), (hq, .inr (1, [.ref (ha), .int (iI (cnt))])), (ha, .inl (g.2 0, 200, .inl (zaI h))), (oa, .inl (g.2 4, 1, .inr (.inl (zaL (zu ou 0 (n1)))))), (qq, .inr (5, [.int (iI (fl)), .ref (rf 0), .int (iI (ln)), .int (iI (br)), .int (iI (yy)), .int (iI (mm)), .int (iI (dd)), .int (iI (at0)), .ref (rf 1), .ref (rf 2), .ref (rf 3), .ref (rf 4), .ref (rf 5), .ref (rf 6), .int (iI (wa)), .int (iI (on)), .int (iI (tw)), .ref (rf 7), .ref (rf 8), .ref (rf 9), .int (iI (cnt))])), (rf 0, .inl (g.2 3, 400, .inl (zaI (zSg tf)))), (rf 7, .inl (g.2 8, 12, .inr (.inr (.inr (.inr (zaR mq)))))), (rf 8, .inl (g.2 8, 7, .inr (.inr (.inr (.inr (zaR wq)))))), (rf 2, .inl (g.2 5, 7, .inr (.inr (.inr (.inr (zaR ta)))))), (ta 0, .inl (g.2 1, 330, .inl (zaB (tr 0)))), (ta 1, .inl (g.2 1, 330, .inl (zaB (tr 1)))), (ta 2, .inl (g.2 1, 330, .inl (zaB (tr 2)))), (ta 3, .inl (g.2 1, 330, .inl (zaB (tr 3)))), (ta 4, .inl (g.2 1, 330, .inl (zaB (tr 4)))), (ta 5, .inl (g.2 1, 330, .inl (zaB (tr 5)))), (ta 6, .inl (g.2 1, 330, .inl (zaB (tr 6)))), (rf 1, .inl (g.2 6, 1, .inr (.inr (.inr (.inr (zaR sa)))))), (sa 0, .inl (g.2 5, 7, .inr (.inr (.inr (.inr (zaR sr)))))), (sr 0, .inl (g.2 1, 330, .inl (zaB (st 0)))), (sr 1, .inl (g.2 1, 330, .inl (zaB (st 1)))), (sr 2, .inl (g.2 1, 330, .inl (zaB (st 2)))), (sr 3, .inl (g.2 1, 330, .inl (zaB (st 3)))), (sr 4, .inl (g.2 1, 330, .inl (zaB (st 4)))), (sr 5, .inl (g.2 1, 330, .inl (zaB (st 5)))), (sr 6, .inl (g.2 1, 330, .inl (zaB (st 6)))), (rf 4, .inl (g.2 7, 1, .inr (.inr (.inr (.inr (zaR wya)))))), (wya 0, .inl (g.2 0, 2, .inl (zaI wf))), (rf 5, .inl (g.2 7, 1, .inr (.inr (.inr (.inr (zaR fa)))))), (fa 0, .inl (g.2 0, 2, .inl (zaI fi))), (rf 6, .inl (g.2 7, 1, .inr (.inr (.inr (.inr (zaR sea)))))), (sea 0, .inl (g.2 0, 2, .inl (zaI sf))), (rf 3, .inl (g.2 1, 1, .inl (zaB to))), (rf 9, .inl (g.2 1, 120530, .inl (zaB hdf)))] H := hP
    have hD : va_D A [(fq, .inr (0, [.ref (tp), .int (iI (n1)), .ref (pq), .ref (sq), .int (iI (br)), .ref (hq)])), (tp, .inl (g.2 2, 400, .inl (zaI tf))), (sq, .inr (3, [.ref (rb 0), .ref (rb 1), .ref (rb 2), .ref (rb 3), .ref (rb 4), .ref (rb 5), .ref (rb 6), .ref (rl2), .int (iI (sb2)), .int (iI (od2)), .int (zbits (bits2))])), (rb 0, .inr (2, [.int (iI (0)), .int (iI (59)), .ref (ab 0)])), (ab 0, .inl (g.2 1, 60, .inl (zaB (bl 0)))), (rb 1, .inr (2, [.int (iI (0)), .int (iI (59)), .ref (ab 1)])), (ab 1, .inl (g.2 1, 60, .inl (zaB (bl 1)))), (rb 2, .inr (2, [.int (iI (0)), .int (iI (23)), .ref (ab 2)])), (ab 2, .inl (g.2 1, 24, .inl (zaB (bl 2)))), (rb 3, .inr (2, [.int (iI (1)), .int (iI (31)), .ref (ab 3)])), (ab 3, .inl (g.2 1, 31, .inl (zaB (bl 3)))), (rb 4, .inr (2, [.int (iI (1)), .int (iI (12)), .ref (ab 4)])), (ab 4, .inl (g.2 1, 12, .inl (zaB (bl 4)))), (rb 5, .inr (2, [.int (iI (1)), .int (iI (7)), .ref (ab 5)])), (ab 5, .inl (g.2 1, 7, .inl (zaB (bl 5)))), (rb 6, .inr (2, [.int (iI (1970)), .int (iI (2299)), .ref (ab 6)])), (ab 6, .inl (g.2 1, 330, .inl (zaB (bl 6)))), (pq, .inr (3, [.ref (ra 0), .ref (ra 1), .ref (ra 2), .ref (ra 3), .ref (ra 4), .ref (ra 5), .ref (ra 6), .ref (en ru), .int (iI (sub)), .int (iI (od)), .int (zbits (bits))])), (ra 0, .inr (2, [.int (iI (0)), .int (iI (59)), .ref (aa 0)])), (aa 0, .inl (g.2 1, 60, .inl (zaB (al 0)))), (ra 1, .inr (2, [.int (iI (0)), .int (iI (59)), .ref (aa 1)])), (aa 1, .inl (g.2 1, 60, .inl (zaB (al 1)))), (ra 2, .inr (2, [.int (iI (0)), .int (iI (23)), .ref (aa 2)])), (aa 2, .inl (g.2 1, 24, .inl (zaB (al 2)))), (ra 3, .inr (2, [.int (iI (1)), .int (iI (31)), .ref (aa 3)])), (aa 3, .inl (g.2 1, 31, .inl (zaB (al 3)))), (ra 4, .inr (2, [.int (iI (1)), .int (iI (12)), .ref (aa 4)])), (aa 4, .inl (g.2 1, 12, .inl (zaB (al 4)))), (ra 5, .inr (2, [.int (iI (1)), .int (iI (7)), .ref (aa 5)])), (aa 5, .inl (g.2 1, 7, .inl (zaB (al 5)))), (ra 6, .inr (2, [.int (iI (1970)), .int (iI (2299)), .ref (aa 6)])), (aa 6, .inl (g.2 1, 330, .inl (zaB (al 6)))), (hq, .inr (1, [.ref (ha), .int (iI (cnt))])), (ha, .inl (g.2 0, 200, .inl (zaI h))), (oa, .inl (g.2 4, 1, .inr (.inl (zaL (zu ou 0 (n1)))))), (qq, .inr (5, [.int (iI (fl)), .ref (rf 0), .int (iI (ln)), .int (iI (br)), .int (iI (yy)), .int (iI (mm)), .int (iI (dd)), .int (iI (at0)), .ref (rf 1), .ref (rf 2), .ref (rf 3), .ref (rf 4), .ref (rf 5), .ref (rf 6), .int (iI (wa)), .int (iI (on)), .int (iI (tw)), .ref (rf 7), .ref (rf 8), .ref (rf 9), .int (iI (cnt))])), (rf 0, .inl (g.2 3, 400, .inl (zaI (zSg tf)))), (rf 7, .inl (g.2 8, 12, .inr (.inr (.inr (.inr (zaR mq)))))), (rf 8, .inl (g.2 8, 7, .inr (.inr (.inr (.inr (zaR wq)))))), (rf 2, .inl (g.2 5, 7, .inr (.inr (.inr (.inr (zaR ta)))))), (ta 0, .inl (g.2 1, 330, .inl (zaB (tr 0)))), (ta 1, .inl (g.2 1, 330, .inl (zaB (tr 1)))), (ta 2, .inl (g.2 1, 330, .inl (zaB (tr 2)))), (ta 3, .inl (g.2 1, 330, .inl (zaB (tr 3)))), (ta 4, .inl (g.2 1, 330, .inl (zaB (tr 4)))), (ta 5, .inl (g.2 1, 330, .inl (zaB (tr 5)))), (ta 6, .inl (g.2 1, 330, .inl (zaB (tr 6)))), (rf 1, .inl (g.2 6, 1, .inr (.inr (.inr (.inr (zaR sa)))))), (sa 0, .inl (g.2 5, 7, .inr (.inr (.inr (.inr (zaR sr)))))), (sr 0, .inl (g.2 1, 330, .inl (zaB (st 0)))), (sr 1, .inl (g.2 1, 330, .inl (zaB (st 1)))), (sr 2, .inl (g.2 1, 330, .inl (zaB (st 2)))), (sr 3, .inl (g.2 1, 330, .inl (zaB (st 3)))), (sr 4, .inl (g.2 1, 330, .inl (zaB (st 4)))), (sr 5, .inl (g.2 1, 330, .inl (zaB (st 5)))), (sr 6, .inl (g.2 1, 330, .inl (zaB (st 6)))), (rf 4, .inl (g.2 7, 1, .inr (.inr (.inr (.inr (zaR wya)))))), (wya 0, .inl (g.2 0, 2, .inl (zaI wf))), (rf 5, .inl (g.2 7, 1, .inr (.inr (.inr (.inr (zaR fa)))))), (fa 0, .inl (g.2 0, 2, .inl (zaI fi))), (rf 6, .inl (g.2 7, 1, .inr (.inr (.inr (.inr (zaR sea)))))), (sea 0, .inl (g.2 0, 2, .inl (zaI sf))), (rf 3, .inl (g.2 1, 1, .inl (zaB to))), (rf 9, .inl (g.2 1, 120530, .inl (zaB hdf)))] := hD
    refine lv_istore (lv' := [(5, .int (iI (0))), (4, .int (iI (i))), (3, .ref (oa)), (2, .ref (qq)), (1, .ref (fq)), (0, .ref (b))]) hx hb zd_L_law_207 hl (by decide) rfl (fun ls hl => ?_)
    refine lv_aload_n hx hb zd_L_law_209 rfl (lv_at hl 3 rfl) ?_
    refine lv_aload_n hx hb zd_L_law_210 rfl (lv_at hl 5 rfl) ?_
    refine lv_iload hx hb zd_L_law_211 (lv_at hl 1 rfl) ?_
    refine zi_iconst hx hb zd_L_law_213 ?_
    refine zi_iadd hx hb zd_L_law_214 ?_
    refine va_sld hx hb hX hbl hbA hS (iI_in (by omega)) zd_L_law_215 ?_
    refine zi_asx _ n1 (by rw [iI_cl (by omega), hn1, iI_self]) ?_
    refine zk_W (As := [.int (iI (n1))]) (b := qq) (own := "CronFinderLaw") (nL := 8) (rest := []) hx hb hml hown hw (c_Q_end l g qq rf (fl) (ln) (br) (yy) (mm) (dd) (at0) (wa) (on) (tw) (cnt) n1 hc i1) zw_4_174 zw_4_175 zw_4_176 zw_1_7 zw_4_177 (np := 1) (by decide +kernel) rfl ⟨rfl, rfl, Nat.le_of_ble_eq_true rfl, Nat.le_of_ble_eq_true rfl⟩ (fun _ => zN_mv) hK trivial hP hD hS hA [35] rfl (by decide) rfl (va_recv hK hP (ci := 5) (q0 := 35) rfl rfl) hl.1 rfl (Nat.le_of_ble_eq_true rfl) ⟨by show _ ≤ 601024; omega, by show _ ≤ 7293034; omega⟩ zd_L_law_216 (fun H locs hP hD hS => ?_)
    have hP : va_P g.1 zCl [(fq, .inr (0, [.ref (tp), .int (iI (n1)), .ref (pq), .ref (sq), .int (iI (br)), .ref (hq)])), (tp, .inl (g.2 2, 400, .inl (zaI tf))), (sq, .inr (3, [.ref (rb 0), .ref (rb 1), .ref (rb 2), .ref (rb 3), .ref (rb 4), .ref (rb 5), .ref (rb 6), .ref (rl2), .int (iI (sb2)), .int (iI (od2)), .int (zbits (bits2))])), (rb 0, .inr (2, [.int (iI (0)), .int (iI (59)), .ref (ab 0)])), (ab 0, .inl (g.2 1, 60, .inl (zaB (bl 0)))), (rb 1, .inr (2, [.int (iI (0)), .int (iI (59)), .ref (ab 1)])), (ab 1, .inl (g.2 1, 60, .inl (zaB (bl 1)))), (rb 2, .inr (2, [.int (iI (0)), .int (iI (23)), .ref (ab 2)])), (ab 2, .inl (g.2 1, 24, .inl (zaB (bl 2)))), (rb 3, .inr (2, [.int (iI (1)), .int (iI (31)), .ref (ab 3)])), (ab 3, .inl (g.2 1, 31, .inl (zaB (bl 3)))), (rb 4, .inr (2, [.int (iI (1)), .int (iI (12)), .ref (ab 4)])), (ab 4, .inl (g.2 1, 12, .inl (zaB (bl 4)))), (rb 5, .inr (2, [.int (iI (1)), .int (iI (7)), .ref (ab 5)])), (ab 5, .inl (g.2 1, 7, .inl (zaB (bl 5)))), (rb 6, .inr (2, [.int (iI (1970)), .int (iI (2299)), .ref (ab 6)])), (ab 6, .inl (g.2 1, 330, .inl (zaB (bl 6)))), (pq, .inr (3, [.ref (ra 0), .ref (ra 1), .ref (ra 2), .ref (ra 3), .ref (ra 4), .ref (ra 5), .ref (ra 6), .ref (en ru), .int (iI (sub)), .int (iI (od)), .int (zbits (bits))])), (ra 0, .inr (2, [.int (iI (0)), .int (iI (59)), .ref (aa 0)])), (aa 0, .inl (g.2 1, 60, .inl (zaB (al 0)))), (ra 1, .inr (2, [.int (iI (0)), .int (iI (59)), .ref (aa 1)])), (aa 1, .inl (g.2 1, 60, .inl (zaB (al 1)))), (ra 2, .inr (2, [.int (iI (0)), .int (iI (23)), .ref (aa 2)])), (aa 2, .inl (g.2 1, 24, .inl (zaB (al 2)))), (ra 3, .inr (2, [.int (iI (1)), .int (iI (31)), .ref (aa 3)])), (aa 3, .inl (g.2 1, 31, .inl (zaB (al 3)))), (ra 4, .inr (2, [.int (iI (1)), .int (iI (12)), .ref (aa 4)])), (aa 4, .inl (g.2 1, 12, .inl (zaB (al 4)))), (ra 5, .inr (2, [.int (iI (1)), .int (iI (7)), .ref (aa 5)])), (aa 5, .inl (g.2 1, 7, .inl (zaB (al 5)))), (ra 6, .inr (2, [.int (iI (1970)), .int (iI (2299)), .ref (aa 6)])), (aa 6, .inl (g.2 1, 330, .inl (zaB (al 6)))), (hq, .inr (1, [.ref (ha), .int (iI (cnt))])), (ha, .inl (g.2 0, 200, .inl (zaI h))), (oa, .inl (g.2 4, 1, .inr (.inl (zaL (zu ou 0 (n1)))))), (qq, .inr (5, [.int (iI (0)), .ref (rf 0), .int (iI (n1)), .int (iI (br)), .int (iI (yy)), .int (iI (mm)), .int (iI (dd)), .int (iI (at0)), .ref (rf 1), .ref (rf 2), .ref (rf 3), .ref (rf 4), .ref (rf 5), .ref (rf 6), .int (iI (wa)), .int (iI (on)), .int (iI (tw)), .ref (rf 7), .ref (rf 8), .ref (rf 9), .int (iI (cnt))])), (rf 0, .inl (g.2 3, 400, .inl (zaI (zSg tf)))), (rf 7, .inl (g.2 8, 12, .inr (.inr (.inr (.inr (zaR mq)))))), (rf 8, .inl (g.2 8, 7, .inr (.inr (.inr (.inr (zaR wq)))))), (rf 2, .inl (g.2 5, 7, .inr (.inr (.inr (.inr (zaR ta)))))), (ta 0, .inl (g.2 1, 330, .inl (zaB (tr 0)))), (ta 1, .inl (g.2 1, 330, .inl (zaB (tr 1)))), (ta 2, .inl (g.2 1, 330, .inl (zaB (tr 2)))), (ta 3, .inl (g.2 1, 330, .inl (zaB (tr 3)))), (ta 4, .inl (g.2 1, 330, .inl (zaB (tr 4)))), (ta 5, .inl (g.2 1, 330, .inl (zaB (tr 5)))), (ta 6, .inl (g.2 1, 330, .inl (zaB (tr 6)))), (rf 1, .inl (g.2 6, 1, .inr (.inr (.inr (.inr (zaR sa)))))), (sa 0, .inl (g.2 5, 7, .inr (.inr (.inr (.inr (zaR sr)))))), (sr 0, .inl (g.2 1, 330, .inl (zaB (st 0)))), (sr 1, .inl (g.2 1, 330, .inl (zaB (st 1)))), (sr 2, .inl (g.2 1, 330, .inl (zaB (st 2)))), (sr 3, .inl (g.2 1, 330, .inl (zaB (st 3)))), (sr 4, .inl (g.2 1, 330, .inl (zaB (st 4)))), (sr 5, .inl (g.2 1, 330, .inl (zaB (st 5)))), (sr 6, .inl (g.2 1, 330, .inl (zaB (st 6)))), (rf 4, .inl (g.2 7, 1, .inr (.inr (.inr (.inr (zaR wya)))))), (wya 0, .inl (g.2 0, 2, .inl (zaI wf))), (rf 5, .inl (g.2 7, 1, .inr (.inr (.inr (.inr (zaR fa)))))), (fa 0, .inl (g.2 0, 2, .inl (zaI fi))), (rf 6, .inl (g.2 7, 1, .inr (.inr (.inr (.inr (zaR sea)))))), (sea 0, .inl (g.2 0, 2, .inl (zaI sf))), (rf 3, .inl (g.2 1, 1, .inl (zaB to))), (rf 9, .inl (g.2 1, 120530, .inl (zaB hdf)))] H := hP
    have hD : va_D A [(fq, .inr (0, [.ref (tp), .int (iI (n1)), .ref (pq), .ref (sq), .int (iI (br)), .ref (hq)])), (tp, .inl (g.2 2, 400, .inl (zaI tf))), (sq, .inr (3, [.ref (rb 0), .ref (rb 1), .ref (rb 2), .ref (rb 3), .ref (rb 4), .ref (rb 5), .ref (rb 6), .ref (rl2), .int (iI (sb2)), .int (iI (od2)), .int (zbits (bits2))])), (rb 0, .inr (2, [.int (iI (0)), .int (iI (59)), .ref (ab 0)])), (ab 0, .inl (g.2 1, 60, .inl (zaB (bl 0)))), (rb 1, .inr (2, [.int (iI (0)), .int (iI (59)), .ref (ab 1)])), (ab 1, .inl (g.2 1, 60, .inl (zaB (bl 1)))), (rb 2, .inr (2, [.int (iI (0)), .int (iI (23)), .ref (ab 2)])), (ab 2, .inl (g.2 1, 24, .inl (zaB (bl 2)))), (rb 3, .inr (2, [.int (iI (1)), .int (iI (31)), .ref (ab 3)])), (ab 3, .inl (g.2 1, 31, .inl (zaB (bl 3)))), (rb 4, .inr (2, [.int (iI (1)), .int (iI (12)), .ref (ab 4)])), (ab 4, .inl (g.2 1, 12, .inl (zaB (bl 4)))), (rb 5, .inr (2, [.int (iI (1)), .int (iI (7)), .ref (ab 5)])), (ab 5, .inl (g.2 1, 7, .inl (zaB (bl 5)))), (rb 6, .inr (2, [.int (iI (1970)), .int (iI (2299)), .ref (ab 6)])), (ab 6, .inl (g.2 1, 330, .inl (zaB (bl 6)))), (pq, .inr (3, [.ref (ra 0), .ref (ra 1), .ref (ra 2), .ref (ra 3), .ref (ra 4), .ref (ra 5), .ref (ra 6), .ref (en ru), .int (iI (sub)), .int (iI (od)), .int (zbits (bits))])), (ra 0, .inr (2, [.int (iI (0)), .int (iI (59)), .ref (aa 0)])), (aa 0, .inl (g.2 1, 60, .inl (zaB (al 0)))), (ra 1, .inr (2, [.int (iI (0)), .int (iI (59)), .ref (aa 1)])), (aa 1, .inl (g.2 1, 60, .inl (zaB (al 1)))), (ra 2, .inr (2, [.int (iI (0)), .int (iI (23)), .ref (aa 2)])), (aa 2, .inl (g.2 1, 24, .inl (zaB (al 2)))), (ra 3, .inr (2, [.int (iI (1)), .int (iI (31)), .ref (aa 3)])), (aa 3, .inl (g.2 1, 31, .inl (zaB (al 3)))), (ra 4, .inr (2, [.int (iI (1)), .int (iI (12)), .ref (aa 4)])), (aa 4, .inl (g.2 1, 12, .inl (zaB (al 4)))), (ra 5, .inr (2, [.int (iI (1)), .int (iI (7)), .ref (aa 5)])), (aa 5, .inl (g.2 1, 7, .inl (zaB (al 5)))), (ra 6, .inr (2, [.int (iI (1970)), .int (iI (2299)), .ref (aa 6)])), (aa 6, .inl (g.2 1, 330, .inl (zaB (al 6)))), (hq, .inr (1, [.ref (ha), .int (iI (cnt))])), (ha, .inl (g.2 0, 200, .inl (zaI h))), (oa, .inl (g.2 4, 1, .inr (.inl (zaL (zu ou 0 (n1)))))), (qq, .inr (5, [.int (iI (0)), .ref (rf 0), .int (iI (n1)), .int (iI (br)), .int (iI (yy)), .int (iI (mm)), .int (iI (dd)), .int (iI (at0)), .ref (rf 1), .ref (rf 2), .ref (rf 3), .ref (rf 4), .ref (rf 5), .ref (rf 6), .int (iI (wa)), .int (iI (on)), .int (iI (tw)), .ref (rf 7), .ref (rf 8), .ref (rf 9), .int (iI (cnt))])), (rf 0, .inl (g.2 3, 400, .inl (zaI (zSg tf)))), (rf 7, .inl (g.2 8, 12, .inr (.inr (.inr (.inr (zaR mq)))))), (rf 8, .inl (g.2 8, 7, .inr (.inr (.inr (.inr (zaR wq)))))), (rf 2, .inl (g.2 5, 7, .inr (.inr (.inr (.inr (zaR ta)))))), (ta 0, .inl (g.2 1, 330, .inl (zaB (tr 0)))), (ta 1, .inl (g.2 1, 330, .inl (zaB (tr 1)))), (ta 2, .inl (g.2 1, 330, .inl (zaB (tr 2)))), (ta 3, .inl (g.2 1, 330, .inl (zaB (tr 3)))), (ta 4, .inl (g.2 1, 330, .inl (zaB (tr 4)))), (ta 5, .inl (g.2 1, 330, .inl (zaB (tr 5)))), (ta 6, .inl (g.2 1, 330, .inl (zaB (tr 6)))), (rf 1, .inl (g.2 6, 1, .inr (.inr (.inr (.inr (zaR sa)))))), (sa 0, .inl (g.2 5, 7, .inr (.inr (.inr (.inr (zaR sr)))))), (sr 0, .inl (g.2 1, 330, .inl (zaB (st 0)))), (sr 1, .inl (g.2 1, 330, .inl (zaB (st 1)))), (sr 2, .inl (g.2 1, 330, .inl (zaB (st 2)))), (sr 3, .inl (g.2 1, 330, .inl (zaB (st 3)))), (sr 4, .inl (g.2 1, 330, .inl (zaB (st 4)))), (sr 5, .inl (g.2 1, 330, .inl (zaB (st 5)))), (sr 6, .inl (g.2 1, 330, .inl (zaB (st 6)))), (rf 4, .inl (g.2 7, 1, .inr (.inr (.inr (.inr (zaR wya)))))), (wya 0, .inl (g.2 0, 2, .inl (zaI wf))), (rf 5, .inl (g.2 7, 1, .inr (.inr (.inr (.inr (zaR fa)))))), (fa 0, .inl (g.2 0, 2, .inl (zaI fi))), (rf 6, .inl (g.2 7, 1, .inr (.inr (.inr (.inr (zaR sea)))))), (sea 0, .inl (g.2 0, 2, .inl (zaI sf))), (rf 3, .inl (g.2 1, 1, .inl (zaB to))), (rf 9, .inl (g.2 1, 120530, .inl (zaB hdf)))] := hD
    refine lv_istore (lv' := [(6, .int (iI (n1))), (5, .int (iI (0))), (4, .int (iI (i))), (3, .ref (oa)), (2, .ref (qq)), (1, .ref (fq)), (0, .ref (b))]) hx hb zd_L_law_219 hl (by decide) rfl (fun ls hl => ?_)
    refine lv_aload_n hx hb zd_L_law_221 rfl (lv_at hl 4 rfl) ?_
    refine zk_V (As := []) (b := qq) (own := "CronFinderLaw") (nL := 8) (rest := []) hx hb hml hown hw (c_Q_thrown l g qq rf (0) (n1) (br) (yy) (mm) (dd) (at0) (wa) (on) (tw) (cnt)) zw_4_22 zw_4_23 zw_4_24 zw_1_7 zw_4_25 (np := 0) (by decide +kernel) rfl ⟨rfl, rfl, Nat.le_of_ble_eq_true rfl, Nat.le_of_ble_eq_true rfl⟩ zN_mv hK trivial (hP.sub (ws' := [(qq, .inr (5, [.int (iI (0)), .ref (rf 0), .int (iI (n1)), .int (iI (br)), .int (iI (yy)), .int (iI (mm)), .int (iI (dd)), .int (iI (at0)), .ref (rf 1), .ref (rf 2), .ref (rf 3), .ref (rf 4), .ref (rf 5), .ref (rf 6), .int (iI (wa)), .int (iI (on)), .int (iI (tw)), .ref (rf 7), .ref (rf 8), .ref (rf 9), .int (iI (cnt))]))]) [35] rfl) (va_recv hK hP (ci := 5) (q0 := 35) rfl rfl) hl.1 rfl (Nat.le_of_ble_eq_true rfl) ⟨by show _ ≤ 601024; omega, by show _ ≤ 7293034; omega⟩ zd_L_law_222 ?_
    refine lv_iload hx hb zd_L_law_225 (lv_at hl 1 rfl) ?_
    refine zi_icmp_eq (tgt := 232) hx hb zd_L_law_227 (by decide) (by omega) (fun _ => ?_) (fun c227 => absurd c227 (by decide))
    refine lv_iload hx hb zd_L_law_232 (lv_at hl 1 rfl) ?_
    refine zi_if_ne (tgt := 249) hx hb zd_L_law_234 (by decide) (by omega) (fun c234 => absurd c234 (by decide)) (fun _ => ?_)
    refine lv_aload_n hx hb zd_L_law_237 rfl (lv_at hl 3 rfl) ?_
    refine zi_iconst hx hb zd_L_law_238 ?_
    refine zi_lald hx hb hK hP 34 4 rfl rfl (by omega) zd_L_law_239 ?_
    refine zl_as (n1) rfl ?_
    refine lv_iload hx hb zd_L_law_240 (lv_at hl 0 rfl) ?_
    refine zi_i2l hx hb zd_L_law_242 (by omega) ?_
    refine zl_cmp_eq (tgt := 249) hx hb zd_L_law_243 zd_L_law_244 (by decide) (by omega) (fun c243 => ?_) (fun c243 => ?_)
    · refine lv_goto (tgt := 741) hx hb zd_L_law_249 (by decide) ?_
      refine W.widen (k := cells + 4) (n := slots + 24) (by omega) (by omega) ?_
      exact kk 0 n1 br yy mm dd at0 wa on tw cnt sub od sb2 od2 pq sq ra aa rb ab ru rl2 al bl tr st bits bits2 tf h wf fi sf (zu ou 0 (n1)) to hdf hol H locs ls ⟨by omega, i2, i3, i4, i5, i6, i7, i8, i9, i10, i11⟩ hP hD hS (lv_sub hl [2, 3, 4, 5, 6] rfl)
    · exact absurd rfl c243
  · refine zk_CS (As := [.ref (fq), .int (iI (n1)), .ref (oa)]) (own := "CronFinderLaw") (nL := 8) (rest := []) hx hb hml hown hw (c_L_end_x l g hl0 fq tp ln pq sq br hq n1 hr1 (by omega) i1 t en tz q1 v1 q2 v2 kt oa ou) zw_1_209 zw_1_210 zw_1_0 zw_1_211 (np := 3) (by decide +kernel) rfl ⟨rfl, rfl, Nat.le_of_ble_eq_true rfl, Nat.le_of_ble_eq_true rfl⟩ (zLw_mv t en tz q1 v1 q2 v2 kt) hK (zLw_nar (zLw_now hT hS) (va_free hD hS hA [0, 34] rfl)) hP hD hS hA [0, 34] rfl (by decide) (fun _ => rfl) hl.1 rfl (Nat.le_of_ble_eq_true rfl) ⟨by show _ ≤ 601024; omega, by show _ ≤ 7293034; omega⟩ zd_L_law_204 (fun u204 H locs hP hD hS => ?_)
    have hP : va_P g.1 zCl [(fq, .inr (0, [.ref (tp), .int (iI (ln)), .ref (pq), .ref (sq), .int (iI (br)), .ref (hq)])), (tp, .inl (g.2 2, 400, .inl (zaI tf))), (sq, .inr (3, [.ref (rb 0), .ref (rb 1), .ref (rb 2), .ref (rb 3), .ref (rb 4), .ref (rb 5), .ref (rb 6), .ref (rl2), .int (iI (sb2)), .int (iI (od2)), .int (zbits (bits2))])), (rb 0, .inr (2, [.int (iI (0)), .int (iI (59)), .ref (ab 0)])), (ab 0, .inl (g.2 1, 60, .inl (zaB (bl 0)))), (rb 1, .inr (2, [.int (iI (0)), .int (iI (59)), .ref (ab 1)])), (ab 1, .inl (g.2 1, 60, .inl (zaB (bl 1)))), (rb 2, .inr (2, [.int (iI (0)), .int (iI (23)), .ref (ab 2)])), (ab 2, .inl (g.2 1, 24, .inl (zaB (bl 2)))), (rb 3, .inr (2, [.int (iI (1)), .int (iI (31)), .ref (ab 3)])), (ab 3, .inl (g.2 1, 31, .inl (zaB (bl 3)))), (rb 4, .inr (2, [.int (iI (1)), .int (iI (12)), .ref (ab 4)])), (ab 4, .inl (g.2 1, 12, .inl (zaB (bl 4)))), (rb 5, .inr (2, [.int (iI (1)), .int (iI (7)), .ref (ab 5)])), (ab 5, .inl (g.2 1, 7, .inl (zaB (bl 5)))), (rb 6, .inr (2, [.int (iI (1970)), .int (iI (2299)), .ref (ab 6)])), (ab 6, .inl (g.2 1, 330, .inl (zaB (bl 6)))), (pq, .inr (3, [.ref (ra 0), .ref (ra 1), .ref (ra 2), .ref (ra 3), .ref (ra 4), .ref (ra 5), .ref (ra 6), .ref (en ru), .int (iI (sub)), .int (iI (od)), .int (zbits (bits))])), (ra 0, .inr (2, [.int (iI (0)), .int (iI (59)), .ref (aa 0)])), (aa 0, .inl (g.2 1, 60, .inl (zaB (al 0)))), (ra 1, .inr (2, [.int (iI (0)), .int (iI (59)), .ref (aa 1)])), (aa 1, .inl (g.2 1, 60, .inl (zaB (al 1)))), (ra 2, .inr (2, [.int (iI (0)), .int (iI (23)), .ref (aa 2)])), (aa 2, .inl (g.2 1, 24, .inl (zaB (al 2)))), (ra 3, .inr (2, [.int (iI (1)), .int (iI (31)), .ref (aa 3)])), (aa 3, .inl (g.2 1, 31, .inl (zaB (al 3)))), (ra 4, .inr (2, [.int (iI (1)), .int (iI (12)), .ref (aa 4)])), (aa 4, .inl (g.2 1, 12, .inl (zaB (al 4)))), (ra 5, .inr (2, [.int (iI (1)), .int (iI (7)), .ref (aa 5)])), (aa 5, .inl (g.2 1, 7, .inl (zaB (al 5)))), (ra 6, .inr (2, [.int (iI (1970)), .int (iI (2299)), .ref (aa 6)])), (aa 6, .inl (g.2 1, 330, .inl (zaB (al 6)))), (hq, .inr (1, [.ref (ha), .int (iI (cnt))])), (ha, .inl (g.2 0, 200, .inl (zaI h))), (oa, .inl (g.2 4, 1, .inr (.inl (zaL ou)))), (qq, .inr (5, [.int (iI (fl)), .ref (rf 0), .int (iI (ln)), .int (iI (br)), .int (iI (yy)), .int (iI (mm)), .int (iI (dd)), .int (iI (at0)), .ref (rf 1), .ref (rf 2), .ref (rf 3), .ref (rf 4), .ref (rf 5), .ref (rf 6), .int (iI (wa)), .int (iI (on)), .int (iI (tw)), .ref (rf 7), .ref (rf 8), .ref (rf 9), .int (iI (cnt))])), (rf 0, .inl (g.2 3, 400, .inl (zaI (zSg tf)))), (rf 7, .inl (g.2 8, 12, .inr (.inr (.inr (.inr (zaR mq)))))), (rf 8, .inl (g.2 8, 7, .inr (.inr (.inr (.inr (zaR wq)))))), (rf 2, .inl (g.2 5, 7, .inr (.inr (.inr (.inr (zaR ta)))))), (ta 0, .inl (g.2 1, 330, .inl (zaB (tr 0)))), (ta 1, .inl (g.2 1, 330, .inl (zaB (tr 1)))), (ta 2, .inl (g.2 1, 330, .inl (zaB (tr 2)))), (ta 3, .inl (g.2 1, 330, .inl (zaB (tr 3)))), (ta 4, .inl (g.2 1, 330, .inl (zaB (tr 4)))), (ta 5, .inl (g.2 1, 330, .inl (zaB (tr 5)))), (ta 6, .inl (g.2 1, 330, .inl (zaB (tr 6)))), (rf 1, .inl (g.2 6, 1, .inr (.inr (.inr (.inr (zaR sa)))))), (sa 0, .inl (g.2 5, 7, .inr (.inr (.inr (.inr (zaR sr)))))), (sr 0, .inl (g.2 1, 330, .inl (zaB (st 0)))), (sr 1, .inl (g.2 1, 330, .inl (zaB (st 1)))), (sr 2, .inl (g.2 1, 330, .inl (zaB (st 2)))), (sr 3, .inl (g.2 1, 330, .inl (zaB (st 3)))), (sr 4, .inl (g.2 1, 330, .inl (zaB (st 4)))), (sr 5, .inl (g.2 1, 330, .inl (zaB (st 5)))), (sr 6, .inl (g.2 1, 330, .inl (zaB (st 6)))), (rf 4, .inl (g.2 7, 1, .inr (.inr (.inr (.inr (zaR wya)))))), (wya 0, .inl (g.2 0, 2, .inl (zaI wf))), (rf 5, .inl (g.2 7, 1, .inr (.inr (.inr (.inr (zaR fa)))))), (fa 0, .inl (g.2 0, 2, .inl (zaI fi))), (rf 6, .inl (g.2 7, 1, .inr (.inr (.inr (.inr (zaR sea)))))), (sea 0, .inl (g.2 0, 2, .inl (zaI sf))), (rf 3, .inl (g.2 1, 1, .inl (zaB to))), (rf 9, .inl (g.2 1, 120530, .inl (zaB hdf)))] H := hP
    have hD : va_D A [(fq, .inr (0, [.ref (tp), .int (iI (ln)), .ref (pq), .ref (sq), .int (iI (br)), .ref (hq)])), (tp, .inl (g.2 2, 400, .inl (zaI tf))), (sq, .inr (3, [.ref (rb 0), .ref (rb 1), .ref (rb 2), .ref (rb 3), .ref (rb 4), .ref (rb 5), .ref (rb 6), .ref (rl2), .int (iI (sb2)), .int (iI (od2)), .int (zbits (bits2))])), (rb 0, .inr (2, [.int (iI (0)), .int (iI (59)), .ref (ab 0)])), (ab 0, .inl (g.2 1, 60, .inl (zaB (bl 0)))), (rb 1, .inr (2, [.int (iI (0)), .int (iI (59)), .ref (ab 1)])), (ab 1, .inl (g.2 1, 60, .inl (zaB (bl 1)))), (rb 2, .inr (2, [.int (iI (0)), .int (iI (23)), .ref (ab 2)])), (ab 2, .inl (g.2 1, 24, .inl (zaB (bl 2)))), (rb 3, .inr (2, [.int (iI (1)), .int (iI (31)), .ref (ab 3)])), (ab 3, .inl (g.2 1, 31, .inl (zaB (bl 3)))), (rb 4, .inr (2, [.int (iI (1)), .int (iI (12)), .ref (ab 4)])), (ab 4, .inl (g.2 1, 12, .inl (zaB (bl 4)))), (rb 5, .inr (2, [.int (iI (1)), .int (iI (7)), .ref (ab 5)])), (ab 5, .inl (g.2 1, 7, .inl (zaB (bl 5)))), (rb 6, .inr (2, [.int (iI (1970)), .int (iI (2299)), .ref (ab 6)])), (ab 6, .inl (g.2 1, 330, .inl (zaB (bl 6)))), (pq, .inr (3, [.ref (ra 0), .ref (ra 1), .ref (ra 2), .ref (ra 3), .ref (ra 4), .ref (ra 5), .ref (ra 6), .ref (en ru), .int (iI (sub)), .int (iI (od)), .int (zbits (bits))])), (ra 0, .inr (2, [.int (iI (0)), .int (iI (59)), .ref (aa 0)])), (aa 0, .inl (g.2 1, 60, .inl (zaB (al 0)))), (ra 1, .inr (2, [.int (iI (0)), .int (iI (59)), .ref (aa 1)])), (aa 1, .inl (g.2 1, 60, .inl (zaB (al 1)))), (ra 2, .inr (2, [.int (iI (0)), .int (iI (23)), .ref (aa 2)])), (aa 2, .inl (g.2 1, 24, .inl (zaB (al 2)))), (ra 3, .inr (2, [.int (iI (1)), .int (iI (31)), .ref (aa 3)])), (aa 3, .inl (g.2 1, 31, .inl (zaB (al 3)))), (ra 4, .inr (2, [.int (iI (1)), .int (iI (12)), .ref (aa 4)])), (aa 4, .inl (g.2 1, 12, .inl (zaB (al 4)))), (ra 5, .inr (2, [.int (iI (1)), .int (iI (7)), .ref (aa 5)])), (aa 5, .inl (g.2 1, 7, .inl (zaB (al 5)))), (ra 6, .inr (2, [.int (iI (1970)), .int (iI (2299)), .ref (aa 6)])), (aa 6, .inl (g.2 1, 330, .inl (zaB (al 6)))), (hq, .inr (1, [.ref (ha), .int (iI (cnt))])), (ha, .inl (g.2 0, 200, .inl (zaI h))), (oa, .inl (g.2 4, 1, .inr (.inl (zaL ou)))), (qq, .inr (5, [.int (iI (fl)), .ref (rf 0), .int (iI (ln)), .int (iI (br)), .int (iI (yy)), .int (iI (mm)), .int (iI (dd)), .int (iI (at0)), .ref (rf 1), .ref (rf 2), .ref (rf 3), .ref (rf 4), .ref (rf 5), .ref (rf 6), .int (iI (wa)), .int (iI (on)), .int (iI (tw)), .ref (rf 7), .ref (rf 8), .ref (rf 9), .int (iI (cnt))])), (rf 0, .inl (g.2 3, 400, .inl (zaI (zSg tf)))), (rf 7, .inl (g.2 8, 12, .inr (.inr (.inr (.inr (zaR mq)))))), (rf 8, .inl (g.2 8, 7, .inr (.inr (.inr (.inr (zaR wq)))))), (rf 2, .inl (g.2 5, 7, .inr (.inr (.inr (.inr (zaR ta)))))), (ta 0, .inl (g.2 1, 330, .inl (zaB (tr 0)))), (ta 1, .inl (g.2 1, 330, .inl (zaB (tr 1)))), (ta 2, .inl (g.2 1, 330, .inl (zaB (tr 2)))), (ta 3, .inl (g.2 1, 330, .inl (zaB (tr 3)))), (ta 4, .inl (g.2 1, 330, .inl (zaB (tr 4)))), (ta 5, .inl (g.2 1, 330, .inl (zaB (tr 5)))), (ta 6, .inl (g.2 1, 330, .inl (zaB (tr 6)))), (rf 1, .inl (g.2 6, 1, .inr (.inr (.inr (.inr (zaR sa)))))), (sa 0, .inl (g.2 5, 7, .inr (.inr (.inr (.inr (zaR sr)))))), (sr 0, .inl (g.2 1, 330, .inl (zaB (st 0)))), (sr 1, .inl (g.2 1, 330, .inl (zaB (st 1)))), (sr 2, .inl (g.2 1, 330, .inl (zaB (st 2)))), (sr 3, .inl (g.2 1, 330, .inl (zaB (st 3)))), (sr 4, .inl (g.2 1, 330, .inl (zaB (st 4)))), (sr 5, .inl (g.2 1, 330, .inl (zaB (st 5)))), (sr 6, .inl (g.2 1, 330, .inl (zaB (st 6)))), (rf 4, .inl (g.2 7, 1, .inr (.inr (.inr (.inr (zaR wya)))))), (wya 0, .inl (g.2 0, 2, .inl (zaI wf))), (rf 5, .inl (g.2 7, 1, .inr (.inr (.inr (.inr (zaR fa)))))), (fa 0, .inl (g.2 0, 2, .inl (zaI fi))), (rf 6, .inl (g.2 7, 1, .inr (.inr (.inr (.inr (zaR sea)))))), (sea 0, .inl (g.2 0, 2, .inl (zaI sf))), (rf 3, .inl (g.2 1, 1, .inl (zaB to))), (rf 9, .inl (g.2 1, 120530, .inl (zaB hdf)))] := hD
    refine lv_istore (lv' := [(5, .int (iI (1))), (4, .int (iI (i))), (3, .ref (oa)), (2, .ref (qq)), (1, .ref (fq)), (0, .ref (b))]) hx hb zd_L_law_207 hl (by decide) rfl (fun ls hl => ?_)
    refine lv_aload_n hx hb zd_L_law_209 rfl (lv_at hl 3 rfl) ?_
    refine lv_aload_n hx hb zd_L_law_210 rfl (lv_at hl 5 rfl) ?_
    refine lv_iload hx hb zd_L_law_211 (lv_at hl 1 rfl) ?_
    refine zi_iconst hx hb zd_L_law_213 ?_
    refine zi_iadd hx hb zd_L_law_214 ?_
    refine va_sld hx hb hX hbl hbA hS (iI_in (by omega)) zd_L_law_215 ?_
    refine zi_asx _ n1 (by rw [iI_cl (by omega), hn1, iI_self]) ?_
    refine zk_W (As := [.int (iI (n1))]) (b := qq) (own := "CronFinderLaw") (nL := 8) (rest := []) hx hb hml hown hw (c_Q_end_x l g qq rf (fl) (ln) (br) (yy) (mm) (dd) (at0) (wa) (on) (tw) (cnt) n1 hr1 (by omega) i1) zw_4_174 zw_4_175 zw_4_176 zw_1_7 zw_4_177 (np := 1) (by decide +kernel) rfl ⟨rfl, rfl, Nat.le_of_ble_eq_true rfl, Nat.le_of_ble_eq_true rfl⟩ (fun _ => zN_mv) hK trivial hP hD hS hA [35] rfl (by decide) rfl (va_recv hK hP (ci := 5) (q0 := 35) rfl rfl) hl.1 rfl (Nat.le_of_ble_eq_true rfl) ⟨by show _ ≤ 601024; omega, by show _ ≤ 7293034; omega⟩ zd_L_law_216 (fun H locs hP hD hS => ?_)
    have hP : va_P g.1 zCl [(fq, .inr (0, [.ref (tp), .int (iI (ln)), .ref (pq), .ref (sq), .int (iI (br)), .ref (hq)])), (tp, .inl (g.2 2, 400, .inl (zaI tf))), (sq, .inr (3, [.ref (rb 0), .ref (rb 1), .ref (rb 2), .ref (rb 3), .ref (rb 4), .ref (rb 5), .ref (rb 6), .ref (rl2), .int (iI (sb2)), .int (iI (od2)), .int (zbits (bits2))])), (rb 0, .inr (2, [.int (iI (0)), .int (iI (59)), .ref (ab 0)])), (ab 0, .inl (g.2 1, 60, .inl (zaB (bl 0)))), (rb 1, .inr (2, [.int (iI (0)), .int (iI (59)), .ref (ab 1)])), (ab 1, .inl (g.2 1, 60, .inl (zaB (bl 1)))), (rb 2, .inr (2, [.int (iI (0)), .int (iI (23)), .ref (ab 2)])), (ab 2, .inl (g.2 1, 24, .inl (zaB (bl 2)))), (rb 3, .inr (2, [.int (iI (1)), .int (iI (31)), .ref (ab 3)])), (ab 3, .inl (g.2 1, 31, .inl (zaB (bl 3)))), (rb 4, .inr (2, [.int (iI (1)), .int (iI (12)), .ref (ab 4)])), (ab 4, .inl (g.2 1, 12, .inl (zaB (bl 4)))), (rb 5, .inr (2, [.int (iI (1)), .int (iI (7)), .ref (ab 5)])), (ab 5, .inl (g.2 1, 7, .inl (zaB (bl 5)))), (rb 6, .inr (2, [.int (iI (1970)), .int (iI (2299)), .ref (ab 6)])), (ab 6, .inl (g.2 1, 330, .inl (zaB (bl 6)))), (pq, .inr (3, [.ref (ra 0), .ref (ra 1), .ref (ra 2), .ref (ra 3), .ref (ra 4), .ref (ra 5), .ref (ra 6), .ref (en ru), .int (iI (sub)), .int (iI (od)), .int (zbits (bits))])), (ra 0, .inr (2, [.int (iI (0)), .int (iI (59)), .ref (aa 0)])), (aa 0, .inl (g.2 1, 60, .inl (zaB (al 0)))), (ra 1, .inr (2, [.int (iI (0)), .int (iI (59)), .ref (aa 1)])), (aa 1, .inl (g.2 1, 60, .inl (zaB (al 1)))), (ra 2, .inr (2, [.int (iI (0)), .int (iI (23)), .ref (aa 2)])), (aa 2, .inl (g.2 1, 24, .inl (zaB (al 2)))), (ra 3, .inr (2, [.int (iI (1)), .int (iI (31)), .ref (aa 3)])), (aa 3, .inl (g.2 1, 31, .inl (zaB (al 3)))), (ra 4, .inr (2, [.int (iI (1)), .int (iI (12)), .ref (aa 4)])), (aa 4, .inl (g.2 1, 12, .inl (zaB (al 4)))), (ra 5, .inr (2, [.int (iI (1)), .int (iI (7)), .ref (aa 5)])), (aa 5, .inl (g.2 1, 7, .inl (zaB (al 5)))), (ra 6, .inr (2, [.int (iI (1970)), .int (iI (2299)), .ref (aa 6)])), (aa 6, .inl (g.2 1, 330, .inl (zaB (al 6)))), (hq, .inr (1, [.ref (ha), .int (iI (cnt))])), (ha, .inl (g.2 0, 200, .inl (zaI h))), (oa, .inl (g.2 4, 1, .inr (.inl (zaL ou)))), (qq, .inr (5, [.int (iI (1)), .ref (rf 0), .int (iI (ln)), .int (iI (br)), .int (iI (yy)), .int (iI (mm)), .int (iI (dd)), .int (iI (at0)), .ref (rf 1), .ref (rf 2), .ref (rf 3), .ref (rf 4), .ref (rf 5), .ref (rf 6), .int (iI (wa)), .int (iI (on)), .int (iI (tw)), .ref (rf 7), .ref (rf 8), .ref (rf 9), .int (iI (cnt))])), (rf 0, .inl (g.2 3, 400, .inl (zaI (zSg tf)))), (rf 7, .inl (g.2 8, 12, .inr (.inr (.inr (.inr (zaR mq)))))), (rf 8, .inl (g.2 8, 7, .inr (.inr (.inr (.inr (zaR wq)))))), (rf 2, .inl (g.2 5, 7, .inr (.inr (.inr (.inr (zaR ta)))))), (ta 0, .inl (g.2 1, 330, .inl (zaB (tr 0)))), (ta 1, .inl (g.2 1, 330, .inl (zaB (tr 1)))), (ta 2, .inl (g.2 1, 330, .inl (zaB (tr 2)))), (ta 3, .inl (g.2 1, 330, .inl (zaB (tr 3)))), (ta 4, .inl (g.2 1, 330, .inl (zaB (tr 4)))), (ta 5, .inl (g.2 1, 330, .inl (zaB (tr 5)))), (ta 6, .inl (g.2 1, 330, .inl (zaB (tr 6)))), (rf 1, .inl (g.2 6, 1, .inr (.inr (.inr (.inr (zaR sa)))))), (sa 0, .inl (g.2 5, 7, .inr (.inr (.inr (.inr (zaR sr)))))), (sr 0, .inl (g.2 1, 330, .inl (zaB (st 0)))), (sr 1, .inl (g.2 1, 330, .inl (zaB (st 1)))), (sr 2, .inl (g.2 1, 330, .inl (zaB (st 2)))), (sr 3, .inl (g.2 1, 330, .inl (zaB (st 3)))), (sr 4, .inl (g.2 1, 330, .inl (zaB (st 4)))), (sr 5, .inl (g.2 1, 330, .inl (zaB (st 5)))), (sr 6, .inl (g.2 1, 330, .inl (zaB (st 6)))), (rf 4, .inl (g.2 7, 1, .inr (.inr (.inr (.inr (zaR wya)))))), (wya 0, .inl (g.2 0, 2, .inl (zaI wf))), (rf 5, .inl (g.2 7, 1, .inr (.inr (.inr (.inr (zaR fa)))))), (fa 0, .inl (g.2 0, 2, .inl (zaI fi))), (rf 6, .inl (g.2 7, 1, .inr (.inr (.inr (.inr (zaR sea)))))), (sea 0, .inl (g.2 0, 2, .inl (zaI sf))), (rf 3, .inl (g.2 1, 1, .inl (zaB to))), (rf 9, .inl (g.2 1, 120530, .inl (zaB hdf)))] H := hP
    have hD : va_D A [(fq, .inr (0, [.ref (tp), .int (iI (ln)), .ref (pq), .ref (sq), .int (iI (br)), .ref (hq)])), (tp, .inl (g.2 2, 400, .inl (zaI tf))), (sq, .inr (3, [.ref (rb 0), .ref (rb 1), .ref (rb 2), .ref (rb 3), .ref (rb 4), .ref (rb 5), .ref (rb 6), .ref (rl2), .int (iI (sb2)), .int (iI (od2)), .int (zbits (bits2))])), (rb 0, .inr (2, [.int (iI (0)), .int (iI (59)), .ref (ab 0)])), (ab 0, .inl (g.2 1, 60, .inl (zaB (bl 0)))), (rb 1, .inr (2, [.int (iI (0)), .int (iI (59)), .ref (ab 1)])), (ab 1, .inl (g.2 1, 60, .inl (zaB (bl 1)))), (rb 2, .inr (2, [.int (iI (0)), .int (iI (23)), .ref (ab 2)])), (ab 2, .inl (g.2 1, 24, .inl (zaB (bl 2)))), (rb 3, .inr (2, [.int (iI (1)), .int (iI (31)), .ref (ab 3)])), (ab 3, .inl (g.2 1, 31, .inl (zaB (bl 3)))), (rb 4, .inr (2, [.int (iI (1)), .int (iI (12)), .ref (ab 4)])), (ab 4, .inl (g.2 1, 12, .inl (zaB (bl 4)))), (rb 5, .inr (2, [.int (iI (1)), .int (iI (7)), .ref (ab 5)])), (ab 5, .inl (g.2 1, 7, .inl (zaB (bl 5)))), (rb 6, .inr (2, [.int (iI (1970)), .int (iI (2299)), .ref (ab 6)])), (ab 6, .inl (g.2 1, 330, .inl (zaB (bl 6)))), (pq, .inr (3, [.ref (ra 0), .ref (ra 1), .ref (ra 2), .ref (ra 3), .ref (ra 4), .ref (ra 5), .ref (ra 6), .ref (en ru), .int (iI (sub)), .int (iI (od)), .int (zbits (bits))])), (ra 0, .inr (2, [.int (iI (0)), .int (iI (59)), .ref (aa 0)])), (aa 0, .inl (g.2 1, 60, .inl (zaB (al 0)))), (ra 1, .inr (2, [.int (iI (0)), .int (iI (59)), .ref (aa 1)])), (aa 1, .inl (g.2 1, 60, .inl (zaB (al 1)))), (ra 2, .inr (2, [.int (iI (0)), .int (iI (23)), .ref (aa 2)])), (aa 2, .inl (g.2 1, 24, .inl (zaB (al 2)))), (ra 3, .inr (2, [.int (iI (1)), .int (iI (31)), .ref (aa 3)])), (aa 3, .inl (g.2 1, 31, .inl (zaB (al 3)))), (ra 4, .inr (2, [.int (iI (1)), .int (iI (12)), .ref (aa 4)])), (aa 4, .inl (g.2 1, 12, .inl (zaB (al 4)))), (ra 5, .inr (2, [.int (iI (1)), .int (iI (7)), .ref (aa 5)])), (aa 5, .inl (g.2 1, 7, .inl (zaB (al 5)))), (ra 6, .inr (2, [.int (iI (1970)), .int (iI (2299)), .ref (aa 6)])), (aa 6, .inl (g.2 1, 330, .inl (zaB (al 6)))), (hq, .inr (1, [.ref (ha), .int (iI (cnt))])), (ha, .inl (g.2 0, 200, .inl (zaI h))), (oa, .inl (g.2 4, 1, .inr (.inl (zaL ou)))), (qq, .inr (5, [.int (iI (1)), .ref (rf 0), .int (iI (ln)), .int (iI (br)), .int (iI (yy)), .int (iI (mm)), .int (iI (dd)), .int (iI (at0)), .ref (rf 1), .ref (rf 2), .ref (rf 3), .ref (rf 4), .ref (rf 5), .ref (rf 6), .int (iI (wa)), .int (iI (on)), .int (iI (tw)), .ref (rf 7), .ref (rf 8), .ref (rf 9), .int (iI (cnt))])), (rf 0, .inl (g.2 3, 400, .inl (zaI (zSg tf)))), (rf 7, .inl (g.2 8, 12, .inr (.inr (.inr (.inr (zaR mq)))))), (rf 8, .inl (g.2 8, 7, .inr (.inr (.inr (.inr (zaR wq)))))), (rf 2, .inl (g.2 5, 7, .inr (.inr (.inr (.inr (zaR ta)))))), (ta 0, .inl (g.2 1, 330, .inl (zaB (tr 0)))), (ta 1, .inl (g.2 1, 330, .inl (zaB (tr 1)))), (ta 2, .inl (g.2 1, 330, .inl (zaB (tr 2)))), (ta 3, .inl (g.2 1, 330, .inl (zaB (tr 3)))), (ta 4, .inl (g.2 1, 330, .inl (zaB (tr 4)))), (ta 5, .inl (g.2 1, 330, .inl (zaB (tr 5)))), (ta 6, .inl (g.2 1, 330, .inl (zaB (tr 6)))), (rf 1, .inl (g.2 6, 1, .inr (.inr (.inr (.inr (zaR sa)))))), (sa 0, .inl (g.2 5, 7, .inr (.inr (.inr (.inr (zaR sr)))))), (sr 0, .inl (g.2 1, 330, .inl (zaB (st 0)))), (sr 1, .inl (g.2 1, 330, .inl (zaB (st 1)))), (sr 2, .inl (g.2 1, 330, .inl (zaB (st 2)))), (sr 3, .inl (g.2 1, 330, .inl (zaB (st 3)))), (sr 4, .inl (g.2 1, 330, .inl (zaB (st 4)))), (sr 5, .inl (g.2 1, 330, .inl (zaB (st 5)))), (sr 6, .inl (g.2 1, 330, .inl (zaB (st 6)))), (rf 4, .inl (g.2 7, 1, .inr (.inr (.inr (.inr (zaR wya)))))), (wya 0, .inl (g.2 0, 2, .inl (zaI wf))), (rf 5, .inl (g.2 7, 1, .inr (.inr (.inr (.inr (zaR fa)))))), (fa 0, .inl (g.2 0, 2, .inl (zaI fi))), (rf 6, .inl (g.2 7, 1, .inr (.inr (.inr (.inr (zaR sea)))))), (sea 0, .inl (g.2 0, 2, .inl (zaI sf))), (rf 3, .inl (g.2 1, 1, .inl (zaB to))), (rf 9, .inl (g.2 1, 120530, .inl (zaB hdf)))] := hD
    refine lv_istore (lv' := [(6, .int (iI (0))), (5, .int (iI (1))), (4, .int (iI (i))), (3, .ref (oa)), (2, .ref (qq)), (1, .ref (fq)), (0, .ref (b))]) hx hb zd_L_law_219 hl (by decide) rfl (fun ls hl => ?_)
    refine lv_aload_n hx hb zd_L_law_221 rfl (lv_at hl 4 rfl) ?_
    refine zk_V (As := []) (b := qq) (own := "CronFinderLaw") (nL := 8) (rest := []) hx hb hml hown hw (c_Q_thrown l g qq rf (1) (ln) (br) (yy) (mm) (dd) (at0) (wa) (on) (tw) (cnt)) zw_4_22 zw_4_23 zw_4_24 zw_1_7 zw_4_25 (np := 0) (by decide +kernel) rfl ⟨rfl, rfl, Nat.le_of_ble_eq_true rfl, Nat.le_of_ble_eq_true rfl⟩ zN_mv hK trivial (hP.sub (ws' := [(qq, .inr (5, [.int (iI (1)), .ref (rf 0), .int (iI (ln)), .int (iI (br)), .int (iI (yy)), .int (iI (mm)), .int (iI (dd)), .int (iI (at0)), .ref (rf 1), .ref (rf 2), .ref (rf 3), .ref (rf 4), .ref (rf 5), .ref (rf 6), .int (iI (wa)), .int (iI (on)), .int (iI (tw)), .ref (rf 7), .ref (rf 8), .ref (rf 9), .int (iI (cnt))]))]) [35] rfl) (va_recv hK hP (ci := 5) (q0 := 35) rfl rfl) hl.1 rfl (Nat.le_of_ble_eq_true rfl) ⟨by show _ ≤ 601024; omega, by show _ ≤ 7293034; omega⟩ zd_L_law_222 ?_
    refine lv_iload hx hb zd_L_law_225 (lv_at hl 1 rfl) ?_
    refine zi_icmp_eq (tgt := 232) hx hb zd_L_law_227 (by decide) (by omega) (fun _ => ?_) (fun c227 => absurd c227 (by decide))
    refine lv_iload hx hb zd_L_law_232 (lv_at hl 1 rfl) ?_
    refine zi_if_ne (tgt := 249) hx hb zd_L_law_234 (by decide) (by omega) (fun _ => ?_) (fun c234 => absurd c234 (by decide))
    refine lv_goto (tgt := 741) hx hb zd_L_law_249 (by decide) ?_
    refine W.widen (k := cells + 4) (n := slots + 24) (by omega) (by omega) ?_
    exact kk 1 ln br yy mm dd at0 wa on tw cnt sub od sb2 od2 pq sq ra aa rb ab ru rl2 al bl tr st bits bits2 tf h wf fi sf ou to hdf hol H locs ls ⟨by omega, i2, i3, i4, i5, i6, i7, i8, i9, i10, i11⟩ hP hD hS (lv_sub hl [2, 3, 4, 5, 6] rfl)
