/-! strings that are constants: length, charAt -/
theorem zd_JS_length_0 : decode zc_JS_length 0 = .ok (.aload_n 0, 1) := by decide +kernel
theorem zd_JS_length_1 : decode zc_JS_length 1 = .ok (.getfield 9, 3) := by decide +kernel
theorem zd_JS_length_4 : decode zc_JS_length 4 = .ok (.arraylength, 1) := by decide +kernel
theorem zd_JS_length_5 : decode zc_JS_length 5 = .ok (.aload_n 0, 1) := by decide +kernel
theorem zd_JS_length_6 : decode zc_JS_length 6 = .ok (.invokevirtual 335, 3) := by decide +kernel
theorem zd_JS_length_9 : decode zc_JS_length 9 = .ok (.ishr, 1) := by decide +kernel
theorem zd_JS_length_10 : decode zc_JS_length 10 = .ok (.ireturn, 1) := by decide +kernel
theorem zd_JS_coder_0 : decode zc_JS_coder 0 = .ok (.getstatic 38, 3) := by decide +kernel
theorem zd_JS_coder_3 : decode zc_JS_coder 3 = .ok (.ifCond .eq 10, 3) := by decide +kernel
theorem zd_JS_coder_6 : decode zc_JS_coder 6 = .ok (.aload_n 0, 1) := by decide +kernel
theorem zd_JS_coder_7 : decode zc_JS_coder 7 = .ok (.getfield 15, 3) := by decide +kernel
theorem zd_JS_coder_10 : decode zc_JS_coder 10 = .ok (.goto 4, 3) := by decide +kernel
theorem zd_JS_coder_13 : decode zc_JS_coder 13 = .ok (.iconst 1, 1) := by decide +kernel
theorem zd_JS_coder_14 : decode zc_JS_coder 14 = .ok (.ireturn, 1) := by decide +kernel
theorem zd_JS_charAt_0 : decode zc_JS_charAt 0 = .ok (.aload_n 0, 1) := by decide +kernel
theorem zd_JS_charAt_1 : decode zc_JS_charAt 1 = .ok (.invokevirtual 492, 3) := by decide +kernel
theorem zd_JS_charAt_4 : decode zc_JS_charAt 4 = .ok (.ifCond .eq 12, 3) := by decide +kernel
theorem zd_JS_charAt_7 : decode zc_JS_charAt 7 = .ok (.aload_n 0, 1) := by decide +kernel
theorem zd_JS_charAt_8 : decode zc_JS_charAt 8 = .ok (.getfield 9, 3) := by decide +kernel
theorem zd_JS_charAt_11 : decode zc_JS_charAt 11 = .ok (.iload_n 1, 1) := by decide +kernel
theorem zd_JS_charAt_12 : decode zc_JS_charAt 12 = .ok (.invokestatic 495, 3) := by decide +kernel
theorem zd_JS_charAt_15 : decode zc_JS_charAt 15 = .ok (.ireturn, 1) := by decide +kernel
theorem zd_JS_charAt_16 : decode zc_JS_charAt 16 = .ok (.aload_n 0, 1) := by decide +kernel
theorem zd_JS_charAt_17 : decode zc_JS_charAt 17 = .ok (.getfield 9, 3) := by decide +kernel
theorem zd_JS_charAt_20 : decode zc_JS_charAt 20 = .ok (.iload_n 1, 1) := by decide +kernel
theorem zd_JS_charAt_21 : decode zc_JS_charAt 21 = .ok (.invokestatic 498, 3) := by decide +kernel
theorem zd_JS_charAt_24 : decode zc_JS_charAt 24 = .ok (.ireturn, 1) := by decide +kernel
theorem zd_JS_isLatin1_0 : decode zc_JS_isLatin1 0 = .ok (.getstatic 38, 3) := by decide +kernel
theorem zd_JS_isLatin1_3 : decode zc_JS_isLatin1 3 = .ok (.ifCond .eq 14, 3) := by decide +kernel
theorem zd_JS_isLatin1_6 : decode zc_JS_isLatin1 6 = .ok (.aload_n 0, 1) := by decide +kernel
theorem zd_JS_isLatin1_7 : decode zc_JS_isLatin1 7 = .ok (.getfield 15, 3) := by decide +kernel
theorem zd_JS_isLatin1_10 : decode zc_JS_isLatin1 10 = .ok (.ifCond .ne 7, 3) := by decide +kernel
theorem zd_JS_isLatin1_13 : decode zc_JS_isLatin1 13 = .ok (.iconst 1, 1) := by decide +kernel
theorem zd_JS_isLatin1_14 : decode zc_JS_isLatin1 14 = .ok (.goto 4, 3) := by decide +kernel
theorem zd_JS_isLatin1_17 : decode zc_JS_isLatin1 17 = .ok (.iconst 0, 1) := by decide +kernel
theorem zd_JS_isLatin1_18 : decode zc_JS_isLatin1 18 = .ok (.ireturn, 1) := by decide +kernel
theorem zd_JL_charAt_0 : decode zc_JL_charAt 0 = .ok (.iload_n 1, 1) := by decide +kernel
theorem zd_JL_charAt_1 : decode zc_JL_charAt 1 = .ok (.aload_n 0, 1) := by decide +kernel
theorem zd_JL_charAt_2 : decode zc_JL_charAt 2 = .ok (.arraylength, 1) := by decide +kernel
theorem zd_JL_charAt_3 : decode zc_JL_charAt 3 = .ok (.invokestatic 9, 3) := by decide +kernel
theorem zd_JL_charAt_6 : decode zc_JL_charAt 6 = .ok (.aload_n 0, 1) := by decide +kernel
theorem zd_JL_charAt_7 : decode zc_JL_charAt 7 = .ok (.iload_n 1, 1) := by decide +kernel
theorem zd_JL_charAt_8 : decode zc_JL_charAt 8 = .ok (.baload, 1) := by decide +kernel
theorem zd_JL_charAt_9 : decode zc_JL_charAt 9 = .ok (.sipush 255, 3) := by decide +kernel
theorem zd_JL_charAt_12 : decode zc_JL_charAt 12 = .ok (.iand, 1) := by decide +kernel
theorem zd_JL_charAt_13 : decode zc_JL_charAt 13 = .ok (.i2c, 1) := by decide +kernel
theorem zd_JL_charAt_14 : decode zc_JL_charAt 14 = .ok (.ireturn, 1) := by decide +kernel
theorem zd_JS_checkIndex_0 : decode zc_JS_checkIndex 0 = .ok (.iload_n 0, 1) := by decide +kernel
theorem zd_JS_checkIndex_1 : decode zc_JS_checkIndex 1 = .ok (.iload_n 1, 1) := by decide +kernel
theorem zd_JS_checkIndex_2 : decode zc_JS_checkIndex 2 = .ok (.getstatic 1053, 3) := by decide +kernel
theorem zd_JS_checkIndex_5 : decode zc_JS_checkIndex 5 = .ok (.invokestatic 1059, 3) := by decide +kernel
theorem zd_JS_checkIndex_8 : decode zc_JS_checkIndex 8 = .ok (.pop, 1) := by decide +kernel
theorem zd_JS_checkIndex_9 : decode zc_JS_checkIndex 9 = .ok (.return_, 1) := by decide +kernel
theorem zd_JP_checkIndex_0 : decode zc_JP_checkIndex 0 = .ok (.iload_n 0, 1) := by decide +kernel
theorem zd_JP_checkIndex_1 : decode zc_JP_checkIndex 1 = .ok (.ifCond .lt 8, 3) := by decide +kernel
theorem zd_JP_checkIndex_4 : decode zc_JP_checkIndex 4 = .ok (.iload_n 0, 1) := by decide +kernel
theorem zd_JP_checkIndex_5 : decode zc_JP_checkIndex 5 = .ok (.iload_n 1, 1) := by decide +kernel
theorem zd_JP_checkIndex_6 : decode zc_JP_checkIndex 6 = .ok (.if_icmp .lt 10, 3) := by decide +kernel
theorem zd_JP_checkIndex_9 : decode zc_JP_checkIndex 9 = .ok (.aload_n 2, 1) := by decide +kernel
theorem zd_JP_checkIndex_10 : decode zc_JP_checkIndex 10 = .ok (.iload_n 0, 1) := by decide +kernel
theorem zd_JP_checkIndex_11 : decode zc_JP_checkIndex 11 = .ok (.iload_n 1, 1) := by decide +kernel
theorem zd_JP_checkIndex_12 : decode zc_JP_checkIndex 12 = .ok (.invokestatic 95, 3) := by decide +kernel
theorem zd_JP_checkIndex_15 : decode zc_JP_checkIndex 15 = .ok (.athrow, 1) := by decide +kernel
theorem zd_JP_checkIndex_16 : decode zc_JP_checkIndex 16 = .ok (.iload_n 0, 1) := by decide +kernel
theorem zd_JP_checkIndex_17 : decode zc_JP_checkIndex 17 = .ok (.ireturn, 1) := by decide +kernel
def zStr (q v n : Nat) (f : Int → Int) (A : Nat → Prop) : zStt := fun U H => va_O "java/lang/String" q A U H ∧ va_OF "java/lang/String" "value" "[B" (.ref v) q A U H ∧ va_OF "java/lang/String" "coder" "B" (.int (iI 0)) q A U H ∧ va_T .byte v n (fun j => .int (iI (f (j : Int)))) A U H ∧ va_Z "java/lang/String" "COMPACT_STRINGS" "Z" (.int (iI 1)) A U H ∧ va_Zq "jdk/internal/util/Preconditions" "SIOOBE_FORMATTER" "Ljava/util/function/BiFunction;" A U H
theorem zStr_mv (q v n : Nat) (f : Int → Int) (A : Nat → Prop) : zMv (zStr q v n f A) := fun _ _ _ hvm h => ⟨va_O.moved hvm.alike h.1, va_OF.moved hvm.alike h.2.1, va_OF.moved hvm.alike h.2.2.1, va_T.moved hvm.alike h.2.2.2.1, va_Z.moved hvm.alike h.2.2.2.2.1, va_Zq.moved hvm.alike h.2.2.2.2.2⟩
theorem zStr_now {q v n : Nat} {f : Int → Int} {A : Nat → Prop} {s : State} {H : Heap} {locs : List Loc} (h : zStr q v n f A s s.heap) (hS : va_S A s.heap H locs) : zStr q v n f A s H := ⟨h.1.kept hS.2.1, h.2.1.kept hS.2.1, h.2.2.1.kept hS.2.1, h.2.2.2.1.kept hS.2.1, h.2.2.2.2.1.kept hS.2.1, h.2.2.2.2.2.kept hS.2.1⟩
theorem zStr_nar {q v n : Nat} {f : Int → Int} {A B : Nat → Prop} {s : State} {H : Heap} (h : zStr q v n f A s H) (hAB : ∀ q, B q → A q) : zStr q v n f B s H := ⟨h.1.narrow hAB, h.2.1.narrow hAB, h.2.2.1.narrow hAB, h.2.2.2.1.narrow hAB, h.2.2.2.2.1.narrow hAB, h.2.2.2.2.2.narrow hAB⟩
theorem zStr_recv {q v n : Nat} {f : Int → Int} {A : Nat → Prop} {s : State} {H : Heap} (h : zStr q v n f A s H) : ∃ cell : Cell, H[q]? = some cell ∧ cell.vm.isStatics = false ∧ s.vm.findClass "java/lang/String" = some cell.cls := by
  obtain ⟨cell, h1, h2, h3, -⟩ := h.1
  exact ⟨cell, h1, h2, h3⟩
theorem z_255 {z : Int} (h : 0 ≤ z ∧ z < 256) : iI z &&& iI 255 = iI z := by
  rw [iI_nI h.1, pk_andN (by omega) 8 (by decide), Nat.mod_eq_of_lt (by omega)]
theorem z_i2c {z : Int} (h : 0 ≤ z ∧ z < 65536) : ((iI z).toUInt32 % 65536).toInt32 = iI z := by
  rw [pk_char, iI_nI h.1, pk_tn (by omega), Nat.mod_eq_of_lt (by omega)]
section ZSB
variable {p : Program} {l : Launch} {e : Env} {R : Room} {s : State} {m : MethodId} {args : Array Value} {below : List Frame} {meth : Method} {c : Code} {H : Heap} {locs : List Loc} {cells slots : Nat} {Q : State → Prop}
variable {cc : ByteArray} {pc : Nat} {ls : Array Slot} {rest : List Value} {A : Nat → Prop} {t N : Nat} {z : Int}
theorem zi_tb {f : Int → Int} (hx : p.tables.exec = Jvm.exec) (hb : c.code = cc) (hT : va_T .byte t N (fun j => .int (iI (f (j : Int)))) A s s.heap) (hS : va_S A s.heap H locs) (h : 0 ≤ z ∧ z < (N : Int) ∧ z < 2147483648) (hdg : decode cc pc = .ok (.baload, 1))
    (kk : W p l e R s m args below meth c H locs cells slots Q (F0 m (pc + 1) ls (.int (iI (f z)) :: rest))) : W p l e R s m args below meth c H locs cells slots Q (F0 m pc ls (.int (iI z) :: .ref t :: rest)) :=
  va_tb hx hb hT hS (iI_in h) (v := .int (iI (f z))) (by rw [iI_cl (by omega)]; show Value.int (iI (f ((z.toNat : Nat) : Int))) = _; rw [Int.toNat_of_nonneg h.1]) hdg kk
theorem zs_cret {x : Int} (hx : p.tables.exec = Jvm.exec) (hb : c.code = cc) (hr : meth.sig.returnType = some .char) (hlk : meth.locks = false) (h : 0 ≤ x ∧ x < 65536) (hdg : decode cc pc = .ok (.ireturn, 1)) : W p l e R s m args below meth c s.heap [] 0 0 (MQ below (zSil (some (.int (iI x)))) args s 0 0 (fun _ => False)) (F0 m pc ls [.int (iI x)]) :=
  W.zret hx hb hr (by rw [iI_nI h.1]; exact (pk_charN (by omega)).1) (fun t ht _ => ⟨rfl, ht⟩) (fun q h => absurd h List.not_mem_nil) hdg hlk
theorem zs_bret {x : Int32} (hx : p.tables.exec = Jvm.exec) (hb : c.code = cc) (hr : meth.sig.returnType = some .byte) (hlk : meth.locks = false) (h : narrow .byte (.int x) = .int x) (hdg : decode cc pc = .ok (.ireturn, 1)) : W p l e R s m args below meth c s.heap [] 0 0 (MQ below (zSil (some (.int x))) args s 0 0 (fun _ => False)) (F0 m pc ls [.int x]) :=
  W.zret hx hb hr h (fun t ht _ => ⟨rfl, ht⟩) (fun q h => absurd h List.not_mem_nil) hdg hlk
end ZSB
set_option maxHeartbeats 4000000 in
set_option maxRecDepth 100000 in
theorem c_S_coder (l : Launch) (g : zGl) (q v n : Nat) (f : Int → Int) : zSi l zy_JS_coder zc_JS_coder 1 (some .byte) ({ frames := 0, cells := 0, slots := 0, locals := 0 }) g (zStr q v n f (fun _ => False)) [.ref (q)] [] (some (.int (iI (0)))) := by
  refine zs_open (by decide +kernel) (Nat.le_of_ble_eq_true rfl) ?_
  intro p e s m below meth c ls hx hb hml hr hlk hown hw hK hT hP hl
  have hown : s.vm.findClass "java/lang/String" = some m.cls := hown
  have hl : lv_has ls 1 [(0, .ref (q))] := hl
  refine va_gets hx hb hT.2.2.2.2.1 va_S.rf hown (hw _ zw_2_110) (fun _ h9 => h9) zd_JS_coder_0 ?_
  refine zi_if_eq (tgt := 13) hx hb zd_JS_coder_3 (by decide) (by omega) (fun c3 => absurd c3 (by decide)) (fun _ => ?_)
  refine lv_aload_n hx hb zd_JS_coder_6 rfl (lv_at hl 0 rfl) ?_
  refine vk_getf hx hb hT.2.2.1 va_S.rf hown (hw _ zw_4_182) (fun _ h9 => h9) zd_JS_coder_7 ?_
  refine lv_goto (tgt := 14) hx hb zd_JS_coder_10 (by decide) ?_
  exact zs_bret hx hb hr hlk (by decide) zd_JS_coder_14
set_option maxHeartbeats 4000000 in
set_option maxRecDepth 100000 in
theorem c_S_length (l : Launch) (g : zGl) (q v n : Nat) (f : Int → Int) : zSi l zy_JS_length zc_JS_length 1 (some .int) ({ frames := 1, cells := 0, slots := 0, locals := 20 }) g (zStr q v n f (fun _ => False)) [.ref (q)] [] (some (.int (iI (((n : Nat) : Int))))) := by
  refine zs_open (by decide +kernel) (Nat.le_of_ble_eq_true rfl) ?_
  intro p e s m below meth c ls hx hb hml hr hlk hown hw hK hT hP hl
  have hown : s.vm.findClass "java/lang/String" = some m.cls := hown
  have hl : lv_has ls 1 [(0, .ref (q))] := hl
  refine lv_aload_n hx hb zd_JS_length_0 rfl (lv_at hl 0 rfl) ?_
  refine vk_getf hx hb hT.2.1 va_S.rf hown (hw _ zw_4_181) (fun _ h9 => h9) zd_JS_length_1 ?_
  refine va_tlen hx hb hT.2.2.2.1 va_S.rf (v := iI ((n : Nat) : Int)) (iI_nat n) zd_JS_length_4 ?_
  refine lv_aload_n hx hb zd_JS_length_5 rfl (lv_at hl 0 rfl) ?_
  refine zk_V (As := []) (b := q) (own := "java/lang/String") (nL := 1) (rest := [.int (iI (((n : Nat) : Int)))]) hx hb hml hown hw (c_S_coder l g q v n f) zw_2_106 zw_2_107 zw_2_108 zw_1_15 zw_2_109 (np := 0) (by decide +kernel) rfl (by decide) (zStr_mv q v n f _) hK hT (hP.sub (ws' := []) [] rfl) (zStr_recv hT) hl.1 rfl (Nat.le_of_ble_eq_true rfl) (by decide) zd_JS_length_6 ?_
  refine lv_ishr hx hb zd_JS_length_9 ?_
  refine zi_asx _ ((n : Nat) : Int) (sb_shr0 _) ?_
  refine zi_as (((n : Nat) : Int)) (rfl) ?_
  exact zs_iret hx hb hr hlk zd_JS_length_10
set_option maxHeartbeats 4000000 in
set_option maxRecDepth 100000 in
theorem c_S_isLatin1 (l : Launch) (g : zGl) (q v n : Nat) (f : Int → Int) : zSi l zy_JS_isLatin1 zc_JS_isLatin1 1 (some .boolean) ({ frames := 0, cells := 0, slots := 0, locals := 0 }) g (zStr q v n f (fun _ => False)) [.ref (q)] [] (some (.int (iI (bI (true))))) := by
  refine zs_open (by decide +kernel) (Nat.le_of_ble_eq_true rfl) ?_
  intro p e s m below meth c ls hx hb hml hr hlk hown hw hK hT hP hl
  have hown : s.vm.findClass "java/lang/String" = some m.cls := hown
  have hl : lv_has ls 1 [(0, .ref (q))] := hl
  refine va_gets hx hb hT.2.2.2.2.1 va_S.rf hown (hw _ zw_2_110) (fun _ h9 => h9) zd_JS_isLatin1_0 ?_
  refine zi_if_eq (tgt := 17) hx hb zd_JS_isLatin1_3 (by decide) (by omega) (fun c3 => absurd c3 (by decide)) (fun _ => ?_)
  refine lv_aload_n hx hb zd_JS_isLatin1_6 rfl (lv_at hl 0 rfl) ?_
  refine vk_getf hx hb hT.2.2.1 va_S.rf hown (hw _ zw_4_182) (fun _ h9 => h9) zd_JS_isLatin1_7 ?_
  refine zi_if_ne (tgt := 17) hx hb zd_JS_isLatin1_10 (by decide) (by omega) (fun c10 => absurd c10 (by decide)) (fun _ => ?_)
  refine zi_iconst hx hb zd_JS_isLatin1_13 ?_
  refine lv_goto (tgt := 18) hx hb zd_JS_isLatin1_14 (by decide) ?_
  refine zb_as (x := true) (rfl) ?_
  exact zs_zret hx hb hr hlk zd_JS_isLatin1_18
set_option maxHeartbeats 4000000 in
set_option maxRecDepth 100000 in
theorem c_P_check_n (l : Launch) (g : zGl) (i n : Int) (hi : 0 ≤ i ∧ i < n ∧ n < 2147483648) : zSi l zy_JP_checkIndex zc_JP_checkIndex 3 (some .int) ({ frames := 0, cells := 0, slots := 0, locals := 0 }) g zN [.int (iI (i)), .int (iI (n)), .null] [] (some (.int (iI (i)))) := by
  refine zs_open (by decide +kernel) (Nat.le_of_ble_eq_true rfl) ?_
  intro p e s m below meth c ls hx hb hml hr hlk hown hw hK hT hP hl
  have hown : s.vm.findClass "jdk/internal/util/Preconditions" = some m.cls := hown
  have hl : lv_has ls 3 [(0, .int (iI (i))), (1, .int (iI (n))), (2, .null)] := hl
  refine lv_iload_n hx hb zd_JP_checkIndex_0 rfl (lv_at hl 0 rfl) ?_
  refine zi_if_lt (tgt := 9) hx hb zd_JP_checkIndex_1 (by decide) (by omega) (fun c1 => ?_) (fun c1 => ?_)
  · exact absurd c1 (by omega)
  · refine lv_iload_n hx hb zd_JP_checkIndex_4 rfl (lv_at hl 0 rfl) ?_
    refine lv_iload_n hx hb zd_JP_checkIndex_5 rfl (lv_at hl 1 rfl) ?_
    refine zi_icmp_lt (tgt := 16) hx hb zd_JP_checkIndex_6 (by decide) (by omega) (fun c6 => ?_) (fun c6 => ?_)
    · refine lv_iload_n hx hb zd_JP_checkIndex_16 rfl (lv_at hl 0 rfl) ?_
      refine zi_as (i) (rfl) ?_
      exact zs_iret hx hb hr hlk zd_JP_checkIndex_17
    · exact absurd c6 (by omega)
set_option maxHeartbeats 4000000 in
set_option maxRecDepth 100000 in
theorem c_P_check_r (l : Launch) (g : zGl) (i n : Int) (y3 : Nat) (hi : 0 ≤ i ∧ i < n ∧ n < 2147483648) : zSi l zy_JP_checkIndex zc_JP_checkIndex 3 (some .int) ({ frames := 0, cells := 0, slots := 0, locals := 0 }) g zN [.int (iI (i)), .int (iI (n)), .ref (y3)] [] (some (.int (iI (i)))) := by
  refine zs_open (by decide +kernel) (Nat.le_of_ble_eq_true rfl) ?_
  intro p e s m below meth c ls hx hb hml hr hlk hown hw hK hT hP hl
  have hown : s.vm.findClass "jdk/internal/util/Preconditions" = some m.cls := hown
  have hl : lv_has ls 3 [(0, .int (iI (i))), (1, .int (iI (n))), (2, .ref (y3))] := hl
  refine lv_iload_n hx hb zd_JP_checkIndex_0 rfl (lv_at hl 0 rfl) ?_
  refine zi_if_lt (tgt := 9) hx hb zd_JP_checkIndex_1 (by decide) (by omega) (fun c1 => ?_) (fun c1 => ?_)
  · exact absurd c1 (by omega)
  · refine lv_iload_n hx hb zd_JP_checkIndex_4 rfl (lv_at hl 0 rfl) ?_
    refine lv_iload_n hx hb zd_JP_checkIndex_5 rfl (lv_at hl 1 rfl) ?_
    refine zi_icmp_lt (tgt := 16) hx hb zd_JP_checkIndex_6 (by decide) (by omega) (fun c6 => ?_) (fun c6 => ?_)
    · refine lv_iload_n hx hb zd_JP_checkIndex_16 rfl (lv_at hl 0 rfl) ?_
      refine zi_as (i) (rfl) ?_
      exact zs_iret hx hb hr hlk zd_JP_checkIndex_17
    · exact absurd c6 (by omega)
set_option maxHeartbeats 4000000 in
set_option maxRecDepth 100000 in
theorem c_S_check (l : Launch) (g : zGl) (q v n : Nat) (f : Int → Int) (i k : Int) (hi : 0 ≤ i ∧ i < k ∧ k < 2147483648) : zSi l zy_JS_checkIndex zc_JS_checkIndex 2 none ({ frames := 1, cells := 0, slots := 0, locals := 22 }) g (zStr q v n f (fun _ => False)) [.int (iI i), .int (iI k)] [] none := by
  refine zs_open (by decide +kernel) (Nat.le_of_ble_eq_true rfl) ?_
  intro p e s m below meth c ls hx hb hml hr hlk hown hw hK hT hP hl
  have hown : s.vm.findClass "java/lang/String" = some m.cls := hown
  have hl : lv_has ls 2 [(0, .int (iI i)), (1, .int (iI k))] := hl
  refine lv_iload_n hx hb zd_JS_checkIndex_0 rfl (lv_at hl 0 rfl) ?_
  refine lv_iload_n hx hb zd_JS_checkIndex_1 rfl (lv_at hl 1 rfl) ?_
  rcases hT.2.2.2.2.2 with hz | ⟨y3, hz⟩
  · refine va_gets hx hb hz va_S.rf hown (hw _ zw_2_126) (fun _ h9 => h9) zd_JS_checkIndex_2 ?_
    refine zk_S (As := [.int (iI i), .int (iI k), .null]) (own := "java/lang/String") (nL := 2) (rest := []) hx hb hml hown hw (c_P_check_n l g i k hi) zw_2_128 zw_2_129 zw_1_17 zw_2_130 (np := 3) (by decide +kernel) rfl (by decide) zN_mv hK trivial (hP.sub (ws' := []) [] rfl) hl.1 rfl (Nat.le_of_ble_eq_true rfl) (by decide) zd_JS_checkIndex_5 ?_
    refine lv_pop hx hb zd_JS_checkIndex_8 rfl ?_
    exact zs_vret hx hb hr hlk zd_JS_checkIndex_9
  · refine va_gets hx hb hz va_S.rf hown (hw _ zw_2_126) (fun _ h9 => h9) zd_JS_checkIndex_2 ?_
    refine zk_S (As := [.int (iI i), .int (iI k), .ref y3]) (own := "java/lang/String") (nL := 2) (rest := []) hx hb hml hown hw (c_P_check_r l g i k y3 hi) zw_2_128 zw_2_129 zw_1_17 zw_2_130 (np := 3) (by decide +kernel) rfl (by decide) zN_mv hK trivial (hP.sub (ws' := []) [] rfl) hl.1 rfl (Nat.le_of_ble_eq_true rfl) (by decide) zd_JS_checkIndex_5 ?_
    refine lv_pop hx hb zd_JS_checkIndex_8 rfl ?_
    exact zs_vret hx hb hr hlk zd_JS_checkIndex_9
set_option maxHeartbeats 4000000 in
set_option maxRecDepth 100000 in
theorem c_L_charAt (l : Launch) (g : zGl) (q v n : Nat) (f : Int → Int) (i : Int) (hi : 0 ≤ i ∧ i < (n : Int) ∧ (n : Int) < 2147483648) (hf : ∀ j : Int, 0 ≤ j ∧ j < (n : Int) → 0 ≤ f j ∧ f j < 128) : zSi l zy_JL_charAt zc_JL_charAt 2 (some .char) ({ frames := 2, cells := 0, slots := 0, locals := 43 }) g (zStr q v n f (fun _ => False)) [.ref (v), .int (iI (i))] [] (some (.int (iI (f i)))) := by
  refine zs_open (by decide +kernel) (Nat.le_of_ble_eq_true rfl) ?_
  intro p e s m below meth c ls hx hb hml hr hlk hown hw hK hT hP hl
  have hown : s.vm.findClass "java/lang/StringLatin1" = some m.cls := hown
  have hl : lv_has ls 2 [(0, .ref (v)), (1, .int (iI (i)))] := hl
  refine lv_iload_n hx hb zd_JL_charAt_0 rfl (lv_at hl 1 rfl) ?_
  refine lv_aload_n hx hb zd_JL_charAt_1 rfl (lv_at hl 0 rfl) ?_
  refine va_tlen hx hb hT.2.2.2.1 va_S.rf (v := iI ((n : Nat) : Int)) (iI_nat n) zd_JL_charAt_2 ?_
  refine zk_S (As := [.int (iI (i)), .int (iI (((n : Nat) : Int)))]) (own := "java/lang/StringLatin1") (nL := 2) (rest := []) hx hb hml hown hw (c_S_check l g q v n f (i) (((n : Nat) : Int)) (by omega)) zw_2_123 zw_2_124 zw_1_15 zw_2_125 (np := 2) (by decide +kernel) rfl (by decide) (zStr_mv q v n f _) hK hT (hP.sub (ws' := []) [] rfl) hl.1 rfl (Nat.le_of_ble_eq_true rfl) (by decide) zd_JL_charAt_3 ?_
  refine lv_aload_n hx hb zd_JL_charAt_6 rfl (lv_at hl 0 rfl) ?_
  refine lv_iload_n hx hb zd_JL_charAt_7 rfl (lv_at hl 1 rfl) ?_
  refine zi_tb hx hb hT.2.2.2.1 va_S.rf (by omega) zd_JL_charAt_8 ?_
  have hfi := hf i (by omega)
  refine zi_sipush hx hb zd_JL_charAt_9 (by decide) ?_
  refine lv_iand hx hb zd_JL_charAt_12 ?_
  refine zi_asx _ (f i) (z_255 (by omega)) ?_
  refine lv_i2c (v := iI (f i)) hx hb zd_JL_charAt_13 (z_i2c (by omega)) ?_
  exact zs_cret hx hb hr hlk (by have := hf i (by omega); omega) zd_JL_charAt_14
set_option maxHeartbeats 4000000 in
set_option maxRecDepth 100000 in
theorem c_S_charAt (l : Launch) (g : zGl) (q v n : Nat) (f : Int → Int) (i : Int) (hi : 0 ≤ i ∧ i < (n : Int) ∧ (n : Int) < 2147483648) (hf : ∀ j : Int, 0 ≤ j ∧ j < (n : Int) → 0 ≤ f j ∧ f j < 128) : zSi l zy_JS_charAt zc_JS_charAt 2 (some .char) ({ frames := 4, cells := 0, slots := 0, locals := 85 }) g (zStr q v n f (fun _ => False)) [.ref (q), .int (iI (i))] [] (some (.int (iI (f i)))) := by
  refine zs_open (by decide +kernel) (Nat.le_of_ble_eq_true rfl) ?_
  intro p e s m below meth c ls hx hb hml hr hlk hown hw hK hT hP hl
  have hown : s.vm.findClass "java/lang/String" = some m.cls := hown
  have hl : lv_has ls 2 [(0, .ref (q)), (1, .int (iI (i)))] := hl
  refine lv_aload_n hx hb zd_JS_charAt_0 rfl (lv_at hl 0 rfl) ?_
  refine zk_V (As := []) (b := q) (own := "java/lang/String") (nL := 2) (rest := []) hx hb hml hown hw (c_S_isLatin1 l g q v n f) zw_2_116 zw_2_117 zw_2_118 zw_1_15 zw_2_119 (np := 0) (by decide +kernel) rfl (by decide) (zStr_mv q v n f _) hK hT (hP.sub (ws' := []) [] rfl) (zStr_recv hT) hl.1 rfl (Nat.le_of_ble_eq_true rfl) (by decide) zd_JS_charAt_1 ?_
  refine zb_if_eq (tgt := 16) hx hb zd_JS_charAt_4 (by decide) (fun c4 => by cases c4) (fun _ => ?_)
  refine lv_aload_n hx hb zd_JS_charAt_7 rfl (lv_at hl 0 rfl) ?_
  refine vk_getf hx hb hT.2.1 va_S.rf hown (hw _ zw_4_181) (fun _ h9 => h9) zd_JS_charAt_8 ?_
  refine lv_iload_n hx hb zd_JS_charAt_11 rfl (lv_at hl 1 rfl) ?_
  refine zk_S (As := [.ref (v), .int (iI (i))]) (own := "java/lang/String") (nL := 2) (rest := []) hx hb hml hown hw (c_L_charAt l g q v n f (i) (by omega) hf) zw_2_120 zw_2_121 zw_1_16 zw_2_122 (np := 2) (by decide +kernel) rfl (by decide) (zStr_mv q v n f _) hK hT (hP.sub (ws' := []) [] rfl) hl.1 rfl (Nat.le_of_ble_eq_true rfl) (by decide) zd_JS_charAt_12 ?_
  exact zs_cret hx hb hr hlk (by have := hf i (by omega); omega) zd_JS_charAt_15
