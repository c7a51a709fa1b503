/-! CronFinder: place, putBytes -/
theorem zd_F_place_0 : decode zc_F_place 0 = .ok (.aload_n 0, 1) := by decide +kernel
theorem zd_F_place_1 : decode zc_F_place 1 = .ok (.getfield 27, 3) := by decide +kernel
theorem zd_F_place_4 : decode zc_F_place 4 = .ok (.ireturn, 1) := by decide +kernel
theorem zd_F_putBytes_0 : decode zc_F_putBytes 0 = .ok (.bipush 24, 2) := by decide +kernel
theorem zd_F_putBytes_2 : decode zc_F_putBytes 2 = .ok (.istore_n 2, 1) := by decide +kernel
theorem zd_F_putBytes_3 : decode zc_F_putBytes 3 = .ok (.iload_n 2, 1) := by decide +kernel
theorem zd_F_putBytes_4 : decode zc_F_putBytes 4 = .ok (.ifCond .lt 36, 3) := by decide +kernel
theorem zd_F_putBytes_7 : decode zc_F_putBytes 7 = .ok (.aload_n 0, 1) := by decide +kernel
theorem zd_F_putBytes_8 : decode zc_F_putBytes 8 = .ok (.getfield 9, 3) := by decide +kernel
theorem zd_F_putBytes_11 : decode zc_F_putBytes 11 = .ok (.aload_n 0, 1) := by decide +kernel
theorem zd_F_putBytes_12 : decode zc_F_putBytes 12 = .ok (.getfield 13, 3) := by decide +kernel
theorem zd_F_putBytes_15 : decode zc_F_putBytes 15 = .ok (.iload_n 1, 1) := by decide +kernel
theorem zd_F_putBytes_16 : decode zc_F_putBytes 16 = .ok (.iload_n 2, 1) := by decide +kernel
theorem zd_F_putBytes_17 : decode zc_F_putBytes 17 = .ok (.iushr, 1) := by decide +kernel
theorem zd_F_putBytes_18 : decode zc_F_putBytes 18 = .ok (.sipush 255, 3) := by decide +kernel
theorem zd_F_putBytes_21 : decode zc_F_putBytes 21 = .ok (.iand, 1) := by decide +kernel
theorem zd_F_putBytes_22 : decode zc_F_putBytes 22 = .ok (.i2c, 1) := by decide +kernel
theorem zd_F_putBytes_23 : decode zc_F_putBytes 23 = .ok (.castore, 1) := by decide +kernel
theorem zd_F_putBytes_24 : decode zc_F_putBytes 24 = .ok (.aload_n 0, 1) := by decide +kernel
theorem zd_F_putBytes_25 : decode zc_F_putBytes 25 = .ok (.dup, 1) := by decide +kernel
theorem zd_F_putBytes_26 : decode zc_F_putBytes 26 = .ok (.getfield 13, 3) := by decide +kernel
theorem zd_F_putBytes_29 : decode zc_F_putBytes 29 = .ok (.iconst 1, 1) := by decide +kernel
theorem zd_F_putBytes_30 : decode zc_F_putBytes 30 = .ok (.iadd, 1) := by decide +kernel
theorem zd_F_putBytes_31 : decode zc_F_putBytes 31 = .ok (.putfield 13, 3) := by decide +kernel
theorem zd_F_putBytes_34 : decode zc_F_putBytes 34 = .ok (.iinc 2 (-8), 3) := by decide +kernel
theorem zd_F_putBytes_37 : decode zc_F_putBytes 37 = .ok (.goto (-34), 3) := by decide +kernel
theorem zd_F_putBytes_40 : decode zc_F_putBytes 40 = .ok (.return_, 1) := by decide +kernel
/-- the byte of v that k bits stand behind -/
def zBy (v : Int) (k : Int) : Int := if k = 24 then v / 16777216 % 256 else if k = 16 then v / 65536 % 256 else if k = 8 then v / 256 % 256 else v % 256
theorem zBy_rg (v k : Int) : 0 ≤ zBy v k ∧ zBy v k < 256 := by
  unfold zBy
  split
  · omega
  · split
    · omega
    · split <;> omega
theorem zU_i (w : UInt32) : w.toInt32 = Int32.ofNat w.toNat := by
  apply Int32.toBitVec_inj.mp
  apply BitVec.eq_of_toNat_eq
  simp
theorem zU_n (v : Int) : ((iI v).toUInt32.toNat : Int) = v % 4294967296 := by
  have h : (iI v).toUInt32.toNat = (v % 4294967296).toNat := by
    show (Int32.ofInt v).toBitVec.toNat = _
    simp [Int32.toBitVec_ofInt, BitVec.toNat_ofInt]
  rw [h]
  omega
theorem zBy_at {v : Int} {x : UInt32} {k : Nat} {z : Int} (hx : x.toNat = k) (hk : k = 0 ∨ k = 8 ∨ k = 16 ∨ k = 24) (hz : z = zBy v k) : (((((iI v).toUInt32 >>> x).toInt32 &&& iI 255).toUInt32 % 65536).toInt32) = iI z := by
  have hn := zU_n v
  have hr := zBy_rg v k
  rw [zU_i, iI_nat]
  congr 1
  have e1 : ((((iI v).toUInt32 >>> x).toInt32 &&& iI 255).toUInt32 % 65536).toNat = (iI v).toUInt32.toNat / 2 ^ k % 256 := by
    have e2 : (((iI v).toUInt32 >>> x).toInt32 &&& iI 255).toUInt32 = ((iI v).toUInt32 >>> x) &&& 255 := rfl
    rw [e2, UInt32.toNat_mod, UInt32.toNat_and, UInt32.toNat_shiftRight, hx]
    show ((iI v).toUInt32.toNat >>> (k % 32) &&& 2 ^ 8 - 1) % 65536 = _
    rw [Nat.and_two_pow_sub_one_eq_mod, Nat.shiftRight_eq_div_pow, show k % 32 = k by omega]
    exact Nat.mod_eq_of_lt (Nat.lt_trans (Nat.mod_lt _ (by decide)) (by decide))
  rw [e1, hz]
  rcases hk with rfl | rfl | rfl | rfl <;> simp [zBy] <;> omega
set_option maxHeartbeats 4000000 in
set_option maxRecDepth 100000 in
theorem c_F_place (l : Launch) (g : zGl) (fq tp : Nat) (tl : Int) (pq sq : Nat) (br : Int) (hq : Nat) : zSi l zy_F_place zc_F_place 1 (some .int) ({ frames := 0, cells := 0, slots := 0, locals := 0 }) g zN [.ref (fq)] [(fq, .inr (0, [.ref (tp), .int (iI (tl)), .ref (pq), .ref (sq), .int (iI (br)), .ref (hq)]))] (some (.int (iI (br)))) := by
  refine zs_open (by decide +kernel) (Nat.le_of_ble_eq_true rfl) ?_
  intro p e s m below meth c ls hx hb hml hr hlk hown hw hK hT hP hl
  have hown : s.vm.findClass "CronFinder" = some m.cls := hown
  have hl : lv_has ls 1 [(0, .ref (fq))] := hl
  refine lv_aload_n hx hb zd_F_place_0 rfl (lv_at hl 0 rfl) ?_
  refine va_get (D := g.1) (ci := 0) (v := .int (iI (br))) (C := zR_F) (T := zT_F) (N := 6) hx hb hw zin_F hown hK hP 0 rfl rfl 4 (by decide) (hw _ zw_1_110) (fun _ h9 => h9) rfl zd_F_place_1 ?_
  refine zi_as (br) (rfl) ?_
  exact zs_iret hx hb hr hlk zd_F_place_4
set_option maxHeartbeats 4000000 in
set_option maxRecDepth 100000 in
theorem c_F_putBytes (l : Launch) (g : zGl) (fq tp : Nat) (tl : Int) (pq sq : Nat) (br : Int) (hq : Nat) (tf : Nat → Int) (v : Int) (htl : 0 ≤ tl ∧ tl ≤ 396) : zWi l zy_F_putBytes zc_F_putBytes 3 none ({ frames := 0, cells := 0, slots := 0, locals := 0 }) g (fun _ => zN) [.ref (fq), .int (iI (v))] [(fq, .inr (0, [.ref (tp), .int (iI (tl)), .ref (pq), .ref (sq), .int (iI (br)), .ref (hq)])), (tp, .inl (g.2 2, 400, .inl (zaI tf)))] (none) [(fq, .inr (0, [.ref (tp), .int (iI (tl + 1 + 1 + 1 + 1)), .ref (pq), .ref (sq), .int (iI (br)), .ref (hq)])), (tp, .inl (g.2 2, 400, .inl (zaI (zu (zu (zu (zu tf (tl).toNat (zBy v 24)) (tl + 1).toNat (zBy v 16)) (tl + 1 + 1).toNat (zBy v 8)) (tl + 1 + 1 + 1).toNat (zBy v 0)))))] 0 0 := by
  refine zw_open (by decide +kernel) (Nat.le_of_ble_eq_true rfl) ?_
  intro p e s m below meth c ls A hx hb hml hr hlk hown hin hw hK hT hP hD hS hA hl
  have hown : s.vm.findClass "CronFinder" = some m.cls := hown
  have hl : lv_has ls 3 [(0, .ref (fq)), (1, .int (iI (v)))] := hl
  refine zi_bipush hx hb zd_F_putBytes_0 (by decide) ?_
  refine lv_istore_n (lv' := [(2, .int (iI (24))), (0, .ref (fq)), (1, .int (iI (v)))]) hx hb zd_F_putBytes_2 rfl hl (by decide) rfl (fun ls hl => ?_)
  refine lv_iload_n hx hb zd_F_putBytes_3 rfl (lv_at hl 0 rfl) ?_
  refine zi_if_lt (tgt := 40) hx hb zd_F_putBytes_4 (by decide) (by omega) (fun c4 => absurd c4 (by decide)) (fun _ => ?_)
  refine lv_aload_n hx hb zd_F_putBytes_7 rfl (lv_at hl 1 rfl) ?_
  refine va_get (D := g.1) (ci := 0) (v := .ref (tp)) (C := zR_F) (T := zT_F) (N := 6) hx hb hw zin_F hown hK hP 0 rfl rfl 0 (by decide) (hw _ zw_1_106) (fun _ h9 => h9) rfl zd_F_putBytes_8 ?_
  refine lv_aload_n hx hb zd_F_putBytes_11 rfl (lv_at hl 1 rfl) ?_
  refine va_get (D := g.1) (ci := 0) (v := .int (iI (tl))) (C := zR_F) (T := zT_F) (N := 6) hx hb hw zin_F hown hK hP 0 rfl rfl 1 (by decide) (hw _ zw_1_107) (fun _ h9 => h9) rfl zd_F_putBytes_12 ?_
  refine lv_iload_n hx hb zd_F_putBytes_15 rfl (lv_at hl 2 rfl) ?_
  refine lv_iload_n hx hb zd_F_putBytes_16 rfl (lv_at hl 0 rfl) ?_
  refine lv_iushr hx hb zd_F_putBytes_17 rfl ?_
  refine zi_sipush hx hb zd_F_putBytes_18 (by decide) ?_
  refine lv_iand hx hb zd_F_putBytes_21 ?_
  have hby24 := zBy_rg v 24
  refine lv_i2c hx hb zd_F_putBytes_22 (v := iI (zBy v 24)) (zBy_at (k := 24) (by decide) (by decide) rfl) ?_
  refine zi_cast hx hb hK hP hD hS 1 2 rfl rfl (by omega) (by omega) zd_F_putBytes_23 (fun H locs hP hD hS => ?_)
  have hP : va_P g.1 zCl [(fq, .inr (0, [.ref (tp), .int (iI (tl)), .ref (pq), .ref (sq), .int (iI (br)), .ref (hq)])), (tp, .inl (g.2 2, 400, .inl (zaI (zu tf (tl).toNat (zBy v 24)))))] H := hP
  have hD : va_D A [(fq, .inr (0, [.ref (tp), .int (iI (tl)), .ref (pq), .ref (sq), .int (iI (br)), .ref (hq)])), (tp, .inl (g.2 2, 400, .inl (zaI (zu tf (tl).toNat (zBy v 24)))))] := hD
  refine lv_aload_n hx hb zd_F_putBytes_24 rfl (lv_at hl 1 rfl) ?_
  refine lv_dup hx hb zd_F_putBytes_25 rfl ?_
  refine va_get (D := g.1) (ci := 0) (v := .int (iI (tl))) (C := zR_F) (T := zT_F) (N := 6) hx hb hw zin_F hown hK hP 0 rfl rfl 1 (by decide) (hw _ zw_1_107) (fun _ h9 => h9) rfl zd_F_putBytes_26 ?_
  refine zi_iconst hx hb zd_F_putBytes_29 ?_
  refine zi_iadd hx hb zd_F_putBytes_30 ?_
  refine va_put (D := g.1) (ci := 0) (v := .int (iI (tl + 1))) (ty := .int) (C := zR_F) (T := zT_F) (N := 6) hx hb hw zin_F zt_F zto_F zn_F hown hK hP hD hS 0 rfl rfl 1 (by decide) (hw _ zw_1_107) (fun _ h9 => h9) rfl  (by decide +kernel) rfl rfl (Nat.le_of_ble_eq_true rfl) zd_F_putBytes_31 (fun H locs hP hD hS => ?_)
  have hP : va_P g.1 zCl [(fq, .inr (0, [.ref (tp), .int (iI (tl + 1)), .ref (pq), .ref (sq), .int (iI (br)), .ref (hq)])), (tp, .inl (g.2 2, 400, .inl (zaI (zu tf (tl).toNat (zBy v 24)))))] H := hP
  have hD : va_D A [(fq, .inr (0, [.ref (tp), .int (iI (tl + 1)), .ref (pq), .ref (sq), .int (iI (br)), .ref (hq)])), (tp, .inl (g.2 2, 400, .inl (zaI (zu tf (tl).toNat (zBy v 24)))))] := hD
  refine lv_iinc (v := iI (16)) (lv' := [(2, .int (iI (16))), (0, .ref (fq)), (1, .int (iI (v)))]) hx hb zd_F_putBytes_34 hl (k := 0) rfl (by decide) (by decide) rfl (fun ls hl => ?_)
  refine lv_goto (tgt := 3) hx hb zd_F_putBytes_37 (by decide) ?_
  refine lv_iload_n hx hb zd_F_putBytes_3 rfl (lv_at hl 0 rfl) ?_
  refine zi_if_lt (tgt := 40) hx hb zd_F_putBytes_4 (by decide) (by omega) (fun c4 => absurd c4 (by decide)) (fun _ => ?_)
  refine lv_aload_n hx hb zd_F_putBytes_7 rfl (lv_at hl 1 rfl) ?_
  refine va_get (D := g.1) (ci := 0) (v := .ref (tp)) (C := zR_F) (T := zT_F) (N := 6) hx hb hw zin_F hown hK hP 0 rfl rfl 0 (by decide) (hw _ zw_1_106) (fun _ h9 => h9) rfl zd_F_putBytes_8 ?_
  refine lv_aload_n hx hb zd_F_putBytes_11 rfl (lv_at hl 1 rfl) ?_
  refine va_get (D := g.1) (ci := 0) (v := .int (iI (tl + 1))) (C := zR_F) (T := zT_F) (N := 6) hx hb hw zin_F hown hK hP 0 rfl rfl 1 (by decide) (hw _ zw_1_107) (fun _ h9 => h9) rfl zd_F_putBytes_12 ?_
  refine lv_iload_n hx hb zd_F_putBytes_15 rfl (lv_at hl 2 rfl) ?_
  refine lv_iload_n hx hb zd_F_putBytes_16 rfl (lv_at hl 0 rfl) ?_
  refine lv_iushr hx hb zd_F_putBytes_17 rfl ?_
  refine zi_sipush hx hb zd_F_putBytes_18 (by decide) ?_
  refine lv_iand hx hb zd_F_putBytes_21 ?_
  have hby16 := zBy_rg v 16
  refine lv_i2c hx hb zd_F_putBytes_22 (v := iI (zBy v 16)) (zBy_at (k := 16) (by decide) (by decide) rfl) ?_
  refine zi_cast hx hb hK hP hD hS 1 2 rfl rfl (by omega) (by omega) zd_F_putBytes_23 (fun H locs hP hD hS => ?_)
  have hP : va_P g.1 zCl [(fq, .inr (0, [.ref (tp), .int (iI (tl + 1)), .ref (pq), .ref (sq), .int (iI (br)), .ref (hq)])), (tp, .inl (g.2 2, 400, .inl (zaI (zu (zu tf (tl).toNat (zBy v 24)) (tl + 1).toNat (zBy v 16)))))] H := hP
  have hD : va_D A [(fq, .inr (0, [.ref (tp), .int (iI (tl + 1)), .ref (pq), .ref (sq), .int (iI (br)), .ref (hq)])), (tp, .inl (g.2 2, 400, .inl (zaI (zu (zu tf (tl).toNat (zBy v 24)) (tl + 1).toNat (zBy v 16)))))] := hD
  refine lv_aload_n hx hb zd_F_putBytes_24 rfl (lv_at hl 1 rfl) ?_
  refine lv_dup hx hb zd_F_putBytes_25 rfl ?_
  refine va_get (D := g.1) (ci := 0) (v := .int (iI (tl + 1))) (C := zR_F) (T := zT_F) (N := 6) hx hb hw zin_F hown hK hP 0 rfl rfl 1 (by decide) (hw _ zw_1_107) (fun _ h9 => h9) rfl zd_F_putBytes_26 ?_
  refine zi_iconst hx hb zd_F_putBytes_29 ?_
  refine zi_iadd hx hb zd_F_putBytes_30 ?_
  refine va_put (D := g.1) (ci := 0) (v := .int (iI ((tl + 1) + 1))) (ty := .int) (C := zR_F) (T := zT_F) (N := 6) hx hb hw zin_F zt_F zto_F zn_F hown hK hP hD hS 0 rfl rfl 1 (by decide) (hw _ zw_1_107) (fun _ h9 => h9) rfl  (by decide +kernel) rfl rfl (Nat.le_of_ble_eq_true rfl) zd_F_putBytes_31 (fun H locs hP hD hS => ?_)
  have hP : va_P g.1 zCl [(fq, .inr (0, [.ref (tp), .int (iI ((tl + 1) + 1)), .ref (pq), .ref (sq), .int (iI (br)), .ref (hq)])), (tp, .inl (g.2 2, 400, .inl (zaI (zu (zu tf (tl).toNat (zBy v 24)) (tl + 1).toNat (zBy v 16)))))] H := hP
  have hD : va_D A [(fq, .inr (0, [.ref (tp), .int (iI ((tl + 1) + 1)), .ref (pq), .ref (sq), .int (iI (br)), .ref (hq)])), (tp, .inl (g.2 2, 400, .inl (zaI (zu (zu tf (tl).toNat (zBy v 24)) (tl + 1).toNat (zBy v 16)))))] := hD
  refine lv_iinc (v := iI (8)) (lv' := [(2, .int (iI (8))), (0, .ref (fq)), (1, .int (iI (v)))]) hx hb zd_F_putBytes_34 hl (k := 0) rfl (by decide) (by decide) rfl (fun ls hl => ?_)
  refine lv_goto (tgt := 3) hx hb zd_F_putBytes_37 (by decide) ?_
  refine lv_iload_n hx hb zd_F_putBytes_3 rfl (lv_at hl 0 rfl) ?_
  refine zi_if_lt (tgt := 40) hx hb zd_F_putBytes_4 (by decide) (by omega) (fun c4 => absurd c4 (by decide)) (fun _ => ?_)
  refine lv_aload_n hx hb zd_F_putBytes_7 rfl (lv_at hl 1 rfl) ?_
  refine va_get (D := g.1) (ci := 0) (v := .ref (tp)) (C := zR_F) (T := zT_F) (N := 6) hx hb hw zin_F hown hK hP 0 rfl rfl 0 (by decide) (hw _ zw_1_106) (fun _ h9 => h9) rfl zd_F_putBytes_8 ?_
  refine lv_aload_n hx hb zd_F_putBytes_11 rfl (lv_at hl 1 rfl) ?_
  refine va_get (D := g.1) (ci := 0) (v := .int (iI ((tl + 1) + 1))) (C := zR_F) (T := zT_F) (N := 6) hx hb hw zin_F hown hK hP 0 rfl rfl 1 (by decide) (hw _ zw_1_107) (fun _ h9 => h9) rfl zd_F_putBytes_12 ?_
  refine lv_iload_n hx hb zd_F_putBytes_15 rfl (lv_at hl 2 rfl) ?_
  refine lv_iload_n hx hb zd_F_putBytes_16 rfl (lv_at hl 0 rfl) ?_
  refine lv_iushr hx hb zd_F_putBytes_17 rfl ?_
  refine zi_sipush hx hb zd_F_putBytes_18 (by decide) ?_
  refine lv_iand hx hb zd_F_putBytes_21 ?_
  have hby8 := zBy_rg v 8
  refine lv_i2c hx hb zd_F_putBytes_22 (v := iI (zBy v 8)) (zBy_at (k := 8) (by decide) (by decide) rfl) ?_
  refine zi_cast hx hb hK hP hD hS 1 2 rfl rfl (by omega) (by omega) zd_F_putBytes_23 (fun H locs hP hD hS => ?_)
  have hP : va_P g.1 zCl [(fq, .inr (0, [.ref (tp), .int (iI ((tl + 1) + 1)), .ref (pq), .ref (sq), .int (iI (br)), .ref (hq)])), (tp, .inl (g.2 2, 400, .inl (zaI (zu (zu (zu tf (tl).toNat (zBy v 24)) (tl + 1).toNat (zBy v 16)) ((tl + 1) + 1).toNat (zBy v 8)))))] H := hP
  have hD : va_D A [(fq, .inr (0, [.ref (tp), .int (iI ((tl + 1) + 1)), .ref (pq), .ref (sq), .int (iI (br)), .ref (hq)])), (tp, .inl (g.2 2, 400, .inl (zaI (zu (zu (zu tf (tl).toNat (zBy v 24)) (tl + 1).toNat (zBy v 16)) ((tl + 1) + 1).toNat (zBy v 8)))))] := hD
  refine lv_aload_n hx hb zd_F_putBytes_24 rfl (lv_at hl 1 rfl) ?_
  refine lv_dup hx hb zd_F_putBytes_25 rfl ?_
  refine va_get (D := g.1) (ci := 0) (v := .int (iI ((tl + 1) + 1))) (C := zR_F) (T := zT_F) (N := 6) hx hb hw zin_F hown hK hP 0 rfl rfl 1 (by decide) (hw _ zw_1_107) (fun _ h9 => h9) rfl zd_F_putBytes_26 ?_
  refine zi_iconst hx hb zd_F_putBytes_29 ?_
  refine zi_iadd hx hb zd_F_putBytes_30 ?_
  refine va_put (D := g.1) (ci := 0) (v := .int (iI (((tl + 1) + 1) + 1))) (ty := .int) (C := zR_F) (T := zT_F) (N := 6) hx hb hw zin_F zt_F zto_F zn_F hown hK hP hD hS 0 rfl rfl 1 (by decide) (hw _ zw_1_107) (fun _ h9 => h9) rfl  (by decide +kernel) rfl rfl (Nat.le_of_ble_eq_true rfl) zd_F_putBytes_31 (fun H locs hP hD hS => ?_)
  have hP : va_P g.1 zCl [(fq, .inr (0, [.ref (tp), .int (iI (((tl + 1) + 1) + 1)), .ref (pq), .ref (sq), .int (iI (br)), .ref (hq)])), (tp, .inl (g.2 2, 400, .inl (zaI (zu (zu (zu tf (tl).toNat (zBy v 24)) (tl + 1).toNat (zBy v 16)) ((tl + 1) + 1).toNat (zBy v 8)))))] H := hP
  have hD : va_D A [(fq, .inr (0, [.ref (tp), .int (iI (((tl + 1) + 1) + 1)), .ref (pq), .ref (sq), .int (iI (br)), .ref (hq)])), (tp, .inl (g.2 2, 400, .inl (zaI (zu (zu (zu tf (tl).toNat (zBy v 24)) (tl + 1).toNat (zBy v 16)) ((tl + 1) + 1).toNat (zBy v 8)))))] := hD
  refine lv_iinc (v := iI (0)) (lv' := [(2, .int (iI (0))), (0, .ref (fq)), (1, .int (iI (v)))]) hx hb zd_F_putBytes_34 hl (k := 0) rfl (by decide) (by decide) rfl (fun ls hl => ?_)
  refine lv_goto (tgt := 3) hx hb zd_F_putBytes_37 (by decide) ?_
  refine lv_iload_n hx hb zd_F_putBytes_3 rfl (lv_at hl 0 rfl) ?_
  refine zi_if_lt (tgt := 40) hx hb zd_F_putBytes_4 (by decide) (by omega) (fun c4 => absurd c4 (by decide)) (fun _ => ?_)
  refine lv_aload_n hx hb zd_F_putBytes_7 rfl (lv_at hl 1 rfl) ?_
  refine va_get (D := g.1) (ci := 0) (v := .ref (tp)) (C := zR_F) (T := zT_F) (N := 6) hx hb hw zin_F hown hK hP 0 rfl rfl 0 (by decide) (hw _ zw_1_106) (fun _ h9 => h9) rfl zd_F_putBytes_8 ?_
  refine lv_aload_n hx hb zd_F_putBytes_11 rfl (lv_at hl 1 rfl) ?_
  refine va_get (D := g.1) (ci := 0) (v := .int (iI (((tl + 1) + 1) + 1))) (C := zR_F) (T := zT_F) (N := 6) hx hb hw zin_F hown hK hP 0 rfl rfl 1 (by decide) (hw _ zw_1_107) (fun _ h9 => h9) rfl zd_F_putBytes_12 ?_
  refine lv_iload_n hx hb zd_F_putBytes_15 rfl (lv_at hl 2 rfl) ?_
  refine lv_iload_n hx hb zd_F_putBytes_16 rfl (lv_at hl 0 rfl) ?_
  refine lv_iushr hx hb zd_F_putBytes_17 rfl ?_
  refine zi_sipush hx hb zd_F_putBytes_18 (by decide) ?_
  refine lv_iand hx hb zd_F_putBytes_21 ?_
  have hby0 := zBy_rg v 0
  refine lv_i2c hx hb zd_F_putBytes_22 (v := iI (zBy v 0)) (zBy_at (k := 0) (by decide) (by decide) rfl) ?_
  refine zi_cast hx hb hK hP hD hS 1 2 rfl rfl (by omega) (by omega) zd_F_putBytes_23 (fun H locs hP hD hS => ?_)
  have hP : va_P g.1 zCl [(fq, .inr (0, [.ref (tp), .int (iI (((tl + 1) + 1) + 1)), .ref (pq), .ref (sq), .int (iI (br)), .ref (hq)])), (tp, .inl (g.2 2, 400, .inl (zaI (zu (zu (zu (zu tf (tl).toNat (zBy v 24)) (tl + 1).toNat (zBy v 16)) ((tl + 1) + 1).toNat (zBy v 8)) (((tl + 1) + 1) + 1).toNat (zBy v 0)))))] H := hP
  have hD : va_D A [(fq, .inr (0, [.ref (tp), .int (iI (((tl + 1) + 1) + 1)), .ref (pq), .ref (sq), .int (iI (br)), .ref (hq)])), (tp, .inl (g.2 2, 400, .inl (zaI (zu (zu (zu (zu tf (tl).toNat (zBy v 24)) (tl + 1).toNat (zBy v 16)) ((tl + 1) + 1).toNat (zBy v 8)) (((tl + 1) + 1) + 1).toNat (zBy v 0)))))] := hD
  refine lv_aload_n hx hb zd_F_putBytes_24 rfl (lv_at hl 1 rfl) ?_
  refine lv_dup hx hb zd_F_putBytes_25 rfl ?_
  refine va_get (D := g.1) (ci := 0) (v := .int (iI (((tl + 1) + 1) + 1))) (C := zR_F) (T := zT_F) (N := 6) hx hb hw zin_F hown hK hP 0 rfl rfl 1 (by decide) (hw _ zw_1_107) (fun _ h9 => h9) rfl zd_F_putBytes_26 ?_
  refine zi_iconst hx hb zd_F_putBytes_29 ?_
  refine zi_iadd hx hb zd_F_putBytes_30 ?_
  refine va_put (D := g.1) (ci := 0) (v := .int (iI ((((tl + 1) + 1) + 1) + 1))) (ty := .int) (C := zR_F) (T := zT_F) (N := 6) hx hb hw zin_F zt_F zto_F zn_F hown hK hP hD hS 0 rfl rfl 1 (by decide) (hw _ zw_1_107) (fun _ h9 => h9) rfl  (by decide +kernel) rfl rfl (Nat.le_of_ble_eq_true rfl) zd_F_putBytes_31 (fun H locs hP hD hS => ?_)
  have hP : va_P g.1 zCl [(fq, .inr (0, [.ref (tp), .int (iI ((((tl + 1) + 1) + 1) + 1)), .ref (pq), .ref (sq), .int (iI (br)), .ref (hq)])), (tp, .inl (g.2 2, 400, .inl (zaI (zu (zu (zu (zu tf (tl).toNat (zBy v 24)) (tl + 1).toNat (zBy v 16)) ((tl + 1) + 1).toNat (zBy v 8)) (((tl + 1) + 1) + 1).toNat (zBy v 0)))))] H := hP
  have hD : va_D A [(fq, .inr (0, [.ref (tp), .int (iI ((((tl + 1) + 1) + 1) + 1)), .ref (pq), .ref (sq), .int (iI (br)), .ref (hq)])), (tp, .inl (g.2 2, 400, .inl (zaI (zu (zu (zu (zu tf (tl).toNat (zBy v 24)) (tl + 1).toNat (zBy v 16)) ((tl + 1) + 1).toNat (zBy v 8)) (((tl + 1) + 1) + 1).toNat (zBy v 0)))))] := hD
  refine lv_iinc (v := iI ((-8))) (lv' := [(2, .int (iI ((-8)))), (0, .ref (fq)), (1, .int (iI (v)))]) hx hb zd_F_putBytes_34 hl (k := 0) rfl (by decide) (by decide) rfl (fun ls hl => ?_)
  refine lv_goto (tgt := 3) hx hb zd_F_putBytes_37 (by decide) ?_
  refine lv_iload_n hx hb zd_F_putBytes_3 rfl (lv_at hl 0 rfl) ?_
  refine zi_if_lt (tgt := 40) hx hb zd_F_putBytes_4 (by decide) (by omega) (fun _ => ?_) (fun c4 => absurd c4 (by decide))
  exact zw_vret hx hb hr hlk (ws := [(fq, .inr (0, [.ref (tp), .int (iI (tl + 1 + 1 + 1 + 1)), .ref (pq), .ref (sq), .int (iI (br)), .ref (hq)])), (tp, .inl (g.2 2, 400, .inl (zaI (zu (zu (zu (zu tf (tl).toNat (zBy v 24)) (tl + 1).toNat (zBy v 16)) (tl + 1 + 1).toNat (zBy v 8)) (tl + 1 + 1 + 1).toNat (zBy v 0)))))]) hP hS zd_F_putBytes_40
