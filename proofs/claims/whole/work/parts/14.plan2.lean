/-! Plan: secondFrom, secondBackFrom, daysOf, firesOn -/
set_option maxHeartbeats 4000000 in
set_option maxRecDepth 100000 in
theorem c_P_secondFrom (l : Launch) (g : zGl) (pq : Nat) (ra aa : Nat → Nat) (al : Nat → Nat → Bool) (rl : Nat) (sub od : Int) (bits : Nat → Bool) (x rr : Int) (hx0 : 0 ≤ x ∧ x < 86400) (hq : sSF (al 0) (al 1) (al 2) x rr) (hn0 : ∃ k : Int, 0 ≤ k ∧ k ≤ 59 ∧ al 0 k.toNat = true) (hn1 : ∃ k : Int, 0 ≤ k ∧ k ≤ 59 ∧ al 1 k.toNat = true) : zSi l zy_P_secondFrom zc_P_secondFrom 6 (some .int) ({ frames := 2, cells := 0, slots := 0, locals := 43 }) g zN [.ref (pq), .int (iI (x))] [(pq, .inr (3, [.ref (ra 0), .ref (ra 1), .ref (ra 2), .ref (ra 3), .ref (ra 4), .ref (ra 5), .ref (ra 6), .ref (rl), .int (iI (sub)), .int (iI (od)), .int (zbits (bits))])), (ra 0, .inr (2, [.int (iI (0)), .int (iI (59)), .ref (aa 0)])), (aa 0, .inl (g.2 1, 60, .inl (zaB (al 0)))), (ra 1, .inr (2, [.int (iI (0)), .int (iI (59)), .ref (aa 1)])), (aa 1, .inl (g.2 1, 60, .inl (zaB (al 1)))), (ra 2, .inr (2, [.int (iI (0)), .int (iI (23)), .ref (aa 2)])), (aa 2, .inl (g.2 1, 24, .inl (zaB (al 2))))] (some (.int (iI (rr)))) := by
  refine zs_open (by decide +kernel) (Nat.le_of_ble_eq_true rfl) ?_
  intro p e s m below meth c ls hx hb hml hr hlk hown hw hK hT hP hl
  have hown : s.vm.findClass "CronFinder$Plan" = some m.cls := hown
  have hl : lv_has ls 6 [(0, .ref (pq)), (1, .int (iI (x)))] := hl
  obtain ⟨k0, e0⟩ := hn0
  obtain ⟨k1, e1⟩ := hn1
  refine lv_iload_n hx hb zd_P_secondFrom_0 rfl (lv_at hl 1 rfl) ?_
  refine zi_sipush hx hb zd_P_secondFrom_1 (by decide) ?_
  refine zi_idiv hx hb zd_P_secondFrom_4 (by omega) ?_
  refine lv_istore_n (lv' := [(2, .int (iI (x / 3600))), (0, .ref (pq)), (1, .int (iI (x)))]) hx hb zd_P_secondFrom_5 rfl hl (by decide) rfl (fun ls hl => ?_)
  refine lv_iload_n hx hb zd_P_secondFrom_6 rfl (lv_at hl 2 rfl) ?_
  refine zi_bipush hx hb zd_P_secondFrom_7 (by decide) ?_
  refine zi_idiv hx hb zd_P_secondFrom_9 (by omega) ?_
  refine zi_bipush hx hb zd_P_secondFrom_10 (by decide) ?_
  refine zi_irem hx hb zd_P_secondFrom_12 (by omega) ?_
  refine lv_istore_n (lv' := [(3, .int (iI ((x / 60) % 60))), (2, .int (iI (x / 3600))), (0, .ref (pq)), (1, .int (iI (x)))]) hx hb zd_P_secondFrom_13 rfl hl (by decide) rfl (fun ls hl => ?_)
  refine lv_aload_n hx hb zd_P_secondFrom_14 rfl (lv_at hl 2 rfl) ?_
  refine va_get (D := g.1) (ci := 3) (v := .ref (ra 2)) (C := zR_P) (T := zT_P) (N := 11) hx hb hw zin_P hown hK hP 0 rfl rfl 2 (by decide) (hw _ zw_1_60) (fun _ h9 => h9) rfl zd_P_secondFrom_15 ?_
  refine lv_iload_n hx hb zd_P_secondFrom_18 rfl (lv_at hl 1 rfl) ?_
  refine zk_V (As := [.int (iI (x / 3600))]) (b := ra 2) (own := "CronFinder$Plan") (nL := 6) (rest := []) hx hb hml hown hw (c_O_has l g (ra 2) (aa 2) 0 23 24 (al 2) (by decide) (x / 3600) (by omega)) zw_2_188 zw_2_189 zw_2_190 zw_1_3 zw_2_191 (np := 1) (by decide +kernel) rfl (by decide) zN_mv hK trivial (hP.sub (ws' := [(ra 2, .inr (2, [.int (iI (0)), .int (iI (23)), .ref (aa 2)])), (aa 2, .inl (g.2 1, 24, .inl (zaB (al 2))))]) [5, 6] rfl) (va_recv hK hP (ci := 2) (q0 := 5) rfl rfl) hl.1 rfl (Nat.le_of_ble_eq_true rfl) (by decide) zd_P_secondFrom_19 ?_
  refine zb_if_eq (tgt := 102) hx hb zd_P_secondFrom_22 (by decide) (fun c22 => ?_) (fun c22 => ?_)
  · refine lv_aload_n hx hb zd_P_secondFrom_102 rfl (lv_at hl 2 rfl) ?_
    refine va_get (D := g.1) (ci := 3) (v := .ref (ra 2)) (C := zR_P) (T := zT_P) (N := 11) hx hb hw zin_P hown hK hP 0 rfl rfl 2 (by decide) (hw _ zw_1_60) (fun _ h9 => h9) rfl zd_P_secondFrom_103 ?_
    refine lv_iload_n hx hb zd_P_secondFrom_106 rfl (lv_at hl 1 rfl) ?_
    refine zi_iconst hx hb zd_P_secondFrom_107 ?_
    refine zi_iadd hx hb zd_P_secondFrom_108 ?_
    obtain ⟨r109, h109⟩ := oFr_ex (al 2) 0 23 ((x / 3600) + 1)
    have hg109 := oFr_rg (by decide) h109
    refine zk_V (As := [.int (iI ((x / 3600) + 1))]) (b := ra 2) (own := "CronFinder$Plan") (nL := 6) (rest := []) hx hb hml hown hw (c_O_from l g (ra 2) (aa 2) 0 23 24 (al 2) (by decide) ((x / 3600) + 1) (r109) (by omega) (h109)) zw_3_105 zw_3_106 zw_3_107 zw_1_3 zw_3_108 (np := 1) (by decide +kernel) rfl (by decide) zN_mv hK trivial (hP.sub (ws' := [(ra 2, .inr (2, [.int (iI (0)), .int (iI (23)), .ref (aa 2)])), (aa 2, .inl (g.2 1, 24, .inl (zaB (al 2))))]) [5, 6] rfl) (va_recv hK hP (ci := 2) (q0 := 5) rfl rfl) hl.1 rfl (Nat.le_of_ble_eq_true rfl) (by decide) zd_P_secondFrom_109 ?_
    refine lv_istore (lv' := [(4, .int (iI (r109))), (3, .int (iI ((x / 60) % 60))), (2, .int (iI (x / 3600))), (0, .ref (pq)), (1, .int (iI (x)))]) hx hb zd_P_secondFrom_112 hl (by decide) rfl (fun ls hl => ?_)
    refine lv_iload hx hb zd_P_secondFrom_114 (lv_at hl 0 rfl) ?_
    refine zi_iconst hx hb zd_P_secondFrom_116 ?_
    refine zi_icmp_ne (tgt := 124) hx hb zd_P_secondFrom_117 (by decide) (by omega) (fun c117 => ?_) (fun c117 => ?_)
    · refine lv_aload_n hx hb zd_P_secondFrom_124 rfl (lv_at hl 3 rfl) ?_
      refine lv_iload hx hb zd_P_secondFrom_125 (lv_at hl 0 rfl) ?_
      refine lv_aload_n hx hb zd_P_secondFrom_127 rfl (lv_at hl 3 rfl) ?_
      refine va_get (D := g.1) (ci := 3) (v := .ref (ra 1)) (C := zR_P) (T := zT_P) (N := 11) hx hb hw zin_P hown hK hP 0 rfl rfl 1 (by decide) (hw _ zw_1_59) (fun _ h9 => h9) rfl zd_P_secondFrom_128 ?_
      refine zi_iconst hx hb zd_P_secondFrom_131 ?_
      obtain ⟨r132, h132⟩ := oFr_ex (al 1) 0 59 (0)
      have hg132 := oFr_rg (by decide) h132
      refine zk_V (As := [.int (iI (0))]) (b := ra 1) (own := "CronFinder$Plan") (nL := 6) (rest := [.int (iI (r109)), .ref (pq)]) hx hb hml hown hw (c_O_from l g (ra 1) (aa 1) 0 59 60 (al 1) (by decide) (0) (r132) (by omega) (h132)) zw_3_105 zw_3_106 zw_3_107 zw_1_3 zw_3_108 (np := 1) (by decide +kernel) rfl (by decide) zN_mv hK trivial (hP.sub (ws' := [(ra 1, .inr (2, [.int (iI (0)), .int (iI (59)), .ref (aa 1)])), (aa 1, .inl (g.2 1, 60, .inl (zaB (al 1))))]) [3, 4] rfl) (va_recv hK hP (ci := 2) (q0 := 3) rfl rfl) hl.1 rfl (Nat.le_of_ble_eq_true rfl) (by decide) zd_P_secondFrom_132 ?_
      refine lv_aload_n hx hb zd_P_secondFrom_135 rfl (lv_at hl 3 rfl) ?_
      refine va_get (D := g.1) (ci := 3) (v := .ref (ra 0)) (C := zR_P) (T := zT_P) (N := 11) hx hb hw zin_P hown hK hP 0 rfl rfl 0 (by decide) (hw _ zw_1_58) (fun _ h9 => h9) rfl zd_P_secondFrom_136 ?_
      refine zi_iconst hx hb zd_P_secondFrom_139 ?_
      obtain ⟨r140, h140⟩ := oFr_ex (al 0) 0 59 (0)
      have hg140 := oFr_rg (by decide) h140
      refine zk_V (As := [.int (iI (0))]) (b := ra 0) (own := "CronFinder$Plan") (nL := 6) (rest := [.int (iI (r132)), .int (iI (r109)), .ref (pq)]) hx hb hml hown hw (c_O_from l g (ra 0) (aa 0) 0 59 60 (al 0) (by decide) (0) (r140) (by omega) (h140)) zw_3_105 zw_3_106 zw_3_107 zw_1_3 zw_3_108 (np := 1) (by decide +kernel) rfl (by decide) zN_mv hK trivial (hP.sub (ws' := [(ra 0, .inr (2, [.int (iI (0)), .int (iI (59)), .ref (aa 0)])), (aa 0, .inl (g.2 1, 60, .inl (zaB (al 0))))]) [1, 2] rfl) (va_recv hK hP (ci := 2) (q0 := 1) rfl rfl) hl.1 rfl (Nat.le_of_ble_eq_true rfl) (by decide) zd_P_secondFrom_140 ?_
      refine zk_V (As := [.int (iI (r109)), .int (iI (r132)), .int (iI (r140))]) (b := pq) (own := "CronFinder$Plan") (nL := 6) (rest := []) hx hb hml hown hw (c_P_secondOf l g (pq) (r109) (r132) (r140)) zw_3_109 zw_3_111 zw_0_24 zw_1_2 zw_3_112 (np := 3) (by decide +kernel) rfl (by decide) zN_mv hK trivial (hP.sub (ws' := []) [] rfl) (va_recv hK hP (ci := 3) (q0 := 0) rfl rfl) hl.1 rfl (Nat.le_of_ble_eq_true rfl) (by decide) zd_P_secondFrom_143 ?_
      refine zi_as (rr) (by first | exact sSF_un hx0.1 (sSF_c hx0 (by first | exact Or.inl (oHas_0 c22 (by omega)) | exact Or.inr ⟨(by first | exact Or.inl (oHas_0 c33 (by omega)) | exact Or.inr (by rw [← c56]; exact h44)), by rw [← c83]; exact h75⟩) h109 c117 h132 (oFr_some h132 (k := k1) (by omega) (by rw [Int.sub_zero]; exact e1.2.2) (by decide)) h140 (oFr_some h140 (k := k0) (by omega) (by rw [Int.sub_zero]; exact e0.2.2) (by decide))) hq | exact sSF_un hx0.1 (sSF_d hx0 (by first | exact Or.inl (oHas_0 c22 (by omega)) | exact Or.inr ⟨(by first | exact Or.inl (oHas_0 c33 (by omega)) | exact Or.inr (by rw [← c56]; exact h44)), by rw [← c83]; exact h75⟩) (by rw [← c117]; exact h109)) hq) ?_
      exact zs_iret hx hb hr hlk zd_P_secondFrom_146
    · refine zi_iconst hx hb zd_P_secondFrom_120 ?_
      refine lv_goto (tgt := 146) hx hb zd_P_secondFrom_121 (by decide) ?_
      refine zi_as (rr) (by first | exact sSF_un hx0.1 (sSF_c hx0 (by first | exact Or.inl (oHas_0 c22 (by omega)) | exact Or.inr ⟨(by first | exact Or.inl (oHas_0 c33 (by omega)) | exact Or.inr (by rw [← c56]; exact h44)), by rw [← c83]; exact h75⟩) h109 c117 h132 (oFr_some h132 (k := k1) (by omega) (by rw [Int.sub_zero]; exact e1.2.2) (by decide)) h140 (oFr_some h140 (k := k0) (by omega) (by rw [Int.sub_zero]; exact e0.2.2) (by decide))) hq | exact sSF_un hx0.1 (sSF_d hx0 (by first | exact Or.inl (oHas_0 c22 (by omega)) | exact Or.inr ⟨(by first | exact Or.inl (oHas_0 c33 (by omega)) | exact Or.inr (by rw [← c56]; exact h44)), by rw [← c83]; exact h75⟩) (by rw [← c117]; exact h109)) hq) ?_
      exact zs_iret hx hb hr hlk zd_P_secondFrom_146
  · refine lv_aload_n hx hb zd_P_secondFrom_25 rfl (lv_at hl 2 rfl) ?_
    refine va_get (D := g.1) (ci := 3) (v := .ref (ra 1)) (C := zR_P) (T := zT_P) (N := 11) hx hb hw zin_P hown hK hP 0 rfl rfl 1 (by decide) (hw _ zw_1_59) (fun _ h9 => h9) rfl zd_P_secondFrom_26 ?_
    refine lv_iload_n hx hb zd_P_secondFrom_29 rfl (lv_at hl 0 rfl) ?_
    refine zk_V (As := [.int (iI ((x / 60) % 60))]) (b := ra 1) (own := "CronFinder$Plan") (nL := 6) (rest := []) hx hb hml hown hw (c_O_has l g (ra 1) (aa 1) 0 59 60 (al 1) (by decide) ((x / 60) % 60) (by omega)) zw_2_188 zw_2_189 zw_2_190 zw_1_3 zw_2_191 (np := 1) (by decide +kernel) rfl (by decide) zN_mv hK trivial (hP.sub (ws' := [(ra 1, .inr (2, [.int (iI (0)), .int (iI (59)), .ref (aa 1)])), (aa 1, .inl (g.2 1, 60, .inl (zaB (al 1))))]) [3, 4] rfl) (va_recv hK hP (ci := 2) (q0 := 3) rfl rfl) hl.1 rfl (Nat.le_of_ble_eq_true rfl) (by decide) zd_P_secondFrom_30 ?_
    refine zb_if_eq (tgt := 50) hx hb zd_P_secondFrom_33 (by decide) (fun c33 => ?_) (fun c33 => ?_)
    · refine zi_iconst hx hb zd_P_secondFrom_50 ?_
      refine lv_istore (lv' := [(4, .int (iI ((-1)))), (3, .int (iI ((x / 60) % 60))), (2, .int (iI (x / 3600))), (0, .ref (pq)), (1, .int (iI (x)))]) hx hb zd_P_secondFrom_51 hl (by decide) rfl (fun ls hl => ?_)
      refine lv_iload hx hb zd_P_secondFrom_53 (lv_at hl 0 rfl) ?_
      refine zi_iconst hx hb zd_P_secondFrom_55 ?_
      refine zi_icmp_eq (tgt := 68) hx hb zd_P_secondFrom_56 (by decide) (by omega) (fun _ => ?_) (fun c56 => absurd c56 (by decide))
      refine lv_aload_n hx hb zd_P_secondFrom_68 rfl (lv_at hl 3 rfl) ?_
      refine va_get (D := g.1) (ci := 3) (v := .ref (ra 1)) (C := zR_P) (T := zT_P) (N := 11) hx hb hw zin_P hown hK hP 0 rfl rfl 1 (by decide) (hw _ zw_1_59) (fun _ h9 => h9) rfl zd_P_secondFrom_69 ?_
      refine lv_iload_n hx hb zd_P_secondFrom_72 rfl (lv_at hl 1 rfl) ?_
      refine zi_iconst hx hb zd_P_secondFrom_73 ?_
      refine zi_iadd hx hb zd_P_secondFrom_74 ?_
      obtain ⟨r75, h75⟩ := oFr_ex (al 1) 0 59 (((x / 60) % 60) + 1)
      have hg75 := oFr_rg (by decide) h75
      refine zk_V (As := [.int (iI (((x / 60) % 60) + 1))]) (b := ra 1) (own := "CronFinder$Plan") (nL := 6) (rest := []) hx hb hml hown hw (c_O_from l g (ra 1) (aa 1) 0 59 60 (al 1) (by decide) (((x / 60) % 60) + 1) (r75) (by omega) (h75)) zw_3_105 zw_3_106 zw_3_107 zw_1_3 zw_3_108 (np := 1) (by decide +kernel) rfl (by decide) zN_mv hK trivial (hP.sub (ws' := [(ra 1, .inr (2, [.int (iI (0)), .int (iI (59)), .ref (aa 1)])), (aa 1, .inl (g.2 1, 60, .inl (zaB (al 1))))]) [3, 4] rfl) (va_recv hK hP (ci := 2) (q0 := 3) rfl rfl) hl.1 rfl (Nat.le_of_ble_eq_true rfl) (by decide) zd_P_secondFrom_75 ?_
      refine lv_istore (lv' := [(5, .int (iI (r75))), (4, .int (iI ((-1)))), (3, .int (iI ((x / 60) % 60))), (2, .int (iI (x / 3600))), (0, .ref (pq)), (1, .int (iI (x)))]) hx hb zd_P_secondFrom_78 hl (by decide) rfl (fun ls hl => ?_)
      refine lv_iload hx hb zd_P_secondFrom_80 (lv_at hl 0 rfl) ?_
      refine zi_iconst hx hb zd_P_secondFrom_82 ?_
      refine zi_icmp_eq (tgt := 102) hx hb zd_P_secondFrom_83 (by decide) (by omega) (fun c83 => ?_) (fun c83 => ?_)
      · refine lv_aload_n hx hb zd_P_secondFrom_102 rfl (lv_at hl 4 rfl) ?_
        refine va_get (D := g.1) (ci := 3) (v := .ref (ra 2)) (C := zR_P) (T := zT_P) (N := 11) hx hb hw zin_P hown hK hP 0 rfl rfl 2 (by decide) (hw _ zw_1_60) (fun _ h9 => h9) rfl zd_P_secondFrom_103 ?_
        refine lv_iload_n hx hb zd_P_secondFrom_106 rfl (lv_at hl 3 rfl) ?_
        refine zi_iconst hx hb zd_P_secondFrom_107 ?_
        refine zi_iadd hx hb zd_P_secondFrom_108 ?_
        obtain ⟨r109, h109⟩ := oFr_ex (al 2) 0 23 ((x / 3600) + 1)
        have hg109 := oFr_rg (by decide) h109
        refine zk_V (As := [.int (iI ((x / 3600) + 1))]) (b := ra 2) (own := "CronFinder$Plan") (nL := 6) (rest := []) hx hb hml hown hw (c_O_from l g (ra 2) (aa 2) 0 23 24 (al 2) (by decide) ((x / 3600) + 1) (r109) (by omega) (h109)) zw_3_105 zw_3_106 zw_3_107 zw_1_3 zw_3_108 (np := 1) (by decide +kernel) rfl (by decide) zN_mv hK trivial (hP.sub (ws' := [(ra 2, .inr (2, [.int (iI (0)), .int (iI (23)), .ref (aa 2)])), (aa 2, .inl (g.2 1, 24, .inl (zaB (al 2))))]) [5, 6] rfl) (va_recv hK hP (ci := 2) (q0 := 5) rfl rfl) hl.1 rfl (Nat.le_of_ble_eq_true rfl) (by decide) zd_P_secondFrom_109 ?_
        refine lv_istore (lv' := [(4, .int (iI (r109))), (5, .int (iI (r75))), (3, .int (iI ((x / 60) % 60))), (2, .int (iI (x / 3600))), (0, .ref (pq)), (1, .int (iI (x)))]) hx hb zd_P_secondFrom_112 hl (by decide) rfl (fun ls hl => ?_)
        refine lv_iload hx hb zd_P_secondFrom_114 (lv_at hl 0 rfl) ?_
        refine zi_iconst hx hb zd_P_secondFrom_116 ?_
        refine zi_icmp_ne (tgt := 124) hx hb zd_P_secondFrom_117 (by decide) (by omega) (fun c117 => ?_) (fun c117 => ?_)
        · refine lv_aload_n hx hb zd_P_secondFrom_124 rfl (lv_at hl 4 rfl) ?_
          refine lv_iload hx hb zd_P_secondFrom_125 (lv_at hl 0 rfl) ?_
          refine lv_aload_n hx hb zd_P_secondFrom_127 rfl (lv_at hl 4 rfl) ?_
          refine va_get (D := g.1) (ci := 3) (v := .ref (ra 1)) (C := zR_P) (T := zT_P) (N := 11) hx hb hw zin_P hown hK hP 0 rfl rfl 1 (by decide) (hw _ zw_1_59) (fun _ h9 => h9) rfl zd_P_secondFrom_128 ?_
          refine zi_iconst hx hb zd_P_secondFrom_131 ?_
          obtain ⟨r132, h132⟩ := oFr_ex (al 1) 0 59 (0)
          have hg132 := oFr_rg (by decide) h132
          refine zk_V (As := [.int (iI (0))]) (b := ra 1) (own := "CronFinder$Plan") (nL := 6) (rest := [.int (iI (r109)), .ref (pq)]) hx hb hml hown hw (c_O_from l g (ra 1) (aa 1) 0 59 60 (al 1) (by decide) (0) (r132) (by omega) (h132)) zw_3_105 zw_3_106 zw_3_107 zw_1_3 zw_3_108 (np := 1) (by decide +kernel) rfl (by decide) zN_mv hK trivial (hP.sub (ws' := [(ra 1, .inr (2, [.int (iI (0)), .int (iI (59)), .ref (aa 1)])), (aa 1, .inl (g.2 1, 60, .inl (zaB (al 1))))]) [3, 4] rfl) (va_recv hK hP (ci := 2) (q0 := 3) rfl rfl) hl.1 rfl (Nat.le_of_ble_eq_true rfl) (by decide) zd_P_secondFrom_132 ?_
          refine lv_aload_n hx hb zd_P_secondFrom_135 rfl (lv_at hl 4 rfl) ?_
          refine va_get (D := g.1) (ci := 3) (v := .ref (ra 0)) (C := zR_P) (T := zT_P) (N := 11) hx hb hw zin_P hown hK hP 0 rfl rfl 0 (by decide) (hw _ zw_1_58) (fun _ h9 => h9) rfl zd_P_secondFrom_136 ?_
          refine zi_iconst hx hb zd_P_secondFrom_139 ?_
          obtain ⟨r140, h140⟩ := oFr_ex (al 0) 0 59 (0)
          have hg140 := oFr_rg (by decide) h140
          refine zk_V (As := [.int (iI (0))]) (b := ra 0) (own := "CronFinder$Plan") (nL := 6) (rest := [.int (iI (r132)), .int (iI (r109)), .ref (pq)]) hx hb hml hown hw (c_O_from l g (ra 0) (aa 0) 0 59 60 (al 0) (by decide) (0) (r140) (by omega) (h140)) zw_3_105 zw_3_106 zw_3_107 zw_1_3 zw_3_108 (np := 1) (by decide +kernel) rfl (by decide) zN_mv hK trivial (hP.sub (ws' := [(ra 0, .inr (2, [.int (iI (0)), .int (iI (59)), .ref (aa 0)])), (aa 0, .inl (g.2 1, 60, .inl (zaB (al 0))))]) [1, 2] rfl) (va_recv hK hP (ci := 2) (q0 := 1) rfl rfl) hl.1 rfl (Nat.le_of_ble_eq_true rfl) (by decide) zd_P_secondFrom_140 ?_
          refine zk_V (As := [.int (iI (r109)), .int (iI (r132)), .int (iI (r140))]) (b := pq) (own := "CronFinder$Plan") (nL := 6) (rest := []) hx hb hml hown hw (c_P_secondOf l g (pq) (r109) (r132) (r140)) zw_3_109 zw_3_111 zw_0_24 zw_1_2 zw_3_112 (np := 3) (by decide +kernel) rfl (by decide) zN_mv hK trivial (hP.sub (ws' := []) [] rfl) (va_recv hK hP (ci := 3) (q0 := 0) rfl rfl) hl.1 rfl (Nat.le_of_ble_eq_true rfl) (by decide) zd_P_secondFrom_143 ?_
          refine zi_as (rr) (by first | exact sSF_un hx0.1 (sSF_c hx0 (by first | exact Or.inl (oHas_0 c22 (by omega)) | exact Or.inr ⟨(by first | exact Or.inl (oHas_0 c33 (by omega)) | exact Or.inr (by rw [← c56]; exact h44)), by rw [← c83]; exact h75⟩) h109 c117 h132 (oFr_some h132 (k := k1) (by omega) (by rw [Int.sub_zero]; exact e1.2.2) (by decide)) h140 (oFr_some h140 (k := k0) (by omega) (by rw [Int.sub_zero]; exact e0.2.2) (by decide))) hq | exact sSF_un hx0.1 (sSF_d hx0 (by first | exact Or.inl (oHas_0 c22 (by omega)) | exact Or.inr ⟨(by first | exact Or.inl (oHas_0 c33 (by omega)) | exact Or.inr (by rw [← c56]; exact h44)), by rw [← c83]; exact h75⟩) (by rw [← c117]; exact h109)) hq) ?_
          exact zs_iret hx hb hr hlk zd_P_secondFrom_146
        · refine zi_iconst hx hb zd_P_secondFrom_120 ?_
          refine lv_goto (tgt := 146) hx hb zd_P_secondFrom_121 (by decide) ?_
          refine zi_as (rr) (by first | exact sSF_un hx0.1 (sSF_c hx0 (by first | exact Or.inl (oHas_0 c22 (by omega)) | exact Or.inr ⟨(by first | exact Or.inl (oHas_0 c33 (by omega)) | exact Or.inr (by rw [← c56]; exact h44)), by rw [← c83]; exact h75⟩) h109 c117 h132 (oFr_some h132 (k := k1) (by omega) (by rw [Int.sub_zero]; exact e1.2.2) (by decide)) h140 (oFr_some h140 (k := k0) (by omega) (by rw [Int.sub_zero]; exact e0.2.2) (by decide))) hq | exact sSF_un hx0.1 (sSF_d hx0 (by first | exact Or.inl (oHas_0 c22 (by omega)) | exact Or.inr ⟨(by first | exact Or.inl (oHas_0 c33 (by omega)) | exact Or.inr (by rw [← c56]; exact h44)), by rw [← c83]; exact h75⟩) (by rw [← c117]; exact h109)) hq) ?_
          exact zs_iret hx hb hr hlk zd_P_secondFrom_146
      · refine lv_aload_n hx hb zd_P_secondFrom_86 rfl (lv_at hl 4 rfl) ?_
        refine lv_iload_n hx hb zd_P_secondFrom_87 rfl (lv_at hl 3 rfl) ?_
        refine lv_iload hx hb zd_P_secondFrom_88 (lv_at hl 0 rfl) ?_
        refine lv_aload_n hx hb zd_P_secondFrom_90 rfl (lv_at hl 4 rfl) ?_
        refine va_get (D := g.1) (ci := 3) (v := .ref (ra 0)) (C := zR_P) (T := zT_P) (N := 11) hx hb hw zin_P hown hK hP 0 rfl rfl 0 (by decide) (hw _ zw_1_58) (fun _ h9 => h9) rfl zd_P_secondFrom_91 ?_
        refine zi_iconst hx hb zd_P_secondFrom_94 ?_
        obtain ⟨r95, h95⟩ := oFr_ex (al 0) 0 59 (0)
        have hg95 := oFr_rg (by decide) h95
        refine zk_V (As := [.int (iI (0))]) (b := ra 0) (own := "CronFinder$Plan") (nL := 6) (rest := [.int (iI (r75)), .int (iI (x / 3600)), .ref (pq)]) hx hb hml hown hw (c_O_from l g (ra 0) (aa 0) 0 59 60 (al 0) (by decide) (0) (r95) (by omega) (h95)) zw_3_105 zw_3_106 zw_3_107 zw_1_3 zw_3_108 (np := 1) (by decide +kernel) rfl (by decide) zN_mv hK trivial (hP.sub (ws' := [(ra 0, .inr (2, [.int (iI (0)), .int (iI (59)), .ref (aa 0)])), (aa 0, .inl (g.2 1, 60, .inl (zaB (al 0))))]) [1, 2] rfl) (va_recv hK hP (ci := 2) (q0 := 1) rfl rfl) hl.1 rfl (Nat.le_of_ble_eq_true rfl) (by decide) zd_P_secondFrom_95 ?_
        refine zk_V (As := [.int (iI (x / 3600)), .int (iI (r75)), .int (iI (r95))]) (b := pq) (own := "CronFinder$Plan") (nL := 6) (rest := []) hx hb hml hown hw (c_P_secondOf l g (pq) (x / 3600) (r75) (r95)) zw_3_109 zw_3_111 zw_0_24 zw_1_2 zw_3_112 (np := 3) (by decide +kernel) rfl (by decide) zN_mv hK trivial (hP.sub (ws' := []) [] rfl) (va_recv hK hP (ci := 3) (q0 := 0) rfl rfl) hl.1 rfl (Nat.le_of_ble_eq_true rfl) (by decide) zd_P_secondFrom_98 ?_
        refine zi_as (rr) (sSF_un hx0.1 (sSF_b hx0 (oHas_0 c22 (by omega)) (by first | exact Or.inl (oHas_0 c33 (by omega)) | exact Or.inr (by rw [← c56]; exact h44)) h75 c83 h95 (oFr_some h95 (k := k0) (by omega) (by rw [Int.sub_zero]; exact e0.2.2) (by decide))) hq) ?_
        exact zs_iret hx hb hr hlk zd_P_secondFrom_101
    · refine lv_aload_n hx hb zd_P_secondFrom_36 rfl (lv_at hl 2 rfl) ?_
      refine va_get (D := g.1) (ci := 3) (v := .ref (ra 0)) (C := zR_P) (T := zT_P) (N := 11) hx hb hw zin_P hown hK hP 0 rfl rfl 0 (by decide) (hw _ zw_1_58) (fun _ h9 => h9) rfl zd_P_secondFrom_37 ?_
      refine lv_iload_n hx hb zd_P_secondFrom_40 rfl (lv_at hl 3 rfl) ?_
      refine zi_bipush hx hb zd_P_secondFrom_41 (by decide) ?_
      refine zi_irem hx hb zd_P_secondFrom_43 (by omega) ?_
      obtain ⟨r44, h44⟩ := oFr_ex (al 0) 0 59 (x % 60)
      have hg44 := oFr_rg (by decide) h44
      refine zk_V (As := [.int (iI (x % 60))]) (b := ra 0) (own := "CronFinder$Plan") (nL := 6) (rest := []) hx hb hml hown hw (c_O_from l g (ra 0) (aa 0) 0 59 60 (al 0) (by decide) (x % 60) (r44) (by omega) (h44)) zw_3_105 zw_3_106 zw_3_107 zw_1_3 zw_3_108 (np := 1) (by decide +kernel) rfl (by decide) zN_mv hK trivial (hP.sub (ws' := [(ra 0, .inr (2, [.int (iI (0)), .int (iI (59)), .ref (aa 0)])), (aa 0, .inl (g.2 1, 60, .inl (zaB (al 0))))]) [1, 2] rfl) (va_recv hK hP (ci := 2) (q0 := 1) rfl rfl) hl.1 rfl (Nat.le_of_ble_eq_true rfl) (by decide) zd_P_secondFrom_44 ?_
      refine lv_goto (tgt := 51) hx hb zd_P_secondFrom_47 (by decide) ?_
      refine lv_istore (lv' := [(4, .int (iI (r44))), (3, .int (iI ((x / 60) % 60))), (2, .int (iI (x / 3600))), (0, .ref (pq)), (1, .int (iI (x)))]) hx hb zd_P_secondFrom_51 hl (by decide) rfl (fun ls hl => ?_)
      refine lv_iload hx hb zd_P_secondFrom_53 (lv_at hl 0 rfl) ?_
      refine zi_iconst hx hb zd_P_secondFrom_55 ?_
      refine zi_icmp_eq (tgt := 68) hx hb zd_P_secondFrom_56 (by decide) (by omega) (fun c56 => ?_) (fun c56 => ?_)
      · refine lv_aload_n hx hb zd_P_secondFrom_68 rfl (lv_at hl 3 rfl) ?_
        refine va_get (D := g.1) (ci := 3) (v := .ref (ra 1)) (C := zR_P) (T := zT_P) (N := 11) hx hb hw zin_P hown hK hP 0 rfl rfl 1 (by decide) (hw _ zw_1_59) (fun _ h9 => h9) rfl zd_P_secondFrom_69 ?_
        refine lv_iload_n hx hb zd_P_secondFrom_72 rfl (lv_at hl 1 rfl) ?_
        refine zi_iconst hx hb zd_P_secondFrom_73 ?_
        refine zi_iadd hx hb zd_P_secondFrom_74 ?_
        obtain ⟨r75, h75⟩ := oFr_ex (al 1) 0 59 (((x / 60) % 60) + 1)
        have hg75 := oFr_rg (by decide) h75
        refine zk_V (As := [.int (iI (((x / 60) % 60) + 1))]) (b := ra 1) (own := "CronFinder$Plan") (nL := 6) (rest := []) hx hb hml hown hw (c_O_from l g (ra 1) (aa 1) 0 59 60 (al 1) (by decide) (((x / 60) % 60) + 1) (r75) (by omega) (h75)) zw_3_105 zw_3_106 zw_3_107 zw_1_3 zw_3_108 (np := 1) (by decide +kernel) rfl (by decide) zN_mv hK trivial (hP.sub (ws' := [(ra 1, .inr (2, [.int (iI (0)), .int (iI (59)), .ref (aa 1)])), (aa 1, .inl (g.2 1, 60, .inl (zaB (al 1))))]) [3, 4] rfl) (va_recv hK hP (ci := 2) (q0 := 3) rfl rfl) hl.1 rfl (Nat.le_of_ble_eq_true rfl) (by decide) zd_P_secondFrom_75 ?_
        refine lv_istore (lv' := [(5, .int (iI (r75))), (4, .int (iI (r44))), (3, .int (iI ((x / 60) % 60))), (2, .int (iI (x / 3600))), (0, .ref (pq)), (1, .int (iI (x)))]) hx hb zd_P_secondFrom_78 hl (by decide) rfl (fun ls hl => ?_)
        refine lv_iload hx hb zd_P_secondFrom_80 (lv_at hl 0 rfl) ?_
        refine zi_iconst hx hb zd_P_secondFrom_82 ?_
        refine zi_icmp_eq (tgt := 102) hx hb zd_P_secondFrom_83 (by decide) (by omega) (fun c83 => ?_) (fun c83 => ?_)
        · refine lv_aload_n hx hb zd_P_secondFrom_102 rfl (lv_at hl 4 rfl) ?_
          refine va_get (D := g.1) (ci := 3) (v := .ref (ra 2)) (C := zR_P) (T := zT_P) (N := 11) hx hb hw zin_P hown hK hP 0 rfl rfl 2 (by decide) (hw _ zw_1_60) (fun _ h9 => h9) rfl zd_P_secondFrom_103 ?_
          refine lv_iload_n hx hb zd_P_secondFrom_106 rfl (lv_at hl 3 rfl) ?_
          refine zi_iconst hx hb zd_P_secondFrom_107 ?_
          refine zi_iadd hx hb zd_P_secondFrom_108 ?_
          obtain ⟨r109, h109⟩ := oFr_ex (al 2) 0 23 ((x / 3600) + 1)
          have hg109 := oFr_rg (by decide) h109
          refine zk_V (As := [.int (iI ((x / 3600) + 1))]) (b := ra 2) (own := "CronFinder$Plan") (nL := 6) (rest := []) hx hb hml hown hw (c_O_from l g (ra 2) (aa 2) 0 23 24 (al 2) (by decide) ((x / 3600) + 1) (r109) (by omega) (h109)) zw_3_105 zw_3_106 zw_3_107 zw_1_3 zw_3_108 (np := 1) (by decide +kernel) rfl (by decide) zN_mv hK trivial (hP.sub (ws' := [(ra 2, .inr (2, [.int (iI (0)), .int (iI (23)), .ref (aa 2)])), (aa 2, .inl (g.2 1, 24, .inl (zaB (al 2))))]) [5, 6] rfl) (va_recv hK hP (ci := 2) (q0 := 5) rfl rfl) hl.1 rfl (Nat.le_of_ble_eq_true rfl) (by decide) zd_P_secondFrom_109 ?_
          refine lv_istore (lv' := [(4, .int (iI (r109))), (5, .int (iI (r75))), (3, .int (iI ((x / 60) % 60))), (2, .int (iI (x / 3600))), (0, .ref (pq)), (1, .int (iI (x)))]) hx hb zd_P_secondFrom_112 hl (by decide) rfl (fun ls hl => ?_)
          refine lv_iload hx hb zd_P_secondFrom_114 (lv_at hl 0 rfl) ?_
          refine zi_iconst hx hb zd_P_secondFrom_116 ?_
          refine zi_icmp_ne (tgt := 124) hx hb zd_P_secondFrom_117 (by decide) (by omega) (fun c117 => ?_) (fun c117 => ?_)
          · refine lv_aload_n hx hb zd_P_secondFrom_124 rfl (lv_at hl 4 rfl) ?_
            refine lv_iload hx hb zd_P_secondFrom_125 (lv_at hl 0 rfl) ?_
            refine lv_aload_n hx hb zd_P_secondFrom_127 rfl (lv_at hl 4 rfl) ?_
            refine va_get (D := g.1) (ci := 3) (v := .ref (ra 1)) (C := zR_P) (T := zT_P) (N := 11) hx hb hw zin_P hown hK hP 0 rfl rfl 1 (by decide) (hw _ zw_1_59) (fun _ h9 => h9) rfl zd_P_secondFrom_128 ?_
            refine zi_iconst hx hb zd_P_secondFrom_131 ?_
            obtain ⟨r132, h132⟩ := oFr_ex (al 1) 0 59 (0)
            have hg132 := oFr_rg (by decide) h132
            refine zk_V (As := [.int (iI (0))]) (b := ra 1) (own := "CronFinder$Plan") (nL := 6) (rest := [.int (iI (r109)), .ref (pq)]) hx hb hml hown hw (c_O_from l g (ra 1) (aa 1) 0 59 60 (al 1) (by decide) (0) (r132) (by omega) (h132)) zw_3_105 zw_3_106 zw_3_107 zw_1_3 zw_3_108 (np := 1) (by decide +kernel) rfl (by decide) zN_mv hK trivial (hP.sub (ws' := [(ra 1, .inr (2, [.int (iI (0)), .int (iI (59)), .ref (aa 1)])), (aa 1, .inl (g.2 1, 60, .inl (zaB (al 1))))]) [3, 4] rfl) (va_recv hK hP (ci := 2) (q0 := 3) rfl rfl) hl.1 rfl (Nat.le_of_ble_eq_true rfl) (by decide) zd_P_secondFrom_132 ?_
            refine lv_aload_n hx hb zd_P_secondFrom_135 rfl (lv_at hl 4 rfl) ?_
            refine va_get (D := g.1) (ci := 3) (v := .ref (ra 0)) (C := zR_P) (T := zT_P) (N := 11) hx hb hw zin_P hown hK hP 0 rfl rfl 0 (by decide) (hw _ zw_1_58) (fun _ h9 => h9) rfl zd_P_secondFrom_136 ?_
            refine zi_iconst hx hb zd_P_secondFrom_139 ?_
            obtain ⟨r140, h140⟩ := oFr_ex (al 0) 0 59 (0)
            have hg140 := oFr_rg (by decide) h140
            refine zk_V (As := [.int (iI (0))]) (b := ra 0) (own := "CronFinder$Plan") (nL := 6) (rest := [.int (iI (r132)), .int (iI (r109)), .ref (pq)]) hx hb hml hown hw (c_O_from l g (ra 0) (aa 0) 0 59 60 (al 0) (by decide) (0) (r140) (by omega) (h140)) zw_3_105 zw_3_106 zw_3_107 zw_1_3 zw_3_108 (np := 1) (by decide +kernel) rfl (by decide) zN_mv hK trivial (hP.sub (ws' := [(ra 0, .inr (2, [.int (iI (0)), .int (iI (59)), .ref (aa 0)])), (aa 0, .inl (g.2 1, 60, .inl (zaB (al 0))))]) [1, 2] rfl) (va_recv hK hP (ci := 2) (q0 := 1) rfl rfl) hl.1 rfl (Nat.le_of_ble_eq_true rfl) (by decide) zd_P_secondFrom_140 ?_
            refine zk_V (As := [.int (iI (r109)), .int (iI (r132)), .int (iI (r140))]) (b := pq) (own := "CronFinder$Plan") (nL := 6) (rest := []) hx hb hml hown hw (c_P_secondOf l g (pq) (r109) (r132) (r140)) zw_3_109 zw_3_111 zw_0_24 zw_1_2 zw_3_112 (np := 3) (by decide +kernel) rfl (by decide) zN_mv hK trivial (hP.sub (ws' := []) [] rfl) (va_recv hK hP (ci := 3) (q0 := 0) rfl rfl) hl.1 rfl (Nat.le_of_ble_eq_true rfl) (by decide) zd_P_secondFrom_143 ?_
            refine zi_as (rr) (by first | exact sSF_un hx0.1 (sSF_c hx0 (by first | exact Or.inl (oHas_0 c22 (by omega)) | exact Or.inr ⟨(by first | exact Or.inl (oHas_0 c33 (by omega)) | exact Or.inr (by rw [← c56]; exact h44)), by rw [← c83]; exact h75⟩) h109 c117 h132 (oFr_some h132 (k := k1) (by omega) (by rw [Int.sub_zero]; exact e1.2.2) (by decide)) h140 (oFr_some h140 (k := k0) (by omega) (by rw [Int.sub_zero]; exact e0.2.2) (by decide))) hq | exact sSF_un hx0.1 (sSF_d hx0 (by first | exact Or.inl (oHas_0 c22 (by omega)) | exact Or.inr ⟨(by first | exact Or.inl (oHas_0 c33 (by omega)) | exact Or.inr (by rw [← c56]; exact h44)), by rw [← c83]; exact h75⟩) (by rw [← c117]; exact h109)) hq) ?_
            exact zs_iret hx hb hr hlk zd_P_secondFrom_146
          · refine zi_iconst hx hb zd_P_secondFrom_120 ?_
            refine lv_goto (tgt := 146) hx hb zd_P_secondFrom_121 (by decide) ?_
            refine zi_as (rr) (by first | exact sSF_un hx0.1 (sSF_c hx0 (by first | exact Or.inl (oHas_0 c22 (by omega)) | exact Or.inr ⟨(by first | exact Or.inl (oHas_0 c33 (by omega)) | exact Or.inr (by rw [← c56]; exact h44)), by rw [← c83]; exact h75⟩) h109 c117 h132 (oFr_some h132 (k := k1) (by omega) (by rw [Int.sub_zero]; exact e1.2.2) (by decide)) h140 (oFr_some h140 (k := k0) (by omega) (by rw [Int.sub_zero]; exact e0.2.2) (by decide))) hq | exact sSF_un hx0.1 (sSF_d hx0 (by first | exact Or.inl (oHas_0 c22 (by omega)) | exact Or.inr ⟨(by first | exact Or.inl (oHas_0 c33 (by omega)) | exact Or.inr (by rw [← c56]; exact h44)), by rw [← c83]; exact h75⟩) (by rw [← c117]; exact h109)) hq) ?_
            exact zs_iret hx hb hr hlk zd_P_secondFrom_146
        · refine lv_aload_n hx hb zd_P_secondFrom_86 rfl (lv_at hl 4 rfl) ?_
          refine lv_iload_n hx hb zd_P_secondFrom_87 rfl (lv_at hl 3 rfl) ?_
          refine lv_iload hx hb zd_P_secondFrom_88 (lv_at hl 0 rfl) ?_
          refine lv_aload_n hx hb zd_P_secondFrom_90 rfl (lv_at hl 4 rfl) ?_
          refine va_get (D := g.1) (ci := 3) (v := .ref (ra 0)) (C := zR_P) (T := zT_P) (N := 11) hx hb hw zin_P hown hK hP 0 rfl rfl 0 (by decide) (hw _ zw_1_58) (fun _ h9 => h9) rfl zd_P_secondFrom_91 ?_
          refine zi_iconst hx hb zd_P_secondFrom_94 ?_
          obtain ⟨r95, h95⟩ := oFr_ex (al 0) 0 59 (0)
          have hg95 := oFr_rg (by decide) h95
          refine zk_V (As := [.int (iI (0))]) (b := ra 0) (own := "CronFinder$Plan") (nL := 6) (rest := [.int (iI (r75)), .int (iI (x / 3600)), .ref (pq)]) hx hb hml hown hw (c_O_from l g (ra 0) (aa 0) 0 59 60 (al 0) (by decide) (0) (r95) (by omega) (h95)) zw_3_105 zw_3_106 zw_3_107 zw_1_3 zw_3_108 (np := 1) (by decide +kernel) rfl (by decide) zN_mv hK trivial (hP.sub (ws' := [(ra 0, .inr (2, [.int (iI (0)), .int (iI (59)), .ref (aa 0)])), (aa 0, .inl (g.2 1, 60, .inl (zaB (al 0))))]) [1, 2] rfl) (va_recv hK hP (ci := 2) (q0 := 1) rfl rfl) hl.1 rfl (Nat.le_of_ble_eq_true rfl) (by decide) zd_P_secondFrom_95 ?_
          refine zk_V (As := [.int (iI (x / 3600)), .int (iI (r75)), .int (iI (r95))]) (b := pq) (own := "CronFinder$Plan") (nL := 6) (rest := []) hx hb hml hown hw (c_P_secondOf l g (pq) (x / 3600) (r75) (r95)) zw_3_109 zw_3_111 zw_0_24 zw_1_2 zw_3_112 (np := 3) (by decide +kernel) rfl (by decide) zN_mv hK trivial (hP.sub (ws' := []) [] rfl) (va_recv hK hP (ci := 3) (q0 := 0) rfl rfl) hl.1 rfl (Nat.le_of_ble_eq_true rfl) (by decide) zd_P_secondFrom_98 ?_
          refine zi_as (rr) (sSF_un hx0.1 (sSF_b hx0 (oHas_0 c22 (by omega)) (by first | exact Or.inl (oHas_0 c33 (by omega)) | exact Or.inr (by rw [← c56]; exact h44)) h75 c83 h95 (oFr_some h95 (k := k0) (by omega) (by rw [Int.sub_zero]; exact e0.2.2) (by decide))) hq) ?_
          exact zs_iret hx hb hr hlk zd_P_secondFrom_101
      · refine lv_aload_n hx hb zd_P_secondFrom_59 rfl (lv_at hl 3 rfl) ?_
        refine lv_iload_n hx hb zd_P_secondFrom_60 rfl (lv_at hl 2 rfl) ?_
        refine lv_iload_n hx hb zd_P_secondFrom_61 rfl (lv_at hl 1 rfl) ?_
        refine lv_iload hx hb zd_P_secondFrom_62 (lv_at hl 0 rfl) ?_
        refine zk_V (As := [.int (iI (x / 3600)), .int (iI ((x / 60) % 60)), .int (iI (r44))]) (b := pq) (own := "CronFinder$Plan") (nL := 6) (rest := []) hx hb hml hown hw (c_P_secondOf l g (pq) (x / 3600) ((x / 60) % 60) (r44)) zw_3_109 zw_3_111 zw_0_24 zw_1_2 zw_3_112 (np := 3) (by decide +kernel) rfl (by decide) zN_mv hK trivial (hP.sub (ws' := []) [] rfl) (va_recv hK hP (ci := 3) (q0 := 0) rfl rfl) hl.1 rfl (Nat.le_of_ble_eq_true rfl) (by decide) zd_P_secondFrom_64 ?_
        refine zi_as (rr) (sSF_un hx0.1 (sSF_a hx0 (oHas_0 c22 (by omega)) (oHas_0 c33 (by omega)) h44 c56) hq) ?_
        exact zs_iret hx hb hr hlk zd_P_secondFrom_67
set_option maxHeartbeats 4000000 in
set_option maxRecDepth 100000 in
theorem c_P_secondBackFrom (l : Launch) (g : zGl) (pq : Nat) (ra aa : Nat → Nat) (al : Nat → Nat → Bool) (rl : Nat) (sub od : Int) (bits : Nat → Bool) (x rr : Int) (hx0 : 0 ≤ x ∧ x < 86400) (hq : sSB (al 0) (al 1) (al 2) x rr) (hn0 : ∃ k : Int, 0 ≤ k ∧ k ≤ 59 ∧ al 0 k.toNat = true) (hn1 : ∃ k : Int, 0 ≤ k ∧ k ≤ 59 ∧ al 1 k.toNat = true) : zSi l zy_P_secondBackFrom zc_P_secondBackFrom 6 (some .int) ({ frames := 2, cells := 0, slots := 0, locals := 43 }) g zN [.ref (pq), .int (iI (x))] [(pq, .inr (3, [.ref (ra 0), .ref (ra 1), .ref (ra 2), .ref (ra 3), .ref (ra 4), .ref (ra 5), .ref (ra 6), .ref (rl), .int (iI (sub)), .int (iI (od)), .int (zbits (bits))])), (ra 0, .inr (2, [.int (iI (0)), .int (iI (59)), .ref (aa 0)])), (aa 0, .inl (g.2 1, 60, .inl (zaB (al 0)))), (ra 1, .inr (2, [.int (iI (0)), .int (iI (59)), .ref (aa 1)])), (aa 1, .inl (g.2 1, 60, .inl (zaB (al 1)))), (ra 2, .inr (2, [.int (iI (0)), .int (iI (23)), .ref (aa 2)])), (aa 2, .inl (g.2 1, 24, .inl (zaB (al 2))))] (some (.int (iI (rr)))) := by
  refine zs_open (by decide +kernel) (Nat.le_of_ble_eq_true rfl) ?_
  intro p e s m below meth c ls hx hb hml hr hlk hown hw hK hT hP hl
  have hown : s.vm.findClass "CronFinder$Plan" = some m.cls := hown
  have hl : lv_has ls 6 [(0, .ref (pq)), (1, .int (iI (x)))] := hl
  obtain ⟨k0, e0⟩ := hn0
  obtain ⟨k1, e1⟩ := hn1
  refine lv_iload_n hx hb zd_P_secondBackFrom_0 rfl (lv_at hl 1 rfl) ?_
  refine zi_sipush hx hb zd_P_secondBackFrom_1 (by decide) ?_
  refine zi_idiv hx hb zd_P_secondBackFrom_4 (by omega) ?_
  refine lv_istore_n (lv' := [(2, .int (iI (x / 3600))), (0, .ref (pq)), (1, .int (iI (x)))]) hx hb zd_P_secondBackFrom_5 rfl hl (by decide) rfl (fun ls hl => ?_)
  refine lv_iload_n hx hb zd_P_secondBackFrom_6 rfl (lv_at hl 2 rfl) ?_
  refine zi_bipush hx hb zd_P_secondBackFrom_7 (by decide) ?_
  refine zi_idiv hx hb zd_P_secondBackFrom_9 (by omega) ?_
  refine zi_bipush hx hb zd_P_secondBackFrom_10 (by decide) ?_
  refine zi_irem hx hb zd_P_secondBackFrom_12 (by omega) ?_
  refine lv_istore_n (lv' := [(3, .int (iI ((x / 60) % 60))), (2, .int (iI (x / 3600))), (0, .ref (pq)), (1, .int (iI (x)))]) hx hb zd_P_secondBackFrom_13 rfl hl (by decide) rfl (fun ls hl => ?_)
  refine lv_aload_n hx hb zd_P_secondBackFrom_14 rfl (lv_at hl 2 rfl) ?_
  refine va_get (D := g.1) (ci := 3) (v := .ref (ra 2)) (C := zR_P) (T := zT_P) (N := 11) hx hb hw zin_P hown hK hP 0 rfl rfl 2 (by decide) (hw _ zw_1_60) (fun _ h9 => h9) rfl zd_P_secondBackFrom_15 ?_
  refine lv_iload_n hx hb zd_P_secondBackFrom_18 rfl (lv_at hl 1 rfl) ?_
  refine zk_V (As := [.int (iI (x / 3600))]) (b := ra 2) (own := "CronFinder$Plan") (nL := 6) (rest := []) hx hb hml hown hw (c_O_has l g (ra 2) (aa 2) 0 23 24 (al 2) (by decide) (x / 3600) (by omega)) zw_2_188 zw_2_189 zw_2_190 zw_1_3 zw_2_191 (np := 1) (by decide +kernel) rfl (by decide) zN_mv hK trivial (hP.sub (ws' := [(ra 2, .inr (2, [.int (iI (0)), .int (iI (23)), .ref (aa 2)])), (aa 2, .inl (g.2 1, 24, .inl (zaB (al 2))))]) [5, 6] rfl) (va_recv hK hP (ci := 2) (q0 := 5) rfl rfl) hl.1 rfl (Nat.le_of_ble_eq_true rfl) (by decide) zd_P_secondBackFrom_19 ?_
  refine zb_if_eq (tgt := 103) hx hb zd_P_secondBackFrom_22 (by decide) (fun c22 => ?_) (fun c22 => ?_)
  · refine lv_aload_n hx hb zd_P_secondBackFrom_103 rfl (lv_at hl 2 rfl) ?_
    refine va_get (D := g.1) (ci := 3) (v := .ref (ra 2)) (C := zR_P) (T := zT_P) (N := 11) hx hb hw zin_P hown hK hP 0 rfl rfl 2 (by decide) (hw _ zw_1_60) (fun _ h9 => h9) rfl zd_P_secondBackFrom_104 ?_
    refine lv_iload_n hx hb zd_P_secondBackFrom_107 rfl (lv_at hl 1 rfl) ?_
    refine zi_iconst hx hb zd_P_secondBackFrom_108 ?_
    refine zi_isub hx hb zd_P_secondBackFrom_109 ?_
    obtain ⟨r110, h110⟩ := oBk_ex (al 2) 0 23 ((x / 3600) - 1)
    have hg110 := oBk_rg (by decide) h110
    refine zk_V (As := [.int (iI ((x / 3600) - 1))]) (b := ra 2) (own := "CronFinder$Plan") (nL := 6) (rest := []) hx hb hml hown hw (c_O_backFrom l g (ra 2) (aa 2) 0 23 24 (al 2) (by decide) ((x / 3600) - 1) (r110) (by omega) (h110)) zw_3_137 zw_3_138 zw_3_139 zw_1_3 zw_3_140 (np := 1) (by decide +kernel) rfl (by decide) zN_mv hK trivial (hP.sub (ws' := [(ra 2, .inr (2, [.int (iI (0)), .int (iI (23)), .ref (aa 2)])), (aa 2, .inl (g.2 1, 24, .inl (zaB (al 2))))]) [5, 6] rfl) (va_recv hK hP (ci := 2) (q0 := 5) rfl rfl) hl.1 rfl (Nat.le_of_ble_eq_true rfl) (by decide) zd_P_secondBackFrom_110 ?_
    refine lv_istore (lv' := [(4, .int (iI (r110))), (3, .int (iI ((x / 60) % 60))), (2, .int (iI (x / 3600))), (0, .ref (pq)), (1, .int (iI (x)))]) hx hb zd_P_secondBackFrom_113 hl (by decide) rfl (fun ls hl => ?_)
    refine lv_iload hx hb zd_P_secondBackFrom_115 (lv_at hl 0 rfl) ?_
    refine zi_iconst hx hb zd_P_secondBackFrom_117 ?_
    refine zi_icmp_ne (tgt := 125) hx hb zd_P_secondBackFrom_118 (by decide) (by omega) (fun c118 => ?_) (fun c118 => ?_)
    · refine lv_aload_n hx hb zd_P_secondBackFrom_125 rfl (lv_at hl 3 rfl) ?_
      refine lv_iload hx hb zd_P_secondBackFrom_126 (lv_at hl 0 rfl) ?_
      refine lv_aload_n hx hb zd_P_secondBackFrom_128 rfl (lv_at hl 3 rfl) ?_
      refine va_get (D := g.1) (ci := 3) (v := .ref (ra 1)) (C := zR_P) (T := zT_P) (N := 11) hx hb hw zin_P hown hK hP 0 rfl rfl 1 (by decide) (hw _ zw_1_59) (fun _ h9 => h9) rfl zd_P_secondBackFrom_129 ?_
      refine zi_bipush hx hb zd_P_secondBackFrom_132 (by decide) ?_
      obtain ⟨r134, h134⟩ := oBk_ex (al 1) 0 59 (59)
      have hg134 := oBk_rg (by decide) h134
      refine zk_V (As := [.int (iI (59))]) (b := ra 1) (own := "CronFinder$Plan") (nL := 6) (rest := [.int (iI (r110)), .ref (pq)]) hx hb hml hown hw (c_O_backFrom l g (ra 1) (aa 1) 0 59 60 (al 1) (by decide) (59) (r134) (by omega) (h134)) zw_3_137 zw_3_138 zw_3_139 zw_1_3 zw_3_140 (np := 1) (by decide +kernel) rfl (by decide) zN_mv hK trivial (hP.sub (ws' := [(ra 1, .inr (2, [.int (iI (0)), .int (iI (59)), .ref (aa 1)])), (aa 1, .inl (g.2 1, 60, .inl (zaB (al 1))))]) [3, 4] rfl) (va_recv hK hP (ci := 2) (q0 := 3) rfl rfl) hl.1 rfl (Nat.le_of_ble_eq_true rfl) (by decide) zd_P_secondBackFrom_134 ?_
      refine lv_aload_n hx hb zd_P_secondBackFrom_137 rfl (lv_at hl 3 rfl) ?_
      refine va_get (D := g.1) (ci := 3) (v := .ref (ra 0)) (C := zR_P) (T := zT_P) (N := 11) hx hb hw zin_P hown hK hP 0 rfl rfl 0 (by decide) (hw _ zw_1_58) (fun _ h9 => h9) rfl zd_P_secondBackFrom_138 ?_
      refine zi_bipush hx hb zd_P_secondBackFrom_141 (by decide) ?_
      obtain ⟨r143, h143⟩ := oBk_ex (al 0) 0 59 (59)
      have hg143 := oBk_rg (by decide) h143
      refine zk_V (As := [.int (iI (59))]) (b := ra 0) (own := "CronFinder$Plan") (nL := 6) (rest := [.int (iI (r134)), .int (iI (r110)), .ref (pq)]) hx hb hml hown hw (c_O_backFrom l g (ra 0) (aa 0) 0 59 60 (al 0) (by decide) (59) (r143) (by omega) (h143)) zw_3_137 zw_3_138 zw_3_139 zw_1_3 zw_3_140 (np := 1) (by decide +kernel) rfl (by decide) zN_mv hK trivial (hP.sub (ws' := [(ra 0, .inr (2, [.int (iI (0)), .int (iI (59)), .ref (aa 0)])), (aa 0, .inl (g.2 1, 60, .inl (zaB (al 0))))]) [1, 2] rfl) (va_recv hK hP (ci := 2) (q0 := 1) rfl rfl) hl.1 rfl (Nat.le_of_ble_eq_true rfl) (by decide) zd_P_secondBackFrom_143 ?_
      refine zk_V (As := [.int (iI (r110)), .int (iI (r134)), .int (iI (r143))]) (b := pq) (own := "CronFinder$Plan") (nL := 6) (rest := []) hx hb hml hown hw (c_P_secondOf l g (pq) (r110) (r134) (r143)) zw_3_109 zw_3_111 zw_0_24 zw_1_2 zw_3_112 (np := 3) (by decide +kernel) rfl (by decide) zN_mv hK trivial (hP.sub (ws' := []) [] rfl) (va_recv hK hP (ci := 3) (q0 := 0) rfl rfl) hl.1 rfl (Nat.le_of_ble_eq_true rfl) (by decide) zd_P_secondBackFrom_146 ?_
      refine zi_as (rr) (by first | exact sSB_un (sSB_c hx0 (by first | exact Or.inl (oHas_0 c22 (by omega)) | exact Or.inr ⟨(by first | exact Or.inl (oHas_0 c33 (by omega)) | exact Or.inr (by rw [← c56]; exact h44)), by rw [← c83]; exact h75⟩) h110 c118 h134 (oBk_some h134 (k := k1) (by omega) (by rw [Int.sub_zero]; exact e1.2.2) (by decide)) h143 (oBk_some h143 (k := k0) (by omega) (by rw [Int.sub_zero]; exact e0.2.2) (by decide))) hq | exact sSB_un (sSB_d hx0 (by first | exact Or.inl (oHas_0 c22 (by omega)) | exact Or.inr ⟨(by first | exact Or.inl (oHas_0 c33 (by omega)) | exact Or.inr (by rw [← c56]; exact h44)), by rw [← c83]; exact h75⟩) (by rw [← c118]; exact h110)) hq) ?_
      exact zs_iret hx hb hr hlk zd_P_secondBackFrom_149
    · refine zi_iconst hx hb zd_P_secondBackFrom_121 ?_
      refine lv_goto (tgt := 149) hx hb zd_P_secondBackFrom_122 (by decide) ?_
      refine zi_as (rr) (by first | exact sSB_un (sSB_c hx0 (by first | exact Or.inl (oHas_0 c22 (by omega)) | exact Or.inr ⟨(by first | exact Or.inl (oHas_0 c33 (by omega)) | exact Or.inr (by rw [← c56]; exact h44)), by rw [← c83]; exact h75⟩) h110 c118 h134 (oBk_some h134 (k := k1) (by omega) (by rw [Int.sub_zero]; exact e1.2.2) (by decide)) h143 (oBk_some h143 (k := k0) (by omega) (by rw [Int.sub_zero]; exact e0.2.2) (by decide))) hq | exact sSB_un (sSB_d hx0 (by first | exact Or.inl (oHas_0 c22 (by omega)) | exact Or.inr ⟨(by first | exact Or.inl (oHas_0 c33 (by omega)) | exact Or.inr (by rw [← c56]; exact h44)), by rw [← c83]; exact h75⟩) (by rw [← c118]; exact h110)) hq) ?_
      exact zs_iret hx hb hr hlk zd_P_secondBackFrom_149
  · refine lv_aload_n hx hb zd_P_secondBackFrom_25 rfl (lv_at hl 2 rfl) ?_
    refine va_get (D := g.1) (ci := 3) (v := .ref (ra 1)) (C := zR_P) (T := zT_P) (N := 11) hx hb hw zin_P hown hK hP 0 rfl rfl 1 (by decide) (hw _ zw_1_59) (fun _ h9 => h9) rfl zd_P_secondBackFrom_26 ?_
    refine lv_iload_n hx hb zd_P_secondBackFrom_29 rfl (lv_at hl 0 rfl) ?_
    refine zk_V (As := [.int (iI ((x / 60) % 60))]) (b := ra 1) (own := "CronFinder$Plan") (nL := 6) (rest := []) hx hb hml hown hw (c_O_has l g (ra 1) (aa 1) 0 59 60 (al 1) (by decide) ((x / 60) % 60) (by omega)) zw_2_188 zw_2_189 zw_2_190 zw_1_3 zw_2_191 (np := 1) (by decide +kernel) rfl (by decide) zN_mv hK trivial (hP.sub (ws' := [(ra 1, .inr (2, [.int (iI (0)), .int (iI (59)), .ref (aa 1)])), (aa 1, .inl (g.2 1, 60, .inl (zaB (al 1))))]) [3, 4] rfl) (va_recv hK hP (ci := 2) (q0 := 3) rfl rfl) hl.1 rfl (Nat.le_of_ble_eq_true rfl) (by decide) zd_P_secondBackFrom_30 ?_
    refine zb_if_eq (tgt := 50) hx hb zd_P_secondBackFrom_33 (by decide) (fun c33 => ?_) (fun c33 => ?_)
    · refine zi_iconst hx hb zd_P_secondBackFrom_50 ?_
      refine lv_istore (lv' := [(4, .int (iI ((-1)))), (3, .int (iI ((x / 60) % 60))), (2, .int (iI (x / 3600))), (0, .ref (pq)), (1, .int (iI (x)))]) hx hb zd_P_secondBackFrom_51 hl (by decide) rfl (fun ls hl => ?_)
      refine lv_iload hx hb zd_P_secondBackFrom_53 (lv_at hl 0 rfl) ?_
      refine zi_iconst hx hb zd_P_secondBackFrom_55 ?_
      refine zi_icmp_eq (tgt := 68) hx hb zd_P_secondBackFrom_56 (by decide) (by omega) (fun _ => ?_) (fun c56 => absurd c56 (by decide))
      refine lv_aload_n hx hb zd_P_secondBackFrom_68 rfl (lv_at hl 3 rfl) ?_
      refine va_get (D := g.1) (ci := 3) (v := .ref (ra 1)) (C := zR_P) (T := zT_P) (N := 11) hx hb hw zin_P hown hK hP 0 rfl rfl 1 (by decide) (hw _ zw_1_59) (fun _ h9 => h9) rfl zd_P_secondBackFrom_69 ?_
      refine lv_iload_n hx hb zd_P_secondBackFrom_72 rfl (lv_at hl 1 rfl) ?_
      refine zi_iconst hx hb zd_P_secondBackFrom_73 ?_
      refine zi_isub hx hb zd_P_secondBackFrom_74 ?_
      obtain ⟨r75, h75⟩ := oBk_ex (al 1) 0 59 (((x / 60) % 60) - 1)
      have hg75 := oBk_rg (by decide) h75
      refine zk_V (As := [.int (iI (((x / 60) % 60) - 1))]) (b := ra 1) (own := "CronFinder$Plan") (nL := 6) (rest := []) hx hb hml hown hw (c_O_backFrom l g (ra 1) (aa 1) 0 59 60 (al 1) (by decide) (((x / 60) % 60) - 1) (r75) (by omega) (h75)) zw_3_137 zw_3_138 zw_3_139 zw_1_3 zw_3_140 (np := 1) (by decide +kernel) rfl (by decide) zN_mv hK trivial (hP.sub (ws' := [(ra 1, .inr (2, [.int (iI (0)), .int (iI (59)), .ref (aa 1)])), (aa 1, .inl (g.2 1, 60, .inl (zaB (al 1))))]) [3, 4] rfl) (va_recv hK hP (ci := 2) (q0 := 3) rfl rfl) hl.1 rfl (Nat.le_of_ble_eq_true rfl) (by decide) zd_P_secondBackFrom_75 ?_
      refine lv_istore (lv' := [(5, .int (iI (r75))), (4, .int (iI ((-1)))), (3, .int (iI ((x / 60) % 60))), (2, .int (iI (x / 3600))), (0, .ref (pq)), (1, .int (iI (x)))]) hx hb zd_P_secondBackFrom_78 hl (by decide) rfl (fun ls hl => ?_)
      refine lv_iload hx hb zd_P_secondBackFrom_80 (lv_at hl 0 rfl) ?_
      refine zi_iconst hx hb zd_P_secondBackFrom_82 ?_
      refine zi_icmp_eq (tgt := 103) hx hb zd_P_secondBackFrom_83 (by decide) (by omega) (fun c83 => ?_) (fun c83 => ?_)
      · refine lv_aload_n hx hb zd_P_secondBackFrom_103 rfl (lv_at hl 4 rfl) ?_
        refine va_get (D := g.1) (ci := 3) (v := .ref (ra 2)) (C := zR_P) (T := zT_P) (N := 11) hx hb hw zin_P hown hK hP 0 rfl rfl 2 (by decide) (hw _ zw_1_60) (fun _ h9 => h9) rfl zd_P_secondBackFrom_104 ?_
        refine lv_iload_n hx hb zd_P_secondBackFrom_107 rfl (lv_at hl 3 rfl) ?_
        refine zi_iconst hx hb zd_P_secondBackFrom_108 ?_
        refine zi_isub hx hb zd_P_secondBackFrom_109 ?_
        obtain ⟨r110, h110⟩ := oBk_ex (al 2) 0 23 ((x / 3600) - 1)
        have hg110 := oBk_rg (by decide) h110
        refine zk_V (As := [.int (iI ((x / 3600) - 1))]) (b := ra 2) (own := "CronFinder$Plan") (nL := 6) (rest := []) hx hb hml hown hw (c_O_backFrom l g (ra 2) (aa 2) 0 23 24 (al 2) (by decide) ((x / 3600) - 1) (r110) (by omega) (h110)) zw_3_137 zw_3_138 zw_3_139 zw_1_3 zw_3_140 (np := 1) (by decide +kernel) rfl (by decide) zN_mv hK trivial (hP.sub (ws' := [(ra 2, .inr (2, [.int (iI (0)), .int (iI (23)), .ref (aa 2)])), (aa 2, .inl (g.2 1, 24, .inl (zaB (al 2))))]) [5, 6] rfl) (va_recv hK hP (ci := 2) (q0 := 5) rfl rfl) hl.1 rfl (Nat.le_of_ble_eq_true rfl) (by decide) zd_P_secondBackFrom_110 ?_
        refine lv_istore (lv' := [(4, .int (iI (r110))), (5, .int (iI (r75))), (3, .int (iI ((x / 60) % 60))), (2, .int (iI (x / 3600))), (0, .ref (pq)), (1, .int (iI (x)))]) hx hb zd_P_secondBackFrom_113 hl (by decide) rfl (fun ls hl => ?_)
        refine lv_iload hx hb zd_P_secondBackFrom_115 (lv_at hl 0 rfl) ?_
        refine zi_iconst hx hb zd_P_secondBackFrom_117 ?_
        refine zi_icmp_ne (tgt := 125) hx hb zd_P_secondBackFrom_118 (by decide) (by omega) (fun c118 => ?_) (fun c118 => ?_)
        · refine lv_aload_n hx hb zd_P_secondBackFrom_125 rfl (lv_at hl 4 rfl) ?_
          refine lv_iload hx hb zd_P_secondBackFrom_126 (lv_at hl 0 rfl) ?_
          refine lv_aload_n hx hb zd_P_secondBackFrom_128 rfl (lv_at hl 4 rfl) ?_
          refine va_get (D := g.1) (ci := 3) (v := .ref (ra 1)) (C := zR_P) (T := zT_P) (N := 11) hx hb hw zin_P hown hK hP 0 rfl rfl 1 (by decide) (hw _ zw_1_59) (fun _ h9 => h9) rfl zd_P_secondBackFrom_129 ?_
          refine zi_bipush hx hb zd_P_secondBackFrom_132 (by decide) ?_
          obtain ⟨r134, h134⟩ := oBk_ex (al 1) 0 59 (59)
          have hg134 := oBk_rg (by decide) h134
          refine zk_V (As := [.int (iI (59))]) (b := ra 1) (own := "CronFinder$Plan") (nL := 6) (rest := [.int (iI (r110)), .ref (pq)]) hx hb hml hown hw (c_O_backFrom l g (ra 1) (aa 1) 0 59 60 (al 1) (by decide) (59) (r134) (by omega) (h134)) zw_3_137 zw_3_138 zw_3_139 zw_1_3 zw_3_140 (np := 1) (by decide +kernel) rfl (by decide) zN_mv hK trivial (hP.sub (ws' := [(ra 1, .inr (2, [.int (iI (0)), .int (iI (59)), .ref (aa 1)])), (aa 1, .inl (g.2 1, 60, .inl (zaB (al 1))))]) [3, 4] rfl) (va_recv hK hP (ci := 2) (q0 := 3) rfl rfl) hl.1 rfl (Nat.le_of_ble_eq_true rfl) (by decide) zd_P_secondBackFrom_134 ?_
          refine lv_aload_n hx hb zd_P_secondBackFrom_137 rfl (lv_at hl 4 rfl) ?_
          refine va_get (D := g.1) (ci := 3) (v := .ref (ra 0)) (C := zR_P) (T := zT_P) (N := 11) hx hb hw zin_P hown hK hP 0 rfl rfl 0 (by decide) (hw _ zw_1_58) (fun _ h9 => h9) rfl zd_P_secondBackFrom_138 ?_
          refine zi_bipush hx hb zd_P_secondBackFrom_141 (by decide) ?_
          obtain ⟨r143, h143⟩ := oBk_ex (al 0) 0 59 (59)
          have hg143 := oBk_rg (by decide) h143
          refine zk_V (As := [.int (iI (59))]) (b := ra 0) (own := "CronFinder$Plan") (nL := 6) (rest := [.int (iI (r134)), .int (iI (r110)), .ref (pq)]) hx hb hml hown hw (c_O_backFrom l g (ra 0) (aa 0) 0 59 60 (al 0) (by decide) (59) (r143) (by omega) (h143)) zw_3_137 zw_3_138 zw_3_139 zw_1_3 zw_3_140 (np := 1) (by decide +kernel) rfl (by decide) zN_mv hK trivial (hP.sub (ws' := [(ra 0, .inr (2, [.int (iI (0)), .int (iI (59)), .ref (aa 0)])), (aa 0, .inl (g.2 1, 60, .inl (zaB (al 0))))]) [1, 2] rfl) (va_recv hK hP (ci := 2) (q0 := 1) rfl rfl) hl.1 rfl (Nat.le_of_ble_eq_true rfl) (by decide) zd_P_secondBackFrom_143 ?_
          refine zk_V (As := [.int (iI (r110)), .int (iI (r134)), .int (iI (r143))]) (b := pq) (own := "CronFinder$Plan") (nL := 6) (rest := []) hx hb hml hown hw (c_P_secondOf l g (pq) (r110) (r134) (r143)) zw_3_109 zw_3_111 zw_0_24 zw_1_2 zw_3_112 (np := 3) (by decide +kernel) rfl (by decide) zN_mv hK trivial (hP.sub (ws' := []) [] rfl) (va_recv hK hP (ci := 3) (q0 := 0) rfl rfl) hl.1 rfl (Nat.le_of_ble_eq_true rfl) (by decide) zd_P_secondBackFrom_146 ?_
          refine zi_as (rr) (by first | exact sSB_un (sSB_c hx0 (by first | exact Or.inl (oHas_0 c22 (by omega)) | exact Or.inr ⟨(by first | exact Or.inl (oHas_0 c33 (by omega)) | exact Or.inr (by rw [← c56]; exact h44)), by rw [← c83]; exact h75⟩) h110 c118 h134 (oBk_some h134 (k := k1) (by omega) (by rw [Int.sub_zero]; exact e1.2.2) (by decide)) h143 (oBk_some h143 (k := k0) (by omega) (by rw [Int.sub_zero]; exact e0.2.2) (by decide))) hq | exact sSB_un (sSB_d hx0 (by first | exact Or.inl (oHas_0 c22 (by omega)) | exact Or.inr ⟨(by first | exact Or.inl (oHas_0 c33 (by omega)) | exact Or.inr (by rw [← c56]; exact h44)), by rw [← c83]; exact h75⟩) (by rw [← c118]; exact h110)) hq) ?_
          exact zs_iret hx hb hr hlk zd_P_secondBackFrom_149
        · refine zi_iconst hx hb zd_P_secondBackFrom_121 ?_
          refine lv_goto (tgt := 149) hx hb zd_P_secondBackFrom_122 (by decide) ?_
          refine zi_as (rr) (by first | exact sSB_un (sSB_c hx0 (by first | exact Or.inl (oHas_0 c22 (by omega)) | exact Or.inr ⟨(by first | exact Or.inl (oHas_0 c33 (by omega)) | exact Or.inr (by rw [← c56]; exact h44)), by rw [← c83]; exact h75⟩) h110 c118 h134 (oBk_some h134 (k := k1) (by omega) (by rw [Int.sub_zero]; exact e1.2.2) (by decide)) h143 (oBk_some h143 (k := k0) (by omega) (by rw [Int.sub_zero]; exact e0.2.2) (by decide))) hq | exact sSB_un (sSB_d hx0 (by first | exact Or.inl (oHas_0 c22 (by omega)) | exact Or.inr ⟨(by first | exact Or.inl (oHas_0 c33 (by omega)) | exact Or.inr (by rw [← c56]; exact h44)), by rw [← c83]; exact h75⟩) (by rw [← c118]; exact h110)) hq) ?_
          exact zs_iret hx hb hr hlk zd_P_secondBackFrom_149
      · refine lv_aload_n hx hb zd_P_secondBackFrom_86 rfl (lv_at hl 4 rfl) ?_
        refine lv_iload_n hx hb zd_P_secondBackFrom_87 rfl (lv_at hl 3 rfl) ?_
        refine lv_iload hx hb zd_P_secondBackFrom_88 (lv_at hl 0 rfl) ?_
        refine lv_aload_n hx hb zd_P_secondBackFrom_90 rfl (lv_at hl 4 rfl) ?_
        refine va_get (D := g.1) (ci := 3) (v := .ref (ra 0)) (C := zR_P) (T := zT_P) (N := 11) hx hb hw zin_P hown hK hP 0 rfl rfl 0 (by decide) (hw _ zw_1_58) (fun _ h9 => h9) rfl zd_P_secondBackFrom_91 ?_
        refine zi_bipush hx hb zd_P_secondBackFrom_94 (by decide) ?_
        obtain ⟨r96, h96⟩ := oBk_ex (al 0) 0 59 (59)
        have hg96 := oBk_rg (by decide) h96
        refine zk_V (As := [.int (iI (59))]) (b := ra 0) (own := "CronFinder$Plan") (nL := 6) (rest := [.int (iI (r75)), .int (iI (x / 3600)), .ref (pq)]) hx hb hml hown hw (c_O_backFrom l g (ra 0) (aa 0) 0 59 60 (al 0) (by decide) (59) (r96) (by omega) (h96)) zw_3_137 zw_3_138 zw_3_139 zw_1_3 zw_3_140 (np := 1) (by decide +kernel) rfl (by decide) zN_mv hK trivial (hP.sub (ws' := [(ra 0, .inr (2, [.int (iI (0)), .int (iI (59)), .ref (aa 0)])), (aa 0, .inl (g.2 1, 60, .inl (zaB (al 0))))]) [1, 2] rfl) (va_recv hK hP (ci := 2) (q0 := 1) rfl rfl) hl.1 rfl (Nat.le_of_ble_eq_true rfl) (by decide) zd_P_secondBackFrom_96 ?_
        refine zk_V (As := [.int (iI (x / 3600)), .int (iI (r75)), .int (iI (r96))]) (b := pq) (own := "CronFinder$Plan") (nL := 6) (rest := []) hx hb hml hown hw (c_P_secondOf l g (pq) (x / 3600) (r75) (r96)) zw_3_109 zw_3_111 zw_0_24 zw_1_2 zw_3_112 (np := 3) (by decide +kernel) rfl (by decide) zN_mv hK trivial (hP.sub (ws' := []) [] rfl) (va_recv hK hP (ci := 3) (q0 := 0) rfl rfl) hl.1 rfl (Nat.le_of_ble_eq_true rfl) (by decide) zd_P_secondBackFrom_99 ?_
        refine zi_as (rr) (sSB_un (sSB_b hx0 (oHas_0 c22 (by omega)) (by first | exact Or.inl (oHas_0 c33 (by omega)) | exact Or.inr (by rw [← c56]; exact h44)) h75 c83 h96 (oBk_some h96 (k := k0) (by omega) (by rw [Int.sub_zero]; exact e0.2.2) (by decide))) hq) ?_
        exact zs_iret hx hb hr hlk zd_P_secondBackFrom_102
    · refine lv_aload_n hx hb zd_P_secondBackFrom_36 rfl (lv_at hl 2 rfl) ?_
      refine va_get (D := g.1) (ci := 3) (v := .ref (ra 0)) (C := zR_P) (T := zT_P) (N := 11) hx hb hw zin_P hown hK hP 0 rfl rfl 0 (by decide) (hw _ zw_1_58) (fun _ h9 => h9) rfl zd_P_secondBackFrom_37 ?_
      refine lv_iload_n hx hb zd_P_secondBackFrom_40 rfl (lv_at hl 3 rfl) ?_
      refine zi_bipush hx hb zd_P_secondBackFrom_41 (by decide) ?_
      refine zi_irem hx hb zd_P_secondBackFrom_43 (by omega) ?_
      obtain ⟨r44, h44⟩ := oBk_ex (al 0) 0 59 (x % 60)
      have hg44 := oBk_rg (by decide) h44
      refine zk_V (As := [.int (iI (x % 60))]) (b := ra 0) (own := "CronFinder$Plan") (nL := 6) (rest := []) hx hb hml hown hw (c_O_backFrom l g (ra 0) (aa 0) 0 59 60 (al 0) (by decide) (x % 60) (r44) (by omega) (h44)) zw_3_137 zw_3_138 zw_3_139 zw_1_3 zw_3_140 (np := 1) (by decide +kernel) rfl (by decide) zN_mv hK trivial (hP.sub (ws' := [(ra 0, .inr (2, [.int (iI (0)), .int (iI (59)), .ref (aa 0)])), (aa 0, .inl (g.2 1, 60, .inl (zaB (al 0))))]) [1, 2] rfl) (va_recv hK hP (ci := 2) (q0 := 1) rfl rfl) hl.1 rfl (Nat.le_of_ble_eq_true rfl) (by decide) zd_P_secondBackFrom_44 ?_
      refine lv_goto (tgt := 51) hx hb zd_P_secondBackFrom_47 (by decide) ?_
      refine lv_istore (lv' := [(4, .int (iI (r44))), (3, .int (iI ((x / 60) % 60))), (2, .int (iI (x / 3600))), (0, .ref (pq)), (1, .int (iI (x)))]) hx hb zd_P_secondBackFrom_51 hl (by decide) rfl (fun ls hl => ?_)
      refine lv_iload hx hb zd_P_secondBackFrom_53 (lv_at hl 0 rfl) ?_
      refine zi_iconst hx hb zd_P_secondBackFrom_55 ?_
      refine zi_icmp_eq (tgt := 68) hx hb zd_P_secondBackFrom_56 (by decide) (by omega) (fun c56 => ?_) (fun c56 => ?_)
      · refine lv_aload_n hx hb zd_P_secondBackFrom_68 rfl (lv_at hl 3 rfl) ?_
        refine va_get (D := g.1) (ci := 3) (v := .ref (ra 1)) (C := zR_P) (T := zT_P) (N := 11) hx hb hw zin_P hown hK hP 0 rfl rfl 1 (by decide) (hw _ zw_1_59) (fun _ h9 => h9) rfl zd_P_secondBackFrom_69 ?_
        refine lv_iload_n hx hb zd_P_secondBackFrom_72 rfl (lv_at hl 1 rfl) ?_
        refine zi_iconst hx hb zd_P_secondBackFrom_73 ?_
        refine zi_isub hx hb zd_P_secondBackFrom_74 ?_
        obtain ⟨r75, h75⟩ := oBk_ex (al 1) 0 59 (((x / 60) % 60) - 1)
        have hg75 := oBk_rg (by decide) h75
        refine zk_V (As := [.int (iI (((x / 60) % 60) - 1))]) (b := ra 1) (own := "CronFinder$Plan") (nL := 6) (rest := []) hx hb hml hown hw (c_O_backFrom l g (ra 1) (aa 1) 0 59 60 (al 1) (by decide) (((x / 60) % 60) - 1) (r75) (by omega) (h75)) zw_3_137 zw_3_138 zw_3_139 zw_1_3 zw_3_140 (np := 1) (by decide +kernel) rfl (by decide) zN_mv hK trivial (hP.sub (ws' := [(ra 1, .inr (2, [.int (iI (0)), .int (iI (59)), .ref (aa 1)])), (aa 1, .inl (g.2 1, 60, .inl (zaB (al 1))))]) [3, 4] rfl) (va_recv hK hP (ci := 2) (q0 := 3) rfl rfl) hl.1 rfl (Nat.le_of_ble_eq_true rfl) (by decide) zd_P_secondBackFrom_75 ?_
        refine lv_istore (lv' := [(5, .int (iI (r75))), (4, .int (iI (r44))), (3, .int (iI ((x / 60) % 60))), (2, .int (iI (x / 3600))), (0, .ref (pq)), (1, .int (iI (x)))]) hx hb zd_P_secondBackFrom_78 hl (by decide) rfl (fun ls hl => ?_)
        refine lv_iload hx hb zd_P_secondBackFrom_80 (lv_at hl 0 rfl) ?_
        refine zi_iconst hx hb zd_P_secondBackFrom_82 ?_
        refine zi_icmp_eq (tgt := 103) hx hb zd_P_secondBackFrom_83 (by decide) (by omega) (fun c83 => ?_) (fun c83 => ?_)
        · refine lv_aload_n hx hb zd_P_secondBackFrom_103 rfl (lv_at hl 4 rfl) ?_
          refine va_get (D := g.1) (ci := 3) (v := .ref (ra 2)) (C := zR_P) (T := zT_P) (N := 11) hx hb hw zin_P hown hK hP 0 rfl rfl 2 (by decide) (hw _ zw_1_60) (fun _ h9 => h9) rfl zd_P_secondBackFrom_104 ?_
          refine lv_iload_n hx hb zd_P_secondBackFrom_107 rfl (lv_at hl 3 rfl) ?_
          refine zi_iconst hx hb zd_P_secondBackFrom_108 ?_
          refine zi_isub hx hb zd_P_secondBackFrom_109 ?_
          obtain ⟨r110, h110⟩ := oBk_ex (al 2) 0 23 ((x / 3600) - 1)
          have hg110 := oBk_rg (by decide) h110
          refine zk_V (As := [.int (iI ((x / 3600) - 1))]) (b := ra 2) (own := "CronFinder$Plan") (nL := 6) (rest := []) hx hb hml hown hw (c_O_backFrom l g (ra 2) (aa 2) 0 23 24 (al 2) (by decide) ((x / 3600) - 1) (r110) (by omega) (h110)) zw_3_137 zw_3_138 zw_3_139 zw_1_3 zw_3_140 (np := 1) (by decide +kernel) rfl (by decide) zN_mv hK trivial (hP.sub (ws' := [(ra 2, .inr (2, [.int (iI (0)), .int (iI (23)), .ref (aa 2)])), (aa 2, .inl (g.2 1, 24, .inl (zaB (al 2))))]) [5, 6] rfl) (va_recv hK hP (ci := 2) (q0 := 5) rfl rfl) hl.1 rfl (Nat.le_of_ble_eq_true rfl) (by decide) zd_P_secondBackFrom_110 ?_
          refine lv_istore (lv' := [(4, .int (iI (r110))), (5, .int (iI (r75))), (3, .int (iI ((x / 60) % 60))), (2, .int (iI (x / 3600))), (0, .ref (pq)), (1, .int (iI (x)))]) hx hb zd_P_secondBackFrom_113 hl (by decide) rfl (fun ls hl => ?_)
          refine lv_iload hx hb zd_P_secondBackFrom_115 (lv_at hl 0 rfl) ?_
          refine zi_iconst hx hb zd_P_secondBackFrom_117 ?_
          refine zi_icmp_ne (tgt := 125) hx hb zd_P_secondBackFrom_118 (by decide) (by omega) (fun c118 => ?_) (fun c118 => ?_)
          · refine lv_aload_n hx hb zd_P_secondBackFrom_125 rfl (lv_at hl 4 rfl) ?_
            refine lv_iload hx hb zd_P_secondBackFrom_126 (lv_at hl 0 rfl) ?_
            refine lv_aload_n hx hb zd_P_secondBackFrom_128 rfl (lv_at hl 4 rfl) ?_
            refine va_get (D := g.1) (ci := 3) (v := .ref (ra 1)) (C := zR_P) (T := zT_P) (N := 11) hx hb hw zin_P hown hK hP 0 rfl rfl 1 (by decide) (hw _ zw_1_59) (fun _ h9 => h9) rfl zd_P_secondBackFrom_129 ?_
            refine zi_bipush hx hb zd_P_secondBackFrom_132 (by decide) ?_
            obtain ⟨r134, h134⟩ := oBk_ex (al 1) 0 59 (59)
            have hg134 := oBk_rg (by decide) h134
            refine zk_V (As := [.int (iI (59))]) (b := ra 1) (own := "CronFinder$Plan") (nL := 6) (rest := [.int (iI (r110)), .ref (pq)]) hx hb hml hown hw (c_O_backFrom l g (ra 1) (aa 1) 0 59 60 (al 1) (by decide) (59) (r134) (by omega) (h134)) zw_3_137 zw_3_138 zw_3_139 zw_1_3 zw_3_140 (np := 1) (by decide +kernel) rfl (by decide) zN_mv hK trivial (hP.sub (ws' := [(ra 1, .inr (2, [.int (iI (0)), .int (iI (59)), .ref (aa 1)])), (aa 1, .inl (g.2 1, 60, .inl (zaB (al 1))))]) [3, 4] rfl) (va_recv hK hP (ci := 2) (q0 := 3) rfl rfl) hl.1 rfl (Nat.le_of_ble_eq_true rfl) (by decide) zd_P_secondBackFrom_134 ?_
            refine lv_aload_n hx hb zd_P_secondBackFrom_137 rfl (lv_at hl 4 rfl) ?_
            refine va_get (D := g.1) (ci := 3) (v := .ref (ra 0)) (C := zR_P) (T := zT_P) (N := 11) hx hb hw zin_P hown hK hP 0 rfl rfl 0 (by decide) (hw _ zw_1_58) (fun _ h9 => h9) rfl zd_P_secondBackFrom_138 ?_
            refine zi_bipush hx hb zd_P_secondBackFrom_141 (by decide) ?_
            obtain ⟨r143, h143⟩ := oBk_ex (al 0) 0 59 (59)
            have hg143 := oBk_rg (by decide) h143
            refine zk_V (As := [.int (iI (59))]) (b := ra 0) (own := "CronFinder$Plan") (nL := 6) (rest := [.int (iI (r134)), .int (iI (r110)), .ref (pq)]) hx hb hml hown hw (c_O_backFrom l g (ra 0) (aa 0) 0 59 60 (al 0) (by decide) (59) (r143) (by omega) (h143)) zw_3_137 zw_3_138 zw_3_139 zw_1_3 zw_3_140 (np := 1) (by decide +kernel) rfl (by decide) zN_mv hK trivial (hP.sub (ws' := [(ra 0, .inr (2, [.int (iI (0)), .int (iI (59)), .ref (aa 0)])), (aa 0, .inl (g.2 1, 60, .inl (zaB (al 0))))]) [1, 2] rfl) (va_recv hK hP (ci := 2) (q0 := 1) rfl rfl) hl.1 rfl (Nat.le_of_ble_eq_true rfl) (by decide) zd_P_secondBackFrom_143 ?_
            refine zk_V (As := [.int (iI (r110)), .int (iI (r134)), .int (iI (r143))]) (b := pq) (own := "CronFinder$Plan") (nL := 6) (rest := []) hx hb hml hown hw (c_P_secondOf l g (pq) (r110) (r134) (r143)) zw_3_109 zw_3_111 zw_0_24 zw_1_2 zw_3_112 (np := 3) (by decide +kernel) rfl (by decide) zN_mv hK trivial (hP.sub (ws' := []) [] rfl) (va_recv hK hP (ci := 3) (q0 := 0) rfl rfl) hl.1 rfl (Nat.le_of_ble_eq_true rfl) (by decide) zd_P_secondBackFrom_146 ?_
            refine zi_as (rr) (by first | exact sSB_un (sSB_c hx0 (by first | exact Or.inl (oHas_0 c22 (by omega)) | exact Or.inr ⟨(by first | exact Or.inl (oHas_0 c33 (by omega)) | exact Or.inr (by rw [← c56]; exact h44)), by rw [← c83]; exact h75⟩) h110 c118 h134 (oBk_some h134 (k := k1) (by omega) (by rw [Int.sub_zero]; exact e1.2.2) (by decide)) h143 (oBk_some h143 (k := k0) (by omega) (by rw [Int.sub_zero]; exact e0.2.2) (by decide))) hq | exact sSB_un (sSB_d hx0 (by first | exact Or.inl (oHas_0 c22 (by omega)) | exact Or.inr ⟨(by first | exact Or.inl (oHas_0 c33 (by omega)) | exact Or.inr (by rw [← c56]; exact h44)), by rw [← c83]; exact h75⟩) (by rw [← c118]; exact h110)) hq) ?_
            exact zs_iret hx hb hr hlk zd_P_secondBackFrom_149
          · refine zi_iconst hx hb zd_P_secondBackFrom_121 ?_
            refine lv_goto (tgt := 149) hx hb zd_P_secondBackFrom_122 (by decide) ?_
            refine zi_as (rr) (by first | exact sSB_un (sSB_c hx0 (by first | exact Or.inl (oHas_0 c22 (by omega)) | exact Or.inr ⟨(by first | exact Or.inl (oHas_0 c33 (by omega)) | exact Or.inr (by rw [← c56]; exact h44)), by rw [← c83]; exact h75⟩) h110 c118 h134 (oBk_some h134 (k := k1) (by omega) (by rw [Int.sub_zero]; exact e1.2.2) (by decide)) h143 (oBk_some h143 (k := k0) (by omega) (by rw [Int.sub_zero]; exact e0.2.2) (by decide))) hq | exact sSB_un (sSB_d hx0 (by first | exact Or.inl (oHas_0 c22 (by omega)) | exact Or.inr ⟨(by first | exact Or.inl (oHas_0 c33 (by omega)) | exact Or.inr (by rw [← c56]; exact h44)), by rw [← c83]; exact h75⟩) (by rw [← c118]; exact h110)) hq) ?_
            exact zs_iret hx hb hr hlk zd_P_secondBackFrom_149
        · refine lv_aload_n hx hb zd_P_secondBackFrom_86 rfl (lv_at hl 4 rfl) ?_
          refine lv_iload_n hx hb zd_P_secondBackFrom_87 rfl (lv_at hl 3 rfl) ?_
          refine lv_iload hx hb zd_P_secondBackFrom_88 (lv_at hl 0 rfl) ?_
          refine lv_aload_n hx hb zd_P_secondBackFrom_90 rfl (lv_at hl 4 rfl) ?_
          refine va_get (D := g.1) (ci := 3) (v := .ref (ra 0)) (C := zR_P) (T := zT_P) (N := 11) hx hb hw zin_P hown hK hP 0 rfl rfl 0 (by decide) (hw _ zw_1_58) (fun _ h9 => h9) rfl zd_P_secondBackFrom_91 ?_
          refine zi_bipush hx hb zd_P_secondBackFrom_94 (by decide) ?_
          obtain ⟨r96, h96⟩ := oBk_ex (al 0) 0 59 (59)
          have hg96 := oBk_rg (by decide) h96
          refine zk_V (As := [.int (iI (59))]) (b := ra 0) (own := "CronFinder$Plan") (nL := 6) (rest := [.int (iI (r75)), .int (iI (x / 3600)), .ref (pq)]) hx hb hml hown hw (c_O_backFrom l g (ra 0) (aa 0) 0 59 60 (al 0) (by decide) (59) (r96) (by omega) (h96)) zw_3_137 zw_3_138 zw_3_139 zw_1_3 zw_3_140 (np := 1) (by decide +kernel) rfl (by decide) zN_mv hK trivial (hP.sub (ws' := [(ra 0, .inr (2, [.int (iI (0)), .int (iI (59)), .ref (aa 0)])), (aa 0, .inl (g.2 1, 60, .inl (zaB (al 0))))]) [1, 2] rfl) (va_recv hK hP (ci := 2) (q0 := 1) rfl rfl) hl.1 rfl (Nat.le_of_ble_eq_true rfl) (by decide) zd_P_secondBackFrom_96 ?_
          refine zk_V (As := [.int (iI (x / 3600)), .int (iI (r75)), .int (iI (r96))]) (b := pq) (own := "CronFinder$Plan") (nL := 6) (rest := []) hx hb hml hown hw (c_P_secondOf l g (pq) (x / 3600) (r75) (r96)) zw_3_109 zw_3_111 zw_0_24 zw_1_2 zw_3_112 (np := 3) (by decide +kernel) rfl (by decide) zN_mv hK trivial (hP.sub (ws' := []) [] rfl) (va_recv hK hP (ci := 3) (q0 := 0) rfl rfl) hl.1 rfl (Nat.le_of_ble_eq_true rfl) (by decide) zd_P_secondBackFrom_99 ?_
          refine zi_as (rr) (sSB_un (sSB_b hx0 (oHas_0 c22 (by omega)) (by first | exact Or.inl (oHas_0 c33 (by omega)) | exact Or.inr (by rw [← c56]; exact h44)) h75 c83 h96 (oBk_some h96 (k := k0) (by omega) (by rw [Int.sub_zero]; exact e0.2.2) (by decide))) hq) ?_
          exact zs_iret hx hb hr hlk zd_P_secondBackFrom_102
      · refine lv_aload_n hx hb zd_P_secondBackFrom_59 rfl (lv_at hl 3 rfl) ?_
        refine lv_iload_n hx hb zd_P_secondBackFrom_60 rfl (lv_at hl 2 rfl) ?_
        refine lv_iload_n hx hb zd_P_secondBackFrom_61 rfl (lv_at hl 1 rfl) ?_
        refine lv_iload hx hb zd_P_secondBackFrom_62 (lv_at hl 0 rfl) ?_
        refine zk_V (As := [.int (iI (x / 3600)), .int (iI ((x / 60) % 60)), .int (iI (r44))]) (b := pq) (own := "CronFinder$Plan") (nL := 6) (rest := []) hx hb hml hown hw (c_P_secondOf l g (pq) (x / 3600) ((x / 60) % 60) (r44)) zw_3_109 zw_3_111 zw_0_24 zw_1_2 zw_3_112 (np := 3) (by decide +kernel) rfl (by decide) zN_mv hK trivial (hP.sub (ws' := []) [] rfl) (va_recv hK hP (ci := 3) (q0 := 0) rfl rfl) hl.1 rfl (Nat.le_of_ble_eq_true rfl) (by decide) zd_P_secondBackFrom_64 ?_
        refine zi_as (rr) (sSB_un (sSB_a hx0 (oHas_0 c22 (by omega)) (oHas_0 c33 (by omega)) h44 c56) hq) ?_
        exact zs_iret hx hb hr hlk zd_P_secondBackFrom_67
theorem dLen_rg (m : Int) : 28 ≤ dM0 (m + 1) - dM0 m ∧ dM0 (m + 1) - dM0 m ≤ 31 := by
  have := dMl_rg (1970 + m / 12) (m % 12)
  rw [dM0_s]
  omega
theorem pNear_rg {day fw len : Int} (h : 1 ≤ day ∧ day ≤ 31) : -2 ≤ pNear day fw len ∧ pNear day fw len ≤ 40 := by
  unfold pNear
  repeat' split
  all_goals omega
def pRule (al : Nat → Nat → Bool) (bits : Nat → Bool) (ru : Nat) (sub od L Wd : Int) : Nat → Bool := match ru with
  | 0 => fun i => bits i && decide ((i : Int) < L)
  | 1 => pDB (L - sub) L
  | 2 => pDB (pNear L Wd L) L
  | 3 => fun i => decide (sub ≤ L) && pDB (pNear sub Wd L) L i
  | 4 => pLW (al 5) Wd L
  | 5 => pDB (L - ((Wd + L - 2) % 7 + 1 - sub) % 7) L
  | _ => pDB (1 + (sub - Wd) % 7 + (od - 1) * 7) L
def pDays (al : Nat → Nat → Bool) (bits : Nat → Bool) (ru : Nat) (sub od mo : Int) : Nat → Bool := fun i => (oHas (al 6) 1970 2299 (1970 + mo / 12) && oHas (al 4) 1 12 (mo % 12 + 1)) && pRule al bits ru sub od (dM0 (mo + 1) - dM0 mo) ((dM0 mo + 4) % 7 + 1) i
theorem pDays_3 (al : Nat → Nat → Bool) (bits : Nat → Bool) (sub od mo : Int) (i : Nat) : pDays al bits 3 sub od mo i = ((oHas (al 6) 1970 2299 (1970 + mo / 12) && oHas (al 4) 1 12 (mo % 12 + 1)) && (decide (sub ≤ dM0 (mo + 1) - dM0 mo) && pDB (pNear sub ((dM0 mo + 4) % 7 + 1) (dM0 (mo + 1) - dM0 mo)) (dM0 (mo + 1) - dM0 mo) i)) := rfl
set_option maxHeartbeats 4000000 in
set_option maxRecDepth 100000 in
theorem c_P_daysOf_0 (l : Launch) (g : zGl) (pq : Nat) (ra aa : Nat → Nat) (al : Nat → Nat → Bool) (sub od : Int) (bits : Nat → Bool) (t : Nat) (en : Nat → Nat) (tw : Nat) (mo : Int) (hm : 0 ≤ mo ∧ mo < 3960) (hs : 0 ≤ sub ∧ sub ≤ 31 ∧ 0 ≤ od ∧ od ≤ 5) : zSi l zy_P_daysOf zc_P_daysOf 4 (some .int) ({ frames := 3, cells := 0, slots := 0, locals := 65 }) g (zS3 t en tw (fun _ => False)) [.ref (pq), .int (iI (mo))] [(pq, .inr (3, [.ref (ra 0), .ref (ra 1), .ref (ra 2), .ref (ra 3), .ref (ra 4), .ref (ra 5), .ref (ra 6), .ref (en 0), .int (iI (sub)), .int (iI (od)), .int (zbits (bits))])), (ra 0, .inr (2, [.int (iI (0)), .int (iI (59)), .ref (aa 0)])), (aa 0, .inl (g.2 1, 60, .inl (zaB (al 0)))), (ra 1, .inr (2, [.int (iI (0)), .int (iI (59)), .ref (aa 1)])), (aa 1, .inl (g.2 1, 60, .inl (zaB (al 1)))), (ra 2, .inr (2, [.int (iI (0)), .int (iI (23)), .ref (aa 2)])), (aa 2, .inl (g.2 1, 24, .inl (zaB (al 2)))), (ra 3, .inr (2, [.int (iI (1)), .int (iI (31)), .ref (aa 3)])), (aa 3, .inl (g.2 1, 31, .inl (zaB (al 3)))), (ra 4, .inr (2, [.int (iI (1)), .int (iI (12)), .ref (aa 4)])), (aa 4, .inl (g.2 1, 12, .inl (zaB (al 4)))), (ra 5, .inr (2, [.int (iI (1)), .int (iI (7)), .ref (aa 5)])), (aa 5, .inl (g.2 1, 7, .inl (zaB (al 5)))), (ra 6, .inr (2, [.int (iI (1970)), .int (iI (2299)), .ref (aa 6)])), (aa 6, .inl (g.2 1, 330, .inl (zaB (al 6))))] (some (.int (zbits (pDays al bits 0 sub od mo)))) := by
  refine zs_open (by decide +kernel) (Nat.le_of_ble_eq_true rfl) ?_
  intro p e s m below meth c ls hx hb hml hr hlk hown hw hK hT hP hl
  have hown : s.vm.findClass "CronFinder$Plan" = some m.cls := hown
  have hl : lv_has ls 4 [(0, .ref (pq)), (1, .int (iI (mo)))] := hl
  refine lv_aload_n hx hb zd_P_daysOf_0 rfl (lv_at hl 0 rfl) ?_
  refine va_get (D := g.1) (ci := 3) (v := .ref (ra 6)) (C := zR_P) (T := zT_P) (N := 11) hx hb hw zin_P hown hK hP 0 rfl rfl 6 (by decide) (hw _ zw_1_64) (fun _ h9 => h9) rfl zd_P_daysOf_1 ?_
  refine lv_iload_n hx hb zd_P_daysOf_4 rfl (lv_at hl 1 rfl) ?_
  refine zk_S (As := [.int (iI (mo))]) (own := "CronFinder$Plan") (nL := 4) (rest := [.ref (ra 6)]) hx hb hml hown hw (c_D_yearOfMonth l g (mo) (by omega)) zw_3_57 zw_3_45 zw_1_22 zw_3_46 (np := 1) (by decide +kernel) rfl (by decide) zN_mv hK trivial (hP.sub (ws' := []) [] rfl) hl.1 rfl (Nat.le_of_ble_eq_true rfl) (by decide) zd_P_daysOf_5 ?_
  refine zk_V (As := [.int (iI (1970 + (mo) / 12))]) (b := ra 6) (own := "CronFinder$Plan") (nL := 4) (rest := []) hx hb hml hown hw (c_O_has l g (ra 6) (aa 6) 1970 2299 330 (al 6) (by decide) (1970 + (mo) / 12) (by omega)) zw_2_188 zw_2_189 zw_2_190 zw_1_3 zw_2_191 (np := 1) (by decide +kernel) rfl (by decide) zN_mv hK trivial (hP.sub (ws' := [(ra 6, .inr (2, [.int (iI (1970)), .int (iI (2299)), .ref (aa 6)])), (aa 6, .inl (g.2 1, 330, .inl (zaB (al 6))))]) [13, 14] rfl) (va_recv hK hP (ci := 2) (q0 := 13) rfl rfl) hl.1 rfl (Nat.le_of_ble_eq_true rfl) (by decide) zd_P_daysOf_8 ?_
  refine zb_if_eq (tgt := 30) hx hb zd_P_daysOf_11 (by decide) (fun c11 => ?_) (fun c11 => ?_)
  · refine zi_iconst hx hb zd_P_daysOf_30 ?_
    refine zw_as (pDays al bits 0 sub od mo) (by rw [zbits_0]; exact zbits_fe fun i hi => by unfold pDays; first | (rw [c11]; rfl) | (rw [c27, Bool.and_false]; rfl)) ?_
    exact zs_iret hx hb hr hlk zd_P_daysOf_31
  · refine lv_aload_n hx hb zd_P_daysOf_14 rfl (lv_at hl 0 rfl) ?_
    refine va_get (D := g.1) (ci := 3) (v := .ref (ra 4)) (C := zR_P) (T := zT_P) (N := 11) hx hb hw zin_P hown hK hP 0 rfl rfl 4 (by decide) (hw _ zw_1_62) (fun _ h9 => h9) rfl zd_P_daysOf_15 ?_
    refine lv_iload_n hx hb zd_P_daysOf_18 rfl (lv_at hl 1 rfl) ?_
    refine zi_bipush hx hb zd_P_daysOf_19 (by decide) ?_
    refine zi_irem hx hb zd_P_daysOf_21 (by omega) ?_
    refine zi_iconst hx hb zd_P_daysOf_22 ?_
    refine zi_iadd hx hb zd_P_daysOf_23 ?_
    refine zk_V (As := [.int (iI ((mo % 12) + 1))]) (b := ra 4) (own := "CronFinder$Plan") (nL := 4) (rest := []) hx hb hml hown hw (c_O_has l g (ra 4) (aa 4) 1 12 12 (al 4) (by decide) ((mo % 12) + 1) (by omega)) zw_2_188 zw_2_189 zw_2_190 zw_1_3 zw_2_191 (np := 1) (by decide +kernel) rfl (by decide) zN_mv hK trivial (hP.sub (ws' := [(ra 4, .inr (2, [.int (iI (1)), .int (iI (12)), .ref (aa 4)])), (aa 4, .inl (g.2 1, 12, .inl (zaB (al 4))))]) [9, 10] rfl) (va_recv hK hP (ci := 2) (q0 := 9) rfl rfl) hl.1 rfl (Nat.le_of_ble_eq_true rfl) (by decide) zd_P_daysOf_24 ?_
    refine zb_if_ne (tgt := 32) hx hb zd_P_daysOf_27 (by decide) (fun c27 => ?_) (fun c27 => ?_)
    · refine lv_iload_n hx hb zd_P_daysOf_32 rfl (lv_at hl 1 rfl) ?_
      refine zk_S (As := [.int (iI (mo))]) (own := "CronFinder$Plan") (nL := 4) (rest := []) hx hb hml hown hw (c_D_lengthOfMonth l g t (mo) (by omega)) zw_3_58 zw_3_59 zw_1_22 zw_3_60 (np := 1) (by decide +kernel) rfl (by decide) (zSd_mv t _) hK hT.1 (hP.sub (ws' := []) [] rfl) hl.1 rfl (Nat.le_of_ble_eq_true rfl) (by decide) zd_P_daysOf_33 ?_
      have hL := dLen_rg mo
      refine lv_istore_n (lv' := [(2, .int (iI (dM0 (mo + 1) - dM0 mo))), (0, .ref (pq)), (1, .int (iI (mo)))]) hx hb zd_P_daysOf_36 rfl hl (by decide) rfl (fun ls hl => ?_)
      refine lv_iload_n hx hb zd_P_daysOf_37 rfl (lv_at hl 2 rfl) ?_
      refine zk_S (As := [.int (iI (mo))]) (own := "CronFinder$Plan") (nL := 4) (rest := []) hx hb hml hown hw (c_D_startOfMonth l g t (mo) (by omega)) zw_3_61 zw_3_42 zw_1_22 zw_3_43 (np := 1) (by decide +kernel) rfl (by decide) (zSd_mv t _) hK hT.1 (hP.sub (ws' := []) [] rfl) hl.1 rfl (Nat.le_of_ble_eq_true rfl) (by decide) zd_P_daysOf_38 ?_
      have hq38 := dM0_rg (m := mo) (by omega)
      refine zk_S (As := [.int (iI (dM0 (mo)))]) (own := "CronFinder$Plan") (nL := 4) (rest := []) hx hb hml hown hw (c_D_weekdayOf l g (dM0 (mo)) (by omega)) zw_3_62 zw_3_63 zw_1_22 zw_3_64 (np := 1) (by decide +kernel) rfl (by decide) zN_mv hK trivial (hP.sub (ws' := []) [] rfl) hl.1 rfl (Nat.le_of_ble_eq_true rfl) (by decide) zd_P_daysOf_41 ?_
      refine lv_istore_n (lv' := [(3, .int (iI (((dM0 (mo)) + 4) % 7 + 1))), (2, .int (iI (dM0 (mo + 1) - dM0 mo))), (0, .ref (pq)), (1, .int (iI (mo)))]) hx hb zd_P_daysOf_44 rfl hl (by decide) rfl (fun ls hl => ?_)
      refine va_gets hx hb hT.2.2.1 va_S.rf hown (hw _ zw_3_65) (fun _ h9 => h9) zd_P_daysOf_45 ?_
      refine lv_aload_n hx hb zd_P_daysOf_48 rfl (lv_at hl 2 rfl) ?_
      refine va_get (D := g.1) (ci := 3) (v := .ref (en 0)) (C := zR_P) (T := zT_P) (N := 11) hx hb hw zin_P hown hK hP 0 rfl rfl 7 (by decide) (hw _ zw_1_65) (fun _ h9 => h9) rfl zd_P_daysOf_49 ?_
      refine zk_U (As := []) (b := en 0) (C := "CronFinder$DayRule") (owner := "java/lang/Enum") (own := "CronFinder$Plan") (nL := 4) (rest := [.ref (tw)]) (x := ⟨"CronFinder$DayRule", "ordinal", "()I"⟩) hx hb hml hown hw (c_ord_0 l g en) zw_3_67 zw_3_68 zw_3_70 zw_3_71 zw_1_4 zw_3_72 rfl (np := 0) (by decide +kernel) rfl (by decide) (zSe_mv en _) hK hT.2.1 (hP.sub (ws' := []) [] rfl) (va_recvE hT.2.1 (i := 0) (by decide) va_S.rf) hl.1 rfl (Nat.le_of_ble_eq_true rfl) (by decide) zd_P_daysOf_52 ?_
      refine zi_ti (f := pSw) hx hb hT.2.2.2 va_S.rf (by decide) zd_P_daysOf_55 ?_
      refine zi_as 1 (by decide) ?_
      refine lv_tableIn (off := 40) (tgt := 96) hx hb zd_P_daysOf_56 (by decide) (by decide) (by decide) (by decide) ?_
      refine lv_aload_n hx hb zd_P_daysOf_96 rfl (lv_at hl 2 rfl) ?_
      refine va_get (D := g.1) (ci := 3) (v := .int (zbits (bits))) (C := zR_P) (T := zT_P) (N := 11) hx hb hw zin_P hown hK hP 0 rfl rfl 10 (by decide) (hw _ zw_1_68) (fun _ h9 => h9) rfl zd_P_daysOf_97 ?_
      refine zi_iconst hx hb zd_P_daysOf_100 ?_
      refine lv_iload_n hx hb zd_P_daysOf_101 rfl (lv_at hl 1 rfl) ?_
      refine lv_ishl hx hb zd_P_daysOf_102 ?_
      refine zi_iconst hx hb zd_P_daysOf_103 ?_
      refine lv_isub hx hb zd_P_daysOf_104 ?_
      refine zw_as _ (zbits_mask (by omega)) ?_
      refine lv_iand hx hb zd_P_daysOf_105 ?_
      refine zw_as _ (zbits_and _ _) ?_
      refine zw_as (pDays al bits 0 sub od mo) (zbits_fe fun i hi => by unfold pDays; rw [c11, c27]; rfl) ?_
      exact zs_iret hx hb hr hlk zd_P_daysOf_106
    · refine zi_iconst hx hb zd_P_daysOf_30 ?_
      refine zw_as (pDays al bits 0 sub od mo) (by rw [zbits_0]; exact zbits_fe fun i hi => by unfold pDays; first | (rw [c11]; rfl) | (rw [c27, Bool.and_false]; rfl)) ?_
      exact zs_iret hx hb hr hlk zd_P_daysOf_31
set_option maxHeartbeats 4000000 in
set_option maxRecDepth 100000 in
theorem c_P_daysOf_1 (l : Launch) (g : zGl) (pq : Nat) (ra aa : Nat → Nat) (al : Nat → Nat → Bool) (sub od : Int) (bits : Nat → Bool) (t : Nat) (en : Nat → Nat) (tw : Nat) (mo : Int) (hm : 0 ≤ mo ∧ mo < 3960) (hs : 0 ≤ sub ∧ sub ≤ 31 ∧ 0 ≤ od ∧ od ≤ 5) : zSi l zy_P_daysOf zc_P_daysOf 4 (some .int) ({ frames := 3, cells := 0, slots := 0, locals := 65 }) g (zS3 t en tw (fun _ => False)) [.ref (pq), .int (iI (mo))] [(pq, .inr (3, [.ref (ra 0), .ref (ra 1), .ref (ra 2), .ref (ra 3), .ref (ra 4), .ref (ra 5), .ref (ra 6), .ref (en 1), .int (iI (sub)), .int (iI (od)), .int (zbits (bits))])), (ra 0, .inr (2, [.int (iI (0)), .int (iI (59)), .ref (aa 0)])), (aa 0, .inl (g.2 1, 60, .inl (zaB (al 0)))), (ra 1, .inr (2, [.int (iI (0)), .int (iI (59)), .ref (aa 1)])), (aa 1, .inl (g.2 1, 60, .inl (zaB (al 1)))), (ra 2, .inr (2, [.int (iI (0)), .int (iI (23)), .ref (aa 2)])), (aa 2, .inl (g.2 1, 24, .inl (zaB (al 2)))), (ra 3, .inr (2, [.int (iI (1)), .int (iI (31)), .ref (aa 3)])), (aa 3, .inl (g.2 1, 31, .inl (zaB (al 3)))), (ra 4, .inr (2, [.int (iI (1)), .int (iI (12)), .ref (aa 4)])), (aa 4, .inl (g.2 1, 12, .inl (zaB (al 4)))), (ra 5, .inr (2, [.int (iI (1)), .int (iI (7)), .ref (aa 5)])), (aa 5, .inl (g.2 1, 7, .inl (zaB (al 5)))), (ra 6, .inr (2, [.int (iI (1970)), .int (iI (2299)), .ref (aa 6)])), (aa 6, .inl (g.2 1, 330, .inl (zaB (al 6))))] (some (.int (zbits (pDays al bits 1 sub od mo)))) := by
  refine zs_open (by decide +kernel) (Nat.le_of_ble_eq_true rfl) ?_
  intro p e s m below meth c ls hx hb hml hr hlk hown hw hK hT hP hl
  have hown : s.vm.findClass "CronFinder$Plan" = some m.cls := hown
  have hl : lv_has ls 4 [(0, .ref (pq)), (1, .int (iI (mo)))] := hl
  refine lv_aload_n hx hb zd_P_daysOf_0 rfl (lv_at hl 0 rfl) ?_
  refine va_get (D := g.1) (ci := 3) (v := .ref (ra 6)) (C := zR_P) (T := zT_P) (N := 11) hx hb hw zin_P hown hK hP 0 rfl rfl 6 (by decide) (hw _ zw_1_64) (fun _ h9 => h9) rfl zd_P_daysOf_1 ?_
  refine lv_iload_n hx hb zd_P_daysOf_4 rfl (lv_at hl 1 rfl) ?_
  refine zk_S (As := [.int (iI (mo))]) (own := "CronFinder$Plan") (nL := 4) (rest := [.ref (ra 6)]) hx hb hml hown hw (c_D_yearOfMonth l g (mo) (by omega)) zw_3_57 zw_3_45 zw_1_22 zw_3_46 (np := 1) (by decide +kernel) rfl (by decide) zN_mv hK trivial (hP.sub (ws' := []) [] rfl) hl.1 rfl (Nat.le_of_ble_eq_true rfl) (by decide) zd_P_daysOf_5 ?_
  refine zk_V (As := [.int (iI (1970 + (mo) / 12))]) (b := ra 6) (own := "CronFinder$Plan") (nL := 4) (rest := []) hx hb hml hown hw (c_O_has l g (ra 6) (aa 6) 1970 2299 330 (al 6) (by decide) (1970 + (mo) / 12) (by omega)) zw_2_188 zw_2_189 zw_2_190 zw_1_3 zw_2_191 (np := 1) (by decide +kernel) rfl (by decide) zN_mv hK trivial (hP.sub (ws' := [(ra 6, .inr (2, [.int (iI (1970)), .int (iI (2299)), .ref (aa 6)])), (aa 6, .inl (g.2 1, 330, .inl (zaB (al 6))))]) [13, 14] rfl) (va_recv hK hP (ci := 2) (q0 := 13) rfl rfl) hl.1 rfl (Nat.le_of_ble_eq_true rfl) (by decide) zd_P_daysOf_8 ?_
  refine zb_if_eq (tgt := 30) hx hb zd_P_daysOf_11 (by decide) (fun c11 => ?_) (fun c11 => ?_)
  · refine zi_iconst hx hb zd_P_daysOf_30 ?_
    refine zw_as (pDays al bits 1 sub od mo) (by rw [zbits_0]; exact zbits_fe fun i hi => by unfold pDays; first | (rw [c11]; rfl) | (rw [c27, Bool.and_false]; rfl)) ?_
    exact zs_iret hx hb hr hlk zd_P_daysOf_31
  · refine lv_aload_n hx hb zd_P_daysOf_14 rfl (lv_at hl 0 rfl) ?_
    refine va_get (D := g.1) (ci := 3) (v := .ref (ra 4)) (C := zR_P) (T := zT_P) (N := 11) hx hb hw zin_P hown hK hP 0 rfl rfl 4 (by decide) (hw _ zw_1_62) (fun _ h9 => h9) rfl zd_P_daysOf_15 ?_
    refine lv_iload_n hx hb zd_P_daysOf_18 rfl (lv_at hl 1 rfl) ?_
    refine zi_bipush hx hb zd_P_daysOf_19 (by decide) ?_
    refine zi_irem hx hb zd_P_daysOf_21 (by omega) ?_
    refine zi_iconst hx hb zd_P_daysOf_22 ?_
    refine zi_iadd hx hb zd_P_daysOf_23 ?_
    refine zk_V (As := [.int (iI ((mo % 12) + 1))]) (b := ra 4) (own := "CronFinder$Plan") (nL := 4) (rest := []) hx hb hml hown hw (c_O_has l g (ra 4) (aa 4) 1 12 12 (al 4) (by decide) ((mo % 12) + 1) (by omega)) zw_2_188 zw_2_189 zw_2_190 zw_1_3 zw_2_191 (np := 1) (by decide +kernel) rfl (by decide) zN_mv hK trivial (hP.sub (ws' := [(ra 4, .inr (2, [.int (iI (1)), .int (iI (12)), .ref (aa 4)])), (aa 4, .inl (g.2 1, 12, .inl (zaB (al 4))))]) [9, 10] rfl) (va_recv hK hP (ci := 2) (q0 := 9) rfl rfl) hl.1 rfl (Nat.le_of_ble_eq_true rfl) (by decide) zd_P_daysOf_24 ?_
    refine zb_if_ne (tgt := 32) hx hb zd_P_daysOf_27 (by decide) (fun c27 => ?_) (fun c27 => ?_)
    · refine lv_iload_n hx hb zd_P_daysOf_32 rfl (lv_at hl 1 rfl) ?_
      refine zk_S (As := [.int (iI (mo))]) (own := "CronFinder$Plan") (nL := 4) (rest := []) hx hb hml hown hw (c_D_lengthOfMonth l g t (mo) (by omega)) zw_3_58 zw_3_59 zw_1_22 zw_3_60 (np := 1) (by decide +kernel) rfl (by decide) (zSd_mv t _) hK hT.1 (hP.sub (ws' := []) [] rfl) hl.1 rfl (Nat.le_of_ble_eq_true rfl) (by decide) zd_P_daysOf_33 ?_
      have hL := dLen_rg mo
      refine lv_istore_n (lv' := [(2, .int (iI (dM0 (mo + 1) - dM0 mo))), (0, .ref (pq)), (1, .int (iI (mo)))]) hx hb zd_P_daysOf_36 rfl hl (by decide) rfl (fun ls hl => ?_)
      refine lv_iload_n hx hb zd_P_daysOf_37 rfl (lv_at hl 2 rfl) ?_
      refine zk_S (As := [.int (iI (mo))]) (own := "CronFinder$Plan") (nL := 4) (rest := []) hx hb hml hown hw (c_D_startOfMonth l g t (mo) (by omega)) zw_3_61 zw_3_42 zw_1_22 zw_3_43 (np := 1) (by decide +kernel) rfl (by decide) (zSd_mv t _) hK hT.1 (hP.sub (ws' := []) [] rfl) hl.1 rfl (Nat.le_of_ble_eq_true rfl) (by decide) zd_P_daysOf_38 ?_
      have hq38 := dM0_rg (m := mo) (by omega)
      refine zk_S (As := [.int (iI (dM0 (mo)))]) (own := "CronFinder$Plan") (nL := 4) (rest := []) hx hb hml hown hw (c_D_weekdayOf l g (dM0 (mo)) (by omega)) zw_3_62 zw_3_63 zw_1_22 zw_3_64 (np := 1) (by decide +kernel) rfl (by decide) zN_mv hK trivial (hP.sub (ws' := []) [] rfl) hl.1 rfl (Nat.le_of_ble_eq_true rfl) (by decide) zd_P_daysOf_41 ?_
      refine lv_istore_n (lv' := [(3, .int (iI (((dM0 (mo)) + 4) % 7 + 1))), (2, .int (iI (dM0 (mo + 1) - dM0 mo))), (0, .ref (pq)), (1, .int (iI (mo)))]) hx hb zd_P_daysOf_44 rfl hl (by decide) rfl (fun ls hl => ?_)
      refine va_gets hx hb hT.2.2.1 va_S.rf hown (hw _ zw_3_65) (fun _ h9 => h9) zd_P_daysOf_45 ?_
      refine lv_aload_n hx hb zd_P_daysOf_48 rfl (lv_at hl 2 rfl) ?_
      refine va_get (D := g.1) (ci := 3) (v := .ref (en 1)) (C := zR_P) (T := zT_P) (N := 11) hx hb hw zin_P hown hK hP 0 rfl rfl 7 (by decide) (hw _ zw_1_65) (fun _ h9 => h9) rfl zd_P_daysOf_49 ?_
      refine zk_U (As := []) (b := en 1) (C := "CronFinder$DayRule") (owner := "java/lang/Enum") (own := "CronFinder$Plan") (nL := 4) (rest := [.ref (tw)]) (x := ⟨"CronFinder$DayRule", "ordinal", "()I"⟩) hx hb hml hown hw (c_ord_1 l g en) zw_3_67 zw_3_68 zw_3_70 zw_3_71 zw_1_4 zw_3_72 rfl (np := 0) (by decide +kernel) rfl (by decide) (zSe_mv en _) hK hT.2.1 (hP.sub (ws' := []) [] rfl) (va_recvE hT.2.1 (i := 1) (by decide) va_S.rf) hl.1 rfl (Nat.le_of_ble_eq_true rfl) (by decide) zd_P_daysOf_52 ?_
      refine zi_ti (f := pSw) hx hb hT.2.2.2 va_S.rf (by decide) zd_P_daysOf_55 ?_
      refine zi_as 2 (by decide) ?_
      refine lv_tableIn (off := 51) (tgt := 107) hx hb zd_P_daysOf_56 (by decide) (by decide) (by decide) (by decide) ?_
      refine lv_aload_n hx hb zd_P_daysOf_107 rfl (lv_at hl 2 rfl) ?_
      refine lv_iload_n hx hb zd_P_daysOf_108 rfl (lv_at hl 1 rfl) ?_
      refine lv_aload_n hx hb zd_P_daysOf_109 rfl (lv_at hl 2 rfl) ?_
      refine va_get (D := g.1) (ci := 3) (v := .int (iI (sub))) (C := zR_P) (T := zT_P) (N := 11) hx hb hw zin_P hown hK hP 0 rfl rfl 8 (by decide) (hw _ zw_1_66) (fun _ h9 => h9) rfl zd_P_daysOf_110 ?_
      refine zi_isub hx hb zd_P_daysOf_113 ?_
      refine lv_iload_n hx hb zd_P_daysOf_114 rfl (lv_at hl 1 rfl) ?_
      refine zk_V (As := [.int (iI ((dM0 (mo + 1) - dM0 mo) - sub)), .int (iI (dM0 (mo + 1) - dM0 mo))]) (b := pq) (own := "CronFinder$Plan") (nL := 4) (rest := []) hx hb hml hown hw (c_P_dayBit l g (pq) ((dM0 (mo + 1) - dM0 mo) - sub) (dM0 (mo + 1) - dM0 mo) (by omega)) zw_3_73 zw_3_75 zw_0_18 zw_1_2 zw_3_76 (np := 2) (by decide +kernel) rfl (by decide) zN_mv hK trivial (hP.sub (ws' := []) [] rfl) (va_recv hK hP (ci := 3) (q0 := 0) rfl rfl) hl.1 rfl (Nat.le_of_ble_eq_true rfl) (by decide) zd_P_daysOf_115 ?_
      refine zw_as (pDays al bits 1 sub od mo) (zbits_fe fun i hi => by unfold pDays; rw [c11, c27]; rfl) ?_
      exact zs_iret hx hb hr hlk zd_P_daysOf_118
    · refine zi_iconst hx hb zd_P_daysOf_30 ?_
      refine zw_as (pDays al bits 1 sub od mo) (by rw [zbits_0]; exact zbits_fe fun i hi => by unfold pDays; first | (rw [c11]; rfl) | (rw [c27, Bool.and_false]; rfl)) ?_
      exact zs_iret hx hb hr hlk zd_P_daysOf_31
set_option maxHeartbeats 4000000 in
set_option maxRecDepth 100000 in
theorem c_P_daysOf_2 (l : Launch) (g : zGl) (pq : Nat) (ra aa : Nat → Nat) (al : Nat → Nat → Bool) (sub od : Int) (bits : Nat → Bool) (t : Nat) (en : Nat → Nat) (tw : Nat) (mo : Int) (hm : 0 ≤ mo ∧ mo < 3960) (hs : 0 ≤ sub ∧ sub ≤ 31 ∧ 0 ≤ od ∧ od ≤ 5) : zSi l zy_P_daysOf zc_P_daysOf 4 (some .int) ({ frames := 3, cells := 0, slots := 0, locals := 65 }) g (zS3 t en tw (fun _ => False)) [.ref (pq), .int (iI (mo))] [(pq, .inr (3, [.ref (ra 0), .ref (ra 1), .ref (ra 2), .ref (ra 3), .ref (ra 4), .ref (ra 5), .ref (ra 6), .ref (en 2), .int (iI (sub)), .int (iI (od)), .int (zbits (bits))])), (ra 0, .inr (2, [.int (iI (0)), .int (iI (59)), .ref (aa 0)])), (aa 0, .inl (g.2 1, 60, .inl (zaB (al 0)))), (ra 1, .inr (2, [.int (iI (0)), .int (iI (59)), .ref (aa 1)])), (aa 1, .inl (g.2 1, 60, .inl (zaB (al 1)))), (ra 2, .inr (2, [.int (iI (0)), .int (iI (23)), .ref (aa 2)])), (aa 2, .inl (g.2 1, 24, .inl (zaB (al 2)))), (ra 3, .inr (2, [.int (iI (1)), .int (iI (31)), .ref (aa 3)])), (aa 3, .inl (g.2 1, 31, .inl (zaB (al 3)))), (ra 4, .inr (2, [.int (iI (1)), .int (iI (12)), .ref (aa 4)])), (aa 4, .inl (g.2 1, 12, .inl (zaB (al 4)))), (ra 5, .inr (2, [.int (iI (1)), .int (iI (7)), .ref (aa 5)])), (aa 5, .inl (g.2 1, 7, .inl (zaB (al 5)))), (ra 6, .inr (2, [.int (iI (1970)), .int (iI (2299)), .ref (aa 6)])), (aa 6, .inl (g.2 1, 330, .inl (zaB (al 6))))] (some (.int (zbits (pDays al bits 2 sub od mo)))) := by
  refine zs_open (by decide +kernel) (Nat.le_of_ble_eq_true rfl) ?_
  intro p e s m below meth c ls hx hb hml hr hlk hown hw hK hT hP hl
  have hown : s.vm.findClass "CronFinder$Plan" = some m.cls := hown
  have hl : lv_has ls 4 [(0, .ref (pq)), (1, .int (iI (mo)))] := hl
  refine lv_aload_n hx hb zd_P_daysOf_0 rfl (lv_at hl 0 rfl) ?_
  refine va_get (D := g.1) (ci := 3) (v := .ref (ra 6)) (C := zR_P) (T := zT_P) (N := 11) hx hb hw zin_P hown hK hP 0 rfl rfl 6 (by decide) (hw _ zw_1_64) (fun _ h9 => h9) rfl zd_P_daysOf_1 ?_
  refine lv_iload_n hx hb zd_P_daysOf_4 rfl (lv_at hl 1 rfl) ?_
  refine zk_S (As := [.int (iI (mo))]) (own := "CronFinder$Plan") (nL := 4) (rest := [.ref (ra 6)]) hx hb hml hown hw (c_D_yearOfMonth l g (mo) (by omega)) zw_3_57 zw_3_45 zw_1_22 zw_3_46 (np := 1) (by decide +kernel) rfl (by decide) zN_mv hK trivial (hP.sub (ws' := []) [] rfl) hl.1 rfl (Nat.le_of_ble_eq_true rfl) (by decide) zd_P_daysOf_5 ?_
  refine zk_V (As := [.int (iI (1970 + (mo) / 12))]) (b := ra 6) (own := "CronFinder$Plan") (nL := 4) (rest := []) hx hb hml hown hw (c_O_has l g (ra 6) (aa 6) 1970 2299 330 (al 6) (by decide) (1970 + (mo) / 12) (by omega)) zw_2_188 zw_2_189 zw_2_190 zw_1_3 zw_2_191 (np := 1) (by decide +kernel) rfl (by decide) zN_mv hK trivial (hP.sub (ws' := [(ra 6, .inr (2, [.int (iI (1970)), .int (iI (2299)), .ref (aa 6)])), (aa 6, .inl (g.2 1, 330, .inl (zaB (al 6))))]) [13, 14] rfl) (va_recv hK hP (ci := 2) (q0 := 13) rfl rfl) hl.1 rfl (Nat.le_of_ble_eq_true rfl) (by decide) zd_P_daysOf_8 ?_
  refine zb_if_eq (tgt := 30) hx hb zd_P_daysOf_11 (by decide) (fun c11 => ?_) (fun c11 => ?_)
  · refine zi_iconst hx hb zd_P_daysOf_30 ?_
    refine zw_as (pDays al bits 2 sub od mo) (by rw [zbits_0]; exact zbits_fe fun i hi => by unfold pDays; first | (rw [c11]; rfl) | (rw [c27, Bool.and_false]; rfl)) ?_
    exact zs_iret hx hb hr hlk zd_P_daysOf_31
  · refine lv_aload_n hx hb zd_P_daysOf_14 rfl (lv_at hl 0 rfl) ?_
    refine va_get (D := g.1) (ci := 3) (v := .ref (ra 4)) (C := zR_P) (T := zT_P) (N := 11) hx hb hw zin_P hown hK hP 0 rfl rfl 4 (by decide) (hw _ zw_1_62) (fun _ h9 => h9) rfl zd_P_daysOf_15 ?_
    refine lv_iload_n hx hb zd_P_daysOf_18 rfl (lv_at hl 1 rfl) ?_
    refine zi_bipush hx hb zd_P_daysOf_19 (by decide) ?_
    refine zi_irem hx hb zd_P_daysOf_21 (by omega) ?_
    refine zi_iconst hx hb zd_P_daysOf_22 ?_
    refine zi_iadd hx hb zd_P_daysOf_23 ?_
    refine zk_V (As := [.int (iI ((mo % 12) + 1))]) (b := ra 4) (own := "CronFinder$Plan") (nL := 4) (rest := []) hx hb hml hown hw (c_O_has l g (ra 4) (aa 4) 1 12 12 (al 4) (by decide) ((mo % 12) + 1) (by omega)) zw_2_188 zw_2_189 zw_2_190 zw_1_3 zw_2_191 (np := 1) (by decide +kernel) rfl (by decide) zN_mv hK trivial (hP.sub (ws' := [(ra 4, .inr (2, [.int (iI (1)), .int (iI (12)), .ref (aa 4)])), (aa 4, .inl (g.2 1, 12, .inl (zaB (al 4))))]) [9, 10] rfl) (va_recv hK hP (ci := 2) (q0 := 9) rfl rfl) hl.1 rfl (Nat.le_of_ble_eq_true rfl) (by decide) zd_P_daysOf_24 ?_
    refine zb_if_ne (tgt := 32) hx hb zd_P_daysOf_27 (by decide) (fun c27 => ?_) (fun c27 => ?_)
    · refine lv_iload_n hx hb zd_P_daysOf_32 rfl (lv_at hl 1 rfl) ?_
      refine zk_S (As := [.int (iI (mo))]) (own := "CronFinder$Plan") (nL := 4) (rest := []) hx hb hml hown hw (c_D_lengthOfMonth l g t (mo) (by omega)) zw_3_58 zw_3_59 zw_1_22 zw_3_60 (np := 1) (by decide +kernel) rfl (by decide) (zSd_mv t _) hK hT.1 (hP.sub (ws' := []) [] rfl) hl.1 rfl (Nat.le_of_ble_eq_true rfl) (by decide) zd_P_daysOf_33 ?_
      have hL := dLen_rg mo
      refine lv_istore_n (lv' := [(2, .int (iI (dM0 (mo + 1) - dM0 mo))), (0, .ref (pq)), (1, .int (iI (mo)))]) hx hb zd_P_daysOf_36 rfl hl (by decide) rfl (fun ls hl => ?_)
      refine lv_iload_n hx hb zd_P_daysOf_37 rfl (lv_at hl 2 rfl) ?_
      refine zk_S (As := [.int (iI (mo))]) (own := "CronFinder$Plan") (nL := 4) (rest := []) hx hb hml hown hw (c_D_startOfMonth l g t (mo) (by omega)) zw_3_61 zw_3_42 zw_1_22 zw_3_43 (np := 1) (by decide +kernel) rfl (by decide) (zSd_mv t _) hK hT.1 (hP.sub (ws' := []) [] rfl) hl.1 rfl (Nat.le_of_ble_eq_true rfl) (by decide) zd_P_daysOf_38 ?_
      have hq38 := dM0_rg (m := mo) (by omega)
      refine zk_S (As := [.int (iI (dM0 (mo)))]) (own := "CronFinder$Plan") (nL := 4) (rest := []) hx hb hml hown hw (c_D_weekdayOf l g (dM0 (mo)) (by omega)) zw_3_62 zw_3_63 zw_1_22 zw_3_64 (np := 1) (by decide +kernel) rfl (by decide) zN_mv hK trivial (hP.sub (ws' := []) [] rfl) hl.1 rfl (Nat.le_of_ble_eq_true rfl) (by decide) zd_P_daysOf_41 ?_
      refine lv_istore_n (lv' := [(3, .int (iI (((dM0 (mo)) + 4) % 7 + 1))), (2, .int (iI (dM0 (mo + 1) - dM0 mo))), (0, .ref (pq)), (1, .int (iI (mo)))]) hx hb zd_P_daysOf_44 rfl hl (by decide) rfl (fun ls hl => ?_)
      refine va_gets hx hb hT.2.2.1 va_S.rf hown (hw _ zw_3_65) (fun _ h9 => h9) zd_P_daysOf_45 ?_
      refine lv_aload_n hx hb zd_P_daysOf_48 rfl (lv_at hl 2 rfl) ?_
      refine va_get (D := g.1) (ci := 3) (v := .ref (en 2)) (C := zR_P) (T := zT_P) (N := 11) hx hb hw zin_P hown hK hP 0 rfl rfl 7 (by decide) (hw _ zw_1_65) (fun _ h9 => h9) rfl zd_P_daysOf_49 ?_
      refine zk_U (As := []) (b := en 2) (C := "CronFinder$DayRule") (owner := "java/lang/Enum") (own := "CronFinder$Plan") (nL := 4) (rest := [.ref (tw)]) (x := ⟨"CronFinder$DayRule", "ordinal", "()I"⟩) hx hb hml hown hw (c_ord_2 l g en) zw_3_67 zw_3_68 zw_3_70 zw_3_71 zw_1_4 zw_3_72 rfl (np := 0) (by decide +kernel) rfl (by decide) (zSe_mv en _) hK hT.2.1 (hP.sub (ws' := []) [] rfl) (va_recvE hT.2.1 (i := 2) (by decide) va_S.rf) hl.1 rfl (Nat.le_of_ble_eq_true rfl) (by decide) zd_P_daysOf_52 ?_
      refine zi_ti (f := pSw) hx hb hT.2.2.2 va_S.rf (by decide) zd_P_daysOf_55 ?_
      refine zi_as 3 (by decide) ?_
      refine lv_tableIn (off := 63) (tgt := 119) hx hb zd_P_daysOf_56 (by decide) (by decide) (by decide) (by decide) ?_
      refine lv_aload_n hx hb zd_P_daysOf_119 rfl (lv_at hl 2 rfl) ?_
      refine lv_aload_n hx hb zd_P_daysOf_120 rfl (lv_at hl 2 rfl) ?_
      refine lv_iload_n hx hb zd_P_daysOf_121 rfl (lv_at hl 1 rfl) ?_
      refine lv_iload_n hx hb zd_P_daysOf_122 rfl (lv_at hl 0 rfl) ?_
      refine lv_iload_n hx hb zd_P_daysOf_123 rfl (lv_at hl 1 rfl) ?_
      refine zk_V (As := [.int (iI (dM0 (mo + 1) - dM0 mo)), .int (iI (((dM0 (mo)) + 4) % 7 + 1)), .int (iI (dM0 (mo + 1) - dM0 mo))]) (b := pq) (own := "CronFinder$Plan") (nL := 4) (rest := [.ref (pq)]) hx hb hml hown hw (c_P_nearestWorkday l g pq ra (en 2) sub od bits (dM0 (mo + 1) - dM0 mo) (((dM0 (mo)) + 4) % 7 + 1) (dM0 (mo + 1) - dM0 mo) (by omega)) zw_3_77 zw_3_79 zw_0_19 zw_1_2 zw_3_80 (np := 3) (by decide +kernel) rfl (by decide) zN_mv hK trivial (hP.sub (ws' := [(pq, .inr (3, [.ref (ra 0), .ref (ra 1), .ref (ra 2), .ref (ra 3), .ref (ra 4), .ref (ra 5), .ref (ra 6), .ref (en 2), .int (iI (sub)), .int (iI (od)), .int (zbits (bits))]))]) [0] rfl) (va_recv hK hP (ci := 3) (q0 := 0) rfl rfl) hl.1 rfl (Nat.le_of_ble_eq_true rfl) (by decide) zd_P_daysOf_124 ?_
      have hnr124 := pNear_rg (fw := ((dM0 (mo)) + 4) % 7 + 1) (len := dM0 (mo + 1) - dM0 mo) (day := dM0 (mo + 1) - dM0 mo) (by omega)
      refine lv_iload_n hx hb zd_P_daysOf_127 rfl (lv_at hl 1 rfl) ?_
      refine zk_V (As := [.int (iI (pNear (dM0 (mo + 1) - dM0 mo) (((dM0 (mo)) + 4) % 7 + 1) (dM0 (mo + 1) - dM0 mo))), .int (iI (dM0 (mo + 1) - dM0 mo))]) (b := pq) (own := "CronFinder$Plan") (nL := 4) (rest := []) hx hb hml hown hw (c_P_dayBit l g (pq) (pNear (dM0 (mo + 1) - dM0 mo) (((dM0 (mo)) + 4) % 7 + 1) (dM0 (mo + 1) - dM0 mo)) (dM0 (mo + 1) - dM0 mo) (by omega)) zw_3_73 zw_3_75 zw_0_18 zw_1_2 zw_3_76 (np := 2) (by decide +kernel) rfl (by decide) zN_mv hK trivial (hP.sub (ws' := []) [] rfl) (va_recv hK hP (ci := 3) (q0 := 0) rfl rfl) hl.1 rfl (Nat.le_of_ble_eq_true rfl) (by decide) zd_P_daysOf_128 ?_
      refine zw_as (pDays al bits 2 sub od mo) (zbits_fe fun i hi => by unfold pDays; rw [c11, c27]; rfl) ?_
      exact zs_iret hx hb hr hlk zd_P_daysOf_131
    · refine zi_iconst hx hb zd_P_daysOf_30 ?_
      refine zw_as (pDays al bits 2 sub od mo) (by rw [zbits_0]; exact zbits_fe fun i hi => by unfold pDays; first | (rw [c11]; rfl) | (rw [c27, Bool.and_false]; rfl)) ?_
      exact zs_iret hx hb hr hlk zd_P_daysOf_31
set_option maxHeartbeats 4000000 in
set_option maxRecDepth 100000 in
theorem c_P_daysOf_3 (l : Launch) (g : zGl) (pq : Nat) (ra aa : Nat → Nat) (al : Nat → Nat → Bool) (sub od : Int) (bits : Nat → Bool) (t : Nat) (en : Nat → Nat) (tw : Nat) (mo : Int) (hm : 0 ≤ mo ∧ mo < 3960) (hs : 0 ≤ sub ∧ sub ≤ 31 ∧ 0 ≤ od ∧ od ≤ 5) (hs3 : 1 ≤ sub) : zSi l zy_P_daysOf zc_P_daysOf 4 (some .int) ({ frames := 3, cells := 0, slots := 0, locals := 65 }) g (zS3 t en tw (fun _ => False)) [.ref (pq), .int (iI (mo))] [(pq, .inr (3, [.ref (ra 0), .ref (ra 1), .ref (ra 2), .ref (ra 3), .ref (ra 4), .ref (ra 5), .ref (ra 6), .ref (en 3), .int (iI (sub)), .int (iI (od)), .int (zbits (bits))])), (ra 0, .inr (2, [.int (iI (0)), .int (iI (59)), .ref (aa 0)])), (aa 0, .inl (g.2 1, 60, .inl (zaB (al 0)))), (ra 1, .inr (2, [.int (iI (0)), .int (iI (59)), .ref (aa 1)])), (aa 1, .inl (g.2 1, 60, .inl (zaB (al 1)))), (ra 2, .inr (2, [.int (iI (0)), .int (iI (23)), .ref (aa 2)])), (aa 2, .inl (g.2 1, 24, .inl (zaB (al 2)))), (ra 3, .inr (2, [.int (iI (1)), .int (iI (31)), .ref (aa 3)])), (aa 3, .inl (g.2 1, 31, .inl (zaB (al 3)))), (ra 4, .inr (2, [.int (iI (1)), .int (iI (12)), .ref (aa 4)])), (aa 4, .inl (g.2 1, 12, .inl (zaB (al 4)))), (ra 5, .inr (2, [.int (iI (1)), .int (iI (7)), .ref (aa 5)])), (aa 5, .inl (g.2 1, 7, .inl (zaB (al 5)))), (ra 6, .inr (2, [.int (iI (1970)), .int (iI (2299)), .ref (aa 6)])), (aa 6, .inl (g.2 1, 330, .inl (zaB (al 6))))] (some (.int (zbits (pDays al bits 3 sub od mo)))) := by
  refine zs_open (by decide +kernel) (Nat.le_of_ble_eq_true rfl) ?_
  intro p e s m below meth c ls hx hb hml hr hlk hown hw hK hT hP hl
  have hown : s.vm.findClass "CronFinder$Plan" = some m.cls := hown
  have hl : lv_has ls 4 [(0, .ref (pq)), (1, .int (iI (mo)))] := hl
  refine lv_aload_n hx hb zd_P_daysOf_0 rfl (lv_at hl 0 rfl) ?_
  refine va_get (D := g.1) (ci := 3) (v := .ref (ra 6)) (C := zR_P) (T := zT_P) (N := 11) hx hb hw zin_P hown hK hP 0 rfl rfl 6 (by decide) (hw _ zw_1_64) (fun _ h9 => h9) rfl zd_P_daysOf_1 ?_
  refine lv_iload_n hx hb zd_P_daysOf_4 rfl (lv_at hl 1 rfl) ?_
  refine zk_S (As := [.int (iI (mo))]) (own := "CronFinder$Plan") (nL := 4) (rest := [.ref (ra 6)]) hx hb hml hown hw (c_D_yearOfMonth l g (mo) (by omega)) zw_3_57 zw_3_45 zw_1_22 zw_3_46 (np := 1) (by decide +kernel) rfl (by decide) zN_mv hK trivial (hP.sub (ws' := []) [] rfl) hl.1 rfl (Nat.le_of_ble_eq_true rfl) (by decide) zd_P_daysOf_5 ?_
  refine zk_V (As := [.int (iI (1970 + (mo) / 12))]) (b := ra 6) (own := "CronFinder$Plan") (nL := 4) (rest := []) hx hb hml hown hw (c_O_has l g (ra 6) (aa 6) 1970 2299 330 (al 6) (by decide) (1970 + (mo) / 12) (by omega)) zw_2_188 zw_2_189 zw_2_190 zw_1_3 zw_2_191 (np := 1) (by decide +kernel) rfl (by decide) zN_mv hK trivial (hP.sub (ws' := [(ra 6, .inr (2, [.int (iI (1970)), .int (iI (2299)), .ref (aa 6)])), (aa 6, .inl (g.2 1, 330, .inl (zaB (al 6))))]) [13, 14] rfl) (va_recv hK hP (ci := 2) (q0 := 13) rfl rfl) hl.1 rfl (Nat.le_of_ble_eq_true rfl) (by decide) zd_P_daysOf_8 ?_
  refine zb_if_eq (tgt := 30) hx hb zd_P_daysOf_11 (by decide) (fun c11 => ?_) (fun c11 => ?_)
  · refine zi_iconst hx hb zd_P_daysOf_30 ?_
    refine zw_as (pDays al bits 3 sub od mo) (by rw [zbits_0]; exact zbits_fe fun i hi => by unfold pDays; first | (rw [c11]; rfl) | (rw [c27, Bool.and_false]; rfl)) ?_
    exact zs_iret hx hb hr hlk zd_P_daysOf_31
  · refine lv_aload_n hx hb zd_P_daysOf_14 rfl (lv_at hl 0 rfl) ?_
    refine va_get (D := g.1) (ci := 3) (v := .ref (ra 4)) (C := zR_P) (T := zT_P) (N := 11) hx hb hw zin_P hown hK hP 0 rfl rfl 4 (by decide) (hw _ zw_1_62) (fun _ h9 => h9) rfl zd_P_daysOf_15 ?_
    refine lv_iload_n hx hb zd_P_daysOf_18 rfl (lv_at hl 1 rfl) ?_
    refine zi_bipush hx hb zd_P_daysOf_19 (by decide) ?_
    refine zi_irem hx hb zd_P_daysOf_21 (by omega) ?_
    refine zi_iconst hx hb zd_P_daysOf_22 ?_
    refine zi_iadd hx hb zd_P_daysOf_23 ?_
    refine zk_V (As := [.int (iI ((mo % 12) + 1))]) (b := ra 4) (own := "CronFinder$Plan") (nL := 4) (rest := []) hx hb hml hown hw (c_O_has l g (ra 4) (aa 4) 1 12 12 (al 4) (by decide) ((mo % 12) + 1) (by omega)) zw_2_188 zw_2_189 zw_2_190 zw_1_3 zw_2_191 (np := 1) (by decide +kernel) rfl (by decide) zN_mv hK trivial (hP.sub (ws' := [(ra 4, .inr (2, [.int (iI (1)), .int (iI (12)), .ref (aa 4)])), (aa 4, .inl (g.2 1, 12, .inl (zaB (al 4))))]) [9, 10] rfl) (va_recv hK hP (ci := 2) (q0 := 9) rfl rfl) hl.1 rfl (Nat.le_of_ble_eq_true rfl) (by decide) zd_P_daysOf_24 ?_
    refine zb_if_ne (tgt := 32) hx hb zd_P_daysOf_27 (by decide) (fun c27 => ?_) (fun c27 => ?_)
    · refine lv_iload_n hx hb zd_P_daysOf_32 rfl (lv_at hl 1 rfl) ?_
      refine zk_S (As := [.int (iI (mo))]) (own := "CronFinder$Plan") (nL := 4) (rest := []) hx hb hml hown hw (c_D_lengthOfMonth l g t (mo) (by omega)) zw_3_58 zw_3_59 zw_1_22 zw_3_60 (np := 1) (by decide +kernel) rfl (by decide) (zSd_mv t _) hK hT.1 (hP.sub (ws' := []) [] rfl) hl.1 rfl (Nat.le_of_ble_eq_true rfl) (by decide) zd_P_daysOf_33 ?_
      have hL := dLen_rg mo
      refine lv_istore_n (lv' := [(2, .int (iI (dM0 (mo + 1) - dM0 mo))), (0, .ref (pq)), (1, .int (iI (mo)))]) hx hb zd_P_daysOf_36 rfl hl (by decide) rfl (fun ls hl => ?_)
      refine lv_iload_n hx hb zd_P_daysOf_37 rfl (lv_at hl 2 rfl) ?_
      refine zk_S (As := [.int (iI (mo))]) (own := "CronFinder$Plan") (nL := 4) (rest := []) hx hb hml hown hw (c_D_startOfMonth l g t (mo) (by omega)) zw_3_61 zw_3_42 zw_1_22 zw_3_43 (np := 1) (by decide +kernel) rfl (by decide) (zSd_mv t _) hK hT.1 (hP.sub (ws' := []) [] rfl) hl.1 rfl (Nat.le_of_ble_eq_true rfl) (by decide) zd_P_daysOf_38 ?_
      have hq38 := dM0_rg (m := mo) (by omega)
      refine zk_S (As := [.int (iI (dM0 (mo)))]) (own := "CronFinder$Plan") (nL := 4) (rest := []) hx hb hml hown hw (c_D_weekdayOf l g (dM0 (mo)) (by omega)) zw_3_62 zw_3_63 zw_1_22 zw_3_64 (np := 1) (by decide +kernel) rfl (by decide) zN_mv hK trivial (hP.sub (ws' := []) [] rfl) hl.1 rfl (Nat.le_of_ble_eq_true rfl) (by decide) zd_P_daysOf_41 ?_
      refine lv_istore_n (lv' := [(3, .int (iI (((dM0 (mo)) + 4) % 7 + 1))), (2, .int (iI (dM0 (mo + 1) - dM0 mo))), (0, .ref (pq)), (1, .int (iI (mo)))]) hx hb zd_P_daysOf_44 rfl hl (by decide) rfl (fun ls hl => ?_)
      refine va_gets hx hb hT.2.2.1 va_S.rf hown (hw _ zw_3_65) (fun _ h9 => h9) zd_P_daysOf_45 ?_
      refine lv_aload_n hx hb zd_P_daysOf_48 rfl (lv_at hl 2 rfl) ?_
      refine va_get (D := g.1) (ci := 3) (v := .ref (en 3)) (C := zR_P) (T := zT_P) (N := 11) hx hb hw zin_P hown hK hP 0 rfl rfl 7 (by decide) (hw _ zw_1_65) (fun _ h9 => h9) rfl zd_P_daysOf_49 ?_
      refine zk_U (As := []) (b := en 3) (C := "CronFinder$DayRule") (owner := "java/lang/Enum") (own := "CronFinder$Plan") (nL := 4) (rest := [.ref (tw)]) (x := ⟨"CronFinder$DayRule", "ordinal", "()I"⟩) hx hb hml hown hw (c_ord_3 l g en) zw_3_67 zw_3_68 zw_3_70 zw_3_71 zw_1_4 zw_3_72 rfl (np := 0) (by decide +kernel) rfl (by decide) (zSe_mv en _) hK hT.2.1 (hP.sub (ws' := []) [] rfl) (va_recvE hT.2.1 (i := 3) (by decide) va_S.rf) hl.1 rfl (Nat.le_of_ble_eq_true rfl) (by decide) zd_P_daysOf_52 ?_
      refine zi_ti (f := pSw) hx hb hT.2.2.2 va_S.rf (by decide) zd_P_daysOf_55 ?_
      refine zi_as 4 (by decide) ?_
      refine lv_tableIn (off := 76) (tgt := 132) hx hb zd_P_daysOf_56 (by decide) (by decide) (by decide) (by decide) ?_
      refine lv_aload_n hx hb zd_P_daysOf_132 rfl (lv_at hl 2 rfl) ?_
      refine va_get (D := g.1) (ci := 3) (v := .int (iI (sub))) (C := zR_P) (T := zT_P) (N := 11) hx hb hw zin_P hown hK hP 0 rfl rfl 8 (by decide) (hw _ zw_1_66) (fun _ h9 => h9) rfl zd_P_daysOf_133 ?_
      refine lv_iload_n hx hb zd_P_daysOf_136 rfl (lv_at hl 1 rfl) ?_
      refine zi_icmp_le (tgt := 144) hx hb zd_P_daysOf_137 (by decide) (by omega) (fun c137 => ?_) (fun c137 => ?_)
      · refine lv_aload_n hx hb zd_P_daysOf_144 rfl (lv_at hl 2 rfl) ?_
        refine lv_aload_n hx hb zd_P_daysOf_145 rfl (lv_at hl 2 rfl) ?_
        refine lv_aload_n hx hb zd_P_daysOf_146 rfl (lv_at hl 2 rfl) ?_
        refine va_get (D := g.1) (ci := 3) (v := .int (iI (sub))) (C := zR_P) (T := zT_P) (N := 11) hx hb hw zin_P hown hK hP 0 rfl rfl 8 (by decide) (hw _ zw_1_66) (fun _ h9 => h9) rfl zd_P_daysOf_147 ?_
        refine lv_iload_n hx hb zd_P_daysOf_150 rfl (lv_at hl 0 rfl) ?_
        refine lv_iload_n hx hb zd_P_daysOf_151 rfl (lv_at hl 1 rfl) ?_
        refine zk_V (As := [.int (iI (sub)), .int (iI (((dM0 (mo)) + 4) % 7 + 1)), .int (iI (dM0 (mo + 1) - dM0 mo))]) (b := pq) (own := "CronFinder$Plan") (nL := 4) (rest := [.ref (pq)]) hx hb hml hown hw (c_P_nearestWorkday l g pq ra (en 3) sub od bits (sub) (((dM0 (mo)) + 4) % 7 + 1) (dM0 (mo + 1) - dM0 mo) (by omega)) zw_3_77 zw_3_79 zw_0_19 zw_1_2 zw_3_80 (np := 3) (by decide +kernel) rfl (by decide) zN_mv hK trivial (hP.sub (ws' := [(pq, .inr (3, [.ref (ra 0), .ref (ra 1), .ref (ra 2), .ref (ra 3), .ref (ra 4), .ref (ra 5), .ref (ra 6), .ref (en 3), .int (iI (sub)), .int (iI (od)), .int (zbits (bits))]))]) [0] rfl) (va_recv hK hP (ci := 3) (q0 := 0) rfl rfl) hl.1 rfl (Nat.le_of_ble_eq_true rfl) (by decide) zd_P_daysOf_152 ?_
        have hnr152 := pNear_rg (fw := ((dM0 (mo)) + 4) % 7 + 1) (len := dM0 (mo + 1) - dM0 mo) (day := sub) (by omega)
        refine lv_iload_n hx hb zd_P_daysOf_155 rfl (lv_at hl 1 rfl) ?_
        refine zk_V (As := [.int (iI (pNear (sub) (((dM0 (mo)) + 4) % 7 + 1) (dM0 (mo + 1) - dM0 mo))), .int (iI (dM0 (mo + 1) - dM0 mo))]) (b := pq) (own := "CronFinder$Plan") (nL := 4) (rest := []) hx hb hml hown hw (c_P_dayBit l g (pq) (pNear (sub) (((dM0 (mo)) + 4) % 7 + 1) (dM0 (mo + 1) - dM0 mo)) (dM0 (mo + 1) - dM0 mo) (by omega)) zw_3_73 zw_3_75 zw_0_18 zw_1_2 zw_3_76 (np := 2) (by decide +kernel) rfl (by decide) zN_mv hK trivial (hP.sub (ws' := []) [] rfl) (va_recv hK hP (ci := 3) (q0 := 0) rfl rfl) hl.1 rfl (Nat.le_of_ble_eq_true rfl) (by decide) zd_P_daysOf_156 ?_
        refine zw_as (pDays al bits 3 sub od mo) (by first | (rw [zbits_0]; exact zbits_fe fun i hi => by rw [pDays_3, c11, c27, decide_eq_false (by omega : ¬ sub ≤ dM0 (mo + 1) - dM0 mo)]; rfl) | (exact zbits_fe fun i hi => by rw [pDays_3, c11, c27, decide_eq_true (by omega : sub ≤ dM0 (mo + 1) - dM0 mo)]; rfl)) ?_
        exact zs_iret hx hb hr hlk zd_P_daysOf_159
      · refine zi_iconst hx hb zd_P_daysOf_140 ?_
        refine lv_goto (tgt := 159) hx hb zd_P_daysOf_141 (by decide) ?_
        refine zw_as (pDays al bits 3 sub od mo) (by first | (rw [zbits_0]; exact zbits_fe fun i hi => by rw [pDays_3, c11, c27, decide_eq_false (by omega : ¬ sub ≤ dM0 (mo + 1) - dM0 mo)]; rfl) | (exact zbits_fe fun i hi => by rw [pDays_3, c11, c27, decide_eq_true (by omega : sub ≤ dM0 (mo + 1) - dM0 mo)]; rfl)) ?_
        exact zs_iret hx hb hr hlk zd_P_daysOf_159
    · refine zi_iconst hx hb zd_P_daysOf_30 ?_
      refine zw_as (pDays al bits 3 sub od mo) (by rw [zbits_0]; exact zbits_fe fun i hi => by unfold pDays; first | (rw [c11]; rfl) | (rw [c27, Bool.and_false]; rfl)) ?_
      exact zs_iret hx hb hr hlk zd_P_daysOf_31
set_option maxHeartbeats 4000000 in
set_option maxRecDepth 100000 in
theorem c_P_daysOf_4 (l : Launch) (g : zGl) (pq : Nat) (ra aa : Nat → Nat) (al : Nat → Nat → Bool) (sub od : Int) (bits : Nat → Bool) (t : Nat) (en : Nat → Nat) (tw : Nat) (mo : Int) (hm : 0 ≤ mo ∧ mo < 3960) (hs : 0 ≤ sub ∧ sub ≤ 31 ∧ 0 ≤ od ∧ od ≤ 5) : zSi l zy_P_daysOf zc_P_daysOf 4 (some .int) ({ frames := 3, cells := 0, slots := 0, locals := 65 }) g (zS3 t en tw (fun _ => False)) [.ref (pq), .int (iI (mo))] [(pq, .inr (3, [.ref (ra 0), .ref (ra 1), .ref (ra 2), .ref (ra 3), .ref (ra 4), .ref (ra 5), .ref (ra 6), .ref (en 4), .int (iI (sub)), .int (iI (od)), .int (zbits (bits))])), (ra 0, .inr (2, [.int (iI (0)), .int (iI (59)), .ref (aa 0)])), (aa 0, .inl (g.2 1, 60, .inl (zaB (al 0)))), (ra 1, .inr (2, [.int (iI (0)), .int (iI (59)), .ref (aa 1)])), (aa 1, .inl (g.2 1, 60, .inl (zaB (al 1)))), (ra 2, .inr (2, [.int (iI (0)), .int (iI (23)), .ref (aa 2)])), (aa 2, .inl (g.2 1, 24, .inl (zaB (al 2)))), (ra 3, .inr (2, [.int (iI (1)), .int (iI (31)), .ref (aa 3)])), (aa 3, .inl (g.2 1, 31, .inl (zaB (al 3)))), (ra 4, .inr (2, [.int (iI (1)), .int (iI (12)), .ref (aa 4)])), (aa 4, .inl (g.2 1, 12, .inl (zaB (al 4)))), (ra 5, .inr (2, [.int (iI (1)), .int (iI (7)), .ref (aa 5)])), (aa 5, .inl (g.2 1, 7, .inl (zaB (al 5)))), (ra 6, .inr (2, [.int (iI (1970)), .int (iI (2299)), .ref (aa 6)])), (aa 6, .inl (g.2 1, 330, .inl (zaB (al 6))))] (some (.int (zbits (pDays al bits 4 sub od mo)))) := by
  refine zs_open (by decide +kernel) (Nat.le_of_ble_eq_true rfl) ?_
  intro p e s m below meth c ls hx hb hml hr hlk hown hw hK hT hP hl
  have hown : s.vm.findClass "CronFinder$Plan" = some m.cls := hown
  have hl : lv_has ls 4 [(0, .ref (pq)), (1, .int (iI (mo)))] := hl
  refine lv_aload_n hx hb zd_P_daysOf_0 rfl (lv_at hl 0 rfl) ?_
  refine va_get (D := g.1) (ci := 3) (v := .ref (ra 6)) (C := zR_P) (T := zT_P) (N := 11) hx hb hw zin_P hown hK hP 0 rfl rfl 6 (by decide) (hw _ zw_1_64) (fun _ h9 => h9) rfl zd_P_daysOf_1 ?_
  refine lv_iload_n hx hb zd_P_daysOf_4 rfl (lv_at hl 1 rfl) ?_
  refine zk_S (As := [.int (iI (mo))]) (own := "CronFinder$Plan") (nL := 4) (rest := [.ref (ra 6)]) hx hb hml hown hw (c_D_yearOfMonth l g (mo) (by omega)) zw_3_57 zw_3_45 zw_1_22 zw_3_46 (np := 1) (by decide +kernel) rfl (by decide) zN_mv hK trivial (hP.sub (ws' := []) [] rfl) hl.1 rfl (Nat.le_of_ble_eq_true rfl) (by decide) zd_P_daysOf_5 ?_
  refine zk_V (As := [.int (iI (1970 + (mo) / 12))]) (b := ra 6) (own := "CronFinder$Plan") (nL := 4) (rest := []) hx hb hml hown hw (c_O_has l g (ra 6) (aa 6) 1970 2299 330 (al 6) (by decide) (1970 + (mo) / 12) (by omega)) zw_2_188 zw_2_189 zw_2_190 zw_1_3 zw_2_191 (np := 1) (by decide +kernel) rfl (by decide) zN_mv hK trivial (hP.sub (ws' := [(ra 6, .inr (2, [.int (iI (1970)), .int (iI (2299)), .ref (aa 6)])), (aa 6, .inl (g.2 1, 330, .inl (zaB (al 6))))]) [13, 14] rfl) (va_recv hK hP (ci := 2) (q0 := 13) rfl rfl) hl.1 rfl (Nat.le_of_ble_eq_true rfl) (by decide) zd_P_daysOf_8 ?_
  refine zb_if_eq (tgt := 30) hx hb zd_P_daysOf_11 (by decide) (fun c11 => ?_) (fun c11 => ?_)
  · refine zi_iconst hx hb zd_P_daysOf_30 ?_
    refine zw_as (pDays al bits 4 sub od mo) (by rw [zbits_0]; exact zbits_fe fun i hi => by unfold pDays; first | (rw [c11]; rfl) | (rw [c27, Bool.and_false]; rfl)) ?_
    exact zs_iret hx hb hr hlk zd_P_daysOf_31
  · refine lv_aload_n hx hb zd_P_daysOf_14 rfl (lv_at hl 0 rfl) ?_
    refine va_get (D := g.1) (ci := 3) (v := .ref (ra 4)) (C := zR_P) (T := zT_P) (N := 11) hx hb hw zin_P hown hK hP 0 rfl rfl 4 (by decide) (hw _ zw_1_62) (fun _ h9 => h9) rfl zd_P_daysOf_15 ?_
    refine lv_iload_n hx hb zd_P_daysOf_18 rfl (lv_at hl 1 rfl) ?_
    refine zi_bipush hx hb zd_P_daysOf_19 (by decide) ?_
    refine zi_irem hx hb zd_P_daysOf_21 (by omega) ?_
    refine zi_iconst hx hb zd_P_daysOf_22 ?_
    refine zi_iadd hx hb zd_P_daysOf_23 ?_
    refine zk_V (As := [.int (iI ((mo % 12) + 1))]) (b := ra 4) (own := "CronFinder$Plan") (nL := 4) (rest := []) hx hb hml hown hw (c_O_has l g (ra 4) (aa 4) 1 12 12 (al 4) (by decide) ((mo % 12) + 1) (by omega)) zw_2_188 zw_2_189 zw_2_190 zw_1_3 zw_2_191 (np := 1) (by decide +kernel) rfl (by decide) zN_mv hK trivial (hP.sub (ws' := [(ra 4, .inr (2, [.int (iI (1)), .int (iI (12)), .ref (aa 4)])), (aa 4, .inl (g.2 1, 12, .inl (zaB (al 4))))]) [9, 10] rfl) (va_recv hK hP (ci := 2) (q0 := 9) rfl rfl) hl.1 rfl (Nat.le_of_ble_eq_true rfl) (by decide) zd_P_daysOf_24 ?_
    refine zb_if_ne (tgt := 32) hx hb zd_P_daysOf_27 (by decide) (fun c27 => ?_) (fun c27 => ?_)
    · refine lv_iload_n hx hb zd_P_daysOf_32 rfl (lv_at hl 1 rfl) ?_
      refine zk_S (As := [.int (iI (mo))]) (own := "CronFinder$Plan") (nL := 4) (rest := []) hx hb hml hown hw (c_D_lengthOfMonth l g t (mo) (by omega)) zw_3_58 zw_3_59 zw_1_22 zw_3_60 (np := 1) (by decide +kernel) rfl (by decide) (zSd_mv t _) hK hT.1 (hP.sub (ws' := []) [] rfl) hl.1 rfl (Nat.le_of_ble_eq_true rfl) (by decide) zd_P_daysOf_33 ?_
      have hL := dLen_rg mo
      refine lv_istore_n (lv' := [(2, .int (iI (dM0 (mo + 1) - dM0 mo))), (0, .ref (pq)), (1, .int (iI (mo)))]) hx hb zd_P_daysOf_36 rfl hl (by decide) rfl (fun ls hl => ?_)
      refine lv_iload_n hx hb zd_P_daysOf_37 rfl (lv_at hl 2 rfl) ?_
      refine zk_S (As := [.int (iI (mo))]) (own := "CronFinder$Plan") (nL := 4) (rest := []) hx hb hml hown hw (c_D_startOfMonth l g t (mo) (by omega)) zw_3_61 zw_3_42 zw_1_22 zw_3_43 (np := 1) (by decide +kernel) rfl (by decide) (zSd_mv t _) hK hT.1 (hP.sub (ws' := []) [] rfl) hl.1 rfl (Nat.le_of_ble_eq_true rfl) (by decide) zd_P_daysOf_38 ?_
      have hq38 := dM0_rg (m := mo) (by omega)
      refine zk_S (As := [.int (iI (dM0 (mo)))]) (own := "CronFinder$Plan") (nL := 4) (rest := []) hx hb hml hown hw (c_D_weekdayOf l g (dM0 (mo)) (by omega)) zw_3_62 zw_3_63 zw_1_22 zw_3_64 (np := 1) (by decide +kernel) rfl (by decide) zN_mv hK trivial (hP.sub (ws' := []) [] rfl) hl.1 rfl (Nat.le_of_ble_eq_true rfl) (by decide) zd_P_daysOf_41 ?_
      refine lv_istore_n (lv' := [(3, .int (iI (((dM0 (mo)) + 4) % 7 + 1))), (2, .int (iI (dM0 (mo + 1) - dM0 mo))), (0, .ref (pq)), (1, .int (iI (mo)))]) hx hb zd_P_daysOf_44 rfl hl (by decide) rfl (fun ls hl => ?_)
      refine va_gets hx hb hT.2.2.1 va_S.rf hown (hw _ zw_3_65) (fun _ h9 => h9) zd_P_daysOf_45 ?_
      refine lv_aload_n hx hb zd_P_daysOf_48 rfl (lv_at hl 2 rfl) ?_
      refine va_get (D := g.1) (ci := 3) (v := .ref (en 4)) (C := zR_P) (T := zT_P) (N := 11) hx hb hw zin_P hown hK hP 0 rfl rfl 7 (by decide) (hw _ zw_1_65) (fun _ h9 => h9) rfl zd_P_daysOf_49 ?_
      refine zk_U (As := []) (b := en 4) (C := "CronFinder$DayRule") (owner := "java/lang/Enum") (own := "CronFinder$Plan") (nL := 4) (rest := [.ref (tw)]) (x := ⟨"CronFinder$DayRule", "ordinal", "()I"⟩) hx hb hml hown hw (c_ord_4 l g en) zw_3_67 zw_3_68 zw_3_70 zw_3_71 zw_1_4 zw_3_72 rfl (np := 0) (by decide +kernel) rfl (by decide) (zSe_mv en _) hK hT.2.1 (hP.sub (ws' := []) [] rfl) (va_recvE hT.2.1 (i := 4) (by decide) va_S.rf) hl.1 rfl (Nat.le_of_ble_eq_true rfl) (by decide) zd_P_daysOf_52 ?_
      refine zi_ti (f := pSw) hx hb hT.2.2.2 va_S.rf (by decide) zd_P_daysOf_55 ?_
      refine zi_as 5 (by decide) ?_
      refine lv_tableIn (off := 104) (tgt := 160) hx hb zd_P_daysOf_56 (by decide) (by decide) (by decide) (by decide) ?_
      refine lv_aload_n hx hb zd_P_daysOf_160 rfl (lv_at hl 2 rfl) ?_
      refine lv_iload_n hx hb zd_P_daysOf_161 rfl (lv_at hl 0 rfl) ?_
      refine lv_iload_n hx hb zd_P_daysOf_162 rfl (lv_at hl 1 rfl) ?_
      refine zk_V (As := [.int (iI (((dM0 (mo)) + 4) % 7 + 1)), .int (iI (dM0 (mo + 1) - dM0 mo))]) (b := pq) (own := "CronFinder$Plan") (nL := 4) (rest := []) hx hb hml hown hw (c_P_listedWeekdays l g pq ra aa (en 4) sub od bits al (((dM0 (mo)) + 4) % 7 + 1) (dM0 (mo + 1) - dM0 mo) (by omega)) zw_3_85 zw_3_87 zw_0_21 zw_1_2 zw_3_88 (np := 2) (by decide +kernel) rfl (by decide) zN_mv hK trivial (hP.sub (ws' := [(pq, .inr (3, [.ref (ra 0), .ref (ra 1), .ref (ra 2), .ref (ra 3), .ref (ra 4), .ref (ra 5), .ref (ra 6), .ref (en 4), .int (iI (sub)), .int (iI (od)), .int (zbits (bits))])), (ra 5, .inr (2, [.int (iI (1)), .int (iI (7)), .ref (aa 5)])), (aa 5, .inl (g.2 1, 7, .inl (zaB (al 5))))]) [0, 11, 12] rfl) (va_recv hK hP (ci := 3) (q0 := 0) rfl rfl) hl.1 rfl (Nat.le_of_ble_eq_true rfl) (by decide) zd_P_daysOf_163 ?_
      refine zw_as (pDays al bits 4 sub od mo) (zbits_fe fun i hi => by unfold pDays; rw [c11, c27]; rfl) ?_
      exact zs_iret hx hb hr hlk zd_P_daysOf_166
    · refine zi_iconst hx hb zd_P_daysOf_30 ?_
      refine zw_as (pDays al bits 4 sub od mo) (by rw [zbits_0]; exact zbits_fe fun i hi => by unfold pDays; first | (rw [c11]; rfl) | (rw [c27, Bool.and_false]; rfl)) ?_
      exact zs_iret hx hb hr hlk zd_P_daysOf_31
set_option maxHeartbeats 4000000 in
set_option maxRecDepth 100000 in
theorem c_P_daysOf_5 (l : Launch) (g : zGl) (pq : Nat) (ra aa : Nat → Nat) (al : Nat → Nat → Bool) (sub od : Int) (bits : Nat → Bool) (t : Nat) (en : Nat → Nat) (tw : Nat) (mo : Int) (hm : 0 ≤ mo ∧ mo < 3960) (hs : 0 ≤ sub ∧ sub ≤ 31 ∧ 0 ≤ od ∧ od ≤ 5) : zSi l zy_P_daysOf zc_P_daysOf 4 (some .int) ({ frames := 3, cells := 0, slots := 0, locals := 65 }) g (zS3 t en tw (fun _ => False)) [.ref (pq), .int (iI (mo))] [(pq, .inr (3, [.ref (ra 0), .ref (ra 1), .ref (ra 2), .ref (ra 3), .ref (ra 4), .ref (ra 5), .ref (ra 6), .ref (en 5), .int (iI (sub)), .int (iI (od)), .int (zbits (bits))])), (ra 0, .inr (2, [.int (iI (0)), .int (iI (59)), .ref (aa 0)])), (aa 0, .inl (g.2 1, 60, .inl (zaB (al 0)))), (ra 1, .inr (2, [.int (iI (0)), .int (iI (59)), .ref (aa 1)])), (aa 1, .inl (g.2 1, 60, .inl (zaB (al 1)))), (ra 2, .inr (2, [.int (iI (0)), .int (iI (23)), .ref (aa 2)])), (aa 2, .inl (g.2 1, 24, .inl (zaB (al 2)))), (ra 3, .inr (2, [.int (iI (1)), .int (iI (31)), .ref (aa 3)])), (aa 3, .inl (g.2 1, 31, .inl (zaB (al 3)))), (ra 4, .inr (2, [.int (iI (1)), .int (iI (12)), .ref (aa 4)])), (aa 4, .inl (g.2 1, 12, .inl (zaB (al 4)))), (ra 5, .inr (2, [.int (iI (1)), .int (iI (7)), .ref (aa 5)])), (aa 5, .inl (g.2 1, 7, .inl (zaB (al 5)))), (ra 6, .inr (2, [.int (iI (1970)), .int (iI (2299)), .ref (aa 6)])), (aa 6, .inl (g.2 1, 330, .inl (zaB (al 6))))] (some (.int (zbits (pDays al bits 5 sub od mo)))) := by
  refine zs_open (by decide +kernel) (Nat.le_of_ble_eq_true rfl) ?_
  intro p e s m below meth c ls hx hb hml hr hlk hown hw hK hT hP hl
  have hown : s.vm.findClass "CronFinder$Plan" = some m.cls := hown
  have hl : lv_has ls 4 [(0, .ref (pq)), (1, .int (iI (mo)))] := hl
  refine lv_aload_n hx hb zd_P_daysOf_0 rfl (lv_at hl 0 rfl) ?_
  refine va_get (D := g.1) (ci := 3) (v := .ref (ra 6)) (C := zR_P) (T := zT_P) (N := 11) hx hb hw zin_P hown hK hP 0 rfl rfl 6 (by decide) (hw _ zw_1_64) (fun _ h9 => h9) rfl zd_P_daysOf_1 ?_
  refine lv_iload_n hx hb zd_P_daysOf_4 rfl (lv_at hl 1 rfl) ?_
  refine zk_S (As := [.int (iI (mo))]) (own := "CronFinder$Plan") (nL := 4) (rest := [.ref (ra 6)]) hx hb hml hown hw (c_D_yearOfMonth l g (mo) (by omega)) zw_3_57 zw_3_45 zw_1_22 zw_3_46 (np := 1) (by decide +kernel) rfl (by decide) zN_mv hK trivial (hP.sub (ws' := []) [] rfl) hl.1 rfl (Nat.le_of_ble_eq_true rfl) (by decide) zd_P_daysOf_5 ?_
  refine zk_V (As := [.int (iI (1970 + (mo) / 12))]) (b := ra 6) (own := "CronFinder$Plan") (nL := 4) (rest := []) hx hb hml hown hw (c_O_has l g (ra 6) (aa 6) 1970 2299 330 (al 6) (by decide) (1970 + (mo) / 12) (by omega)) zw_2_188 zw_2_189 zw_2_190 zw_1_3 zw_2_191 (np := 1) (by decide +kernel) rfl (by decide) zN_mv hK trivial (hP.sub (ws' := [(ra 6, .inr (2, [.int (iI (1970)), .int (iI (2299)), .ref (aa 6)])), (aa 6, .inl (g.2 1, 330, .inl (zaB (al 6))))]) [13, 14] rfl) (va_recv hK hP (ci := 2) (q0 := 13) rfl rfl) hl.1 rfl (Nat.le_of_ble_eq_true rfl) (by decide) zd_P_daysOf_8 ?_
  refine zb_if_eq (tgt := 30) hx hb zd_P_daysOf_11 (by decide) (fun c11 => ?_) (fun c11 => ?_)
  · refine zi_iconst hx hb zd_P_daysOf_30 ?_
    refine zw_as (pDays al bits 5 sub od mo) (by rw [zbits_0]; exact zbits_fe fun i hi => by unfold pDays; first | (rw [c11]; rfl) | (rw [c27, Bool.and_false]; rfl)) ?_
    exact zs_iret hx hb hr hlk zd_P_daysOf_31
  · refine lv_aload_n hx hb zd_P_daysOf_14 rfl (lv_at hl 0 rfl) ?_
    refine va_get (D := g.1) (ci := 3) (v := .ref (ra 4)) (C := zR_P) (T := zT_P) (N := 11) hx hb hw zin_P hown hK hP 0 rfl rfl 4 (by decide) (hw _ zw_1_62) (fun _ h9 => h9) rfl zd_P_daysOf_15 ?_
    refine lv_iload_n hx hb zd_P_daysOf_18 rfl (lv_at hl 1 rfl) ?_
    refine zi_bipush hx hb zd_P_daysOf_19 (by decide) ?_
    refine zi_irem hx hb zd_P_daysOf_21 (by omega) ?_
    refine zi_iconst hx hb zd_P_daysOf_22 ?_
    refine zi_iadd hx hb zd_P_daysOf_23 ?_
    refine zk_V (As := [.int (iI ((mo % 12) + 1))]) (b := ra 4) (own := "CronFinder$Plan") (nL := 4) (rest := []) hx hb hml hown hw (c_O_has l g (ra 4) (aa 4) 1 12 12 (al 4) (by decide) ((mo % 12) + 1) (by omega)) zw_2_188 zw_2_189 zw_2_190 zw_1_3 zw_2_191 (np := 1) (by decide +kernel) rfl (by decide) zN_mv hK trivial (hP.sub (ws' := [(ra 4, .inr (2, [.int (iI (1)), .int (iI (12)), .ref (aa 4)])), (aa 4, .inl (g.2 1, 12, .inl (zaB (al 4))))]) [9, 10] rfl) (va_recv hK hP (ci := 2) (q0 := 9) rfl rfl) hl.1 rfl (Nat.le_of_ble_eq_true rfl) (by decide) zd_P_daysOf_24 ?_
    refine zb_if_ne (tgt := 32) hx hb zd_P_daysOf_27 (by decide) (fun c27 => ?_) (fun c27 => ?_)
    · refine lv_iload_n hx hb zd_P_daysOf_32 rfl (lv_at hl 1 rfl) ?_
      refine zk_S (As := [.int (iI (mo))]) (own := "CronFinder$Plan") (nL := 4) (rest := []) hx hb hml hown hw (c_D_lengthOfMonth l g t (mo) (by omega)) zw_3_58 zw_3_59 zw_1_22 zw_3_60 (np := 1) (by decide +kernel) rfl (by decide) (zSd_mv t _) hK hT.1 (hP.sub (ws' := []) [] rfl) hl.1 rfl (Nat.le_of_ble_eq_true rfl) (by decide) zd_P_daysOf_33 ?_
      have hL := dLen_rg mo
      refine lv_istore_n (lv' := [(2, .int (iI (dM0 (mo + 1) - dM0 mo))), (0, .ref (pq)), (1, .int (iI (mo)))]) hx hb zd_P_daysOf_36 rfl hl (by decide) rfl (fun ls hl => ?_)
      refine lv_iload_n hx hb zd_P_daysOf_37 rfl (lv_at hl 2 rfl) ?_
      refine zk_S (As := [.int (iI (mo))]) (own := "CronFinder$Plan") (nL := 4) (rest := []) hx hb hml hown hw (c_D_startOfMonth l g t (mo) (by omega)) zw_3_61 zw_3_42 zw_1_22 zw_3_43 (np := 1) (by decide +kernel) rfl (by decide) (zSd_mv t _) hK hT.1 (hP.sub (ws' := []) [] rfl) hl.1 rfl (Nat.le_of_ble_eq_true rfl) (by decide) zd_P_daysOf_38 ?_
      have hq38 := dM0_rg (m := mo) (by omega)
      refine zk_S (As := [.int (iI (dM0 (mo)))]) (own := "CronFinder$Plan") (nL := 4) (rest := []) hx hb hml hown hw (c_D_weekdayOf l g (dM0 (mo)) (by omega)) zw_3_62 zw_3_63 zw_1_22 zw_3_64 (np := 1) (by decide +kernel) rfl (by decide) zN_mv hK trivial (hP.sub (ws' := []) [] rfl) hl.1 rfl (Nat.le_of_ble_eq_true rfl) (by decide) zd_P_daysOf_41 ?_
      refine lv_istore_n (lv' := [(3, .int (iI (((dM0 (mo)) + 4) % 7 + 1))), (2, .int (iI (dM0 (mo + 1) - dM0 mo))), (0, .ref (pq)), (1, .int (iI (mo)))]) hx hb zd_P_daysOf_44 rfl hl (by decide) rfl (fun ls hl => ?_)
      refine va_gets hx hb hT.2.2.1 va_S.rf hown (hw _ zw_3_65) (fun _ h9 => h9) zd_P_daysOf_45 ?_
      refine lv_aload_n hx hb zd_P_daysOf_48 rfl (lv_at hl 2 rfl) ?_
      refine va_get (D := g.1) (ci := 3) (v := .ref (en 5)) (C := zR_P) (T := zT_P) (N := 11) hx hb hw zin_P hown hK hP 0 rfl rfl 7 (by decide) (hw _ zw_1_65) (fun _ h9 => h9) rfl zd_P_daysOf_49 ?_
      refine zk_U (As := []) (b := en 5) (C := "CronFinder$DayRule") (owner := "java/lang/Enum") (own := "CronFinder$Plan") (nL := 4) (rest := [.ref (tw)]) (x := ⟨"CronFinder$DayRule", "ordinal", "()I"⟩) hx hb hml hown hw (c_ord_5 l g en) zw_3_67 zw_3_68 zw_3_70 zw_3_71 zw_1_4 zw_3_72 rfl (np := 0) (by decide +kernel) rfl (by decide) (zSe_mv en _) hK hT.2.1 (hP.sub (ws' := []) [] rfl) (va_recvE hT.2.1 (i := 5) (by decide) va_S.rf) hl.1 rfl (Nat.le_of_ble_eq_true rfl) (by decide) zd_P_daysOf_52 ?_
      refine zi_ti (f := pSw) hx hb hT.2.2.2 va_S.rf (by decide) zd_P_daysOf_55 ?_
      refine zi_as 6 (by decide) ?_
      refine lv_tableIn (off := 111) (tgt := 167) hx hb zd_P_daysOf_56 (by decide) (by decide) (by decide) (by decide) ?_
      refine lv_aload_n hx hb zd_P_daysOf_167 rfl (lv_at hl 2 rfl) ?_
      refine lv_aload_n hx hb zd_P_daysOf_168 rfl (lv_at hl 2 rfl) ?_
      refine lv_iload_n hx hb zd_P_daysOf_169 rfl (lv_at hl 0 rfl) ?_
      refine lv_iload_n hx hb zd_P_daysOf_170 rfl (lv_at hl 1 rfl) ?_
      refine zk_V (As := [.int (iI (((dM0 (mo)) + 4) % 7 + 1)), .int (iI (dM0 (mo + 1) - dM0 mo))]) (b := pq) (own := "CronFinder$Plan") (nL := 4) (rest := [.ref (pq)]) hx hb hml hown hw (c_P_lastSubject l g pq ra (en 5) sub od bits (((dM0 (mo)) + 4) % 7 + 1) (dM0 (mo + 1) - dM0 mo) (by omega)) zw_3_89 zw_3_91 zw_0_22 zw_1_2 zw_3_92 (np := 2) (by decide +kernel) rfl (by decide) zN_mv hK trivial (hP.sub (ws' := [(pq, .inr (3, [.ref (ra 0), .ref (ra 1), .ref (ra 2), .ref (ra 3), .ref (ra 4), .ref (ra 5), .ref (ra 6), .ref (en 5), .int (iI (sub)), .int (iI (od)), .int (zbits (bits))]))]) [0] rfl) (va_recv hK hP (ci := 3) (q0 := 0) rfl rfl) hl.1 rfl (Nat.le_of_ble_eq_true rfl) (by decide) zd_P_daysOf_171 ?_
      refine lv_iload_n hx hb zd_P_daysOf_174 rfl (lv_at hl 1 rfl) ?_
      refine zk_V (As := [.int (iI ((dM0 (mo + 1) - dM0 mo) - (((((dM0 (mo)) + 4) % 7 + 1) + (dM0 (mo + 1) - dM0 mo) - 2) % 7 + 1 - sub) % 7)), .int (iI (dM0 (mo + 1) - dM0 mo))]) (b := pq) (own := "CronFinder$Plan") (nL := 4) (rest := []) hx hb hml hown hw (c_P_dayBit l g (pq) ((dM0 (mo + 1) - dM0 mo) - (((((dM0 (mo)) + 4) % 7 + 1) + (dM0 (mo + 1) - dM0 mo) - 2) % 7 + 1 - sub) % 7) (dM0 (mo + 1) - dM0 mo) (by omega)) zw_3_73 zw_3_75 zw_0_18 zw_1_2 zw_3_76 (np := 2) (by decide +kernel) rfl (by decide) zN_mv hK trivial (hP.sub (ws' := []) [] rfl) (va_recv hK hP (ci := 3) (q0 := 0) rfl rfl) hl.1 rfl (Nat.le_of_ble_eq_true rfl) (by decide) zd_P_daysOf_175 ?_
      refine zw_as (pDays al bits 5 sub od mo) (zbits_fe fun i hi => by unfold pDays; rw [c11, c27]; rfl) ?_
      exact zs_iret hx hb hr hlk zd_P_daysOf_178
    · refine zi_iconst hx hb zd_P_daysOf_30 ?_
      refine zw_as (pDays al bits 5 sub od mo) (by rw [zbits_0]; exact zbits_fe fun i hi => by unfold pDays; first | (rw [c11]; rfl) | (rw [c27, Bool.and_false]; rfl)) ?_
      exact zs_iret hx hb hr hlk zd_P_daysOf_31
set_option maxHeartbeats 4000000 in
set_option maxRecDepth 100000 in
theorem c_P_daysOf_6 (l : Launch) (g : zGl) (pq : Nat) (ra aa : Nat → Nat) (al : Nat → Nat → Bool) (sub od : Int) (bits : Nat → Bool) (t : Nat) (en : Nat → Nat) (tw : Nat) (mo : Int) (hm : 0 ≤ mo ∧ mo < 3960) (hs : 0 ≤ sub ∧ sub ≤ 31 ∧ 0 ≤ od ∧ od ≤ 5) : zSi l zy_P_daysOf zc_P_daysOf 4 (some .int) ({ frames := 3, cells := 0, slots := 0, locals := 65 }) g (zS3 t en tw (fun _ => False)) [.ref (pq), .int (iI (mo))] [(pq, .inr (3, [.ref (ra 0), .ref (ra 1), .ref (ra 2), .ref (ra 3), .ref (ra 4), .ref (ra 5), .ref (ra 6), .ref (en 6), .int (iI (sub)), .int (iI (od)), .int (zbits (bits))])), (ra 0, .inr (2, [.int (iI (0)), .int (iI (59)), .ref (aa 0)])), (aa 0, .inl (g.2 1, 60, .inl (zaB (al 0)))), (ra 1, .inr (2, [.int (iI (0)), .int (iI (59)), .ref (aa 1)])), (aa 1, .inl (g.2 1, 60, .inl (zaB (al 1)))), (ra 2, .inr (2, [.int (iI (0)), .int (iI (23)), .ref (aa 2)])), (aa 2, .inl (g.2 1, 24, .inl (zaB (al 2)))), (ra 3, .inr (2, [.int (iI (1)), .int (iI (31)), .ref (aa 3)])), (aa 3, .inl (g.2 1, 31, .inl (zaB (al 3)))), (ra 4, .inr (2, [.int (iI (1)), .int (iI (12)), .ref (aa 4)])), (aa 4, .inl (g.2 1, 12, .inl (zaB (al 4)))), (ra 5, .inr (2, [.int (iI (1)), .int (iI (7)), .ref (aa 5)])), (aa 5, .inl (g.2 1, 7, .inl (zaB (al 5)))), (ra 6, .inr (2, [.int (iI (1970)), .int (iI (2299)), .ref (aa 6)])), (aa 6, .inl (g.2 1, 330, .inl (zaB (al 6))))] (some (.int (zbits (pDays al bits 6 sub od mo)))) := by
  refine zs_open (by decide +kernel) (Nat.le_of_ble_eq_true rfl) ?_
  intro p e s m below meth c ls hx hb hml hr hlk hown hw hK hT hP hl
  have hown : s.vm.findClass "CronFinder$Plan" = some m.cls := hown
  have hl : lv_has ls 4 [(0, .ref (pq)), (1, .int (iI (mo)))] := hl
  refine lv_aload_n hx hb zd_P_daysOf_0 rfl (lv_at hl 0 rfl) ?_
  refine va_get (D := g.1) (ci := 3) (v := .ref (ra 6)) (C := zR_P) (T := zT_P) (N := 11) hx hb hw zin_P hown hK hP 0 rfl rfl 6 (by decide) (hw _ zw_1_64) (fun _ h9 => h9) rfl zd_P_daysOf_1 ?_
  refine lv_iload_n hx hb zd_P_daysOf_4 rfl (lv_at hl 1 rfl) ?_
  refine zk_S (As := [.int (iI (mo))]) (own := "CronFinder$Plan") (nL := 4) (rest := [.ref (ra 6)]) hx hb hml hown hw (c_D_yearOfMonth l g (mo) (by omega)) zw_3_57 zw_3_45 zw_1_22 zw_3_46 (np := 1) (by decide +kernel) rfl (by decide) zN_mv hK trivial (hP.sub (ws' := []) [] rfl) hl.1 rfl (Nat.le_of_ble_eq_true rfl) (by decide) zd_P_daysOf_5 ?_
  refine zk_V (As := [.int (iI (1970 + (mo) / 12))]) (b := ra 6) (own := "CronFinder$Plan") (nL := 4) (rest := []) hx hb hml hown hw (c_O_has l g (ra 6) (aa 6) 1970 2299 330 (al 6) (by decide) (1970 + (mo) / 12) (by omega)) zw_2_188 zw_2_189 zw_2_190 zw_1_3 zw_2_191 (np := 1) (by decide +kernel) rfl (by decide) zN_mv hK trivial (hP.sub (ws' := [(ra 6, .inr (2, [.int (iI (1970)), .int (iI (2299)), .ref (aa 6)])), (aa 6, .inl (g.2 1, 330, .inl (zaB (al 6))))]) [13, 14] rfl) (va_recv hK hP (ci := 2) (q0 := 13) rfl rfl) hl.1 rfl (Nat.le_of_ble_eq_true rfl) (by decide) zd_P_daysOf_8 ?_
  refine zb_if_eq (tgt := 30) hx hb zd_P_daysOf_11 (by decide) (fun c11 => ?_) (fun c11 => ?_)
  · refine zi_iconst hx hb zd_P_daysOf_30 ?_
    refine zw_as (pDays al bits 6 sub od mo) (by rw [zbits_0]; exact zbits_fe fun i hi => by unfold pDays; first | (rw [c11]; rfl) | (rw [c27, Bool.and_false]; rfl)) ?_
    exact zs_iret hx hb hr hlk zd_P_daysOf_31
  · refine lv_aload_n hx hb zd_P_daysOf_14 rfl (lv_at hl 0 rfl) ?_
    refine va_get (D := g.1) (ci := 3) (v := .ref (ra 4)) (C := zR_P) (T := zT_P) (N := 11) hx hb hw zin_P hown hK hP 0 rfl rfl 4 (by decide) (hw _ zw_1_62) (fun _ h9 => h9) rfl zd_P_daysOf_15 ?_
    refine lv_iload_n hx hb zd_P_daysOf_18 rfl (lv_at hl 1 rfl) ?_
    refine zi_bipush hx hb zd_P_daysOf_19 (by decide) ?_
    refine zi_irem hx hb zd_P_daysOf_21 (by omega) ?_
    refine zi_iconst hx hb zd_P_daysOf_22 ?_
    refine zi_iadd hx hb zd_P_daysOf_23 ?_
    refine zk_V (As := [.int (iI ((mo % 12) + 1))]) (b := ra 4) (own := "CronFinder$Plan") (nL := 4) (rest := []) hx hb hml hown hw (c_O_has l g (ra 4) (aa 4) 1 12 12 (al 4) (by decide) ((mo % 12) + 1) (by omega)) zw_2_188 zw_2_189 zw_2_190 zw_1_3 zw_2_191 (np := 1) (by decide +kernel) rfl (by decide) zN_mv hK trivial (hP.sub (ws' := [(ra 4, .inr (2, [.int (iI (1)), .int (iI (12)), .ref (aa 4)])), (aa 4, .inl (g.2 1, 12, .inl (zaB (al 4))))]) [9, 10] rfl) (va_recv hK hP (ci := 2) (q0 := 9) rfl rfl) hl.1 rfl (Nat.le_of_ble_eq_true rfl) (by decide) zd_P_daysOf_24 ?_
    refine zb_if_ne (tgt := 32) hx hb zd_P_daysOf_27 (by decide) (fun c27 => ?_) (fun c27 => ?_)
    · refine lv_iload_n hx hb zd_P_daysOf_32 rfl (lv_at hl 1 rfl) ?_
      refine zk_S (As := [.int (iI (mo))]) (own := "CronFinder$Plan") (nL := 4) (rest := []) hx hb hml hown hw (c_D_lengthOfMonth l g t (mo) (by omega)) zw_3_58 zw_3_59 zw_1_22 zw_3_60 (np := 1) (by decide +kernel) rfl (by decide) (zSd_mv t _) hK hT.1 (hP.sub (ws' := []) [] rfl) hl.1 rfl (Nat.le_of_ble_eq_true rfl) (by decide) zd_P_daysOf_33 ?_
      have hL := dLen_rg mo
      refine lv_istore_n (lv' := [(2, .int (iI (dM0 (mo + 1) - dM0 mo))), (0, .ref (pq)), (1, .int (iI (mo)))]) hx hb zd_P_daysOf_36 rfl hl (by decide) rfl (fun ls hl => ?_)
      refine lv_iload_n hx hb zd_P_daysOf_37 rfl (lv_at hl 2 rfl) ?_
      refine zk_S (As := [.int (iI (mo))]) (own := "CronFinder$Plan") (nL := 4) (rest := []) hx hb hml hown hw (c_D_startOfMonth l g t (mo) (by omega)) zw_3_61 zw_3_42 zw_1_22 zw_3_43 (np := 1) (by decide +kernel) rfl (by decide) (zSd_mv t _) hK hT.1 (hP.sub (ws' := []) [] rfl) hl.1 rfl (Nat.le_of_ble_eq_true rfl) (by decide) zd_P_daysOf_38 ?_
      have hq38 := dM0_rg (m := mo) (by omega)
      refine zk_S (As := [.int (iI (dM0 (mo)))]) (own := "CronFinder$Plan") (nL := 4) (rest := []) hx hb hml hown hw (c_D_weekdayOf l g (dM0 (mo)) (by omega)) zw_3_62 zw_3_63 zw_1_22 zw_3_64 (np := 1) (by decide +kernel) rfl (by decide) zN_mv hK trivial (hP.sub (ws' := []) [] rfl) hl.1 rfl (Nat.le_of_ble_eq_true rfl) (by decide) zd_P_daysOf_41 ?_
      refine lv_istore_n (lv' := [(3, .int (iI (((dM0 (mo)) + 4) % 7 + 1))), (2, .int (iI (dM0 (mo + 1) - dM0 mo))), (0, .ref (pq)), (1, .int (iI (mo)))]) hx hb zd_P_daysOf_44 rfl hl (by decide) rfl (fun ls hl => ?_)
      refine va_gets hx hb hT.2.2.1 va_S.rf hown (hw _ zw_3_65) (fun _ h9 => h9) zd_P_daysOf_45 ?_
      refine lv_aload_n hx hb zd_P_daysOf_48 rfl (lv_at hl 2 rfl) ?_
      refine va_get (D := g.1) (ci := 3) (v := .ref (en 6)) (C := zR_P) (T := zT_P) (N := 11) hx hb hw zin_P hown hK hP 0 rfl rfl 7 (by decide) (hw _ zw_1_65) (fun _ h9 => h9) rfl zd_P_daysOf_49 ?_
      refine zk_U (As := []) (b := en 6) (C := "CronFinder$DayRule") (owner := "java/lang/Enum") (own := "CronFinder$Plan") (nL := 4) (rest := [.ref (tw)]) (x := ⟨"CronFinder$DayRule", "ordinal", "()I"⟩) hx hb hml hown hw (c_ord_6 l g en) zw_3_67 zw_3_68 zw_3_70 zw_3_71 zw_1_4 zw_3_72 rfl (np := 0) (by decide +kernel) rfl (by decide) (zSe_mv en _) hK hT.2.1 (hP.sub (ws' := []) [] rfl) (va_recvE hT.2.1 (i := 6) (by decide) va_S.rf) hl.1 rfl (Nat.le_of_ble_eq_true rfl) (by decide) zd_P_daysOf_52 ?_
      refine zi_ti (f := pSw) hx hb hT.2.2.2 va_S.rf (by decide) zd_P_daysOf_55 ?_
      refine zi_as 0 (by decide) ?_
      refine lv_tableOut (tgt := 179) hx hb zd_P_daysOf_56 (by decide) (by decide) ?_
      refine lv_aload_n hx hb zd_P_daysOf_179 rfl (lv_at hl 2 rfl) ?_
      refine lv_aload_n hx hb zd_P_daysOf_180 rfl (lv_at hl 2 rfl) ?_
      refine lv_iload_n hx hb zd_P_daysOf_181 rfl (lv_at hl 0 rfl) ?_
      refine zk_V (As := [.int (iI (((dM0 (mo)) + 4) % 7 + 1))]) (b := pq) (own := "CronFinder$Plan") (nL := 4) (rest := [.ref (pq)]) hx hb hml hown hw (c_P_firstSubject l g pq ra (en 6) sub od bits (((dM0 (mo)) + 4) % 7 + 1) (by omega)) zw_3_94 zw_3_96 zw_0_23 zw_1_2 zw_3_97 (np := 1) (by decide +kernel) rfl (by decide) zN_mv hK trivial (hP.sub (ws' := [(pq, .inr (3, [.ref (ra 0), .ref (ra 1), .ref (ra 2), .ref (ra 3), .ref (ra 4), .ref (ra 5), .ref (ra 6), .ref (en 6), .int (iI (sub)), .int (iI (od)), .int (zbits (bits))]))]) [0] rfl) (va_recv hK hP (ci := 3) (q0 := 0) rfl rfl) hl.1 rfl (Nat.le_of_ble_eq_true rfl) (by decide) zd_P_daysOf_182 ?_
      refine lv_aload_n hx hb zd_P_daysOf_185 rfl (lv_at hl 2 rfl) ?_
      refine va_get (D := g.1) (ci := 3) (v := .int (iI (od))) (C := zR_P) (T := zT_P) (N := 11) hx hb hw zin_P hown hK hP 0 rfl rfl 9 (by decide) (hw _ zw_1_67) (fun _ h9 => h9) rfl zd_P_daysOf_186 ?_
      refine zi_iconst hx hb zd_P_daysOf_189 ?_
      refine zi_isub hx hb zd_P_daysOf_190 ?_
      refine zi_bipush hx hb zd_P_daysOf_191 (by decide) ?_
      refine zi_imul hx hb zd_P_daysOf_193 ?_
      refine zi_iadd hx hb zd_P_daysOf_194 ?_
      refine lv_iload_n hx hb zd_P_daysOf_195 rfl (lv_at hl 1 rfl) ?_
      refine zk_V (As := [.int (iI ((1 + (sub - (((dM0 (mo)) + 4) % 7 + 1)) % 7) + ((od - 1) * 7))), .int (iI (dM0 (mo + 1) - dM0 mo))]) (b := pq) (own := "CronFinder$Plan") (nL := 4) (rest := []) hx hb hml hown hw (c_P_dayBit l g (pq) ((1 + (sub - (((dM0 (mo)) + 4) % 7 + 1)) % 7) + ((od - 1) * 7)) (dM0 (mo + 1) - dM0 mo) (by omega)) zw_3_73 zw_3_75 zw_0_18 zw_1_2 zw_3_76 (np := 2) (by decide +kernel) rfl (by decide) zN_mv hK trivial (hP.sub (ws' := []) [] rfl) (va_recv hK hP (ci := 3) (q0 := 0) rfl rfl) hl.1 rfl (Nat.le_of_ble_eq_true rfl) (by decide) zd_P_daysOf_196 ?_
      refine zw_as (pDays al bits 6 sub od mo) (zbits_fe fun i hi => by unfold pDays; rw [c11, c27]; rfl) ?_
      exact zs_iret hx hb hr hlk zd_P_daysOf_199
    · refine zi_iconst hx hb zd_P_daysOf_30 ?_
      refine zw_as (pDays al bits 6 sub od mo) (by rw [zbits_0]; exact zbits_fe fun i hi => by unfold pDays; first | (rw [c11]; rfl) | (rw [c27, Bool.and_false]; rfl)) ?_
      exact zs_iret hx hb hr hlk zd_P_daysOf_31
theorem c_P_daysOf (l : Launch) (g : zGl) (pq : Nat) (ra aa : Nat → Nat) (al : Nat → Nat → Bool) (sub od : Int) (bits : Nat → Bool) (t : Nat) (en : Nat → Nat) (tw : Nat) (mo : Int) (hm : 0 ≤ mo ∧ mo < 3960) (hs : 0 ≤ sub ∧ sub ≤ 31 ∧ 0 ≤ od ∧ od ≤ 5) (ru : Nat) (hru : ru < 7 ∧ (ru = 3 → 1 ≤ sub)) : zSi l zy_P_daysOf zc_P_daysOf 4 (some .int) ({ frames := 3, cells := 0, slots := 0, locals := 65 }) g (zS3 t en tw (fun _ => False)) [.ref pq, .int (iI mo)] [(pq, .inr (3, [.ref (ra 0), .ref (ra 1), .ref (ra 2), .ref (ra 3), .ref (ra 4), .ref (ra 5), .ref (ra 6), .ref (en ru), .int (iI (sub)), .int (iI (od)), .int (zbits (bits))])), (ra 0, .inr (2, [.int (iI (0)), .int (iI (59)), .ref (aa 0)])), (aa 0, .inl (g.2 1, 60, .inl (zaB (al 0)))), (ra 1, .inr (2, [.int (iI (0)), .int (iI (59)), .ref (aa 1)])), (aa 1, .inl (g.2 1, 60, .inl (zaB (al 1)))), (ra 2, .inr (2, [.int (iI (0)), .int (iI (23)), .ref (aa 2)])), (aa 2, .inl (g.2 1, 24, .inl (zaB (al 2)))), (ra 3, .inr (2, [.int (iI (1)), .int (iI (31)), .ref (aa 3)])), (aa 3, .inl (g.2 1, 31, .inl (zaB (al 3)))), (ra 4, .inr (2, [.int (iI (1)), .int (iI (12)), .ref (aa 4)])), (aa 4, .inl (g.2 1, 12, .inl (zaB (al 4)))), (ra 5, .inr (2, [.int (iI (1)), .int (iI (7)), .ref (aa 5)])), (aa 5, .inl (g.2 1, 7, .inl (zaB (al 5)))), (ra 6, .inr (2, [.int (iI (1970)), .int (iI (2299)), .ref (aa 6)])), (aa 6, .inl (g.2 1, 330, .inl (zaB (al 6))))] (some (.int (zbits (pDays al bits ru sub od mo)))) := by
  rcases (show ru = 0 ∨ ru = 1 ∨ ru = 2 ∨ ru = 3 ∨ ru = 4 ∨ ru = 5 ∨ ru = 6 by omega) with rfl | rfl | rfl | rfl | rfl | rfl | rfl
  · exact c_P_daysOf_0 l g pq ra aa al sub od bits t en tw mo hm hs
  · exact c_P_daysOf_1 l g pq ra aa al sub od bits t en tw mo hm hs
  · exact c_P_daysOf_2 l g pq ra aa al sub od bits t en tw mo hm hs
  · exact c_P_daysOf_3 l g pq ra aa al sub od bits t en tw mo hm hs (hru.2 rfl)
  · exact c_P_daysOf_4 l g pq ra aa al sub od bits t en tw mo hm hs
  · exact c_P_daysOf_5 l g pq ra aa al sub od bits t en tw mo hm hs
  · exact c_P_daysOf_6 l g pq ra aa al sub od bits t en tw mo hm hs
set_option maxHeartbeats 4000000 in
set_option maxRecDepth 100000 in
theorem c_P_firesOn (l : Launch) (g : zGl) (pq : Nat) (ra aa : Nat → Nat) (al : Nat → Nat → Bool) (sub od : Int) (bits : Nat → Bool) (t : Nat) (en : Nat → Nat) (tw : Nat) (d mo : Int) (hm : 0 ≤ mo ∧ mo < 3960 ∧ dM0 mo ≤ d ∧ d < dM0 (mo + 1)) (hs : 0 ≤ sub ∧ sub ≤ 31 ∧ 0 ≤ od ∧ od ≤ 5) (ru : Nat) (hru : ru < 7 ∧ (ru = 3 → 1 ≤ sub)) (hd : 0 ≤ d ∧ d < 120530) : zSi l zy_P_firesOn zc_P_firesOn 3 (some .boolean) ({ frames := 4, cells := 0, slots := 0, locals := 88 }) g (zS3 t en tw (fun _ => False)) [.ref (pq), .int (iI (d))] [(pq, .inr (3, [.ref (ra 0), .ref (ra 1), .ref (ra 2), .ref (ra 3), .ref (ra 4), .ref (ra 5), .ref (ra 6), .ref (en ru), .int (iI (sub)), .int (iI (od)), .int (zbits (bits))])), (ra 0, .inr (2, [.int (iI (0)), .int (iI (59)), .ref (aa 0)])), (aa 0, .inl (g.2 1, 60, .inl (zaB (al 0)))), (ra 1, .inr (2, [.int (iI (0)), .int (iI (59)), .ref (aa 1)])), (aa 1, .inl (g.2 1, 60, .inl (zaB (al 1)))), (ra 2, .inr (2, [.int (iI (0)), .int (iI (23)), .ref (aa 2)])), (aa 2, .inl (g.2 1, 24, .inl (zaB (al 2)))), (ra 3, .inr (2, [.int (iI (1)), .int (iI (31)), .ref (aa 3)])), (aa 3, .inl (g.2 1, 31, .inl (zaB (al 3)))), (ra 4, .inr (2, [.int (iI (1)), .int (iI (12)), .ref (aa 4)])), (aa 4, .inl (g.2 1, 12, .inl (zaB (al 4)))), (ra 5, .inr (2, [.int (iI (1)), .int (iI (7)), .ref (aa 5)])), (aa 5, .inl (g.2 1, 7, .inl (zaB (al 5)))), (ra 6, .inr (2, [.int (iI (1970)), .int (iI (2299)), .ref (aa 6)])), (aa 6, .inl (g.2 1, 330, .inl (zaB (al 6))))] (some (.int (iI (bI (pDays al bits ru sub od mo (d - dM0 mo).toNat))))) := by
  refine zs_open (by decide +kernel) (Nat.le_of_ble_eq_true rfl) ?_
  intro p e s m below meth c ls hx hb hml hr hlk hown hw hK hT hP hl
  have hown : s.vm.findClass "CronFinder$Plan" = some m.cls := hown
  have hl : lv_has ls 3 [(0, .ref (pq)), (1, .int (iI (d)))] := hl
  refine lv_iload_n hx hb zd_P_firesOn_0 rfl (lv_at hl 1 rfl) ?_
  refine zk_S (As := [.int (iI (d))]) (own := "CronFinder$Plan") (nL := 3) (rest := []) hx hb hml hown hw (c_D_monthOf l g t (d) mo (by omega) hm) zw_3_162 zw_3_33 zw_1_22 zw_3_34 (np := 1) (by decide +kernel) rfl (by decide) (zSd_mv t _) hK hT.1 (hP.sub (ws' := []) [] rfl) hl.1 rfl (Nat.le_of_ble_eq_true rfl) (by decide) zd_P_firesOn_1 ?_
  refine lv_istore_n (lv' := [(2, .int (iI (mo))), (0, .ref (pq)), (1, .int (iI (d)))]) hx hb zd_P_firesOn_4 rfl hl (by decide) rfl (fun ls hl => ?_)
  refine lv_aload_n hx hb zd_P_firesOn_5 rfl (lv_at hl 1 rfl) ?_
  refine lv_iload_n hx hb zd_P_firesOn_6 rfl (lv_at hl 0 rfl) ?_
  refine zk_V (As := [.int (iI (mo))]) (b := pq) (own := "CronFinder$Plan") (nL := 3) (rest := []) hx hb hml hown hw (c_P_daysOf l g pq ra aa al sub od bits t en tw (mo) (by omega) hs ru hru) zw_3_163 zw_3_54 zw_3_55 zw_1_2 zw_3_56 (np := 1) (by decide +kernel) rfl (by decide) (zS3_mv t en tw _) hK hT (hP.sub (ws' := [(pq, .inr (3, [.ref (ra 0), .ref (ra 1), .ref (ra 2), .ref (ra 3), .ref (ra 4), .ref (ra 5), .ref (ra 6), .ref (en ru), .int (iI (sub)), .int (iI (od)), .int (zbits (bits))])), (ra 0, .inr (2, [.int (iI (0)), .int (iI (59)), .ref (aa 0)])), (aa 0, .inl (g.2 1, 60, .inl (zaB (al 0)))), (ra 1, .inr (2, [.int (iI (0)), .int (iI (59)), .ref (aa 1)])), (aa 1, .inl (g.2 1, 60, .inl (zaB (al 1)))), (ra 2, .inr (2, [.int (iI (0)), .int (iI (23)), .ref (aa 2)])), (aa 2, .inl (g.2 1, 24, .inl (zaB (al 2)))), (ra 3, .inr (2, [.int (iI (1)), .int (iI (31)), .ref (aa 3)])), (aa 3, .inl (g.2 1, 31, .inl (zaB (al 3)))), (ra 4, .inr (2, [.int (iI (1)), .int (iI (12)), .ref (aa 4)])), (aa 4, .inl (g.2 1, 12, .inl (zaB (al 4)))), (ra 5, .inr (2, [.int (iI (1)), .int (iI (7)), .ref (aa 5)])), (aa 5, .inl (g.2 1, 7, .inl (zaB (al 5)))), (ra 6, .inr (2, [.int (iI (1970)), .int (iI (2299)), .ref (aa 6)])), (aa 6, .inl (g.2 1, 330, .inl (zaB (al 6))))]) [0, 1, 2, 3, 4, 5, 6, 7, 8, 9, 10, 11, 12, 13, 14] rfl) (va_recv hK hP (ci := 3) (q0 := 0) rfl rfl) hl.1 rfl (Nat.le_of_ble_eq_true rfl) (by decide) zd_P_firesOn_7 ?_
  have hL := dLen_rg mo
  refine lv_iload_n hx hb zd_P_firesOn_10 rfl (lv_at hl 2 rfl) ?_
  refine lv_iload_n hx hb zd_P_firesOn_11 rfl (lv_at hl 0 rfl) ?_
  refine zk_S (As := [.int (iI (mo))]) (own := "CronFinder$Plan") (nL := 3) (rest := [.int (iI (d)), .int (zbits (pDays al bits ru sub od (mo)))]) hx hb hml hown hw (c_D_startOfMonth l g t (mo) (by omega)) zw_3_61 zw_3_42 zw_1_22 zw_3_43 (np := 1) (by decide +kernel) rfl (by decide) (zSd_mv t _) hK hT.1 (hP.sub (ws' := []) [] rfl) hl.1 rfl (Nat.le_of_ble_eq_true rfl) (by decide) zd_P_firesOn_12 ?_
  have hq12 := dM0_rg (m := mo) (by omega)
  refine zi_isub hx hb zd_P_firesOn_15 ?_
  refine zw_bit hx hb (by omega) zd_P_firesOn_16 zd_P_firesOn_17 zd_P_firesOn_18 ?_
  refine zb_if_eq (tgt := 26) hx hb zd_P_firesOn_19 (by decide) (fun c19 => ?_) (fun c19 => ?_)
  · refine zi_iconst hx hb zd_P_firesOn_26 ?_
    refine zb_as (x := pDays al bits ru sub od mo (d - dM0 mo).toNat) (by first | exact bI_t c19 | exact bI_f c19) ?_
    exact zs_zret hx hb hr hlk zd_P_firesOn_27
  · refine zi_iconst hx hb zd_P_firesOn_22 ?_
    refine lv_goto (tgt := 27) hx hb zd_P_firesOn_23 (by decide) ?_
    refine zb_as (x := pDays al bits ru sub od mo (d - dM0 mo).toNat) (by first | exact bI_t c19 | exact bI_f c19) ?_
    exact zs_zret hx hb hr hlk zd_P_firesOn_27
