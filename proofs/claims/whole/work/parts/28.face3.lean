/-! CronFinder: what throws nothing, of later, holiday, is -/
/-- n fires behind t, one after another -/
def tLt (F G : Int → Bool) : Nat → Int → Int → Prop
  | 0, tm, r => r = tm
  | n + 1, tm, r => (tm = -1 ∧ r = -1) ∨ (¬ tm = -1 ∧ ∃ u, tNF F G tm u ∧ tLt F G n u r)
theorem tLt_s {F G : Int → Bool} {n : Nat} {tm r : Int} (h : tLt F G (n + 1) tm r) (ht : ¬ tm = -1) : ∃ u, tNF F G tm u ∧ tLt F G n u r := by
  rcases h with ⟨e, _⟩ | ⟨_, h⟩
  · exact absurd e ht
  · exact h
theorem tLt_m {F G : Int → Bool} {n : Nat} {tm r : Int} (h : tLt F G n tm r) (ht : tm = -1) : tm = r := by
  cases n with
  | zero => exact Eq.symm h
  | succ n =>
    rcases h with ⟨_, e⟩ | ⟨e, _⟩
    · rw [ht, e]
    · exact absurd ht e
theorem tLt_0 {F G : Int → Bool} {n : Nat} {tm r : Int} (h : tLt F G n tm r) (hn : n = 0) : tm = r := by
  subst hn; exact Eq.symm h
theorem tNF_bd {F G : Int → Bool} {tm r : Int} (h0 : 0 ≤ tm) (h : tNF F G tm r) : -1 ≤ r ∧ r ≤ 10413791999 := by
  rcases h with ⟨e, _⟩ | ⟨e1, e2, _⟩ <;> omega
theorem sSF_at {f0 f1 f2 : Nat → Bool} {x r : Int} (hx : 0 ≤ x ∧ x < 86400) (h : sSF f0 f1 f2 x r) (e : r = x) : sOk f0 f1 f2 x = true := by
  rcases h with ⟨e1, _⟩ | ⟨_, _, h1, _⟩
  · omega
  · rw [e] at h1; exact h1
theorem sSF_no {f0 f1 f2 : Nat → Bool} {x r : Int} (hx : 0 ≤ x ∧ x < 86400) (h : sSF f0 f1 f2 x r) (e : ¬ r = x) : sOk f0 f1 f2 x = false := by
  rcases h with ⟨_, h1⟩ | ⟨h1, _, _, h2⟩
  · exact h1 x (by omega) (by omega)
  · exact h2 x (by omega) (by omega)
theorem fFit_n {pD : Int → Nat → Bool} {hol : Int → Bool} {d : Int} (h : pD (dMon d) (d - dM0 (dMon d)).toNat = false) : fFit pD hol d = false := by unfold fFit; rw [h]; rfl
theorem fFit_h {pD : Int → Nat → Bool} {hol : Int → Bool} {d : Int} (h : hol d = true) : fFit pD hol d = false := by unfold fFit; rw [h, Bool.not_true, Bool.and_false]
theorem fFit_y {pD : Int → Nat → Bool} {hol : Int → Bool} {d : Int} (h : pD (dMon d) (d - dM0 (dMon d)).toNat = true) (h1 : hol d = false) : fFit pD hol d = true := by unfold fFit; rw [h, h1]; rfl
set_option maxHeartbeats 4000000 in
set_option maxRecDepth 100000 in
theorem c_F_later (l : Launch) (g : zGl) (fq tp : Nat) (tl : Int) (sq : Nat) (br : Int) (hq ha : Nat) (h : Nat → Int) (cnt : Int) (hol : Int → Bool) (hR : dsR h cnt hol) (pq : Nat) (ra aa : Nat → Nat) (al : Nat → Nat → Bool) (sub od : Int) (bits : Nat → Bool) (t : Nat) (en : Nat → Nat) (tw : Nat) (hs : 0 ≤ sub ∧ sub ≤ 31 ∧ 0 ≤ od ∧ od ≤ 5) (ru : Nat) (hru : ru < 7 ∧ (ru = 3 → 1 ≤ sub)) (hok : pOk al (pDays al bits ru sub od)) (tm n rr : Int) (hx0 : 0 ≤ tm ∧ tm ≤ 10413791999) (hn : 1 ≤ n ∧ n ≤ 100) (hj : tLt (fFit (pDays al bits ru sub od) hol) (sOk (al 0) (al 1) (al 2)) n.toNat tm rr) : zSi l zy_F_later zc_F_later 7 (some .long) ({ frames := 6, cells := 0, slots := 0, locals := 146 }) g (zS3 t en tw (fun _ => False)) [.ref (fq), .long (lI (tm)), .int (iI (n))] [(fq, .inr (0, [.ref (tp), .int (iI (tl)), .ref (pq), .ref (sq), .int (iI (br)), .ref (hq)])), (pq, .inr (3, [.ref (ra 0), .ref (ra 1), .ref (ra 2), .ref (ra 3), .ref (ra 4), .ref (ra 5), .ref (ra 6), .ref (en ru), .int (iI (sub)), .int (iI (od)), .int (zbits (bits))])), (ra 0, .inr (2, [.int (iI (0)), .int (iI (59)), .ref (aa 0)])), (aa 0, .inl (g.2 1, 60, .inl (zaB (al 0)))), (ra 1, .inr (2, [.int (iI (0)), .int (iI (59)), .ref (aa 1)])), (aa 1, .inl (g.2 1, 60, .inl (zaB (al 1)))), (ra 2, .inr (2, [.int (iI (0)), .int (iI (23)), .ref (aa 2)])), (aa 2, .inl (g.2 1, 24, .inl (zaB (al 2)))), (ra 3, .inr (2, [.int (iI (1)), .int (iI (31)), .ref (aa 3)])), (aa 3, .inl (g.2 1, 31, .inl (zaB (al 3)))), (ra 4, .inr (2, [.int (iI (1)), .int (iI (12)), .ref (aa 4)])), (aa 4, .inl (g.2 1, 12, .inl (zaB (al 4)))), (ra 5, .inr (2, [.int (iI (1)), .int (iI (7)), .ref (aa 5)])), (aa 5, .inl (g.2 1, 7, .inl (zaB (al 5)))), (ra 6, .inr (2, [.int (iI (1970)), .int (iI (2299)), .ref (aa 6)])), (aa 6, .inl (g.2 1, 330, .inl (zaB (al 6)))), (hq, .inr (1, [.ref (ha), .int (iI (cnt))])), (ha, .inl (g.2 0, 200, .inl (zaI h)))] (some (.long (lI (rr)))) := by
  refine zs_open (by decide +kernel) (Nat.le_of_ble_eq_true rfl) ?_
  intro p e s m below meth c ls hx hb hml hr hlk hown hw hK hT hP hl
  have hown : s.vm.findClass "CronFinder" = some m.cls := hown
  have hl : lv_has ls 7 [(0, .ref (fq)), (1, .long (lI (tm))), (3, .int (iI (n)))] := hl
  refine lv_aload_n hx hb zd_F_later_0 rfl (lv_at hl 0 rfl) ?_
  refine lv_lload_n hx hb zd_F_later_1 rfl (lv_at hl 1 rfl) ?_
  refine zk_V (As := [.long (lI (tm))]) (b := fq) (own := "CronFinder") (nL := 7) (rest := []) hx hb hml hown hw (c_F_checkTime l g fq (tm) (by omega)) zw_3_16 zw_3_18 zw_0_15 zw_1_1 zw_3_19 (np := 1) (by decide +kernel) rfl (by decide) zN_mv hK trivial (hP.sub (ws' := []) [] rfl) (va_recv hK hP (ci := 0) (q0 := 0) rfl rfl) hl.1 rfl (Nat.le_of_ble_eq_true rfl) (by decide) zd_F_later_2 ?_
  refine lv_iload_n hx hb zd_F_later_5 rfl (lv_at hl 2 rfl) ?_
  refine zi_iconst hx hb zd_F_later_6 ?_
  refine zi_icmp_lt (tgt := 16) hx hb zd_F_later_7 (by decide) (by omega) (fun c7 => ?_) (fun c7 => ?_)
  · omega
  · refine lv_iload_n hx hb zd_F_later_10 rfl (lv_at hl 2 rfl) ?_
    refine zi_bipush hx hb zd_F_later_11 (by decide) ?_
    refine zi_icmp_le (tgt := 26) hx hb zd_F_later_13 (by decide) (by omega) (fun c13 => ?_) (fun c13 => ?_)
    · refine lv_lload_n hx hb zd_F_later_26 rfl (lv_at hl 1 rfl) ?_
      refine lv_lstore (lv' := [(4, .long (lI (tm))), (0, .ref (fq)), (1, .long (lI (tm))), (3, .int (iI (n)))]) hx hb zd_F_later_27 hl (by decide) rfl (fun ls hl => ?_)
      refine zi_iconst hx hb zd_F_later_29 ?_
      refine lv_istore (lv' := [(6, .int (iI (0))), (4, .long (lI (tm))), (0, .ref (fq)), (1, .long (lI (tm))), (3, .int (iI (n)))]) hx hb zd_F_later_30 hl (by decide) rfl (fun ls hl => ?_)
      have loop : ∀ (n9 : Nat) (x k : Int) (ls : Array Slot), (-1 ≤ x ∧ x ≤ 10413791999) → (0 ≤ k ∧ k ≤ n) → (tLt (fFit (pDays al bits ru sub od) hol) (sOk (al 0) (al 1) (al 2)) (n - k).toNat x rr) → ((n - k).toNat < n9) → lv_has ls 7 [(6, .int (iI (k))), (4, .long (lI (x))), (0, .ref (fq)), (1, .long (lI (tm))), (3, .int (iI (n)))] → W p l e ({ frames := 6, cells := 0, slots := 0, locals := 146 }) s m [.ref (fq), .long (lI (tm)), .int (iI (n))].toArray below meth c s.heap [] 0 0 (MQ below (zSil (some (.long (lI (rr))))) [.ref (fq), .long (lI (tm)), .int (iI (n))].toArray s 0 0 (fun _ => False)) (F0 m 32 ls []) := by
        intro n9
        induction n9 with
        | zero =>
          intro x k ls h1 hk hF h2 hl
          exact absurd h2 (by omega)
        | succ n9 ih =>
          intro x k ls h1 hk hF h2 hl
          refine lv_iload hx hb zd_F_later_32 (lv_at hl 0 rfl) ?_
          refine lv_iload_n hx hb zd_F_later_34 rfl (lv_at hl 4 rfl) ?_
          refine zi_icmp_ge (tgt := 61) hx hb zd_F_later_35 (by decide) (by omega) (fun c35 => ?_) (fun c35 => ?_)
          · refine lv_lload hx hb zd_F_later_61 (lv_at hl 1 rfl) ?_
            refine zl_as rr (by first | exact tLt_m hF c43 | exact tLt_0 hF (by omega)) ?_
            exact zs_lret hx hb hr hlk zd_F_later_63
          · refine lv_lload hx hb zd_F_later_38 (lv_at hl 1 rfl) ?_
            refine lv_ldc2 hx hb hown (hw _ zw_3_26) zd_F_later_40 ?_
            refine zl_asx _ (-1) (by decide) ?_
            refine zl_cmp_eq (tgt := 61) hx hb zd_F_later_43 zd_F_later_44 (by decide) (by omega) (fun c43 => ?_) (fun c43 => ?_)
            · refine lv_lload hx hb zd_F_later_61 (lv_at hl 1 rfl) ?_
              refine zl_as rr (by first | exact tLt_m hF c43 | exact tLt_0 hF (by omega)) ?_
              exact zs_lret hx hb hr hlk zd_F_later_63
            · rw [show (n - k).toNat = (n - (k + 1)).toNat + 1 by omega] at hF
              obtain ⟨u, hu, hF2⟩ := tLt_s hF c43
              have hub := tNF_bd (by omega) hu
              refine lv_aload_n hx hb zd_F_later_47 rfl (lv_at hl 2 rfl) ?_
              refine lv_lload hx hb zd_F_later_48 (lv_at hl 1 rfl) ?_
              refine zk_V (As := [.long (lI (x))]) (b := fq) (own := "CronFinder") (nL := 7) (rest := []) hx hb hml hown hw (c_F_fireBehind l g fq tp tl sq br hq ha h cnt hol hR pq ra aa al sub od bits t en tw hs ru hru hok (x) u (by omega) hu) zw_3_22 zw_3_24 zw_0_16 zw_1_1 zw_3_25 (np := 1) (by decide +kernel) rfl (by decide) (zS3_mv t en tw _) hK hT (hP.sub (ws' := [(fq, .inr (0, [.ref (tp), .int (iI (tl)), .ref (pq), .ref (sq), .int (iI (br)), .ref (hq)])), (pq, .inr (3, [.ref (ra 0), .ref (ra 1), .ref (ra 2), .ref (ra 3), .ref (ra 4), .ref (ra 5), .ref (ra 6), .ref (en ru), .int (iI (sub)), .int (iI (od)), .int (zbits (bits))])), (ra 0, .inr (2, [.int (iI (0)), .int (iI (59)), .ref (aa 0)])), (aa 0, .inl (g.2 1, 60, .inl (zaB (al 0)))), (ra 1, .inr (2, [.int (iI (0)), .int (iI (59)), .ref (aa 1)])), (aa 1, .inl (g.2 1, 60, .inl (zaB (al 1)))), (ra 2, .inr (2, [.int (iI (0)), .int (iI (23)), .ref (aa 2)])), (aa 2, .inl (g.2 1, 24, .inl (zaB (al 2)))), (ra 3, .inr (2, [.int (iI (1)), .int (iI (31)), .ref (aa 3)])), (aa 3, .inl (g.2 1, 31, .inl (zaB (al 3)))), (ra 4, .inr (2, [.int (iI (1)), .int (iI (12)), .ref (aa 4)])), (aa 4, .inl (g.2 1, 12, .inl (zaB (al 4)))), (ra 5, .inr (2, [.int (iI (1)), .int (iI (7)), .ref (aa 5)])), (aa 5, .inl (g.2 1, 7, .inl (zaB (al 5)))), (ra 6, .inr (2, [.int (iI (1970)), .int (iI (2299)), .ref (aa 6)])), (aa 6, .inl (g.2 1, 330, .inl (zaB (al 6)))), (hq, .inr (1, [.ref (ha), .int (iI (cnt))])), (ha, .inl (g.2 0, 200, .inl (zaI h)))]) [0, 1, 2, 3, 4, 5, 6, 7, 8, 9, 10, 11, 12, 13, 14, 15, 16, 17] rfl) (va_recv hK hP (ci := 0) (q0 := 0) rfl rfl) hl.1 rfl (Nat.le_of_ble_eq_true rfl) (by decide) zd_F_later_50 ?_
              refine lv_lstore (lv' := [(4, .long (lI (u))), (6, .int (iI (k))), (0, .ref (fq)), (1, .long (lI (tm))), (3, .int (iI (n)))]) hx hb zd_F_later_53 hl (by decide) rfl (fun ls hl => ?_)
              refine lv_iinc (v := iI (k + 1)) (lv' := [(6, .int (iI (k + 1))), (4, .long (lI (u))), (0, .ref (fq)), (1, .long (lI (tm))), (3, .int (iI (n)))]) hx hb zd_F_later_55 hl (k := 1) rfl (iI_add _ _) (by decide) rfl (fun ls hl => ?_)
              refine lv_goto (tgt := 32) hx hb zd_F_later_58 (by decide) ?_
              exact ih u (k + 1) ls (by omega) (by omega) hF2 (by omega) (lv_sub hl [0, 1, 2, 3, 4] rfl)
      exact loop 101 tm 0 ls (by omega) (by omega) (by rw [show n - 0 = n by omega]; exact hj) (by omega) (lv_sub hl [0, 1, 2, 3, 4] rfl)
    · omega
set_option maxHeartbeats 4000000 in
set_option maxRecDepth 100000 in
theorem c_F_hol_rem (l : Launch) (g : zGl) (fq tp : Nat) (tl : Int) (pq sq : Nat) (br : Int) (hq ha : Nat) (h : Nat → Int) (cnt : Int) (hol : Int → Bool) (hR : dsR h cnt hol) (d N : Int) (hd0 : 0 ≤ d ∧ d ≤ 120529) (hN : dsN h cnt d N) (hh : hol d = true) (hlt : N < cnt) : zWi l zy_F_holiday zc_F_holiday 3 (some .int) ({ frames := 5, cells := 0, slots := 0, locals := 124 }) g (fun _ => zN) [.ref (fq), .int (iI (d)), .int (iI (bI (false)))] [(fq, .inr (0, [.ref (tp), .int (iI (tl)), .ref (pq), .ref (sq), .int (iI (br)), .ref (hq)])), (hq, .inr (1, [.ref (ha), .int (iI (cnt))])), (ha, .inl (g.2 0, 200, .inl (zaI h)))] (some (.int (iI (cnt - 1)))) [(fq, .inr (0, [.ref (tp), .int (iI (tl)), .ref (pq), .ref (sq), .int (iI (br)), .ref (hq)])), (hq, .inr (1, [.ref (ha), .int (iI (cnt - 1))])), (ha, .inl (g.2 0, 200, .inl (zaI (dsRem h cnt N))))] 0 0 := by
  refine zw_open (by decide +kernel) (Nat.le_of_ble_eq_true rfl) ?_
  intro p e s m below meth c ls A hx hb hml hr hlk hown hin hw hK hT hP hD hS hA hl
  have hown : s.vm.findClass "CronFinder" = some m.cls := hown
  have hl : lv_has ls 3 [(0, .ref (fq)), (1, .int (iI (d))), (2, .int (iI (bI (false))))] := hl
  refine lv_iload_n hx hb zd_F_holiday_0 rfl (lv_at hl 1 rfl) ?_
  refine zi_if_lt (tgt := 10) hx hb zd_F_holiday_1 (by decide) (by omega) (fun c1 => ?_) (fun c1 => ?_)
  · omega
  · refine lv_iload_n hx hb zd_F_holiday_4 rfl (lv_at hl 1 rfl) ?_
    refine lv_ldc hx hb hown (hw _ zw_2_215) zd_F_holiday_5 ?_
    refine zi_asx _ 120529 (by decide) ?_
    refine zi_icmp_le (tgt := 20) hx hb zd_F_holiday_7 (by decide) (by omega) (fun c7 => ?_) (fun c7 => ?_)
    · refine lv_iload_n hx hb zd_F_holiday_20 rfl (lv_at hl 2 rfl) ?_
      refine zb_if_ne (tgt := 35) hx hb zd_F_holiday_21 (by decide) (fun c21 => by cases c21) (fun _ => ?_)
      refine lv_aload_n hx hb zd_F_holiday_24 rfl (lv_at hl 0 rfl) ?_
      refine va_get (D := g.1) (ci := 0) (v := .ref (hq)) (C := zR_F) (T := zT_F) (N := 6) hx hb hw zin_F hown hK hP 0 rfl rfl 5 (by decide) (hw _ zw_1_111) (fun _ h9 => h9) rfl zd_F_holiday_25 ?_
      refine lv_iload_n hx hb zd_F_holiday_28 rfl (lv_at hl 1 rfl) ?_
      refine zk_W (As := [.int (iI (d))]) (b := hq) (own := "CronFinder") (nL := 3) (rest := []) hx hb hml hown hw (c_S_remove l g hq ha h cnt hol hR d N hd0 hN hh hlt) zw_2_217 zw_2_218 zw_2_219 zw_1_6 zw_2_220 (np := 1) (by decide +kernel) rfl (by decide) (fun _ => zN_mv) hK trivial hP hD hS hA [1, 2] rfl (by decide) rfl (va_recv hK hP (ci := 1) (q0 := 1) rfl rfl) hl.1 rfl (Nat.le_of_ble_eq_true rfl) (by decide) zd_F_holiday_29 (fun H locs hP hD hS => ?_)
      have hP : va_P g.1 zCl [(fq, .inr (0, [.ref (tp), .int (iI (tl)), .ref (pq), .ref (sq), .int (iI (br)), .ref (hq)])), (hq, .inr (1, [.ref (ha), .int (iI (cnt - 1))])), (ha, .inl (g.2 0, 200, .inl (zaI (dsRem h cnt N))))] H := hP
      have hD : va_D A [(fq, .inr (0, [.ref (tp), .int (iI (tl)), .ref (pq), .ref (sq), .int (iI (br)), .ref (hq)])), (hq, .inr (1, [.ref (ha), .int (iI (cnt - 1))])), (ha, .inl (g.2 0, 200, .inl (zaI (dsRem h cnt N))))] := hD
      refine lv_goto (tgt := 56) hx hb zd_F_holiday_32 (by decide) ?_
      refine lv_aload_n hx hb zd_F_holiday_56 rfl (lv_at hl 0 rfl) ?_
      refine va_get (D := g.1) (ci := 0) (v := .ref (hq)) (C := zR_F) (T := zT_F) (N := 6) hx hb hw zin_F hown hK hP 0 rfl rfl 5 (by decide) (hw _ zw_1_111) (fun _ h9 => h9) rfl zd_F_holiday_57 ?_
      refine zk_V (As := []) (b := hq) (own := "CronFinder") (nL := 3) (rest := []) hx hb hml hown hw (c_S_size l g hq ha (dsRem h cnt N) (cnt - 1)) zw_3_5 zw_3_6 zw_3_7 zw_1_6 zw_3_8 (np := 0) (by decide +kernel) rfl (by decide) zN_mv hK trivial (hP.sub (ws' := [(hq, .inr (1, [.ref (ha), .int (iI (cnt - 1))])), (ha, .inl (g.2 0, 200, .inl (zaI (dsRem h cnt N))))]) [1, 2] rfl) (va_recv hK hP (ci := 1) (q0 := 1) rfl rfl) hl.1 rfl (Nat.le_of_ble_eq_true rfl) (by decide) zd_F_holiday_60 ?_
      exact zw_iret hx hb hr hlk (ws := [(fq, .inr (0, [.ref (tp), .int (iI (tl)), .ref (pq), .ref (sq), .int (iI (br)), .ref (hq)])), (hq, .inr (1, [.ref (ha), .int (iI (cnt - 1))])), (ha, .inl (g.2 0, 200, .inl (zaI (dsRem h cnt N))))]) hP hS zd_F_holiday_63
    · omega
set_option maxHeartbeats 4000000 in
set_option maxRecDepth 100000 in
theorem c_F_hol_no (l : Launch) (g : zGl) (fq tp : Nat) (tl : Int) (pq sq : Nat) (br : Int) (hq ha : Nat) (h : Nat → Int) (cnt : Int) (hol : Int → Bool) (hR : dsR h cnt hol) (d N : Int) (hd0 : 0 ≤ d ∧ d ≤ 120529) (hN : dsN h cnt d N) (hh : hol d = false) : zSi l zy_F_holiday zc_F_holiday 3 (some .int) ({ frames := 5, cells := 0, slots := 0, locals := 124 }) g zN [.ref (fq), .int (iI (d)), .int (iI (bI (false)))] [(fq, .inr (0, [.ref (tp), .int (iI (tl)), .ref (pq), .ref (sq), .int (iI (br)), .ref (hq)])), (hq, .inr (1, [.ref (ha), .int (iI (cnt))])), (ha, .inl (g.2 0, 200, .inl (zaI h)))] (some (.int (iI (cnt)))) := by
  refine zs_open (by decide +kernel) (Nat.le_of_ble_eq_true rfl) ?_
  intro p e s m below meth c ls hx hb hml hr hlk hown hw hK hT hP hl
  have hown : s.vm.findClass "CronFinder" = some m.cls := hown
  have hl : lv_has ls 3 [(0, .ref (fq)), (1, .int (iI (d))), (2, .int (iI (bI (false))))] := hl
  refine lv_iload_n hx hb zd_F_holiday_0 rfl (lv_at hl 1 rfl) ?_
  refine zi_if_lt (tgt := 10) hx hb zd_F_holiday_1 (by decide) (by omega) (fun c1 => ?_) (fun c1 => ?_)
  · omega
  · refine lv_iload_n hx hb zd_F_holiday_4 rfl (lv_at hl 1 rfl) ?_
    refine lv_ldc hx hb hown (hw _ zw_2_215) zd_F_holiday_5 ?_
    refine zi_asx _ 120529 (by decide) ?_
    refine zi_icmp_le (tgt := 20) hx hb zd_F_holiday_7 (by decide) (by omega) (fun c7 => ?_) (fun c7 => ?_)
    · refine lv_iload_n hx hb zd_F_holiday_20 rfl (lv_at hl 2 rfl) ?_
      refine zb_if_ne (tgt := 35) hx hb zd_F_holiday_21 (by decide) (fun c21 => by cases c21) (fun _ => ?_)
      refine lv_aload_n hx hb zd_F_holiday_24 rfl (lv_at hl 0 rfl) ?_
      refine va_get (D := g.1) (ci := 0) (v := .ref (hq)) (C := zR_F) (T := zT_F) (N := 6) hx hb hw zin_F hown hK hP 0 rfl rfl 5 (by decide) (hw _ zw_1_111) (fun _ h9 => h9) rfl zd_F_holiday_25 ?_
      refine lv_iload_n hx hb zd_F_holiday_28 rfl (lv_at hl 1 rfl) ?_
      refine zk_V (As := [.int (iI (d))]) (b := hq) (own := "CronFinder") (nL := 3) (rest := []) hx hb hml hown hw (c_S_remove_no l g hq ha h cnt hol hR d N hd0 hN hh) zw_2_217 zw_2_218 zw_2_219 zw_1_6 zw_2_220 (np := 1) (by decide +kernel) rfl (by decide) zN_mv hK trivial (hP.sub (ws' := [(hq, .inr (1, [.ref (ha), .int (iI (cnt))])), (ha, .inl (g.2 0, 200, .inl (zaI h)))]) [1, 2] rfl) (va_recv hK hP (ci := 1) (q0 := 1) rfl rfl) hl.1 rfl (Nat.le_of_ble_eq_true rfl) (by decide) zd_F_holiday_29 ?_
      refine lv_goto (tgt := 56) hx hb zd_F_holiday_32 (by decide) ?_
      refine lv_aload_n hx hb zd_F_holiday_56 rfl (lv_at hl 0 rfl) ?_
      refine va_get (D := g.1) (ci := 0) (v := .ref (hq)) (C := zR_F) (T := zT_F) (N := 6) hx hb hw zin_F hown hK hP 0 rfl rfl 5 (by decide) (hw _ zw_1_111) (fun _ h9 => h9) rfl zd_F_holiday_57 ?_
      refine zk_V (As := []) (b := hq) (own := "CronFinder") (nL := 3) (rest := []) hx hb hml hown hw (c_S_size l g hq ha h (cnt)) zw_3_5 zw_3_6 zw_3_7 zw_1_6 zw_3_8 (np := 0) (by decide +kernel) rfl (by decide) zN_mv hK trivial (hP.sub (ws' := [(hq, .inr (1, [.ref (ha), .int (iI (cnt))])), (ha, .inl (g.2 0, 200, .inl (zaI h)))]) [1, 2] rfl) (va_recv hK hP (ci := 1) (q0 := 1) rfl rfl) hl.1 rfl (Nat.le_of_ble_eq_true rfl) (by decide) zd_F_holiday_60 ?_
      refine zi_as (cnt) (rfl) ?_
      exact zs_iret hx hb hr hlk zd_F_holiday_63
    · omega
set_option maxHeartbeats 4000000 in
set_option maxRecDepth 100000 in
theorem c_F_hol_in (l : Launch) (g : zGl) (fq tp : Nat) (tl : Int) (pq sq : Nat) (br : Int) (hq ha : Nat) (h : Nat → Int) (cnt : Int) (hol : Int → Bool) (hR : dsR h cnt hol) (d N : Int) (hd0 : 0 ≤ d ∧ d ≤ 120529) (hN : dsN h cnt d N) (hh : hol d = true) : zSi l zy_F_holiday zc_F_holiday 3 (some .int) ({ frames := 5, cells := 0, slots := 0, locals := 124 }) g zN [.ref (fq), .int (iI (d)), .int (iI (bI (true)))] [(fq, .inr (0, [.ref (tp), .int (iI (tl)), .ref (pq), .ref (sq), .int (iI (br)), .ref (hq)])), (hq, .inr (1, [.ref (ha), .int (iI (cnt))])), (ha, .inl (g.2 0, 200, .inl (zaI h)))] (some (.int (iI (cnt)))) := by
  refine zs_open (by decide +kernel) (Nat.le_of_ble_eq_true rfl) ?_
  intro p e s m below meth c ls hx hb hml hr hlk hown hw hK hT hP hl
  have hown : s.vm.findClass "CronFinder" = some m.cls := hown
  have hl : lv_has ls 3 [(0, .ref (fq)), (1, .int (iI (d))), (2, .int (iI (bI (true))))] := hl
  refine lv_iload_n hx hb zd_F_holiday_0 rfl (lv_at hl 1 rfl) ?_
  refine zi_if_lt (tgt := 10) hx hb zd_F_holiday_1 (by decide) (by omega) (fun c1 => ?_) (fun c1 => ?_)
  · omega
  · refine lv_iload_n hx hb zd_F_holiday_4 rfl (lv_at hl 1 rfl) ?_
    refine lv_ldc hx hb hown (hw _ zw_2_215) zd_F_holiday_5 ?_
    refine zi_asx _ 120529 (by decide) ?_
    refine zi_icmp_le (tgt := 20) hx hb zd_F_holiday_7 (by decide) (by omega) (fun c7 => ?_) (fun c7 => ?_)
    · refine lv_iload_n hx hb zd_F_holiday_20 rfl (lv_at hl 2 rfl) ?_
      refine zb_if_ne (tgt := 35) hx hb zd_F_holiday_21 (by decide) (fun _ => ?_) (fun c21 => by cases c21)
      refine lv_aload_n hx hb zd_F_holiday_35 rfl (lv_at hl 0 rfl) ?_
      refine va_get (D := g.1) (ci := 0) (v := .ref (hq)) (C := zR_F) (T := zT_F) (N := 6) hx hb hw zin_F hown hK hP 0 rfl rfl 5 (by decide) (hw _ zw_1_111) (fun _ h9 => h9) rfl zd_F_holiday_36 ?_
      refine lv_iload_n hx hb zd_F_holiday_39 rfl (lv_at hl 1 rfl) ?_
      refine zk_V (As := [.int (iI (d))]) (b := hq) (own := "CronFinder") (nL := 3) (rest := []) hx hb hml hown hw (c_S_add_in l g hq ha h cnt hol hR d N hd0 hN hh) zw_3_0 zw_3_1 zw_3_2 zw_1_6 zw_3_3 (np := 1) (by decide +kernel) rfl (by decide) zN_mv hK trivial (hP.sub (ws' := [(hq, .inr (1, [.ref (ha), .int (iI (cnt))])), (ha, .inl (g.2 0, 200, .inl (zaI h)))]) [1, 2] rfl) (va_recv hK hP (ci := 1) (q0 := 1) rfl rfl) hl.1 rfl (Nat.le_of_ble_eq_true rfl) (by decide) zd_F_holiday_40 ?_
      refine zb_if_ne (tgt := 56) hx hb zd_F_holiday_43 (by decide) (fun _ => ?_) (fun c43 => by cases c43)
      refine lv_aload_n hx hb zd_F_holiday_56 rfl (lv_at hl 0 rfl) ?_
      refine va_get (D := g.1) (ci := 0) (v := .ref (hq)) (C := zR_F) (T := zT_F) (N := 6) hx hb hw zin_F hown hK hP 0 rfl rfl 5 (by decide) (hw _ zw_1_111) (fun _ h9 => h9) rfl zd_F_holiday_57 ?_
      refine zk_V (As := []) (b := hq) (own := "CronFinder") (nL := 3) (rest := []) hx hb hml hown hw (c_S_size l g hq ha h (cnt)) zw_3_5 zw_3_6 zw_3_7 zw_1_6 zw_3_8 (np := 0) (by decide +kernel) rfl (by decide) zN_mv hK trivial (hP.sub (ws' := [(hq, .inr (1, [.ref (ha), .int (iI (cnt))])), (ha, .inl (g.2 0, 200, .inl (zaI h)))]) [1, 2] rfl) (va_recv hK hP (ci := 1) (q0 := 1) rfl rfl) hl.1 rfl (Nat.le_of_ble_eq_true rfl) (by decide) zd_F_holiday_60 ?_
      refine zi_as (cnt) (rfl) ?_
      exact zs_iret hx hb hr hlk zd_F_holiday_63
    · omega
set_option maxHeartbeats 4000000 in
set_option maxRecDepth 100000 in
theorem c_F_hol_add (l : Launch) (g : zGl) (fq tp : Nat) (tl : Int) (pq sq : Nat) (br : Int) (hq ha : Nat) (h : Nat → Int) (cnt : Int) (hol : Int → Bool) (hR : dsR h cnt hol) (d N : Int) (hd0 : 0 ≤ d ∧ d ≤ 120529) (hN : dsN h cnt d N) (hh : hol d = false) (hf : cnt < 200) : zWi l zy_F_holiday zc_F_holiday 3 (some .int) ({ frames := 5, cells := 0, slots := 0, locals := 124 }) g (fun _ => zN) [.ref (fq), .int (iI (d)), .int (iI (bI (true)))] [(fq, .inr (0, [.ref (tp), .int (iI (tl)), .ref (pq), .ref (sq), .int (iI (br)), .ref (hq)])), (hq, .inr (1, [.ref (ha), .int (iI (cnt))])), (ha, .inl (g.2 0, 200, .inl (zaI h)))] (some (.int (iI (cnt + 1)))) [(fq, .inr (0, [.ref (tp), .int (iI (tl)), .ref (pq), .ref (sq), .int (iI (br)), .ref (hq)])), (hq, .inr (1, [.ref (ha), .int (iI (cnt + 1))])), (ha, .inl (g.2 0, 200, .inl (zaI (dsAdd h cnt d N))))] 0 0 := by
  refine zw_open (by decide +kernel) (Nat.le_of_ble_eq_true rfl) ?_
  intro p e s m below meth c ls A hx hb hml hr hlk hown hin hw hK hT hP hD hS hA hl
  have hown : s.vm.findClass "CronFinder" = some m.cls := hown
  have hl : lv_has ls 3 [(0, .ref (fq)), (1, .int (iI (d))), (2, .int (iI (bI (true))))] := hl
  refine lv_iload_n hx hb zd_F_holiday_0 rfl (lv_at hl 1 rfl) ?_
  refine zi_if_lt (tgt := 10) hx hb zd_F_holiday_1 (by decide) (by omega) (fun c1 => ?_) (fun c1 => ?_)
  · omega
  · refine lv_iload_n hx hb zd_F_holiday_4 rfl (lv_at hl 1 rfl) ?_
    refine lv_ldc hx hb hown (hw _ zw_2_215) zd_F_holiday_5 ?_
    refine zi_asx _ 120529 (by decide) ?_
    refine zi_icmp_le (tgt := 20) hx hb zd_F_holiday_7 (by decide) (by omega) (fun c7 => ?_) (fun c7 => ?_)
    · refine lv_iload_n hx hb zd_F_holiday_20 rfl (lv_at hl 2 rfl) ?_
      refine zb_if_ne (tgt := 35) hx hb zd_F_holiday_21 (by decide) (fun _ => ?_) (fun c21 => by cases c21)
      refine lv_aload_n hx hb zd_F_holiday_35 rfl (lv_at hl 0 rfl) ?_
      refine va_get (D := g.1) (ci := 0) (v := .ref (hq)) (C := zR_F) (T := zT_F) (N := 6) hx hb hw zin_F hown hK hP 0 rfl rfl 5 (by decide) (hw _ zw_1_111) (fun _ h9 => h9) rfl zd_F_holiday_36 ?_
      refine lv_iload_n hx hb zd_F_holiday_39 rfl (lv_at hl 1 rfl) ?_
      refine zk_W (As := [.int (iI (d))]) (b := hq) (own := "CronFinder") (nL := 3) (rest := []) hx hb hml hown hw (c_S_add_new l g hq ha h cnt hol hR d N hd0 hN hh hf) zw_3_0 zw_3_1 zw_3_2 zw_1_6 zw_3_3 (np := 1) (by decide +kernel) rfl (by decide) (fun _ => zN_mv) hK trivial hP hD hS hA [1, 2] rfl (by decide) rfl (va_recv hK hP (ci := 1) (q0 := 1) rfl rfl) hl.1 rfl (Nat.le_of_ble_eq_true rfl) (by decide) zd_F_holiday_40 (fun H locs hP hD hS => ?_)
      have hP : va_P g.1 zCl [(fq, .inr (0, [.ref (tp), .int (iI (tl)), .ref (pq), .ref (sq), .int (iI (br)), .ref (hq)])), (hq, .inr (1, [.ref (ha), .int (iI (cnt + 1))])), (ha, .inl (g.2 0, 200, .inl (zaI (dsAdd h cnt d N))))] H := hP
      have hD : va_D A [(fq, .inr (0, [.ref (tp), .int (iI (tl)), .ref (pq), .ref (sq), .int (iI (br)), .ref (hq)])), (hq, .inr (1, [.ref (ha), .int (iI (cnt + 1))])), (ha, .inl (g.2 0, 200, .inl (zaI (dsAdd h cnt d N))))] := hD
      refine zb_if_ne (tgt := 56) hx hb zd_F_holiday_43 (by decide) (fun _ => ?_) (fun c43 => by cases c43)
      refine lv_aload_n hx hb zd_F_holiday_56 rfl (lv_at hl 0 rfl) ?_
      refine va_get (D := g.1) (ci := 0) (v := .ref (hq)) (C := zR_F) (T := zT_F) (N := 6) hx hb hw zin_F hown hK hP 0 rfl rfl 5 (by decide) (hw _ zw_1_111) (fun _ h9 => h9) rfl zd_F_holiday_57 ?_
      refine zk_V (As := []) (b := hq) (own := "CronFinder") (nL := 3) (rest := []) hx hb hml hown hw (c_S_size l g hq ha (dsAdd h cnt d N) (cnt + 1)) zw_3_5 zw_3_6 zw_3_7 zw_1_6 zw_3_8 (np := 0) (by decide +kernel) rfl (by decide) zN_mv hK trivial (hP.sub (ws' := [(hq, .inr (1, [.ref (ha), .int (iI (cnt + 1))])), (ha, .inl (g.2 0, 200, .inl (zaI (dsAdd h cnt d N))))]) [1, 2] rfl) (va_recv hK hP (ci := 1) (q0 := 1) rfl rfl) hl.1 rfl (Nat.le_of_ble_eq_true rfl) (by decide) zd_F_holiday_60 ?_
      exact zw_iret hx hb hr hlk (ws := [(fq, .inr (0, [.ref (tp), .int (iI (tl)), .ref (pq), .ref (sq), .int (iI (br)), .ref (hq)])), (hq, .inr (1, [.ref (ha), .int (iI (cnt + 1))])), (ha, .inl (g.2 0, 200, .inl (zaI (dsAdd h cnt d N))))]) hP hS zd_F_holiday_63
    · omega
set_option maxHeartbeats 4000000 in
set_option maxRecDepth 100000 in
theorem c_F_is (l : Launch) (g : zGl) (fq tp : Nat) (tl : Int) (sq : Nat) (br : Int) (hq ha : Nat) (h : Nat → Int) (cnt : Int) (hol : Int → Bool) (hR : dsR h cnt hol) (pq : Nat) (ra aa : Nat → Nat) (al : Nat → Nat → Bool) (sub od : Int) (bits : Nat → Bool) (t : Nat) (en : Nat → Nat) (tw : Nat) (hs : 0 ≤ sub ∧ sub ≤ 31 ∧ 0 ≤ od ∧ od ≤ 5) (ru : Nat) (hru : ru < 7 ∧ (ru = 3 → 1 ≤ sub)) (hok : pOk al (pDays al bits ru sub od)) (tm : Int) (hx0 : 0 ≤ tm ∧ tm ≤ 10413791999) : zSi l zy_F_is zc_F_is 5 (some .boolean) ({ frames := 6, cells := 0, slots := 0, locals := 146 }) g (zS3 t en tw (fun _ => False)) [.ref (fq), .long (lI (tm))] [(fq, .inr (0, [.ref (tp), .int (iI (tl)), .ref (pq), .ref (sq), .int (iI (br)), .ref (hq)])), (pq, .inr (3, [.ref (ra 0), .ref (ra 1), .ref (ra 2), .ref (ra 3), .ref (ra 4), .ref (ra 5), .ref (ra 6), .ref (en ru), .int (iI (sub)), .int (iI (od)), .int (zbits (bits))])), (ra 0, .inr (2, [.int (iI (0)), .int (iI (59)), .ref (aa 0)])), (aa 0, .inl (g.2 1, 60, .inl (zaB (al 0)))), (ra 1, .inr (2, [.int (iI (0)), .int (iI (59)), .ref (aa 1)])), (aa 1, .inl (g.2 1, 60, .inl (zaB (al 1)))), (ra 2, .inr (2, [.int (iI (0)), .int (iI (23)), .ref (aa 2)])), (aa 2, .inl (g.2 1, 24, .inl (zaB (al 2)))), (ra 3, .inr (2, [.int (iI (1)), .int (iI (31)), .ref (aa 3)])), (aa 3, .inl (g.2 1, 31, .inl (zaB (al 3)))), (ra 4, .inr (2, [.int (iI (1)), .int (iI (12)), .ref (aa 4)])), (aa 4, .inl (g.2 1, 12, .inl (zaB (al 4)))), (ra 5, .inr (2, [.int (iI (1)), .int (iI (7)), .ref (aa 5)])), (aa 5, .inl (g.2 1, 7, .inl (zaB (al 5)))), (ra 6, .inr (2, [.int (iI (1970)), .int (iI (2299)), .ref (aa 6)])), (aa 6, .inl (g.2 1, 330, .inl (zaB (al 6)))), (hq, .inr (1, [.ref (ha), .int (iI (cnt))])), (ha, .inl (g.2 0, 200, .inl (zaI h)))] (some (.int (iI (bI (tOk (fFit (pDays al bits ru sub od) hol) (sOk (al 0) (al 1) (al 2)) tm))))) := by
  refine zs_open (by decide +kernel) (Nat.le_of_ble_eq_true rfl) ?_
  intro p e s m below meth c ls hx hb hml hr hlk hown hw hK hT hP hl
  have hown : s.vm.findClass "CronFinder" = some m.cls := hown
  have hl : lv_has ls 5 [(0, .ref (fq)), (1, .long (lI (tm)))] := hl
  refine lv_aload_n hx hb zd_F_is_0 rfl (lv_at hl 0 rfl) ?_
  refine lv_lload_n hx hb zd_F_is_1 rfl (lv_at hl 1 rfl) ?_
  refine zk_V (As := [.long (lI (tm))]) (b := fq) (own := "CronFinder") (nL := 5) (rest := []) hx hb hml hown hw (c_F_checkTime l g fq (tm) (by omega)) zw_3_16 zw_3_18 zw_0_15 zw_1_1 zw_3_19 (np := 1) (by decide +kernel) rfl (by decide) zN_mv hK trivial (hP.sub (ws' := []) [] rfl) (va_recv hK hP (ci := 0) (q0 := 0) rfl rfl) hl.1 rfl (Nat.le_of_ble_eq_true rfl) (by decide) zd_F_is_2 ?_
  refine lv_lload_n hx hb zd_F_is_5 rfl (lv_at hl 1 rfl) ?_
  refine lv_ldc2 hx hb hown (hw _ zw_3_27) zd_F_is_6 ?_
  refine zl_asx _ 86400 (by decide) ?_
  refine zi_ldiv hx hb zd_F_is_9 (by omega) ?_
  refine zi_l2i hx hb zd_F_is_10 ?_
  refine lv_istore_n (lv' := [(3, .int (iI (tm / 86400))), (0, .ref (fq)), (1, .long (lI (tm)))]) hx hb zd_F_is_11 rfl hl (by decide) rfl (fun ls hl => ?_)
  refine lv_lload_n hx hb zd_F_is_12 rfl (lv_at hl 2 rfl) ?_
  refine lv_ldc2 hx hb hown (hw _ zw_3_27) zd_F_is_13 ?_
  refine zl_asx _ 86400 (by decide) ?_
  refine zi_lrem hx hb zd_F_is_16 (by omega) ?_
  refine zi_l2i hx hb zd_F_is_17 ?_
  refine lv_istore (lv' := [(4, .int (iI (tm % 86400))), (3, .int (iI (tm / 86400))), (0, .ref (fq)), (1, .long (lI (tm)))]) hx hb zd_F_is_18 hl (by decide) rfl (fun ls hl => ?_)
  refine lv_aload_n hx hb zd_F_is_20 rfl (lv_at hl 2 rfl) ?_
  refine va_get (D := g.1) (ci := 0) (v := .ref (pq)) (C := zR_F) (T := zT_F) (N := 6) hx hb hw zin_F hown hK hP 0 rfl rfl 2 (by decide) (hw _ zw_1_108) (fun _ h9 => h9) rfl zd_F_is_21 ?_
  refine lv_iload_n hx hb zd_F_is_24 rfl (lv_at hl 1 rfl) ?_
  refine zk_V (As := [.int (iI (tm / 86400))]) (b := pq) (own := "CronFinder") (nL := 5) (rest := []) hx hb hml hown hw (c_P_firesOn l g pq ra aa al sub od bits t en tw (tm / 86400) (dMon (tm / 86400)) (dMon_sp (by omega)) hs ru hru (by omega)) zw_3_158 zw_3_159 zw_3_160 zw_1_2 zw_3_161 (np := 1) (by decide +kernel) rfl (by decide) (zS3_mv t en tw _) hK hT (hP.sub (ws' := [(pq, .inr (3, [.ref (ra 0), .ref (ra 1), .ref (ra 2), .ref (ra 3), .ref (ra 4), .ref (ra 5), .ref (ra 6), .ref (en ru), .int (iI (sub)), .int (iI (od)), .int (zbits (bits))])), (ra 0, .inr (2, [.int (iI (0)), .int (iI (59)), .ref (aa 0)])), (aa 0, .inl (g.2 1, 60, .inl (zaB (al 0)))), (ra 1, .inr (2, [.int (iI (0)), .int (iI (59)), .ref (aa 1)])), (aa 1, .inl (g.2 1, 60, .inl (zaB (al 1)))), (ra 2, .inr (2, [.int (iI (0)), .int (iI (23)), .ref (aa 2)])), (aa 2, .inl (g.2 1, 24, .inl (zaB (al 2)))), (ra 3, .inr (2, [.int (iI (1)), .int (iI (31)), .ref (aa 3)])), (aa 3, .inl (g.2 1, 31, .inl (zaB (al 3)))), (ra 4, .inr (2, [.int (iI (1)), .int (iI (12)), .ref (aa 4)])), (aa 4, .inl (g.2 1, 12, .inl (zaB (al 4)))), (ra 5, .inr (2, [.int (iI (1)), .int (iI (7)), .ref (aa 5)])), (aa 5, .inl (g.2 1, 7, .inl (zaB (al 5)))), (ra 6, .inr (2, [.int (iI (1970)), .int (iI (2299)), .ref (aa 6)])), (aa 6, .inl (g.2 1, 330, .inl (zaB (al 6))))]) [1, 2, 3, 4, 5, 6, 7, 8, 9, 10, 11, 12, 13, 14, 15] rfl) (va_recv hK hP (ci := 3) (q0 := 1) rfl rfl) hl.1 rfl (Nat.le_of_ble_eq_true rfl) (by decide) zd_F_is_25 ?_
  refine zb_if_eq (tgt := 60) hx hb zd_F_is_28 (by decide) (fun c28 => ?_) (fun c28 => ?_)
  · refine zi_iconst hx hb zd_F_is_60 ?_
    refine zb_as (x := tOk (fFit (pDays al bits ru sub od) hol) (sOk (al 0) (al 1) (al 2)) tm) (by first | (rw [tOk_F (fFit_n c28)]; rfl) | (rw [tOk_F (fFit_h c39)]; rfl) | (rw [tOk_G (sSF_no (by omega) hsf c53)]; rfl) | (rw [tOk_t rfl rfl (fFit_y c28 c39) (sSF_at (by omega) hsf c53)]; rfl)) ?_
    exact zs_zret hx hb hr hlk zd_F_is_61
  · refine lv_aload_n hx hb zd_F_is_31 rfl (lv_at hl 2 rfl) ?_
    refine va_get (D := g.1) (ci := 0) (v := .ref (hq)) (C := zR_F) (T := zT_F) (N := 6) hx hb hw zin_F hown hK hP 0 rfl rfl 5 (by decide) (hw _ zw_1_111) (fun _ h9 => h9) rfl zd_F_is_32 ?_
    refine lv_iload_n hx hb zd_F_is_35 rfl (lv_at hl 1 rfl) ?_
    refine zk_V (As := [.int (iI (tm / 86400))]) (b := hq) (own := "CronFinder") (nL := 5) (rest := []) hx hb hml hown hw (c_S_has l g hq ha h cnt hol hR (tm / 86400) (by omega)) zw_3_100 zw_2_222 zw_2_223 zw_1_6 zw_2_224 (np := 1) (by decide +kernel) rfl (by decide) zN_mv hK trivial (hP.sub (ws' := [(hq, .inr (1, [.ref (ha), .int (iI (cnt))])), (ha, .inl (g.2 0, 200, .inl (zaI h)))]) [16, 17] rfl) (va_recv hK hP (ci := 1) (q0 := 16) rfl rfl) hl.1 rfl (Nat.le_of_ble_eq_true rfl) (by decide) zd_F_is_36 ?_
    refine zb_if_ne (tgt := 60) hx hb zd_F_is_39 (by decide) (fun c39 => ?_) (fun c39 => ?_)
    · refine zi_iconst hx hb zd_F_is_60 ?_
      refine zb_as (x := tOk (fFit (pDays al bits ru sub od) hol) (sOk (al 0) (al 1) (al 2)) tm) (by first | (rw [tOk_F (fFit_n c28)]; rfl) | (rw [tOk_F (fFit_h c39)]; rfl) | (rw [tOk_G (sSF_no (by omega) hsf c53)]; rfl) | (rw [tOk_t rfl rfl (fFit_y c28 c39) (sSF_at (by omega) hsf c53)]; rfl)) ?_
      exact zs_zret hx hb hr hlk zd_F_is_61
    · refine lv_aload_n hx hb zd_F_is_42 rfl (lv_at hl 2 rfl) ?_
      refine va_get (D := g.1) (ci := 0) (v := .ref (pq)) (C := zR_F) (T := zT_F) (N := 6) hx hb hw zin_F hown hK hP 0 rfl rfl 2 (by decide) (hw _ zw_1_108) (fun _ h9 => h9) rfl zd_F_is_43 ?_
      refine lv_iload hx hb zd_F_is_46 (lv_at hl 0 rfl) ?_
      have hne := hok.resolve_left (fun q => by rw [q] at c28; cases c28)
      obtain ⟨r, hsf⟩ := sSF_ex (al 0) (al 1) (al 2) (x := tm % 86400) (by omega)
      have hsg := sSF_rg (by omega) hsf
      refine zk_V (As := [.int (iI (tm % 86400))]) (b := pq) (own := "CronFinder") (nL := 5) (rest := []) hx hb hml hown hw (c_P_secondFrom l g pq ra aa al (en ru) sub od bits (tm % 86400) r (by omega) hsf hne.1 hne.2.1) zw_3_101 zw_3_102 zw_3_103 zw_1_2 zw_3_104 (np := 1) (by decide +kernel) rfl (by decide) zN_mv hK trivial (hP.sub (ws' := [(pq, .inr (3, [.ref (ra 0), .ref (ra 1), .ref (ra 2), .ref (ra 3), .ref (ra 4), .ref (ra 5), .ref (ra 6), .ref (en ru), .int (iI (sub)), .int (iI (od)), .int (zbits (bits))])), (ra 0, .inr (2, [.int (iI (0)), .int (iI (59)), .ref (aa 0)])), (aa 0, .inl (g.2 1, 60, .inl (zaB (al 0)))), (ra 1, .inr (2, [.int (iI (0)), .int (iI (59)), .ref (aa 1)])), (aa 1, .inl (g.2 1, 60, .inl (zaB (al 1)))), (ra 2, .inr (2, [.int (iI (0)), .int (iI (23)), .ref (aa 2)])), (aa 2, .inl (g.2 1, 24, .inl (zaB (al 2))))]) [1, 2, 3, 4, 5, 6, 7] rfl) (va_recv hK hP (ci := 3) (q0 := 1) rfl rfl) hl.1 rfl (Nat.le_of_ble_eq_true rfl) (by decide) zd_F_is_48 ?_
      refine lv_iload hx hb zd_F_is_51 (lv_at hl 0 rfl) ?_
      refine zi_icmp_ne (tgt := 60) hx hb zd_F_is_53 (by decide) (by omega) (fun c53 => ?_) (fun c53 => ?_)
      · refine zi_iconst hx hb zd_F_is_60 ?_
        refine zb_as (x := tOk (fFit (pDays al bits ru sub od) hol) (sOk (al 0) (al 1) (al 2)) tm) (by first | (rw [tOk_F (fFit_n c28)]; rfl) | (rw [tOk_F (fFit_h c39)]; rfl) | (rw [tOk_G (sSF_no (by omega) hsf c53)]; rfl) | (rw [tOk_t rfl rfl (fFit_y c28 c39) (sSF_at (by omega) hsf c53)]; rfl)) ?_
        exact zs_zret hx hb hr hlk zd_F_is_61
      · refine zi_iconst hx hb zd_F_is_56 ?_
        refine lv_goto (tgt := 61) hx hb zd_F_is_57 (by decide) ?_
        refine zb_as (x := tOk (fFit (pDays al bits ru sub od) hol) (sOk (al 0) (al 1) (al 2)) tm) (by first | (rw [tOk_F (fFit_n c28)]; rfl) | (rw [tOk_F (fFit_h c39)]; rfl) | (rw [tOk_G (sSF_no (by omega) hsf c53)]; rfl) | (rw [tOk_t rfl rfl (fFit_y c28 c39) (sSF_at (by omega) hsf c53)]; rfl)) ?_
        exact zs_zret hx hb hr hlk zd_F_is_61
