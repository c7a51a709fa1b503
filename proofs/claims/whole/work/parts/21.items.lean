/-! Reader: items, last days, ordinals -/
theorem zd_R_readItems_0 : decode zc_R_readItems 0 = .ok (.iconst 0, 1) := by decide +kernel
theorem zd_R_readItems_1 : decode zc_R_readItems 1 = .ok (.istore_n 2, 1) := by decide +kernel
theorem zd_R_readItems_2 : decode zc_R_readItems 2 = .ok (.iload_n 2, 1) := by decide +kernel
theorem zd_R_readItems_3 : decode zc_R_readItems 3 = .ok (.aload_n 0, 1) := by decide +kernel
theorem zd_R_readItems_4 : decode zc_R_readItems 4 = .ok (.getfield 15, 3) := by decide +kernel
theorem zd_R_readItems_7 : decode zc_R_readItems 7 = .ok (.if_icmp .ge 30, 3) := by decide +kernel
theorem zd_R_readItems_10 : decode zc_R_readItems 10 = .ok (.aload_n 0, 1) := by decide +kernel
theorem zd_R_readItems_11 : decode zc_R_readItems 11 = .ok (.iload_n 1, 1) := by decide +kernel
theorem zd_R_readItems_12 : decode zc_R_readItems 12 = .ok (.invokevirtual 110, 3) := by decide +kernel
theorem zd_R_readItems_15 : decode zc_R_readItems 15 = .ok (.ifCond .ne 5, 3) := by decide +kernel
theorem zd_R_readItems_18 : decode zc_R_readItems 18 = .ok (.iconst 0, 1) := by decide +kernel
theorem zd_R_readItems_19 : decode zc_R_readItems 19 = .ok (.ireturn, 1) := by decide +kernel
theorem zd_R_readItems_20 : decode zc_R_readItems 20 = .ok (.aload_n 0, 1) := by decide +kernel
theorem zd_R_readItems_21 : decode zc_R_readItems 21 = .ok (.bipush 44, 2) := by decide +kernel
theorem zd_R_readItems_23 : decode zc_R_readItems 23 = .ok (.invokevirtual 64, 3) := by decide +kernel
theorem zd_R_readItems_26 : decode zc_R_readItems 26 = .ok (.ifCond .ne 5, 3) := by decide +kernel
theorem zd_R_readItems_29 : decode zc_R_readItems 29 = .ok (.iconst 1, 1) := by decide +kernel
theorem zd_R_readItems_30 : decode zc_R_readItems 30 = .ok (.ireturn, 1) := by decide +kernel
theorem zd_R_readItems_31 : decode zc_R_readItems 31 = .ok (.iinc 2 1, 3) := by decide +kernel
theorem zd_R_readItems_34 : decode zc_R_readItems 34 = .ok (.goto (-32), 3) := by decide +kernel
theorem zd_R_readItems_37 : decode zc_R_readItems 37 = .ok (.iconst 0, 1) := by decide +kernel
theorem zd_R_readItems_38 : decode zc_R_readItems 38 = .ok (.ireturn, 1) := by decide +kernel
theorem zd_R_readLastDay_0 : decode zc_R_readLastDay 0 = .ok (.aload_n 0, 1) := by decide +kernel
theorem zd_R_readLastDay_1 : decode zc_R_readLastDay 1 = .ok (.bipush 87, 2) := by decide +kernel
theorem zd_R_readLastDay_3 : decode zc_R_readLastDay 3 = .ok (.invokevirtual 64, 3) := by decide +kernel
theorem zd_R_readLastDay_6 : decode zc_R_readLastDay 6 = .ok (.ifCond .eq 17, 3) := by decide +kernel
theorem zd_R_readLastDay_9 : decode zc_R_readLastDay 9 = .ok (.aload_n 0, 1) := by decide +kernel
theorem zd_R_readLastDay_10 : decode zc_R_readLastDay 10 = .ok (.getfield 19, 3) := by decide +kernel
theorem zd_R_readLastDay_13 : decode zc_R_readLastDay 13 = .ok (.getstatic 84, 3) := by decide +kernel
theorem zd_R_readLastDay_16 : decode zc_R_readLastDay 16 = .ok (.iconst 0, 1) := by decide +kernel
theorem zd_R_readLastDay_17 : decode zc_R_readLastDay 17 = .ok (.iconst 0, 1) := by decide +kernel
theorem zd_R_readLastDay_18 : decode zc_R_readLastDay 18 = .ok (.invokevirtual 80, 3) := by decide +kernel
theorem zd_R_readLastDay_21 : decode zc_R_readLastDay 21 = .ok (.iconst 1, 1) := by decide +kernel
theorem zd_R_readLastDay_22 : decode zc_R_readLastDay 22 = .ok (.ireturn, 1) := by decide +kernel
theorem zd_R_readLastDay_23 : decode zc_R_readLastDay 23 = .ok (.aload_n 0, 1) := by decide +kernel
theorem zd_R_readLastDay_24 : decode zc_R_readLastDay 24 = .ok (.bipush 45, 2) := by decide +kernel
theorem zd_R_readLastDay_26 : decode zc_R_readLastDay 26 = .ok (.invokevirtual 64, 3) := by decide +kernel
theorem zd_R_readLastDay_29 : decode zc_R_readLastDay 29 = .ok (.ifCond .ne 17, 3) := by decide +kernel
theorem zd_R_readLastDay_32 : decode zc_R_readLastDay 32 = .ok (.aload_n 0, 1) := by decide +kernel
theorem zd_R_readLastDay_33 : decode zc_R_readLastDay 33 = .ok (.getfield 19, 3) := by decide +kernel
theorem zd_R_readLastDay_36 : decode zc_R_readLastDay 36 = .ok (.getstatic 87, 3) := by decide +kernel
theorem zd_R_readLastDay_39 : decode zc_R_readLastDay 39 = .ok (.iconst 0, 1) := by decide +kernel
theorem zd_R_readLastDay_40 : decode zc_R_readLastDay 40 = .ok (.iconst 0, 1) := by decide +kernel
theorem zd_R_readLastDay_41 : decode zc_R_readLastDay 41 = .ok (.invokevirtual 80, 3) := by decide +kernel
theorem zd_R_readLastDay_44 : decode zc_R_readLastDay 44 = .ok (.iconst 1, 1) := by decide +kernel
theorem zd_R_readLastDay_45 : decode zc_R_readLastDay 45 = .ok (.ireturn, 1) := by decide +kernel
theorem zd_R_readLastDay_46 : decode zc_R_readLastDay 46 = .ok (.aload_n 0, 1) := by decide +kernel
theorem zd_R_readLastDay_47 : decode zc_R_readLastDay 47 = .ok (.iconst 1, 1) := by decide +kernel
theorem zd_R_readLastDay_48 : decode zc_R_readLastDay 48 = .ok (.bipush 30, 2) := by decide +kernel
theorem zd_R_readLastDay_50 : decode zc_R_readLastDay 50 = .ok (.invokevirtual 90, 3) := by decide +kernel
theorem zd_R_readLastDay_53 : decode zc_R_readLastDay 53 = .ok (.ifCond .ne 5, 3) := by decide +kernel
theorem zd_R_readLastDay_56 : decode zc_R_readLastDay 56 = .ok (.iconst 0, 1) := by decide +kernel
theorem zd_R_readLastDay_57 : decode zc_R_readLastDay 57 = .ok (.ireturn, 1) := by decide +kernel
theorem zd_R_readLastDay_58 : decode zc_R_readLastDay 58 = .ok (.aload_n 0, 1) := by decide +kernel
theorem zd_R_readLastDay_59 : decode zc_R_readLastDay 59 = .ok (.getfield 19, 3) := by decide +kernel
theorem zd_R_readLastDay_62 : decode zc_R_readLastDay 62 = .ok (.getstatic 87, 3) := by decide +kernel
theorem zd_R_readLastDay_65 : decode zc_R_readLastDay 65 = .ok (.aload_n 0, 1) := by decide +kernel
theorem zd_R_readLastDay_66 : decode zc_R_readLastDay 66 = .ok (.getfield 26, 3) := by decide +kernel
theorem zd_R_readLastDay_69 : decode zc_R_readLastDay 69 = .ok (.iconst 0, 1) := by decide +kernel
theorem zd_R_readLastDay_70 : decode zc_R_readLastDay 70 = .ok (.invokevirtual 80, 3) := by decide +kernel
theorem zd_R_readLastDay_73 : decode zc_R_readLastDay 73 = .ok (.iconst 1, 1) := by decide +kernel
theorem zd_R_readLastDay_74 : decode zc_R_readLastDay 74 = .ok (.ireturn, 1) := by decide +kernel
theorem zd_R_readOrdinal_0 : decode zc_R_readOrdinal 0 = .ok (.aload_n 0, 1) := by decide +kernel
theorem zd_R_readOrdinal_1 : decode zc_R_readOrdinal 1 = .ok (.iconst 1, 1) := by decide +kernel
theorem zd_R_readOrdinal_2 : decode zc_R_readOrdinal 2 = .ok (.iconst 5, 1) := by decide +kernel
theorem zd_R_readOrdinal_3 : decode zc_R_readOrdinal 3 = .ok (.invokevirtual 90, 3) := by decide +kernel
theorem zd_R_readOrdinal_6 : decode zc_R_readOrdinal 6 = .ok (.ifCond .ne 5, 3) := by decide +kernel
theorem zd_R_readOrdinal_9 : decode zc_R_readOrdinal 9 = .ok (.iconst 0, 1) := by decide +kernel
theorem zd_R_readOrdinal_10 : decode zc_R_readOrdinal 10 = .ok (.ireturn, 1) := by decide +kernel
theorem zd_R_readOrdinal_11 : decode zc_R_readOrdinal 11 = .ok (.aload_n 0, 1) := by decide +kernel
theorem zd_R_readOrdinal_12 : decode zc_R_readOrdinal 12 = .ok (.getfield 19, 3) := by decide +kernel
theorem zd_R_readOrdinal_15 : decode zc_R_readOrdinal 15 = .ok (.getstatic 107, 3) := by decide +kernel
theorem zd_R_readOrdinal_18 : decode zc_R_readOrdinal 18 = .ok (.iload_n 1, 1) := by decide +kernel
theorem zd_R_readOrdinal_19 : decode zc_R_readOrdinal 19 = .ok (.aload_n 0, 1) := by decide +kernel
theorem zd_R_readOrdinal_20 : decode zc_R_readOrdinal 20 = .ok (.getfield 26, 3) := by decide +kernel
theorem zd_R_readOrdinal_23 : decode zc_R_readOrdinal 23 = .ok (.invokevirtual 80, 3) := by decide +kernel
theorem zd_R_readOrdinal_26 : decode zc_R_readOrdinal 26 = .ok (.iconst 1, 1) := by decide +kernel
theorem zd_R_readOrdinal_27 : decode zc_R_readOrdinal 27 = .ok (.ireturn, 1) := by decide +kernel
section ITEMS
variable {j : Nat} {tf : Nat → Int} {ln a vl b fr to v st : Int} {ok : Bool}
theorem pI1_rg (ha : 0 ≤ a ∧ a ≤ ln) (hj : j < 7) (h : pI1 j tf ln a vl = (ok, b, fr, to, v)) : a ≤ b ∧ b ≤ ln := by
  by_cases h1 : rk tf ln a = 42
  · rw [pI1_1 h1] at h; cases h
    have := rk_lt h1 (by decide)
    omega
  · by_cases h2 : vOk j tf ln a = true
    · have w1 := vOk_rg h2 ha hj
      by_cases h3 : rk tf ln (vAt j tf ln a) = 45
      · have w2 := rk_lt h3 (by decide)
        by_cases h4 : vOk j tf ln (vAt j tf ln a + 1) = true
        · have w3 := vOk_rg h4 (by omega) hj
          by_cases h5 : j = 6 ∧ vVl j tf ln (vAt j tf ln a + 1) < vVl j tf ln a
          · rw [pI1_4 h1 h2 h3 h4 h5] at h; cases h; omega
          · rw [pI1_5 h1 h2 h3 h4 h5] at h; cases h; omega
        · rw [pI1_3 h1 h2 h3 h4] at h; cases h; omega
      · by_cases h4 : rk tf ln (vAt j tf ln a) = 47
        · rw [pI1_6 h1 h2 h3 h4] at h; cases h; omega
        · rw [pI1_7 h1 h2 h3 h4] at h; cases h; omega
    · rw [pI1_2 h1 h2] at h; cases h; omega
theorem pI_rg (ha : 0 ≤ a ∧ a ≤ ln) (hj : j < 7) (h : pI j tf ln a vl = (ok, b, fr, to, st, v)) : a ≤ b ∧ b ≤ ln := by
  rcases hq : pI1 j tf ln a vl with ⟨ok1, b1, fr1, to1, v1⟩
  have w1 := pI1_rg ha hj hq
  cases ok1 with
  | false => rw [pI_0 hq] at h; cases h; exact w1
  | true =>
    by_cases h1 : rk tf ln b1 = 47
    · have w2 := rk_lt h1 (by decide)
      by_cases h2 : rNm tf ln 1 99 (b1 + 1)
      · have w3 := rNm_rg h2 (by omega)
        rw [pI_3 hq h1 h2] at h; cases h; omega
      · rw [pI_2 hq h1 h2] at h; cases h; omega
    · rw [pI_1 hq h1] at h; cases h; exact w1
/-- items, n of them at most: are they good, the place behind them, the value read last, the row -/
def pIs (j : Nat) (tf : Nat → Int) (ln : Int) : Nat → Int → Int → (Nat → Bool) → Bool × Int × Int × (Nat → Bool)
  | 0, a, vl, f => (false, a, vl, f)
  | n + 1, a, vl, f => match pI j tf ln a vl with
    | (false, b, _, _, _, v) => (false, b, v, f)
    | (true, b, fr, to, st, v) => if rk tf ln b = 44 then pIs j tf ln n (b + 1) v (pAf j true fr to st f) else (true, b, v, pAf j true fr to st f)
variable {n : Nat} {f : Nat → Bool}
theorem pIs_0 (h : n = 0) : pIs j tf ln n a vl f = (false, a, vl, f) := by rw [h]; rfl
theorem pIs_1 (h : pI j tf ln a vl = (false, b, fr, to, st, v)) : pIs j tf ln (n + 1) a vl f = (false, b, v, f) := by unfold pIs; rw [h]
theorem pIs_2 (h : pI j tf ln a vl = (true, b, fr, to, st, v)) (h1 : ¬ rk tf ln b = 44) : pIs j tf ln (n + 1) a vl f = (true, b, v, pAf j true fr to st f) := by rw [pIs, h]; exact if_neg h1
theorem pIs_3 (h : pI j tf ln a vl = (true, b, fr, to, st, v)) (h1 : rk tf ln b = 44) : pIs j tf ln (n + 1) a vl f = pIs j tf ln n (b + 1) v (pAf j true fr to st f) := by rw [pIs, h]; exact if_pos h1
theorem pIs_rg {f' : Nat → Bool} (hj : j < 7) (ha : 0 ≤ a ∧ a ≤ ln) (h : pIs j tf ln n a vl f = (ok, b, v, f')) : a ≤ b ∧ b ≤ ln := by
  induction n generalizing a vl f with
  | zero => rw [pIs_0 rfl] at h; cases h; omega
  | succ n ih =>
    rcases hq : pI j tf ln a vl with ⟨ok1, b1, fr1, to1, st1, v1⟩
    have w1 := pI_rg ha hj hq
    cases ok1 with
    | false => rw [pIs_1 hq] at h; cases h; exact w1
    | true =>
      by_cases h1 : rk tf ln b1 = 44
      · have w2 := rk_lt h1 (by decide)
        rw [pIs_3 hq h1] at h
        have := ih (by omega) h
        omega
      · rw [pIs_2 hq h1] at h; cases h; exact w1
end ITEMS
/-- behind an L: is it good, the place, the value read last, rule, subject, ordinal -/
def pLD (en : Nat → Nat) (tf : Nat → Int) (ln a vl : Int) (rl : Nat) (sub od : Int) : Bool × Int × Int × Nat × Int × Int :=
  if rk tf ln a = 87 then (true, a + 1, vl, en 2, 0, 0)
  else if ¬ rk tf ln a = 45 then (true, a, vl, en 1, 0, 0)
  else if (a + 1 < (num tf ln (a + 1)).1 ∧ 1 ≤ (num tf ln (a + 1)).2 ∧ (num tf ln (a + 1)).2 ≤ 30) then (true, (num tf ln (a + 1)).1, (num tf ln (a + 1)).2, en 1, (num tf ln (a + 1)).2, 0)
  else (false, a + 1, vl, rl, sub, od)
/-- behind a # -/
def pOr (en : Nat → Nat) (tf : Nat → Int) (ln wd a vl : Int) (rl : Nat) (sub od : Int) : Bool × Int × Int × Nat × Int × Int :=
  if (a < (num tf ln a).1 ∧ 1 ≤ (num tf ln a).2 ∧ (num tf ln a).2 ≤ 5) then (true, (num tf ln a).1, (num tf ln a).2, en 6, wd, (num tf ln a).2)
  else (false, a, vl, rl, sub, od)
section LASTS
variable {en : Nat → Nat} {tf : Nat → Int} {ln wd a vl sub od : Int} {rl : Nat}
theorem pLD_1 (h : rk tf ln a = 87) : pLD en tf ln a vl rl sub od = (true, a + 1, vl, en 2, 0, 0) := by rw [pLD, if_pos h]
theorem pLD_2 (h : ¬ rk tf ln a = 87) (h1 : ¬ rk tf ln a = 45) : pLD en tf ln a vl rl sub od = (true, a, vl, en 1, 0, 0) := by rw [pLD, if_neg h, if_pos h1]
theorem pLD_3 (h : ¬ rk tf ln a = 87) (h1 : rk tf ln a = 45) (h2 : rNm tf ln 1 30 (a + 1)) : pLD en tf ln a vl rl sub od = (true, (num tf ln (a + 1)).1, (num tf ln (a + 1)).2, en 1, (num tf ln (a + 1)).2, 0) := by unfold pLD; exact (if_neg h).trans ((if_neg (fun q => q h1)).trans (if_pos h2))
theorem pLD_4 (h : ¬ rk tf ln a = 87) (h1 : rk tf ln a = 45) (h2 : ¬ rNm tf ln 1 30 (a + 1)) : pLD en tf ln a vl rl sub od = (false, a + 1, vl, rl, sub, od) := by unfold pLD; exact (if_neg h).trans ((if_neg (fun q => q h1)).trans (if_neg h2))
theorem pOr_1 (h2 : rNm tf ln 1 5 a) : pOr en tf ln wd a vl rl sub od = (true, (num tf ln a).1, (num tf ln a).2, en 6, wd, (num tf ln a).2) := if_pos h2
theorem pOr_2 (h2 : ¬ rNm tf ln 1 5 a) : pOr en tf ln wd a vl rl sub od = (false, a, vl, rl, sub, od) := if_neg h2
end LASTS
set_option maxHeartbeats 4000000 in
set_option maxRecDepth 100000 in
theorem c_R_items_0 (l : Launch) (g : zGl) (rq tx : Nat) (tf : Nat → Int) (ln : Int) (pq : Nat) (at0 vl : Int) (op : Bool) (hln : 0 ≤ ln ∧ ln ≤ 400) (hat : 0 ≤ at0 ∧ at0 ≤ ln) (hch : ∀ j : Nat, 0 ≤ tf j ∧ tf j < 256) (ra : Nat → Nat) (aj : Nat) (f : Nat → Bool) (rl : Nat) (sub od : Int) (bits : Nat → Bool) (q1 v1 q2 v2 : Nat) (ok : Bool) (a' vl' : Int) (f' : Nat → Bool) (hres : pIs 0 tf ln ln.toNat at0 vl f = (ok, a', vl', f')) : zWi l zy_R_readItems zc_R_readItems 3 (some .boolean) ({ frames := 8, cells := 0, slots := 0, locals := 175 }) g (zRs q1 v1 q2 v2) [.ref (rq), .int (iI (0))] [(rq, .inr (4, [.ref (tx), .int (iI (ln)), .ref (pq), .int (iI (at0)), .int (iI (vl)), .int (iI (bI (op)))])), (tx, .inl (g.2 2, 400, .inl (zaI tf))), (pq, .inr (3, [.ref (ra 0), .ref (ra 1), .ref (ra 2), .ref (ra 3), .ref (ra 4), .ref (ra 5), .ref (ra 6), .ref (rl), .int (iI (sub)), .int (iI (od)), .int (zbits (bits))])), (ra 0, .inr (2, [.int (iI (0)), .int (iI (59)), .ref (aj)])), (aj, .inl (g.2 1, 60, .inl (zaB f)))] (some (.int (iI (bI (ok))))) [(rq, .inr (4, [.ref (tx), .int (iI (ln)), .ref (pq), .int (iI (a')), .int (iI (vl')), .int (iI (bI (op)))])), (tx, .inl (g.2 2, 400, .inl (zaI tf))), (pq, .inr (3, [.ref (ra 0), .ref (ra 1), .ref (ra 2), .ref (ra 3), .ref (ra 4), .ref (ra 5), .ref (ra 6), .ref (rl), .int (iI (sub)), .int (iI (od)), .int (zbits (bits))])), (ra 0, .inr (2, [.int (iI (0)), .int (iI (59)), .ref (aj)])), (aj, .inl (g.2 1, 60, .inl (zaB f')))] 0 0 := by
  refine zw_open (by decide +kernel) (Nat.le_of_ble_eq_true rfl) ?_
  intro p e s m below meth c ls A hx hb hml hr hlk hown hin hw hK hT hP hD hS hA hl
  have hown : s.vm.findClass "CronFinder$Reader" = some m.cls := hown
  have hl : lv_has ls 3 [(0, .ref (rq)), (1, .int (iI (0)))] := hl
  refine zi_iconst hx hb zd_R_readItems_0 ?_
  refine lv_istore_n (lv' := [(2, .int (iI (0))), (0, .ref (rq)), (1, .int (iI (0)))]) hx hb zd_R_readItems_1 rfl hl (by decide) rfl (fun ls hl => ?_)
  have loop : ∀ (n : Nat) (x v k : Int) (fc : Nat → Bool) (H : Heap) (locs : List Loc) (ls : Array Slot), (0 ≤ x ∧ x ≤ ln) → (pIs 0 tf ln (ln - k).toNat x v fc = (ok, a', vl', f')) → (0 ≤ k ∧ k ≤ ln) → ((ln - k).toNat < n) → va_P g.1 zCl [(rq, .inr (4, [.ref (tx), .int (iI (ln)), .ref (pq), .int (iI (x)), .int (iI (v)), .int (iI (bI (op)))])), (tx, .inl (g.2 2, 400, .inl (zaI tf))), (pq, .inr (3, [.ref (ra 0), .ref (ra 1), .ref (ra 2), .ref (ra 3), .ref (ra 4), .ref (ra 5), .ref (ra 6), .ref (rl), .int (iI (sub)), .int (iI (od)), .int (zbits (bits))])), (ra 0, .inr (2, [.int (iI (0)), .int (iI (59)), .ref (aj)])), (aj, .inl (g.2 1, 60, .inl (zaB fc)))] H → va_D A [(rq, .inr (4, [.ref (tx), .int (iI (ln)), .ref (pq), .int (iI (x)), .int (iI (v)), .int (iI (bI (op)))])), (tx, .inl (g.2 2, 400, .inl (zaI tf))), (pq, .inr (3, [.ref (ra 0), .ref (ra 1), .ref (ra 2), .ref (ra 3), .ref (ra 4), .ref (ra 5), .ref (ra 6), .ref (rl), .int (iI (sub)), .int (iI (od)), .int (zbits (bits))])), (ra 0, .inr (2, [.int (iI (0)), .int (iI (59)), .ref (aj)])), (aj, .inl (g.2 1, 60, .inl (zaB fc)))] → va_S A s.heap H locs → lv_has ls 3 [(2, .int (iI (k))), (0, .ref (rq)), (1, .int (iI (0)))] → W p l e ({ frames := 8, cells := 0, slots := 0, locals := 175 }) s m [.ref (rq), .int (iI (0))].toArray below meth c H locs 0 0 (MQ below (zWr g.1 zCl (some (.int (iI (bI (ok))))) [(rq, .inr (4, [.ref (tx), .int (iI (ln)), .ref (pq), .int (iI (a')), .int (iI (vl')), .int (iI (bI (op)))])), (tx, .inl (g.2 2, 400, .inl (zaI tf))), (pq, .inr (3, [.ref (ra 0), .ref (ra 1), .ref (ra 2), .ref (ra 3), .ref (ra 4), .ref (ra 5), .ref (ra 6), .ref (rl), .int (iI (sub)), .int (iI (od)), .int (zbits (bits))])), (ra 0, .inr (2, [.int (iI (0)), .int (iI (59)), .ref (aj)])), (aj, .inl (g.2 1, 60, .inl (zaB f')))] A) [.ref (rq), .int (iI (0))].toArray s 0 0 A) (F0 m 2 ls []) := by
    intro n
    induction n with
    | zero =>
      intro x v k fc H locs ls h1 hF hk h2 hP hD hS hl
      exact absurd h2 (by omega)
    | succ n ih =>
      intro x v k fc H locs ls h1 hF hk h2 hP hD hS hl
      refine lv_iload_n hx hb zd_R_readItems_2 rfl (lv_at hl 0 rfl) ?_
      refine lv_aload_n hx hb zd_R_readItems_3 rfl (lv_at hl 1 rfl) ?_
      refine va_get (D := g.1) (ci := 4) (v := .int (iI (ln))) (C := zR_R) (T := zT_R) (N := 6) hx hb hw zin_R hown hK hP 0 rfl rfl 1 (by decide) (hw _ zw_2_8) (fun _ h9 => h9) rfl zd_R_readItems_4 ?_
      refine zi_icmp_ge (tgt := 37) hx hb zd_R_readItems_7 (by decide) (by omega) (fun c7 => ?_) (fun c7 => ?_)
      · refine zi_iconst hx hb zd_R_readItems_37 ?_
        cases (pIs_0 (by omega)).symm.trans hF
        refine zb_as (x := false) rfl ?_
        exact zw_zret hx hb hr hlk hP hS zd_R_readItems_38
      · rw [show (ln - k).toNat = (ln - (k + 1)).toNat + 1 by omega] at hF
        refine lv_aload_n hx hb zd_R_readItems_10 rfl (lv_at hl 1 rfl) ?_
        refine lv_iload_n hx hb zd_R_readItems_11 rfl (lv_at hl 2 rfl) ?_
        rcases hq12 : pI 0 tf ln (x) (v) with ⟨ok1, b1, fr1, to1, st1, w1⟩
        have hr12 := pI_rg (by omega) (by decide) hq12
        refine zk_W (As := [.int (iI (0))]) (b := rq) (own := "CronFinder$Reader") (nL := 3) (rest := []) hx hb hml hown hw (c_R_item_0 l g rq tx tf ln pq (x) (v) op hln (by omega) hch ra (aj) fc rl sub od (bits) q1 v1 q2 v2 ok1 b1 fr1 to1 st1 w1 hq12) zw_2_165 zw_2_167 zw_0_11 zw_1_13 zw_2_168 (np := 1) (by decide +kernel) rfl (by decide) (zRs_mv q1 v1 q2 v2) hK (zRs_nar (zRs_now hT hS) (va_free hD hS hA [0, 1, 2, 3, 4] rfl)) hP hD hS hA [0, 1, 2, 3, 4] rfl (by decide) rfl (va_recv hK hP (ci := 4) (q0 := 0) rfl rfl) hl.1 rfl (Nat.le_of_ble_eq_true rfl) (by decide) zd_R_readItems_12 (fun H locs hP hD hS => ?_)
        have hP : va_P g.1 zCl [(rq, .inr (4, [.ref (tx), .int (iI (ln)), .ref (pq), .int (iI (b1)), .int (iI (w1)), .int (iI (bI (op)))])), (tx, .inl (g.2 2, 400, .inl (zaI tf))), (pq, .inr (3, [.ref (ra 0), .ref (ra 1), .ref (ra 2), .ref (ra 3), .ref (ra 4), .ref (ra 5), .ref (ra 6), .ref (rl), .int (iI (sub)), .int (iI (od)), .int (zbits (bits))])), (ra 0, .inr (2, [.int (iI (0)), .int (iI (59)), .ref (aj)])), (aj, .inl (g.2 1, 60, .inl (zaB (pAf 0 ok1 fr1 to1 st1 fc))))] H := hP
        have hD : va_D A [(rq, .inr (4, [.ref (tx), .int (iI (ln)), .ref (pq), .int (iI (b1)), .int (iI (w1)), .int (iI (bI (op)))])), (tx, .inl (g.2 2, 400, .inl (zaI tf))), (pq, .inr (3, [.ref (ra 0), .ref (ra 1), .ref (ra 2), .ref (ra 3), .ref (ra 4), .ref (ra 5), .ref (ra 6), .ref (rl), .int (iI (sub)), .int (iI (od)), .int (zbits (bits))])), (ra 0, .inr (2, [.int (iI (0)), .int (iI (59)), .ref (aj)])), (aj, .inl (g.2 1, 60, .inl (zaB (pAf 0 ok1 fr1 to1 st1 fc))))] := hD
        refine zb_if_ne (tgt := 20) hx hb zd_R_readItems_15 (by decide) (fun c15 => ?_) (fun c15 => ?_)
        · subst c15
          refine lv_aload_n hx hb zd_R_readItems_20 rfl (lv_at hl 1 rfl) ?_
          refine zi_bipush hx hb zd_R_readItems_21 (by decide) ?_
          by_cases ha23 : rk tf ln (b1) = 44
          · have hp23 := rk_lt ha23 (by decide)
            refine zk_W (As := [.int (iI (44))]) (b := rq) (own := "CronFinder$Reader") (nL := 3) (rest := []) hx hb hml hown hw (c_R_accept_y l g rq tx tf ln pq (b1) (w1) op hln (by omega) hch 44 (by decide) ha23) zw_2_69 zw_2_71 zw_0_4 zw_1_13 zw_2_72 (np := 1) (by decide +kernel) rfl (by decide) (fun _ => zN_mv) hK trivial hP hD hS hA [0, 1] rfl (by decide) rfl (va_recv hK hP (ci := 4) (q0 := 0) rfl rfl) hl.1 rfl (Nat.le_of_ble_eq_true rfl) (by decide) zd_R_readItems_23 (fun H locs hP hD hS => ?_)
            have hP : va_P g.1 zCl [(rq, .inr (4, [.ref (tx), .int (iI (ln)), .ref (pq), .int (iI (b1 + 1)), .int (iI (w1)), .int (iI (bI (op)))])), (tx, .inl (g.2 2, 400, .inl (zaI tf))), (pq, .inr (3, [.ref (ra 0), .ref (ra 1), .ref (ra 2), .ref (ra 3), .ref (ra 4), .ref (ra 5), .ref (ra 6), .ref (rl), .int (iI (sub)), .int (iI (od)), .int (zbits (bits))])), (ra 0, .inr (2, [.int (iI (0)), .int (iI (59)), .ref (aj)])), (aj, .inl (g.2 1, 60, .inl (zaB (pAf 0 true fr1 to1 st1 fc))))] H := hP
            have hD : va_D A [(rq, .inr (4, [.ref (tx), .int (iI (ln)), .ref (pq), .int (iI (b1 + 1)), .int (iI (w1)), .int (iI (bI (op)))])), (tx, .inl (g.2 2, 400, .inl (zaI tf))), (pq, .inr (3, [.ref (ra 0), .ref (ra 1), .ref (ra 2), .ref (ra 3), .ref (ra 4), .ref (ra 5), .ref (ra 6), .ref (rl), .int (iI (sub)), .int (iI (od)), .int (zbits (bits))])), (ra 0, .inr (2, [.int (iI (0)), .int (iI (59)), .ref (aj)])), (aj, .inl (g.2 1, 60, .inl (zaB (pAf 0 true fr1 to1 st1 fc))))] := hD
            refine zb_if_ne (tgt := 31) hx hb zd_R_readItems_26 (by decide) (fun _ => ?_) (fun c26 => by cases c26)
            refine lv_iinc (v := iI (k + 1)) (lv' := [(2, .int (iI (k + 1))), (0, .ref (rq)), (1, .int (iI (0)))]) hx hb zd_R_readItems_31 hl (k := 0) rfl (iI_add _ _) (by decide) rfl (fun ls hl => ?_)
            refine lv_goto (tgt := 2) hx hb zd_R_readItems_34 (by decide) ?_
            exact ih (b1 + 1) w1 (k + 1) _ H locs ls ⟨by omega, by omega⟩ ((pIs_3 hq12 ha23).symm.trans hF) ⟨by omega, by omega⟩ (by omega) hP hD hS (lv_sub hl [0, 1, 2] rfl)
          · refine zk_V (As := [.int (iI (44))]) (b := rq) (own := "CronFinder$Reader") (nL := 3) (rest := []) hx hb hml hown hw (c_R_accept_n l g rq tx tf ln pq (b1) (w1) op hln (by omega) hch 44 (by decide) ha23) zw_2_69 zw_2_71 zw_0_4 zw_1_13 zw_2_72 (np := 1) (by decide +kernel) rfl (by decide) zN_mv hK trivial (hP.sub (ws' := [(rq, .inr (4, [.ref (tx), .int (iI (ln)), .ref (pq), .int (iI (b1)), .int (iI (w1)), .int (iI (bI (op)))])), (tx, .inl (g.2 2, 400, .inl (zaI tf)))]) [0, 1] rfl) (va_recv hK hP (ci := 4) (q0 := 0) rfl rfl) hl.1 rfl (Nat.le_of_ble_eq_true rfl) (by decide) zd_R_readItems_23 ?_
            refine zb_if_ne (tgt := 31) hx hb zd_R_readItems_26 (by decide) (fun c26 => by cases c26) (fun _ => ?_)
            refine zi_iconst hx hb zd_R_readItems_29 ?_
            cases (pIs_2 hq12 ha23).symm.trans hF
            refine zb_as (x := true) rfl ?_
            exact zw_zret hx hb hr hlk hP hS zd_R_readItems_30
        · subst c15
          refine zi_iconst hx hb zd_R_readItems_18 ?_
          cases (pIs_1 hq12).symm.trans hF
          refine zb_as (x := false) rfl ?_
          exact zw_zret hx hb hr hlk hP hS zd_R_readItems_19
  exact loop 401 at0 vl 0 f s.heap [] ls ⟨by omega, by omega⟩ (by rw [show ln - 0 = ln by omega]; exact hres) ⟨by omega, by omega⟩ (by omega) hP hD hS (lv_sub hl [0, 1, 2] rfl)
set_option maxHeartbeats 4000000 in
set_option maxRecDepth 100000 in
theorem c_R_items_1 (l : Launch) (g : zGl) (rq tx : Nat) (tf : Nat → Int) (ln : Int) (pq : Nat) (at0 vl : Int) (op : Bool) (hln : 0 ≤ ln ∧ ln ≤ 400) (hat : 0 ≤ at0 ∧ at0 ≤ ln) (hch : ∀ j : Nat, 0 ≤ tf j ∧ tf j < 256) (ra : Nat → Nat) (aj : Nat) (f : Nat → Bool) (rl : Nat) (sub od : Int) (bits : Nat → Bool) (q1 v1 q2 v2 : Nat) (ok : Bool) (a' vl' : Int) (f' : Nat → Bool) (hres : pIs 1 tf ln ln.toNat at0 vl f = (ok, a', vl', f')) : zWi l zy_R_readItems zc_R_readItems 3 (some .boolean) ({ frames := 8, cells := 0, slots := 0, locals := 175 }) g (zRs q1 v1 q2 v2) [.ref (rq), .int (iI (1))] [(rq, .inr (4, [.ref (tx), .int (iI (ln)), .ref (pq), .int (iI (at0)), .int (iI (vl)), .int (iI (bI (op)))])), (tx, .inl (g.2 2, 400, .inl (zaI tf))), (pq, .inr (3, [.ref (ra 0), .ref (ra 1), .ref (ra 2), .ref (ra 3), .ref (ra 4), .ref (ra 5), .ref (ra 6), .ref (rl), .int (iI (sub)), .int (iI (od)), .int (zbits (bits))])), (ra 1, .inr (2, [.int (iI (0)), .int (iI (59)), .ref (aj)])), (aj, .inl (g.2 1, 60, .inl (zaB f)))] (some (.int (iI (bI (ok))))) [(rq, .inr (4, [.ref (tx), .int (iI (ln)), .ref (pq), .int (iI (a')), .int (iI (vl')), .int (iI (bI (op)))])), (tx, .inl (g.2 2, 400, .inl (zaI tf))), (pq, .inr (3, [.ref (ra 0), .ref (ra 1), .ref (ra 2), .ref (ra 3), .ref (ra 4), .ref (ra 5), .ref (ra 6), .ref (rl), .int (iI (sub)), .int (iI (od)), .int (zbits (bits))])), (ra 1, .inr (2, [.int (iI (0)), .int (iI (59)), .ref (aj)])), (aj, .inl (g.2 1, 60, .inl (zaB f')))] 0 0 := by
  refine zw_open (by decide +kernel) (Nat.le_of_ble_eq_true rfl) ?_
  intro p e s m below meth c ls A hx hb hml hr hlk hown hin hw hK hT hP hD hS hA hl
  have hown : s.vm.findClass "CronFinder$Reader" = some m.cls := hown
  have hl : lv_has ls 3 [(0, .ref (rq)), (1, .int (iI (1)))] := hl
  refine zi_iconst hx hb zd_R_readItems_0 ?_
  refine lv_istore_n (lv' := [(2, .int (iI (0))), (0, .ref (rq)), (1, .int (iI (1)))]) hx hb zd_R_readItems_1 rfl hl (by decide) rfl (fun ls hl => ?_)
  have loop : ∀ (n : Nat) (x v k : Int) (fc : Nat → Bool) (H : Heap) (locs : List Loc) (ls : Array Slot), (0 ≤ x ∧ x ≤ ln) → (pIs 1 tf ln (ln - k).toNat x v fc = (ok, a', vl', f')) → (0 ≤ k ∧ k ≤ ln) → ((ln - k).toNat < n) → va_P g.1 zCl [(rq, .inr (4, [.ref (tx), .int (iI (ln)), .ref (pq), .int (iI (x)), .int (iI (v)), .int (iI (bI (op)))])), (tx, .inl (g.2 2, 400, .inl (zaI tf))), (pq, .inr (3, [.ref (ra 0), .ref (ra 1), .ref (ra 2), .ref (ra 3), .ref (ra 4), .ref (ra 5), .ref (ra 6), .ref (rl), .int (iI (sub)), .int (iI (od)), .int (zbits (bits))])), (ra 1, .inr (2, [.int (iI (0)), .int (iI (59)), .ref (aj)])), (aj, .inl (g.2 1, 60, .inl (zaB fc)))] H → va_D A [(rq, .inr (4, [.ref (tx), .int (iI (ln)), .ref (pq), .int (iI (x)), .int (iI (v)), .int (iI (bI (op)))])), (tx, .inl (g.2 2, 400, .inl (zaI tf))), (pq, .inr (3, [.ref (ra 0), .ref (ra 1), .ref (ra 2), .ref (ra 3), .ref (ra 4), .ref (ra 5), .ref (ra 6), .ref (rl), .int (iI (sub)), .int (iI (od)), .int (zbits (bits))])), (ra 1, .inr (2, [.int (iI (0)), .int (iI (59)), .ref (aj)])), (aj, .inl (g.2 1, 60, .inl (zaB fc)))] → va_S A s.heap H locs → lv_has ls 3 [(2, .int (iI (k))), (0, .ref (rq)), (1, .int (iI (1)))] → W p l e ({ frames := 8, cells := 0, slots := 0, locals := 175 }) s m [.ref (rq), .int (iI (1))].toArray below meth c H locs 0 0 (MQ below (zWr g.1 zCl (some (.int (iI (bI (ok))))) [(rq, .inr (4, [.ref (tx), .int (iI (ln)), .ref (pq), .int (iI (a')), .int (iI (vl')), .int (iI (bI (op)))])), (tx, .inl (g.2 2, 400, .inl (zaI tf))), (pq, .inr (3, [.ref (ra 0), .ref (ra 1), .ref (ra 2), .ref (ra 3), .ref (ra 4), .ref (ra 5), .ref (ra 6), .ref (rl), .int (iI (sub)), .int (iI (od)), .int (zbits (bits))])), (ra 1, .inr (2, [.int (iI (0)), .int (iI (59)), .ref (aj)])), (aj, .inl (g.2 1, 60, .inl (zaB f')))] A) [.ref (rq), .int (iI (1))].toArray s 0 0 A) (F0 m 2 ls []) := by
    intro n
    induction n with
    | zero =>
      intro x v k fc H locs ls h1 hF hk h2 hP hD hS hl
      exact absurd h2 (by omega)
    | succ n ih =>
      intro x v k fc H locs ls h1 hF hk h2 hP hD hS hl
      refine lv_iload_n hx hb zd_R_readItems_2 rfl (lv_at hl 0 rfl) ?_
      refine lv_aload_n hx hb zd_R_readItems_3 rfl (lv_at hl 1 rfl) ?_
      refine va_get (D := g.1) (ci := 4) (v := .int (iI (ln))) (C := zR_R) (T := zT_R) (N := 6) hx hb hw zin_R hown hK hP 0 rfl rfl 1 (by decide) (hw _ zw_2_8) (fun _ h9 => h9) rfl zd_R_readItems_4 ?_
      refine zi_icmp_ge (tgt := 37) hx hb zd_R_readItems_7 (by decide) (by omega) (fun c7 => ?_) (fun c7 => ?_)
      · refine zi_iconst hx hb zd_R_readItems_37 ?_
        cases (pIs_0 (by omega)).symm.trans hF
        refine zb_as (x := false) rfl ?_
        exact zw_zret hx hb hr hlk hP hS zd_R_readItems_38
      · rw [show (ln - k).toNat = (ln - (k + 1)).toNat + 1 by omega] at hF
        refine lv_aload_n hx hb zd_R_readItems_10 rfl (lv_at hl 1 rfl) ?_
        refine lv_iload_n hx hb zd_R_readItems_11 rfl (lv_at hl 2 rfl) ?_
        rcases hq12 : pI 1 tf ln (x) (v) with ⟨ok1, b1, fr1, to1, st1, w1⟩
        have hr12 := pI_rg (by omega) (by decide) hq12
        refine zk_W (As := [.int (iI (1))]) (b := rq) (own := "CronFinder$Reader") (nL := 3) (rest := []) hx hb hml hown hw (c_R_item_1 l g rq tx tf ln pq (x) (v) op hln (by omega) hch ra (aj) fc rl sub od (bits) q1 v1 q2 v2 ok1 b1 fr1 to1 st1 w1 hq12) zw_2_165 zw_2_167 zw_0_11 zw_1_13 zw_2_168 (np := 1) (by decide +kernel) rfl (by decide) (zRs_mv q1 v1 q2 v2) hK (zRs_nar (zRs_now hT hS) (va_free hD hS hA [0, 1, 2, 3, 4] rfl)) hP hD hS hA [0, 1, 2, 3, 4] rfl (by decide) rfl (va_recv hK hP (ci := 4) (q0 := 0) rfl rfl) hl.1 rfl (Nat.le_of_ble_eq_true rfl) (by decide) zd_R_readItems_12 (fun H locs hP hD hS => ?_)
        have hP : va_P g.1 zCl [(rq, .inr (4, [.ref (tx), .int (iI (ln)), .ref (pq), .int (iI (b1)), .int (iI (w1)), .int (iI (bI (op)))])), (tx, .inl (g.2 2, 400, .inl (zaI tf))), (pq, .inr (3, [.ref (ra 0), .ref (ra 1), .ref (ra 2), .ref (ra 3), .ref (ra 4), .ref (ra 5), .ref (ra 6), .ref (rl), .int (iI (sub)), .int (iI (od)), .int (zbits (bits))])), (ra 1, .inr (2, [.int (iI (0)), .int (iI (59)), .ref (aj)])), (aj, .inl (g.2 1, 60, .inl (zaB (pAf 1 ok1 fr1 to1 st1 fc))))] H := hP
        have hD : va_D A [(rq, .inr (4, [.ref (tx), .int (iI (ln)), .ref (pq), .int (iI (b1)), .int (iI (w1)), .int (iI (bI (op)))])), (tx, .inl (g.2 2, 400, .inl (zaI tf))), (pq, .inr (3, [.ref (ra 0), .ref (ra 1), .ref (ra 2), .ref (ra 3), .ref (ra 4), .ref (ra 5), .ref (ra 6), .ref (rl), .int (iI (sub)), .int (iI (od)), .int (zbits (bits))])), (ra 1, .inr (2, [.int (iI (0)), .int (iI (59)), .ref (aj)])), (aj, .inl (g.2 1, 60, .inl (zaB (pAf 1 ok1 fr1 to1 st1 fc))))] := hD
        refine zb_if_ne (tgt := 20) hx hb zd_R_readItems_15 (by decide) (fun c15 => ?_) (fun c15 => ?_)
        · subst c15
          refine lv_aload_n hx hb zd_R_readItems_20 rfl (lv_at hl 1 rfl) ?_
          refine zi_bipush hx hb zd_R_readItems_21 (by decide) ?_
          by_cases ha23 : rk tf ln (b1) = 44
          · have hp23 := rk_lt ha23 (by decide)
            refine zk_W (As := [.int (iI (44))]) (b := rq) (own := "CronFinder$Reader") (nL := 3) (rest := []) hx hb hml hown hw (c_R_accept_y l g rq tx tf ln pq (b1) (w1) op hln (by omega) hch 44 (by decide) ha23) zw_2_69 zw_2_71 zw_0_4 zw_1_13 zw_2_72 (np := 1) (by decide +kernel) rfl (by decide) (fun _ => zN_mv) hK trivial hP hD hS hA [0, 1] rfl (by decide) rfl (va_recv hK hP (ci := 4) (q0 := 0) rfl rfl) hl.1 rfl (Nat.le_of_ble_eq_true rfl) (by decide) zd_R_readItems_23 (fun H locs hP hD hS => ?_)
            have hP : va_P g.1 zCl [(rq, .inr (4, [.ref (tx), .int (iI (ln)), .ref (pq), .int (iI (b1 + 1)), .int (iI (w1)), .int (iI (bI (op)))])), (tx, .inl (g.2 2, 400, .inl (zaI tf))), (pq, .inr (3, [.ref (ra 0), .ref (ra 1), .ref (ra 2), .ref (ra 3), .ref (ra 4), .ref (ra 5), .ref (ra 6), .ref (rl), .int (iI (sub)), .int (iI (od)), .int (zbits (bits))])), (ra 1, .inr (2, [.int (iI (0)), .int (iI (59)), .ref (aj)])), (aj, .inl (g.2 1, 60, .inl (zaB (pAf 1 true fr1 to1 st1 fc))))] H := hP
            have hD : va_D A [(rq, .inr (4, [.ref (tx), .int (iI (ln)), .ref (pq), .int (iI (b1 + 1)), .int (iI (w1)), .int (iI (bI (op)))])), (tx, .inl (g.2 2, 400, .inl (zaI tf))), (pq, .inr (3, [.ref (ra 0), .ref (ra 1), .ref (ra 2), .ref (ra 3), .ref (ra 4), .ref (ra 5), .ref (ra 6), .ref (rl), .int (iI (sub)), .int (iI (od)), .int (zbits (bits))])), (ra 1, .inr (2, [.int (iI (0)), .int (iI (59)), .ref (aj)])), (aj, .inl (g.2 1, 60, .inl (zaB (pAf 1 true fr1 to1 st1 fc))))] := hD
            refine zb_if_ne (tgt := 31) hx hb zd_R_readItems_26 (by decide) (fun _ => ?_) (fun c26 => by cases c26)
            refine lv_iinc (v := iI (k + 1)) (lv' := [(2, .int (iI (k + 1))), (0, .ref (rq)), (1, .int (iI (1)))]) hx hb zd_R_readItems_31 hl (k := 0) rfl (iI_add _ _) (by decide) rfl (fun ls hl => ?_)
            refine lv_goto (tgt := 2) hx hb zd_R_readItems_34 (by decide) ?_
            exact ih (b1 + 1) w1 (k + 1) _ H locs ls ⟨by omega, by omega⟩ ((pIs_3 hq12 ha23).symm.trans hF) ⟨by omega, by omega⟩ (by omega) hP hD hS (lv_sub hl [0, 1, 2] rfl)
          · refine zk_V (As := [.int (iI (44))]) (b := rq) (own := "CronFinder$Reader") (nL := 3) (rest := []) hx hb hml hown hw (c_R_accept_n l g rq tx tf ln pq (b1) (w1) op hln (by omega) hch 44 (by decide) ha23) zw_2_69 zw_2_71 zw_0_4 zw_1_13 zw_2_72 (np := 1) (by decide +kernel) rfl (by decide) zN_mv hK trivial (hP.sub (ws' := [(rq, .inr (4, [.ref (tx), .int (iI (ln)), .ref (pq), .int (iI (b1)), .int (iI (w1)), .int (iI (bI (op)))])), (tx, .inl (g.2 2, 400, .inl (zaI tf)))]) [0, 1] rfl) (va_recv hK hP (ci := 4) (q0 := 0) rfl rfl) hl.1 rfl (Nat.le_of_ble_eq_true rfl) (by decide) zd_R_readItems_23 ?_
            refine zb_if_ne (tgt := 31) hx hb zd_R_readItems_26 (by decide) (fun c26 => by cases c26) (fun _ => ?_)
            refine zi_iconst hx hb zd_R_readItems_29 ?_
            cases (pIs_2 hq12 ha23).symm.trans hF
            refine zb_as (x := true) rfl ?_
            exact zw_zret hx hb hr hlk hP hS zd_R_readItems_30
        · subst c15
          refine zi_iconst hx hb zd_R_readItems_18 ?_
          cases (pIs_1 hq12).symm.trans hF
          refine zb_as (x := false) rfl ?_
          exact zw_zret hx hb hr hlk hP hS zd_R_readItems_19
  exact loop 401 at0 vl 0 f s.heap [] ls ⟨by omega, by omega⟩ (by rw [show ln - 0 = ln by omega]; exact hres) ⟨by omega, by omega⟩ (by omega) hP hD hS (lv_sub hl [0, 1, 2] rfl)
set_option maxHeartbeats 4000000 in
set_option maxRecDepth 100000 in
theorem c_R_items_2 (l : Launch) (g : zGl) (rq tx : Nat) (tf : Nat → Int) (ln : Int) (pq : Nat) (at0 vl : Int) (op : Bool) (hln : 0 ≤ ln ∧ ln ≤ 400) (hat : 0 ≤ at0 ∧ at0 ≤ ln) (hch : ∀ j : Nat, 0 ≤ tf j ∧ tf j < 256) (ra : Nat → Nat) (aj : Nat) (f : Nat → Bool) (rl : Nat) (sub od : Int) (bits : Nat → Bool) (q1 v1 q2 v2 : Nat) (ok : Bool) (a' vl' : Int) (f' : Nat → Bool) (hres : pIs 2 tf ln ln.toNat at0 vl f = (ok, a', vl', f')) : zWi l zy_R_readItems zc_R_readItems 3 (some .boolean) ({ frames := 8, cells := 0, slots := 0, locals := 175 }) g (zRs q1 v1 q2 v2) [.ref (rq), .int (iI (2))] [(rq, .inr (4, [.ref (tx), .int (iI (ln)), .ref (pq), .int (iI (at0)), .int (iI (vl)), .int (iI (bI (op)))])), (tx, .inl (g.2 2, 400, .inl (zaI tf))), (pq, .inr (3, [.ref (ra 0), .ref (ra 1), .ref (ra 2), .ref (ra 3), .ref (ra 4), .ref (ra 5), .ref (ra 6), .ref (rl), .int (iI (sub)), .int (iI (od)), .int (zbits (bits))])), (ra 2, .inr (2, [.int (iI (0)), .int (iI (23)), .ref (aj)])), (aj, .inl (g.2 1, 24, .inl (zaB f)))] (some (.int (iI (bI (ok))))) [(rq, .inr (4, [.ref (tx), .int (iI (ln)), .ref (pq), .int (iI (a')), .int (iI (vl')), .int (iI (bI (op)))])), (tx, .inl (g.2 2, 400, .inl (zaI tf))), (pq, .inr (3, [.ref (ra 0), .ref (ra 1), .ref (ra 2), .ref (ra 3), .ref (ra 4), .ref (ra 5), .ref (ra 6), .ref (rl), .int (iI (sub)), .int (iI (od)), .int (zbits (bits))])), (ra 2, .inr (2, [.int (iI (0)), .int (iI (23)), .ref (aj)])), (aj, .inl (g.2 1, 24, .inl (zaB f')))] 0 0 := by
  refine zw_open (by decide +kernel) (Nat.le_of_ble_eq_true rfl) ?_
  intro p e s m below meth c ls A hx hb hml hr hlk hown hin hw hK hT hP hD hS hA hl
  have hown : s.vm.findClass "CronFinder$Reader" = some m.cls := hown
  have hl : lv_has ls 3 [(0, .ref (rq)), (1, .int (iI (2)))] := hl
  refine zi_iconst hx hb zd_R_readItems_0 ?_
  refine lv_istore_n (lv' := [(2, .int (iI (0))), (0, .ref (rq)), (1, .int (iI (2)))]) hx hb zd_R_readItems_1 rfl hl (by decide) rfl (fun ls hl => ?_)
  have loop : ∀ (n : Nat) (x v k : Int) (fc : Nat → Bool) (H : Heap) (locs : List Loc) (ls : Array Slot), (0 ≤ x ∧ x ≤ ln) → (pIs 2 tf ln (ln - k).toNat x v fc = (ok, a', vl', f')) → (0 ≤ k ∧ k ≤ ln) → ((ln - k).toNat < n) → va_P g.1 zCl [(rq, .inr (4, [.ref (tx), .int (iI (ln)), .ref (pq), .int (iI (x)), .int (iI (v)), .int (iI (bI (op)))])), (tx, .inl (g.2 2, 400, .inl (zaI tf))), (pq, .inr (3, [.ref (ra 0), .ref (ra 1), .ref (ra 2), .ref (ra 3), .ref (ra 4), .ref (ra 5), .ref (ra 6), .ref (rl), .int (iI (sub)), .int (iI (od)), .int (zbits (bits))])), (ra 2, .inr (2, [.int (iI (0)), .int (iI (23)), .ref (aj)])), (aj, .inl (g.2 1, 24, .inl (zaB fc)))] H → va_D A [(rq, .inr (4, [.ref (tx), .int (iI (ln)), .ref (pq), .int (iI (x)), .int (iI (v)), .int (iI (bI (op)))])), (tx, .inl (g.2 2, 400, .inl (zaI tf))), (pq, .inr (3, [.ref (ra 0), .ref (ra 1), .ref (ra 2), .ref (ra 3), .ref (ra 4), .ref (ra 5), .ref (ra 6), .ref (rl), .int (iI (sub)), .int (iI (od)), .int (zbits (bits))])), (ra 2, .inr (2, [.int (iI (0)), .int (iI (23)), .ref (aj)])), (aj, .inl (g.2 1, 24, .inl (zaB fc)))] → va_S A s.heap H locs → lv_has ls 3 [(2, .int (iI (k))), (0, .ref (rq)), (1, .int (iI (2)))] → W p l e ({ frames := 8, cells := 0, slots := 0, locals := 175 }) s m [.ref (rq), .int (iI (2))].toArray below meth c H locs 0 0 (MQ below (zWr g.1 zCl (some (.int (iI (bI (ok))))) [(rq, .inr (4, [.ref (tx), .int (iI (ln)), .ref (pq), .int (iI (a')), .int (iI (vl')), .int (iI (bI (op)))])), (tx, .inl (g.2 2, 400, .inl (zaI tf))), (pq, .inr (3, [.ref (ra 0), .ref (ra 1), .ref (ra 2), .ref (ra 3), .ref (ra 4), .ref (ra 5), .ref (ra 6), .ref (rl), .int (iI (sub)), .int (iI (od)), .int (zbits (bits))])), (ra 2, .inr (2, [.int (iI (0)), .int (iI (23)), .ref (aj)])), (aj, .inl (g.2 1, 24, .inl (zaB f')))] A) [.ref (rq), .int (iI (2))].toArray s 0 0 A) (F0 m 2 ls []) := by
    intro n
    induction n with
    | zero =>
      intro x v k fc H locs ls h1 hF hk h2 hP hD hS hl
      exact absurd h2 (by omega)
    | succ n ih =>
      intro x v k fc H locs ls h1 hF hk h2 hP hD hS hl
      refine lv_iload_n hx hb zd_R_readItems_2 rfl (lv_at hl 0 rfl) ?_
      refine lv_aload_n hx hb zd_R_readItems_3 rfl (lv_at hl 1 rfl) ?_
      refine va_get (D := g.1) (ci := 4) (v := .int (iI (ln))) (C := zR_R) (T := zT_R) (N := 6) hx hb hw zin_R hown hK hP 0 rfl rfl 1 (by decide) (hw _ zw_2_8) (fun _ h9 => h9) rfl zd_R_readItems_4 ?_
      refine zi_icmp_ge (tgt := 37) hx hb zd_R_readItems_7 (by decide) (by omega) (fun c7 => ?_) (fun c7 => ?_)
      · refine zi_iconst hx hb zd_R_readItems_37 ?_
        cases (pIs_0 (by omega)).symm.trans hF
        refine zb_as (x := false) rfl ?_
        exact zw_zret hx hb hr hlk hP hS zd_R_readItems_38
      · rw [show (ln - k).toNat = (ln - (k + 1)).toNat + 1 by omega] at hF
        refine lv_aload_n hx hb zd_R_readItems_10 rfl (lv_at hl 1 rfl) ?_
        refine lv_iload_n hx hb zd_R_readItems_11 rfl (lv_at hl 2 rfl) ?_
        rcases hq12 : pI 2 tf ln (x) (v) with ⟨ok1, b1, fr1, to1, st1, w1⟩
        have hr12 := pI_rg (by omega) (by decide) hq12
        refine zk_W (As := [.int (iI (2))]) (b := rq) (own := "CronFinder$Reader") (nL := 3) (rest := []) hx hb hml hown hw (c_R_item_2 l g rq tx tf ln pq (x) (v) op hln (by omega) hch ra (aj) fc rl sub od (bits) q1 v1 q2 v2 ok1 b1 fr1 to1 st1 w1 hq12) zw_2_165 zw_2_167 zw_0_11 zw_1_13 zw_2_168 (np := 1) (by decide +kernel) rfl (by decide) (zRs_mv q1 v1 q2 v2) hK (zRs_nar (zRs_now hT hS) (va_free hD hS hA [0, 1, 2, 3, 4] rfl)) hP hD hS hA [0, 1, 2, 3, 4] rfl (by decide) rfl (va_recv hK hP (ci := 4) (q0 := 0) rfl rfl) hl.1 rfl (Nat.le_of_ble_eq_true rfl) (by decide) zd_R_readItems_12 (fun H locs hP hD hS => ?_)
        have hP : va_P g.1 zCl [(rq, .inr (4, [.ref (tx), .int (iI (ln)), .ref (pq), .int (iI (b1)), .int (iI (w1)), .int (iI (bI (op)))])), (tx, .inl (g.2 2, 400, .inl (zaI tf))), (pq, .inr (3, [.ref (ra 0), .ref (ra 1), .ref (ra 2), .ref (ra 3), .ref (ra 4), .ref (ra 5), .ref (ra 6), .ref (rl), .int (iI (sub)), .int (iI (od)), .int (zbits (bits))])), (ra 2, .inr (2, [.int (iI (0)), .int (iI (23)), .ref (aj)])), (aj, .inl (g.2 1, 24, .inl (zaB (pAf 2 ok1 fr1 to1 st1 fc))))] H := hP
        have hD : va_D A [(rq, .inr (4, [.ref (tx), .int (iI (ln)), .ref (pq), .int (iI (b1)), .int (iI (w1)), .int (iI (bI (op)))])), (tx, .inl (g.2 2, 400, .inl (zaI tf))), (pq, .inr (3, [.ref (ra 0), .ref (ra 1), .ref (ra 2), .ref (ra 3), .ref (ra 4), .ref (ra 5), .ref (ra 6), .ref (rl), .int (iI (sub)), .int (iI (od)), .int (zbits (bits))])), (ra 2, .inr (2, [.int (iI (0)), .int (iI (23)), .ref (aj)])), (aj, .inl (g.2 1, 24, .inl (zaB (pAf 2 ok1 fr1 to1 st1 fc))))] := hD
        refine zb_if_ne (tgt := 20) hx hb zd_R_readItems_15 (by decide) (fun c15 => ?_) (fun c15 => ?_)
        · subst c15
          refine lv_aload_n hx hb zd_R_readItems_20 rfl (lv_at hl 1 rfl) ?_
          refine zi_bipush hx hb zd_R_readItems_21 (by decide) ?_
          by_cases ha23 : rk tf ln (b1) = 44
          · have hp23 := rk_lt ha23 (by decide)
            refine zk_W (As := [.int (iI (44))]) (b := rq) (own := "CronFinder$Reader") (nL := 3) (rest := []) hx hb hml hown hw (c_R_accept_y l g rq tx tf ln pq (b1) (w1) op hln (by omega) hch 44 (by decide) ha23) zw_2_69 zw_2_71 zw_0_4 zw_1_13 zw_2_72 (np := 1) (by decide +kernel) rfl (by decide) (fun _ => zN_mv) hK trivial hP hD hS hA [0, 1] rfl (by decide) rfl (va_recv hK hP (ci := 4) (q0 := 0) rfl rfl) hl.1 rfl (Nat.le_of_ble_eq_true rfl) (by decide) zd_R_readItems_23 (fun H locs hP hD hS => ?_)
            have hP : va_P g.1 zCl [(rq, .inr (4, [.ref (tx), .int (iI (ln)), .ref (pq), .int (iI (b1 + 1)), .int (iI (w1)), .int (iI (bI (op)))])), (tx, .inl (g.2 2, 400, .inl (zaI tf))), (pq, .inr (3, [.ref (ra 0), .ref (ra 1), .ref (ra 2), .ref (ra 3), .ref (ra 4), .ref (ra 5), .ref (ra 6), .ref (rl), .int (iI (sub)), .int (iI (od)), .int (zbits (bits))])), (ra 2, .inr (2, [.int (iI (0)), .int (iI (23)), .ref (aj)])), (aj, .inl (g.2 1, 24, .inl (zaB (pAf 2 true fr1 to1 st1 fc))))] H := hP
            have hD : va_D A [(rq, .inr (4, [.ref (tx), .int (iI (ln)), .ref (pq), .int (iI (b1 + 1)), .int (iI (w1)), .int (iI (bI (op)))])), (tx, .inl (g.2 2, 400, .inl (zaI tf))), (pq, .inr (3, [.ref (ra 0), .ref (ra 1), .ref (ra 2), .ref (ra 3), .ref (ra 4), .ref (ra 5), .ref (ra 6), .ref (rl), .int (iI (sub)), .int (iI (od)), .int (zbits (bits))])), (ra 2, .inr (2, [.int (iI (0)), .int (iI (23)), .ref (aj)])), (aj, .inl (g.2 1, 24, .inl (zaB (pAf 2 true fr1 to1 st1 fc))))] := hD
            refine zb_if_ne (tgt := 31) hx hb zd_R_readItems_26 (by decide) (fun _ => ?_) (fun c26 => by cases c26)
            refine lv_iinc (v := iI (k + 1)) (lv' := [(2, .int (iI (k + 1))), (0, .ref (rq)), (1, .int (iI (2)))]) hx hb zd_R_readItems_31 hl (k := 0) rfl (iI_add _ _) (by decide) rfl (fun ls hl => ?_)
            refine lv_goto (tgt := 2) hx hb zd_R_readItems_34 (by decide) ?_
            exact ih (b1 + 1) w1 (k + 1) _ H locs ls ⟨by omega, by omega⟩ ((pIs_3 hq12 ha23).symm.trans hF) ⟨by omega, by omega⟩ (by omega) hP hD hS (lv_sub hl [0, 1, 2] rfl)
          · refine zk_V (As := [.int (iI (44))]) (b := rq) (own := "CronFinder$Reader") (nL := 3) (rest := []) hx hb hml hown hw (c_R_accept_n l g rq tx tf ln pq (b1) (w1) op hln (by omega) hch 44 (by decide) ha23) zw_2_69 zw_2_71 zw_0_4 zw_1_13 zw_2_72 (np := 1) (by decide +kernel) rfl (by decide) zN_mv hK trivial (hP.sub (ws' := [(rq, .inr (4, [.ref (tx), .int (iI (ln)), .ref (pq), .int (iI (b1)), .int (iI (w1)), .int (iI (bI (op)))])), (tx, .inl (g.2 2, 400, .inl (zaI tf)))]) [0, 1] rfl) (va_recv hK hP (ci := 4) (q0 := 0) rfl rfl) hl.1 rfl (Nat.le_of_ble_eq_true rfl) (by decide) zd_R_readItems_23 ?_
            refine zb_if_ne (tgt := 31) hx hb zd_R_readItems_26 (by decide) (fun c26 => by cases c26) (fun _ => ?_)
            refine zi_iconst hx hb zd_R_readItems_29 ?_
            cases (pIs_2 hq12 ha23).symm.trans hF
            refine zb_as (x := true) rfl ?_
            exact zw_zret hx hb hr hlk hP hS zd_R_readItems_30
        · subst c15
          refine zi_iconst hx hb zd_R_readItems_18 ?_
          cases (pIs_1 hq12).symm.trans hF
          refine zb_as (x := false) rfl ?_
          exact zw_zret hx hb hr hlk hP hS zd_R_readItems_19
  exact loop 401 at0 vl 0 f s.heap [] ls ⟨by omega, by omega⟩ (by rw [show ln - 0 = ln by omega]; exact hres) ⟨by omega, by omega⟩ (by omega) hP hD hS (lv_sub hl [0, 1, 2] rfl)
set_option maxHeartbeats 4000000 in
set_option maxRecDepth 100000 in
theorem c_R_items_3 (l : Launch) (g : zGl) (rq tx : Nat) (tf : Nat → Int) (ln : Int) (pq : Nat) (at0 vl : Int) (op : Bool) (hln : 0 ≤ ln ∧ ln ≤ 400) (hat : 0 ≤ at0 ∧ at0 ≤ ln) (hch : ∀ j : Nat, 0 ≤ tf j ∧ tf j < 256) (ra : Nat → Nat) (aj : Nat) (f : Nat → Bool) (rl : Nat) (sub od : Int) (bits : Nat → Bool) (q1 v1 q2 v2 : Nat) (ok : Bool) (a' vl' : Int) (f' : Nat → Bool) (hres : pIs 3 tf ln ln.toNat at0 vl f = (ok, a', vl', f')) : zWi l zy_R_readItems zc_R_readItems 3 (some .boolean) ({ frames := 8, cells := 0, slots := 0, locals := 175 }) g (zRs q1 v1 q2 v2) [.ref (rq), .int (iI (3))] [(rq, .inr (4, [.ref (tx), .int (iI (ln)), .ref (pq), .int (iI (at0)), .int (iI (vl)), .int (iI (bI (op)))])), (tx, .inl (g.2 2, 400, .inl (zaI tf))), (pq, .inr (3, [.ref (ra 0), .ref (ra 1), .ref (ra 2), .ref (ra 3), .ref (ra 4), .ref (ra 5), .ref (ra 6), .ref (rl), .int (iI (sub)), .int (iI (od)), .int (zbits (bits))])), (ra 3, .inr (2, [.int (iI (1)), .int (iI (31)), .ref (aj)])), (aj, .inl (g.2 1, 31, .inl (zaB f)))] (some (.int (iI (bI (ok))))) [(rq, .inr (4, [.ref (tx), .int (iI (ln)), .ref (pq), .int (iI (a')), .int (iI (vl')), .int (iI (bI (op)))])), (tx, .inl (g.2 2, 400, .inl (zaI tf))), (pq, .inr (3, [.ref (ra 0), .ref (ra 1), .ref (ra 2), .ref (ra 3), .ref (ra 4), .ref (ra 5), .ref (ra 6), .ref (rl), .int (iI (sub)), .int (iI (od)), .int (zbits (bits))])), (ra 3, .inr (2, [.int (iI (1)), .int (iI (31)), .ref (aj)])), (aj, .inl (g.2 1, 31, .inl (zaB f')))] 0 0 := by
  refine zw_open (by decide +kernel) (Nat.le_of_ble_eq_true rfl) ?_
  intro p e s m below meth c ls A hx hb hml hr hlk hown hin hw hK hT hP hD hS hA hl
  have hown : s.vm.findClass "CronFinder$Reader" = some m.cls := hown
  have hl : lv_has ls 3 [(0, .ref (rq)), (1, .int (iI (3)))] := hl
  refine zi_iconst hx hb zd_R_readItems_0 ?_
  refine lv_istore_n (lv' := [(2, .int (iI (0))), (0, .ref (rq)), (1, .int (iI (3)))]) hx hb zd_R_readItems_1 rfl hl (by decide) rfl (fun ls hl => ?_)
  have loop : ∀ (n : Nat) (x v k : Int) (fc : Nat → Bool) (H : Heap) (locs : List Loc) (ls : Array Slot), (0 ≤ x ∧ x ≤ ln) → (pIs 3 tf ln (ln - k).toNat x v fc = (ok, a', vl', f')) → (0 ≤ k ∧ k ≤ ln) → ((ln - k).toNat < n) → va_P g.1 zCl [(rq, .inr (4, [.ref (tx), .int (iI (ln)), .ref (pq), .int (iI (x)), .int (iI (v)), .int (iI (bI (op)))])), (tx, .inl (g.2 2, 400, .inl (zaI tf))), (pq, .inr (3, [.ref (ra 0), .ref (ra 1), .ref (ra 2), .ref (ra 3), .ref (ra 4), .ref (ra 5), .ref (ra 6), .ref (rl), .int (iI (sub)), .int (iI (od)), .int (zbits (bits))])), (ra 3, .inr (2, [.int (iI (1)), .int (iI (31)), .ref (aj)])), (aj, .inl (g.2 1, 31, .inl (zaB fc)))] H → va_D A [(rq, .inr (4, [.ref (tx), .int (iI (ln)), .ref (pq), .int (iI (x)), .int (iI (v)), .int (iI (bI (op)))])), (tx, .inl (g.2 2, 400, .inl (zaI tf))), (pq, .inr (3, [.ref (ra 0), .ref (ra 1), .ref (ra 2), .ref (ra 3), .ref (ra 4), .ref (ra 5), .ref (ra 6), .ref (rl), .int (iI (sub)), .int (iI (od)), .int (zbits (bits))])), (ra 3, .inr (2, [.int (iI (1)), .int (iI (31)), .ref (aj)])), (aj, .inl (g.2 1, 31, .inl (zaB fc)))] → va_S A s.heap H locs → lv_has ls 3 [(2, .int (iI (k))), (0, .ref (rq)), (1, .int (iI (3)))] → W p l e ({ frames := 8, cells := 0, slots := 0, locals := 175 }) s m [.ref (rq), .int (iI (3))].toArray below meth c H locs 0 0 (MQ below (zWr g.1 zCl (some (.int (iI (bI (ok))))) [(rq, .inr (4, [.ref (tx), .int (iI (ln)), .ref (pq), .int (iI (a')), .int (iI (vl')), .int (iI (bI (op)))])), (tx, .inl (g.2 2, 400, .inl (zaI tf))), (pq, .inr (3, [.ref (ra 0), .ref (ra 1), .ref (ra 2), .ref (ra 3), .ref (ra 4), .ref (ra 5), .ref (ra 6), .ref (rl), .int (iI (sub)), .int (iI (od)), .int (zbits (bits))])), (ra 3, .inr (2, [.int (iI (1)), .int (iI (31)), .ref (aj)])), (aj, .inl (g.2 1, 31, .inl (zaB f')))] A) [.ref (rq), .int (iI (3))].toArray s 0 0 A) (F0 m 2 ls []) := by
    intro n
    induction n with
    | zero =>
      intro x v k fc H locs ls h1 hF hk h2 hP hD hS hl
      exact absurd h2 (by omega)
    | succ n ih =>
      intro x v k fc H locs ls h1 hF hk h2 hP hD hS hl
      refine lv_iload_n hx hb zd_R_readItems_2 rfl (lv_at hl 0 rfl) ?_
      refine lv_aload_n hx hb zd_R_readItems_3 rfl (lv_at hl 1 rfl) ?_
      refine va_get (D := g.1) (ci := 4) (v := .int (iI (ln))) (C := zR_R) (T := zT_R) (N := 6) hx hb hw zin_R hown hK hP 0 rfl rfl 1 (by decide) (hw _ zw_2_8) (fun _ h9 => h9) rfl zd_R_readItems_4 ?_
      refine zi_icmp_ge (tgt := 37) hx hb zd_R_readItems_7 (by decide) (by omega) (fun c7 => ?_) (fun c7 => ?_)
      · refine zi_iconst hx hb zd_R_readItems_37 ?_
        cases (pIs_0 (by omega)).symm.trans hF
        refine zb_as (x := false) rfl ?_
        exact zw_zret hx hb hr hlk hP hS zd_R_readItems_38
      · rw [show (ln - k).toNat = (ln - (k + 1)).toNat + 1 by omega] at hF
        refine lv_aload_n hx hb zd_R_readItems_10 rfl (lv_at hl 1 rfl) ?_
        refine lv_iload_n hx hb zd_R_readItems_11 rfl (lv_at hl 2 rfl) ?_
        rcases hq12 : pI 3 tf ln (x) (v) with ⟨ok1, b1, fr1, to1, st1, w1⟩
        have hr12 := pI_rg (by omega) (by decide) hq12
        refine zk_W (As := [.int (iI (3))]) (b := rq) (own := "CronFinder$Reader") (nL := 3) (rest := []) hx hb hml hown hw (c_R_item_3 l g rq tx tf ln pq (x) (v) op hln (by omega) hch ra (aj) fc rl sub od (bits) q1 v1 q2 v2 ok1 b1 fr1 to1 st1 w1 hq12) zw_2_165 zw_2_167 zw_0_11 zw_1_13 zw_2_168 (np := 1) (by decide +kernel) rfl (by decide) (zRs_mv q1 v1 q2 v2) hK (zRs_nar (zRs_now hT hS) (va_free hD hS hA [0, 1, 2, 3, 4] rfl)) hP hD hS hA [0, 1, 2, 3, 4] rfl (by decide) rfl (va_recv hK hP (ci := 4) (q0 := 0) rfl rfl) hl.1 rfl (Nat.le_of_ble_eq_true rfl) (by decide) zd_R_readItems_12 (fun H locs hP hD hS => ?_)
        have hP : va_P g.1 zCl [(rq, .inr (4, [.ref (tx), .int (iI (ln)), .ref (pq), .int (iI (b1)), .int (iI (w1)), .int (iI (bI (op)))])), (tx, .inl (g.2 2, 400, .inl (zaI tf))), (pq, .inr (3, [.ref (ra 0), .ref (ra 1), .ref (ra 2), .ref (ra 3), .ref (ra 4), .ref (ra 5), .ref (ra 6), .ref (rl), .int (iI (sub)), .int (iI (od)), .int (zbits (bits))])), (ra 3, .inr (2, [.int (iI (1)), .int (iI (31)), .ref (aj)])), (aj, .inl (g.2 1, 31, .inl (zaB (pAf 3 ok1 fr1 to1 st1 fc))))] H := hP
        have hD : va_D A [(rq, .inr (4, [.ref (tx), .int (iI (ln)), .ref (pq), .int (iI (b1)), .int (iI (w1)), .int (iI (bI (op)))])), (tx, .inl (g.2 2, 400, .inl (zaI tf))), (pq, .inr (3, [.ref (ra 0), .ref (ra 1), .ref (ra 2), .ref (ra 3), .ref (ra 4), .ref (ra 5), .ref (ra 6), .ref (rl), .int (iI (sub)), .int (iI (od)), .int (zbits (bits))])), (ra 3, .inr (2, [.int (iI (1)), .int (iI (31)), .ref (aj)])), (aj, .inl (g.2 1, 31, .inl (zaB (pAf 3 ok1 fr1 to1 st1 fc))))] := hD
        refine zb_if_ne (tgt := 20) hx hb zd_R_readItems_15 (by decide) (fun c15 => ?_) (fun c15 => ?_)
        · subst c15
          refine lv_aload_n hx hb zd_R_readItems_20 rfl (lv_at hl 1 rfl) ?_
          refine zi_bipush hx hb zd_R_readItems_21 (by decide) ?_
          by_cases ha23 : rk tf ln (b1) = 44
          · have hp23 := rk_lt ha23 (by decide)
            refine zk_W (As := [.int (iI (44))]) (b := rq) (own := "CronFinder$Reader") (nL := 3) (rest := []) hx hb hml hown hw (c_R_accept_y l g rq tx tf ln pq (b1) (w1) op hln (by omega) hch 44 (by decide) ha23) zw_2_69 zw_2_71 zw_0_4 zw_1_13 zw_2_72 (np := 1) (by decide +kernel) rfl (by decide) (fun _ => zN_mv) hK trivial hP hD hS hA [0, 1] rfl (by decide) rfl (va_recv hK hP (ci := 4) (q0 := 0) rfl rfl) hl.1 rfl (Nat.le_of_ble_eq_true rfl) (by decide) zd_R_readItems_23 (fun H locs hP hD hS => ?_)
            have hP : va_P g.1 zCl [(rq, .inr (4, [.ref (tx), .int (iI (ln)), .ref (pq), .int (iI (b1 + 1)), .int (iI (w1)), .int (iI (bI (op)))])), (tx, .inl (g.2 2, 400, .inl (zaI tf))), (pq, .inr (3, [.ref (ra 0), .ref (ra 1), .ref (ra 2), .ref (ra 3), .ref (ra 4), .ref (ra 5), .ref (ra 6), .ref (rl), .int (iI (sub)), .int (iI (od)), .int (zbits (bits))])), (ra 3, .inr (2, [.int (iI (1)), .int (iI (31)), .ref (aj)])), (aj, .inl (g.2 1, 31, .inl (zaB (pAf 3 true fr1 to1 st1 fc))))] H := hP
            have hD : va_D A [(rq, .inr (4, [.ref (tx), .int (iI (ln)), .ref (pq), .int (iI (b1 + 1)), .int (iI (w1)), .int (iI (bI (op)))])), (tx, .inl (g.2 2, 400, .inl (zaI tf))), (pq, .inr (3, [.ref (ra 0), .ref (ra 1), .ref (ra 2), .ref (ra 3), .ref (ra 4), .ref (ra 5), .ref (ra 6), .ref (rl), .int (iI (sub)), .int (iI (od)), .int (zbits (bits))])), (ra 3, .inr (2, [.int (iI (1)), .int (iI (31)), .ref (aj)])), (aj, .inl (g.2 1, 31, .inl (zaB (pAf 3 true fr1 to1 st1 fc))))] := hD
            refine zb_if_ne (tgt := 31) hx hb zd_R_readItems_26 (by decide) (fun _ => ?_) (fun c26 => by cases c26)
            refine lv_iinc (v := iI (k + 1)) (lv' := [(2, .int (iI (k + 1))), (0, .ref (rq)), (1, .int (iI (3)))]) hx hb zd_R_readItems_31 hl (k := 0) rfl (iI_add _ _) (by decide) rfl (fun ls hl => ?_)
            refine lv_goto (tgt := 2) hx hb zd_R_readItems_34 (by decide) ?_
            exact ih (b1 + 1) w1 (k + 1) _ H locs ls ⟨by omega, by omega⟩ ((pIs_3 hq12 ha23).symm.trans hF) ⟨by omega, by omega⟩ (by omega) hP hD hS (lv_sub hl [0, 1, 2] rfl)
          · refine zk_V (As := [.int (iI (44))]) (b := rq) (own := "CronFinder$Reader") (nL := 3) (rest := []) hx hb hml hown hw (c_R_accept_n l g rq tx tf ln pq (b1) (w1) op hln (by omega) hch 44 (by decide) ha23) zw_2_69 zw_2_71 zw_0_4 zw_1_13 zw_2_72 (np := 1) (by decide +kernel) rfl (by decide) zN_mv hK trivial (hP.sub (ws' := [(rq, .inr (4, [.ref (tx), .int (iI (ln)), .ref (pq), .int (iI (b1)), .int (iI (w1)), .int (iI (bI (op)))])), (tx, .inl (g.2 2, 400, .inl (zaI tf)))]) [0, 1] rfl) (va_recv hK hP (ci := 4) (q0 := 0) rfl rfl) hl.1 rfl (Nat.le_of_ble_eq_true rfl) (by decide) zd_R_readItems_23 ?_
            refine zb_if_ne (tgt := 31) hx hb zd_R_readItems_26 (by decide) (fun c26 => by cases c26) (fun _ => ?_)
            refine zi_iconst hx hb zd_R_readItems_29 ?_
            cases (pIs_2 hq12 ha23).symm.trans hF
            refine zb_as (x := true) rfl ?_
            exact zw_zret hx hb hr hlk hP hS zd_R_readItems_30
        · subst c15
          refine zi_iconst hx hb zd_R_readItems_18 ?_
          cases (pIs_1 hq12).symm.trans hF
          refine zb_as (x := false) rfl ?_
          exact zw_zret hx hb hr hlk hP hS zd_R_readItems_19
  exact loop 401 at0 vl 0 f s.heap [] ls ⟨by omega, by omega⟩ (by rw [show ln - 0 = ln by omega]; exact hres) ⟨by omega, by omega⟩ (by omega) hP hD hS (lv_sub hl [0, 1, 2] rfl)
set_option maxHeartbeats 4000000 in
set_option maxRecDepth 100000 in
theorem c_R_items_4 (l : Launch) (g : zGl) (rq tx : Nat) (tf : Nat → Int) (ln : Int) (pq : Nat) (at0 vl : Int) (op : Bool) (hln : 0 ≤ ln ∧ ln ≤ 400) (hat : 0 ≤ at0 ∧ at0 ≤ ln) (hch : ∀ j : Nat, 0 ≤ tf j ∧ tf j < 256) (ra : Nat → Nat) (aj : Nat) (f : Nat → Bool) (rl : Nat) (sub od : Int) (bits : Nat → Bool) (q1 v1 q2 v2 : Nat) (ok : Bool) (a' vl' : Int) (f' : Nat → Bool) (hres : pIs 4 tf ln ln.toNat at0 vl f = (ok, a', vl', f')) : zWi l zy_R_readItems zc_R_readItems 3 (some .boolean) ({ frames := 8, cells := 0, slots := 0, locals := 175 }) g (zRs q1 v1 q2 v2) [.ref (rq), .int (iI (4))] [(rq, .inr (4, [.ref (tx), .int (iI (ln)), .ref (pq), .int (iI (at0)), .int (iI (vl)), .int (iI (bI (op)))])), (tx, .inl (g.2 2, 400, .inl (zaI tf))), (pq, .inr (3, [.ref (ra 0), .ref (ra 1), .ref (ra 2), .ref (ra 3), .ref (ra 4), .ref (ra 5), .ref (ra 6), .ref (rl), .int (iI (sub)), .int (iI (od)), .int (zbits (bits))])), (ra 4, .inr (2, [.int (iI (1)), .int (iI (12)), .ref (aj)])), (aj, .inl (g.2 1, 12, .inl (zaB f)))] (some (.int (iI (bI (ok))))) [(rq, .inr (4, [.ref (tx), .int (iI (ln)), .ref (pq), .int (iI (a')), .int (iI (vl')), .int (iI (bI (op)))])), (tx, .inl (g.2 2, 400, .inl (zaI tf))), (pq, .inr (3, [.ref (ra 0), .ref (ra 1), .ref (ra 2), .ref (ra 3), .ref (ra 4), .ref (ra 5), .ref (ra 6), .ref (rl), .int (iI (sub)), .int (iI (od)), .int (zbits (bits))])), (ra 4, .inr (2, [.int (iI (1)), .int (iI (12)), .ref (aj)])), (aj, .inl (g.2 1, 12, .inl (zaB f')))] 0 0 := by
  refine zw_open (by decide +kernel) (Nat.le_of_ble_eq_true rfl) ?_
  intro p e s m below meth c ls A hx hb hml hr hlk hown hin hw hK hT hP hD hS hA hl
  have hown : s.vm.findClass "CronFinder$Reader" = some m.cls := hown
  have hl : lv_has ls 3 [(0, .ref (rq)), (1, .int (iI (4)))] := hl
  refine zi_iconst hx hb zd_R_readItems_0 ?_
  refine lv_istore_n (lv' := [(2, .int (iI (0))), (0, .ref (rq)), (1, .int (iI (4)))]) hx hb zd_R_readItems_1 rfl hl (by decide) rfl (fun ls hl => ?_)
  have loop : ∀ (n : Nat) (x v k : Int) (fc : Nat → Bool) (H : Heap) (locs : List Loc) (ls : Array Slot), (0 ≤ x ∧ x ≤ ln) → (pIs 4 tf ln (ln - k).toNat x v fc = (ok, a', vl', f')) → (0 ≤ k ∧ k ≤ ln) → ((ln - k).toNat < n) → va_P g.1 zCl [(rq, .inr (4, [.ref (tx), .int (iI (ln)), .ref (pq), .int (iI (x)), .int (iI (v)), .int (iI (bI (op)))])), (tx, .inl (g.2 2, 400, .inl (zaI tf))), (pq, .inr (3, [.ref (ra 0), .ref (ra 1), .ref (ra 2), .ref (ra 3), .ref (ra 4), .ref (ra 5), .ref (ra 6), .ref (rl), .int (iI (sub)), .int (iI (od)), .int (zbits (bits))])), (ra 4, .inr (2, [.int (iI (1)), .int (iI (12)), .ref (aj)])), (aj, .inl (g.2 1, 12, .inl (zaB fc)))] H → va_D A [(rq, .inr (4, [.ref (tx), .int (iI (ln)), .ref (pq), .int (iI (x)), .int (iI (v)), .int (iI (bI (op)))])), (tx, .inl (g.2 2, 400, .inl (zaI tf))), (pq, .inr (3, [.ref (ra 0), .ref (ra 1), .ref (ra 2), .ref (ra 3), .ref (ra 4), .ref (ra 5), .ref (ra 6), .ref (rl), .int (iI (sub)), .int (iI (od)), .int (zbits (bits))])), (ra 4, .inr (2, [.int (iI (1)), .int (iI (12)), .ref (aj)])), (aj, .inl (g.2 1, 12, .inl (zaB fc)))] → va_S A s.heap H locs → lv_has ls 3 [(2, .int (iI (k))), (0, .ref (rq)), (1, .int (iI (4)))] → W p l e ({ frames := 8, cells := 0, slots := 0, locals := 175 }) s m [.ref (rq), .int (iI (4))].toArray below meth c H locs 0 0 (MQ below (zWr g.1 zCl (some (.int (iI (bI (ok))))) [(rq, .inr (4, [.ref (tx), .int (iI (ln)), .ref (pq), .int (iI (a')), .int (iI (vl')), .int (iI (bI (op)))])), (tx, .inl (g.2 2, 400, .inl (zaI tf))), (pq, .inr (3, [.ref (ra 0), .ref (ra 1), .ref (ra 2), .ref (ra 3), .ref (ra 4), .ref (ra 5), .ref (ra 6), .ref (rl), .int (iI (sub)), .int (iI (od)), .int (zbits (bits))])), (ra 4, .inr (2, [.int (iI (1)), .int (iI (12)), .ref (aj)])), (aj, .inl (g.2 1, 12, .inl (zaB f')))] A) [.ref (rq), .int (iI (4))].toArray s 0 0 A) (F0 m 2 ls []) := by
    intro n
    induction n with
    | zero =>
      intro x v k fc H locs ls h1 hF hk h2 hP hD hS hl
      exact absurd h2 (by omega)
    | succ n ih =>
      intro x v k fc H locs ls h1 hF hk h2 hP hD hS hl
      refine lv_iload_n hx hb zd_R_readItems_2 rfl (lv_at hl 0 rfl) ?_
      refine lv_aload_n hx hb zd_R_readItems_3 rfl (lv_at hl 1 rfl) ?_
      refine va_get (D := g.1) (ci := 4) (v := .int (iI (ln))) (C := zR_R) (T := zT_R) (N := 6) hx hb hw zin_R hown hK hP 0 rfl rfl 1 (by decide) (hw _ zw_2_8) (fun _ h9 => h9) rfl zd_R_readItems_4 ?_
      refine zi_icmp_ge (tgt := 37) hx hb zd_R_readItems_7 (by decide) (by omega) (fun c7 => ?_) (fun c7 => ?_)
      · refine zi_iconst hx hb zd_R_readItems_37 ?_
        cases (pIs_0 (by omega)).symm.trans hF
        refine zb_as (x := false) rfl ?_
        exact zw_zret hx hb hr hlk hP hS zd_R_readItems_38
      · rw [show (ln - k).toNat = (ln - (k + 1)).toNat + 1 by omega] at hF
        refine lv_aload_n hx hb zd_R_readItems_10 rfl (lv_at hl 1 rfl) ?_
        refine lv_iload_n hx hb zd_R_readItems_11 rfl (lv_at hl 2 rfl) ?_
        rcases hq12 : pI 4 tf ln (x) (v) with ⟨ok1, b1, fr1, to1, st1, w1⟩
        have hr12 := pI_rg (by omega) (by decide) hq12
        refine zk_W (As := [.int (iI (4))]) (b := rq) (own := "CronFinder$Reader") (nL := 3) (rest := []) hx hb hml hown hw (c_R_item_4 l g rq tx tf ln pq (x) (v) op hln (by omega) hch ra (aj) fc rl sub od (bits) q1 v1 q2 v2 ok1 b1 fr1 to1 st1 w1 hq12) zw_2_165 zw_2_167 zw_0_11 zw_1_13 zw_2_168 (np := 1) (by decide +kernel) rfl (by decide) (zRs_mv q1 v1 q2 v2) hK (zRs_nar (zRs_now hT hS) (va_free hD hS hA [0, 1, 2, 3, 4] rfl)) hP hD hS hA [0, 1, 2, 3, 4] rfl (by decide) rfl (va_recv hK hP (ci := 4) (q0 := 0) rfl rfl) hl.1 rfl (Nat.le_of_ble_eq_true rfl) (by decide) zd_R_readItems_12 (fun H locs hP hD hS => ?_)
        have hP : va_P g.1 zCl [(rq, .inr (4, [.ref (tx), .int (iI (ln)), .ref (pq), .int (iI (b1)), .int (iI (w1)), .int (iI (bI (op)))])), (tx, .inl (g.2 2, 400, .inl (zaI tf))), (pq, .inr (3, [.ref (ra 0), .ref (ra 1), .ref (ra 2), .ref (ra 3), .ref (ra 4), .ref (ra 5), .ref (ra 6), .ref (rl), .int (iI (sub)), .int (iI (od)), .int (zbits (bits))])), (ra 4, .inr (2, [.int (iI (1)), .int (iI (12)), .ref (aj)])), (aj, .inl (g.2 1, 12, .inl (zaB (pAf 4 ok1 fr1 to1 st1 fc))))] H := hP
        have hD : va_D A [(rq, .inr (4, [.ref (tx), .int (iI (ln)), .ref (pq), .int (iI (b1)), .int (iI (w1)), .int (iI (bI (op)))])), (tx, .inl (g.2 2, 400, .inl (zaI tf))), (pq, .inr (3, [.ref (ra 0), .ref (ra 1), .ref (ra 2), .ref (ra 3), .ref (ra 4), .ref (ra 5), .ref (ra 6), .ref (rl), .int (iI (sub)), .int (iI (od)), .int (zbits (bits))])), (ra 4, .inr (2, [.int (iI (1)), .int (iI (12)), .ref (aj)])), (aj, .inl (g.2 1, 12, .inl (zaB (pAf 4 ok1 fr1 to1 st1 fc))))] := hD
        refine zb_if_ne (tgt := 20) hx hb zd_R_readItems_15 (by decide) (fun c15 => ?_) (fun c15 => ?_)
        · subst c15
          refine lv_aload_n hx hb zd_R_readItems_20 rfl (lv_at hl 1 rfl) ?_
          refine zi_bipush hx hb zd_R_readItems_21 (by decide) ?_
          by_cases ha23 : rk tf ln (b1) = 44
          · have hp23 := rk_lt ha23 (by decide)
            refine zk_W (As := [.int (iI (44))]) (b := rq) (own := "CronFinder$Reader") (nL := 3) (rest := []) hx hb hml hown hw (c_R_accept_y l g rq tx tf ln pq (b1) (w1) op hln (by omega) hch 44 (by decide) ha23) zw_2_69 zw_2_71 zw_0_4 zw_1_13 zw_2_72 (np := 1) (by decide +kernel) rfl (by decide) (fun _ => zN_mv) hK trivial hP hD hS hA [0, 1] rfl (by decide) rfl (va_recv hK hP (ci := 4) (q0 := 0) rfl rfl) hl.1 rfl (Nat.le_of_ble_eq_true rfl) (by decide) zd_R_readItems_23 (fun H locs hP hD hS => ?_)
            have hP : va_P g.1 zCl [(rq, .inr (4, [.ref (tx), .int (iI (ln)), .ref (pq), .int (iI (b1 + 1)), .int (iI (w1)), .int (iI (bI (op)))])), (tx, .inl (g.2 2, 400, .inl (zaI tf))), (pq, .inr (3, [.ref (ra 0), .ref (ra 1), .ref (ra 2), .ref (ra 3), .ref (ra 4), .ref (ra 5), .ref (ra 6), .ref (rl), .int (iI (sub)), .int (iI (od)), .int (zbits (bits))])), (ra 4, .inr (2, [.int (iI (1)), .int (iI (12)), .ref (aj)])), (aj, .inl (g.2 1, 12, .inl (zaB (pAf 4 true fr1 to1 st1 fc))))] H := hP
            have hD : va_D A [(rq, .inr (4, [.ref (tx), .int (iI (ln)), .ref (pq), .int (iI (b1 + 1)), .int (iI (w1)), .int (iI (bI (op)))])), (tx, .inl (g.2 2, 400, .inl (zaI tf))), (pq, .inr (3, [.ref (ra 0), .ref (ra 1), .ref (ra 2), .ref (ra 3), .ref (ra 4), .ref (ra 5), .ref (ra 6), .ref (rl), .int (iI (sub)), .int (iI (od)), .int (zbits (bits))])), (ra 4, .inr (2, [.int (iI (1)), .int (iI (12)), .ref (aj)])), (aj, .inl (g.2 1, 12, .inl (zaB (pAf 4 true fr1 to1 st1 fc))))] := hD
            refine zb_if_ne (tgt := 31) hx hb zd_R_readItems_26 (by decide) (fun _ => ?_) (fun c26 => by cases c26)
            refine lv_iinc (v := iI (k + 1)) (lv' := [(2, .int (iI (k + 1))), (0, .ref (rq)), (1, .int (iI (4)))]) hx hb zd_R_readItems_31 hl (k := 0) rfl (iI_add _ _) (by decide) rfl (fun ls hl => ?_)
            refine lv_goto (tgt := 2) hx hb zd_R_readItems_34 (by decide) ?_
            exact ih (b1 + 1) w1 (k + 1) _ H locs ls ⟨by omega, by omega⟩ ((pIs_3 hq12 ha23).symm.trans hF) ⟨by omega, by omega⟩ (by omega) hP hD hS (lv_sub hl [0, 1, 2] rfl)
          · refine zk_V (As := [.int (iI (44))]) (b := rq) (own := "CronFinder$Reader") (nL := 3) (rest := []) hx hb hml hown hw (c_R_accept_n l g rq tx tf ln pq (b1) (w1) op hln (by omega) hch 44 (by decide) ha23) zw_2_69 zw_2_71 zw_0_4 zw_1_13 zw_2_72 (np := 1) (by decide +kernel) rfl (by decide) zN_mv hK trivial (hP.sub (ws' := [(rq, .inr (4, [.ref (tx), .int (iI (ln)), .ref (pq), .int (iI (b1)), .int (iI (w1)), .int (iI (bI (op)))])), (tx, .inl (g.2 2, 400, .inl (zaI tf)))]) [0, 1] rfl) (va_recv hK hP (ci := 4) (q0 := 0) rfl rfl) hl.1 rfl (Nat.le_of_ble_eq_true rfl) (by decide) zd_R_readItems_23 ?_
            refine zb_if_ne (tgt := 31) hx hb zd_R_readItems_26 (by decide) (fun c26 => by cases c26) (fun _ => ?_)
            refine zi_iconst hx hb zd_R_readItems_29 ?_
            cases (pIs_2 hq12 ha23).symm.trans hF
            refine zb_as (x := true) rfl ?_
            exact zw_zret hx hb hr hlk hP hS zd_R_readItems_30
        · subst c15
          refine zi_iconst hx hb zd_R_readItems_18 ?_
          cases (pIs_1 hq12).symm.trans hF
          refine zb_as (x := false) rfl ?_
          exact zw_zret hx hb hr hlk hP hS zd_R_readItems_19
  exact loop 401 at0 vl 0 f s.heap [] ls ⟨by omega, by omega⟩ (by rw [show ln - 0 = ln by omega]; exact hres) ⟨by omega, by omega⟩ (by omega) hP hD hS (lv_sub hl [0, 1, 2] rfl)
set_option maxHeartbeats 4000000 in
set_option maxRecDepth 100000 in
theorem c_R_items_5 (l : Launch) (g : zGl) (rq tx : Nat) (tf : Nat → Int) (ln : Int) (pq : Nat) (at0 vl : Int) (op : Bool) (hln : 0 ≤ ln ∧ ln ≤ 400) (hat : 0 ≤ at0 ∧ at0 ≤ ln) (hch : ∀ j : Nat, 0 ≤ tf j ∧ tf j < 256) (ra : Nat → Nat) (aj : Nat) (f : Nat → Bool) (rl : Nat) (sub od : Int) (bits : Nat → Bool) (q1 v1 q2 v2 : Nat) (ok : Bool) (a' vl' : Int) (f' : Nat → Bool) (hres : pIs 5 tf ln ln.toNat at0 vl f = (ok, a', vl', f')) : zWi l zy_R_readItems zc_R_readItems 3 (some .boolean) ({ frames := 8, cells := 0, slots := 0, locals := 175 }) g (zRs q1 v1 q2 v2) [.ref (rq), .int (iI (5))] [(rq, .inr (4, [.ref (tx), .int (iI (ln)), .ref (pq), .int (iI (at0)), .int (iI (vl)), .int (iI (bI (op)))])), (tx, .inl (g.2 2, 400, .inl (zaI tf))), (pq, .inr (3, [.ref (ra 0), .ref (ra 1), .ref (ra 2), .ref (ra 3), .ref (ra 4), .ref (ra 5), .ref (ra 6), .ref (rl), .int (iI (sub)), .int (iI (od)), .int (zbits (bits))])), (ra 5, .inr (2, [.int (iI (1)), .int (iI (7)), .ref (aj)])), (aj, .inl (g.2 1, 7, .inl (zaB f)))] (some (.int (iI (bI (ok))))) [(rq, .inr (4, [.ref (tx), .int (iI (ln)), .ref (pq), .int (iI (a')), .int (iI (vl')), .int (iI (bI (op)))])), (tx, .inl (g.2 2, 400, .inl (zaI tf))), (pq, .inr (3, [.ref (ra 0), .ref (ra 1), .ref (ra 2), .ref (ra 3), .ref (ra 4), .ref (ra 5), .ref (ra 6), .ref (rl), .int (iI (sub)), .int (iI (od)), .int (zbits (bits))])), (ra 5, .inr (2, [.int (iI (1)), .int (iI (7)), .ref (aj)])), (aj, .inl (g.2 1, 7, .inl (zaB f')))] 0 0 := by
  refine zw_open (by decide +kernel) (Nat.le_of_ble_eq_true rfl) ?_
  intro p e s m below meth c ls A hx hb hml hr hlk hown hin hw hK hT hP hD hS hA hl
  have hown : s.vm.findClass "CronFinder$Reader" = some m.cls := hown
  have hl : lv_has ls 3 [(0, .ref (rq)), (1, .int (iI (5)))] := hl
  refine zi_iconst hx hb zd_R_readItems_0 ?_
  refine lv_istore_n (lv' := [(2, .int (iI (0))), (0, .ref (rq)), (1, .int (iI (5)))]) hx hb zd_R_readItems_1 rfl hl (by decide) rfl (fun ls hl => ?_)
  have loop : ∀ (n : Nat) (x v k : Int) (fc : Nat → Bool) (H : Heap) (locs : List Loc) (ls : Array Slot), (0 ≤ x ∧ x ≤ ln) → (pIs 5 tf ln (ln - k).toNat x v fc = (ok, a', vl', f')) → (0 ≤ k ∧ k ≤ ln) → ((ln - k).toNat < n) → va_P g.1 zCl [(rq, .inr (4, [.ref (tx), .int (iI (ln)), .ref (pq), .int (iI (x)), .int (iI (v)), .int (iI (bI (op)))])), (tx, .inl (g.2 2, 400, .inl (zaI tf))), (pq, .inr (3, [.ref (ra 0), .ref (ra 1), .ref (ra 2), .ref (ra 3), .ref (ra 4), .ref (ra 5), .ref (ra 6), .ref (rl), .int (iI (sub)), .int (iI (od)), .int (zbits (bits))])), (ra 5, .inr (2, [.int (iI (1)), .int (iI (7)), .ref (aj)])), (aj, .inl (g.2 1, 7, .inl (zaB fc)))] H → va_D A [(rq, .inr (4, [.ref (tx), .int (iI (ln)), .ref (pq), .int (iI (x)), .int (iI (v)), .int (iI (bI (op)))])), (tx, .inl (g.2 2, 400, .inl (zaI tf))), (pq, .inr (3, [.ref (ra 0), .ref (ra 1), .ref (ra 2), .ref (ra 3), .ref (ra 4), .ref (ra 5), .ref (ra 6), .ref (rl), .int (iI (sub)), .int (iI (od)), .int (zbits (bits))])), (ra 5, .inr (2, [.int (iI (1)), .int (iI (7)), .ref (aj)])), (aj, .inl (g.2 1, 7, .inl (zaB fc)))] → va_S A s.heap H locs → lv_has ls 3 [(2, .int (iI (k))), (0, .ref (rq)), (1, .int (iI (5)))] → W p l e ({ frames := 8, cells := 0, slots := 0, locals := 175 }) s m [.ref (rq), .int (iI (5))].toArray below meth c H locs 0 0 (MQ below (zWr g.1 zCl (some (.int (iI (bI (ok))))) [(rq, .inr (4, [.ref (tx), .int (iI (ln)), .ref (pq), .int (iI (a')), .int (iI (vl')), .int (iI (bI (op)))])), (tx, .inl (g.2 2, 400, .inl (zaI tf))), (pq, .inr (3, [.ref (ra 0), .ref (ra 1), .ref (ra 2), .ref (ra 3), .ref (ra 4), .ref (ra 5), .ref (ra 6), .ref (rl), .int (iI (sub)), .int (iI (od)), .int (zbits (bits))])), (ra 5, .inr (2, [.int (iI (1)), .int (iI (7)), .ref (aj)])), (aj, .inl (g.2 1, 7, .inl (zaB f')))] A) [.ref (rq), .int (iI (5))].toArray s 0 0 A) (F0 m 2 ls []) := by
    intro n
    induction n with
    | zero =>
      intro x v k fc H locs ls h1 hF hk h2 hP hD hS hl
      exact absurd h2 (by omega)
    | succ n ih =>
      intro x v k fc H locs ls h1 hF hk h2 hP hD hS hl
      refine lv_iload_n hx hb zd_R_readItems_2 rfl (lv_at hl 0 rfl) ?_
      refine lv_aload_n hx hb zd_R_readItems_3 rfl (lv_at hl 1 rfl) ?_
      refine va_get (D := g.1) (ci := 4) (v := .int (iI (ln))) (C := zR_R) (T := zT_R) (N := 6) hx hb hw zin_R hown hK hP 0 rfl rfl 1 (by decide) (hw _ zw_2_8) (fun _ h9 => h9) rfl zd_R_readItems_4 ?_
      refine zi_icmp_ge (tgt := 37) hx hb zd_R_readItems_7 (by decide) (by omega) (fun c7 => ?_) (fun c7 => ?_)
      · refine zi_iconst hx hb zd_R_readItems_37 ?_
        cases (pIs_0 (by omega)).symm.trans hF
        refine zb_as (x := false) rfl ?_
        exact zw_zret hx hb hr hlk hP hS zd_R_readItems_38
      · rw [show (ln - k).toNat = (ln - (k + 1)).toNat + 1 by omega] at hF
        refine lv_aload_n hx hb zd_R_readItems_10 rfl (lv_at hl 1 rfl) ?_
        refine lv_iload_n hx hb zd_R_readItems_11 rfl (lv_at hl 2 rfl) ?_
        rcases hq12 : pI 5 tf ln (x) (v) with ⟨ok1, b1, fr1, to1, st1, w1⟩
        have hr12 := pI_rg (by omega) (by decide) hq12
        refine zk_W (As := [.int (iI (5))]) (b := rq) (own := "CronFinder$Reader") (nL := 3) (rest := []) hx hb hml hown hw (c_R_item_5 l g rq tx tf ln pq (x) (v) op hln (by omega) hch ra (aj) fc rl sub od (bits) q1 v1 q2 v2 ok1 b1 fr1 to1 st1 w1 hq12) zw_2_165 zw_2_167 zw_0_11 zw_1_13 zw_2_168 (np := 1) (by decide +kernel) rfl (by decide) (zRs_mv q1 v1 q2 v2) hK (zRs_nar (zRs_now hT hS) (va_free hD hS hA [0, 1, 2, 3, 4] rfl)) hP hD hS hA [0, 1, 2, 3, 4] rfl (by decide) rfl (va_recv hK hP (ci := 4) (q0 := 0) rfl rfl) hl.1 rfl (Nat.le_of_ble_eq_true rfl) (by decide) zd_R_readItems_12 (fun H locs hP hD hS => ?_)
        have hP : va_P g.1 zCl [(rq, .inr (4, [.ref (tx), .int (iI (ln)), .ref (pq), .int (iI (b1)), .int (iI (w1)), .int (iI (bI (op)))])), (tx, .inl (g.2 2, 400, .inl (zaI tf))), (pq, .inr (3, [.ref (ra 0), .ref (ra 1), .ref (ra 2), .ref (ra 3), .ref (ra 4), .ref (ra 5), .ref (ra 6), .ref (rl), .int (iI (sub)), .int (iI (od)), .int (zbits (bits))])), (ra 5, .inr (2, [.int (iI (1)), .int (iI (7)), .ref (aj)])), (aj, .inl (g.2 1, 7, .inl (zaB (pAf 5 ok1 fr1 to1 st1 fc))))] H := hP
        have hD : va_D A [(rq, .inr (4, [.ref (tx), .int (iI (ln)), .ref (pq), .int (iI (b1)), .int (iI (w1)), .int (iI (bI (op)))])), (tx, .inl (g.2 2, 400, .inl (zaI tf))), (pq, .inr (3, [.ref (ra 0), .ref (ra 1), .ref (ra 2), .ref (ra 3), .ref (ra 4), .ref (ra 5), .ref (ra 6), .ref (rl), .int (iI (sub)), .int (iI (od)), .int (zbits (bits))])), (ra 5, .inr (2, [.int (iI (1)), .int (iI (7)), .ref (aj)])), (aj, .inl (g.2 1, 7, .inl (zaB (pAf 5 ok1 fr1 to1 st1 fc))))] := hD
        refine zb_if_ne (tgt := 20) hx hb zd_R_readItems_15 (by decide) (fun c15 => ?_) (fun c15 => ?_)
        · subst c15
          refine lv_aload_n hx hb zd_R_readItems_20 rfl (lv_at hl 1 rfl) ?_
          refine zi_bipush hx hb zd_R_readItems_21 (by decide) ?_
          by_cases ha23 : rk tf ln (b1) = 44
          · have hp23 := rk_lt ha23 (by decide)
            refine zk_W (As := [.int (iI (44))]) (b := rq) (own := "CronFinder$Reader") (nL := 3) (rest := []) hx hb hml hown hw (c_R_accept_y l g rq tx tf ln pq (b1) (w1) op hln (by omega) hch 44 (by decide) ha23) zw_2_69 zw_2_71 zw_0_4 zw_1_13 zw_2_72 (np := 1) (by decide +kernel) rfl (by decide) (fun _ => zN_mv) hK trivial hP hD hS hA [0, 1] rfl (by decide) rfl (va_recv hK hP (ci := 4) (q0 := 0) rfl rfl) hl.1 rfl (Nat.le_of_ble_eq_true rfl) (by decide) zd_R_readItems_23 (fun H locs hP hD hS => ?_)
            have hP : va_P g.1 zCl [(rq, .inr (4, [.ref (tx), .int (iI (ln)), .ref (pq), .int (iI (b1 + 1)), .int (iI (w1)), .int (iI (bI (op)))])), (tx, .inl (g.2 2, 400, .inl (zaI tf))), (pq, .inr (3, [.ref (ra 0), .ref (ra 1), .ref (ra 2), .ref (ra 3), .ref (ra 4), .ref (ra 5), .ref (ra 6), .ref (rl), .int (iI (sub)), .int (iI (od)), .int (zbits (bits))])), (ra 5, .inr (2, [.int (iI (1)), .int (iI (7)), .ref (aj)])), (aj, .inl (g.2 1, 7, .inl (zaB (pAf 5 true fr1 to1 st1 fc))))] H := hP
            have hD : va_D A [(rq, .inr (4, [.ref (tx), .int (iI (ln)), .ref (pq), .int (iI (b1 + 1)), .int (iI (w1)), .int (iI (bI (op)))])), (tx, .inl (g.2 2, 400, .inl (zaI tf))), (pq, .inr (3, [.ref (ra 0), .ref (ra 1), .ref (ra 2), .ref (ra 3), .ref (ra 4), .ref (ra 5), .ref (ra 6), .ref (rl), .int (iI (sub)), .int (iI (od)), .int (zbits (bits))])), (ra 5, .inr (2, [.int (iI (1)), .int (iI (7)), .ref (aj)])), (aj, .inl (g.2 1, 7, .inl (zaB (pAf 5 true fr1 to1 st1 fc))))] := hD
            refine zb_if_ne (tgt := 31) hx hb zd_R_readItems_26 (by decide) (fun _ => ?_) (fun c26 => by cases c26)
            refine lv_iinc (v := iI (k + 1)) (lv' := [(2, .int (iI (k + 1))), (0, .ref (rq)), (1, .int (iI (5)))]) hx hb zd_R_readItems_31 hl (k := 0) rfl (iI_add _ _) (by decide) rfl (fun ls hl => ?_)
            refine lv_goto (tgt := 2) hx hb zd_R_readItems_34 (by decide) ?_
            exact ih (b1 + 1) w1 (k + 1) _ H locs ls ⟨by omega, by omega⟩ ((pIs_3 hq12 ha23).symm.trans hF) ⟨by omega, by omega⟩ (by omega) hP hD hS (lv_sub hl [0, 1, 2] rfl)
          · refine zk_V (As := [.int (iI (44))]) (b := rq) (own := "CronFinder$Reader") (nL := 3) (rest := []) hx hb hml hown hw (c_R_accept_n l g rq tx tf ln pq (b1) (w1) op hln (by omega) hch 44 (by decide) ha23) zw_2_69 zw_2_71 zw_0_4 zw_1_13 zw_2_72 (np := 1) (by decide +kernel) rfl (by decide) zN_mv hK trivial (hP.sub (ws' := [(rq, .inr (4, [.ref (tx), .int (iI (ln)), .ref (pq), .int (iI (b1)), .int (iI (w1)), .int (iI (bI (op)))])), (tx, .inl (g.2 2, 400, .inl (zaI tf)))]) [0, 1] rfl) (va_recv hK hP (ci := 4) (q0 := 0) rfl rfl) hl.1 rfl (Nat.le_of_ble_eq_true rfl) (by decide) zd_R_readItems_23 ?_
            refine zb_if_ne (tgt := 31) hx hb zd_R_readItems_26 (by decide) (fun c26 => by cases c26) (fun _ => ?_)
            refine zi_iconst hx hb zd_R_readItems_29 ?_
            cases (pIs_2 hq12 ha23).symm.trans hF
            refine zb_as (x := true) rfl ?_
            exact zw_zret hx hb hr hlk hP hS zd_R_readItems_30
        · subst c15
          refine zi_iconst hx hb zd_R_readItems_18 ?_
          cases (pIs_1 hq12).symm.trans hF
          refine zb_as (x := false) rfl ?_
          exact zw_zret hx hb hr hlk hP hS zd_R_readItems_19
  exact loop 401 at0 vl 0 f s.heap [] ls ⟨by omega, by omega⟩ (by rw [show ln - 0 = ln by omega]; exact hres) ⟨by omega, by omega⟩ (by omega) hP hD hS (lv_sub hl [0, 1, 2] rfl)
set_option maxHeartbeats 4000000 in
set_option maxRecDepth 100000 in
theorem c_R_items_6 (l : Launch) (g : zGl) (rq tx : Nat) (tf : Nat → Int) (ln : Int) (pq : Nat) (at0 vl : Int) (op : Bool) (hln : 0 ≤ ln ∧ ln ≤ 400) (hat : 0 ≤ at0 ∧ at0 ≤ ln) (hch : ∀ j : Nat, 0 ≤ tf j ∧ tf j < 256) (ra : Nat → Nat) (aj : Nat) (f : Nat → Bool) (rl : Nat) (sub od : Int) (bits : Nat → Bool) (q1 v1 q2 v2 : Nat) (ok : Bool) (a' vl' : Int) (f' : Nat → Bool) (hres : pIs 6 tf ln ln.toNat at0 vl f = (ok, a', vl', f')) : zWi l zy_R_readItems zc_R_readItems 3 (some .boolean) ({ frames := 8, cells := 0, slots := 0, locals := 175 }) g (zRs q1 v1 q2 v2) [.ref (rq), .int (iI (6))] [(rq, .inr (4, [.ref (tx), .int (iI (ln)), .ref (pq), .int (iI (at0)), .int (iI (vl)), .int (iI (bI (op)))])), (tx, .inl (g.2 2, 400, .inl (zaI tf))), (pq, .inr (3, [.ref (ra 0), .ref (ra 1), .ref (ra 2), .ref (ra 3), .ref (ra 4), .ref (ra 5), .ref (ra 6), .ref (rl), .int (iI (sub)), .int (iI (od)), .int (zbits (bits))])), (ra 6, .inr (2, [.int (iI (1970)), .int (iI (2299)), .ref (aj)])), (aj, .inl (g.2 1, 330, .inl (zaB f)))] (some (.int (iI (bI (ok))))) [(rq, .inr (4, [.ref (tx), .int (iI (ln)), .ref (pq), .int (iI (a')), .int (iI (vl')), .int (iI (bI (op)))])), (tx, .inl (g.2 2, 400, .inl (zaI tf))), (pq, .inr (3, [.ref (ra 0), .ref (ra 1), .ref (ra 2), .ref (ra 3), .ref (ra 4), .ref (ra 5), .ref (ra 6), .ref (rl), .int (iI (sub)), .int (iI (od)), .int (zbits (bits))])), (ra 6, .inr (2, [.int (iI (1970)), .int (iI (2299)), .ref (aj)])), (aj, .inl (g.2 1, 330, .inl (zaB f')))] 0 0 := by
  refine zw_open (by decide +kernel) (Nat.le_of_ble_eq_true rfl) ?_
  intro p e s m below meth c ls A hx hb hml hr hlk hown hin hw hK hT hP hD hS hA hl
  have hown : s.vm.findClass "CronFinder$Reader" = some m.cls := hown
  have hl : lv_has ls 3 [(0, .ref (rq)), (1, .int (iI (6)))] := hl
  refine zi_iconst hx hb zd_R_readItems_0 ?_
  refine lv_istore_n (lv' := [(2, .int (iI (0))), (0, .ref (rq)), (1, .int (iI (6)))]) hx hb zd_R_readItems_1 rfl hl (by decide) rfl (fun ls hl => ?_)
  have loop : ∀ (n : Nat) (x v k : Int) (fc : Nat → Bool) (H : Heap) (locs : List Loc) (ls : Array Slot), (0 ≤ x ∧ x ≤ ln) → (pIs 6 tf ln (ln - k).toNat x v fc = (ok, a', vl', f')) → (0 ≤ k ∧ k ≤ ln) → ((ln - k).toNat < n) → va_P g.1 zCl [(rq, .inr (4, [.ref (tx), .int (iI (ln)), .ref (pq), .int (iI (x)), .int (iI (v)), .int (iI (bI (op)))])), (tx, .inl (g.2 2, 400, .inl (zaI tf))), (pq, .inr (3, [.ref (ra 0), .ref (ra 1), .ref (ra 2), .ref (ra 3), .ref (ra 4), .ref (ra 5), .ref (ra 6), .ref (rl), .int (iI (sub)), .int (iI (od)), .int (zbits (bits))])), (ra 6, .inr (2, [.int (iI (1970)), .int (iI (2299)), .ref (aj)])), (aj, .inl (g.2 1, 330, .inl (zaB fc)))] H → va_D A [(rq, .inr (4, [.ref (tx), .int (iI (ln)), .ref (pq), .int (iI (x)), .int (iI (v)), .int (iI (bI (op)))])), (tx, .inl (g.2 2, 400, .inl (zaI tf))), (pq, .inr (3, [.ref (ra 0), .ref (ra 1), .ref (ra 2), .ref (ra 3), .ref (ra 4), .ref (ra 5), .ref (ra 6), .ref (rl), .int (iI (sub)), .int (iI (od)), .int (zbits (bits))])), (ra 6, .inr (2, [.int (iI (1970)), .int (iI (2299)), .ref (aj)])), (aj, .inl (g.2 1, 330, .inl (zaB fc)))] → va_S A s.heap H locs → lv_has ls 3 [(2, .int (iI (k))), (0, .ref (rq)), (1, .int (iI (6)))] → W p l e ({ frames := 8, cells := 0, slots := 0, locals := 175 }) s m [.ref (rq), .int (iI (6))].toArray below meth c H locs 0 0 (MQ below (zWr g.1 zCl (some (.int (iI (bI (ok))))) [(rq, .inr (4, [.ref (tx), .int (iI (ln)), .ref (pq), .int (iI (a')), .int (iI (vl')), .int (iI (bI (op)))])), (tx, .inl (g.2 2, 400, .inl (zaI tf))), (pq, .inr (3, [.ref (ra 0), .ref (ra 1), .ref (ra 2), .ref (ra 3), .ref (ra 4), .ref (ra 5), .ref (ra 6), .ref (rl), .int (iI (sub)), .int (iI (od)), .int (zbits (bits))])), (ra 6, .inr (2, [.int (iI (1970)), .int (iI (2299)), .ref (aj)])), (aj, .inl (g.2 1, 330, .inl (zaB f')))] A) [.ref (rq), .int (iI (6))].toArray s 0 0 A) (F0 m 2 ls []) := by
    intro n
    induction n with
    | zero =>
      intro x v k fc H locs ls h1 hF hk h2 hP hD hS hl
      exact absurd h2 (by omega)
    | succ n ih =>
      intro x v k fc H locs ls h1 hF hk h2 hP hD hS hl
      refine lv_iload_n hx hb zd_R_readItems_2 rfl (lv_at hl 0 rfl) ?_
      refine lv_aload_n hx hb zd_R_readItems_3 rfl (lv_at hl 1 rfl) ?_
      refine va_get (D := g.1) (ci := 4) (v := .int (iI (ln))) (C := zR_R) (T := zT_R) (N := 6) hx hb hw zin_R hown hK hP 0 rfl rfl 1 (by decide) (hw _ zw_2_8) (fun _ h9 => h9) rfl zd_R_readItems_4 ?_
      refine zi_icmp_ge (tgt := 37) hx hb zd_R_readItems_7 (by decide) (by omega) (fun c7 => ?_) (fun c7 => ?_)
      · refine zi_iconst hx hb zd_R_readItems_37 ?_
        cases (pIs_0 (by omega)).symm.trans hF
        refine zb_as (x := false) rfl ?_
        exact zw_zret hx hb hr hlk hP hS zd_R_readItems_38
      · rw [show (ln - k).toNat = (ln - (k + 1)).toNat + 1 by omega] at hF
        refine lv_aload_n hx hb zd_R_readItems_10 rfl (lv_at hl 1 rfl) ?_
        refine lv_iload_n hx hb zd_R_readItems_11 rfl (lv_at hl 2 rfl) ?_
        rcases hq12 : pI 6 tf ln (x) (v) with ⟨ok1, b1, fr1, to1, st1, w1⟩
        have hr12 := pI_rg (by omega) (by decide) hq12
        refine zk_W (As := [.int (iI (6))]) (b := rq) (own := "CronFinder$Reader") (nL := 3) (rest := []) hx hb hml hown hw (c_R_item_6 l g rq tx tf ln pq (x) (v) op hln (by omega) hch ra (aj) fc rl sub od (bits) q1 v1 q2 v2 ok1 b1 fr1 to1 st1 w1 hq12) zw_2_165 zw_2_167 zw_0_11 zw_1_13 zw_2_168 (np := 1) (by decide +kernel) rfl (by decide) (zRs_mv q1 v1 q2 v2) hK (zRs_nar (zRs_now hT hS) (va_free hD hS hA [0, 1, 2, 3, 4] rfl)) hP hD hS hA [0, 1, 2, 3, 4] rfl (by decide) rfl (va_recv hK hP (ci := 4) (q0 := 0) rfl rfl) hl.1 rfl (Nat.le_of_ble_eq_true rfl) (by decide) zd_R_readItems_12 (fun H locs hP hD hS => ?_)
        have hP : va_P g.1 zCl [(rq, .inr (4, [.ref (tx), .int (iI (ln)), .ref (pq), .int (iI (b1)), .int (iI (w1)), .int (iI (bI (op)))])), (tx, .inl (g.2 2, 400, .inl (zaI tf))), (pq, .inr (3, [.ref (ra 0), .ref (ra 1), .ref (ra 2), .ref (ra 3), .ref (ra 4), .ref (ra 5), .ref (ra 6), .ref (rl), .int (iI (sub)), .int (iI (od)), .int (zbits (bits))])), (ra 6, .inr (2, [.int (iI (1970)), .int (iI (2299)), .ref (aj)])), (aj, .inl (g.2 1, 330, .inl (zaB (pAf 6 ok1 fr1 to1 st1 fc))))] H := hP
        have hD : va_D A [(rq, .inr (4, [.ref (tx), .int (iI (ln)), .ref (pq), .int (iI (b1)), .int (iI (w1)), .int (iI (bI (op)))])), (tx, .inl (g.2 2, 400, .inl (zaI tf))), (pq, .inr (3, [.ref (ra 0), .ref (ra 1), .ref (ra 2), .ref (ra 3), .ref (ra 4), .ref (ra 5), .ref (ra 6), .ref (rl), .int (iI (sub)), .int (iI (od)), .int (zbits (bits))])), (ra 6, .inr (2, [.int (iI (1970)), .int (iI (2299)), .ref (aj)])), (aj, .inl (g.2 1, 330, .inl (zaB (pAf 6 ok1 fr1 to1 st1 fc))))] := hD
        refine zb_if_ne (tgt := 20) hx hb zd_R_readItems_15 (by decide) (fun c15 => ?_) (fun c15 => ?_)
        · subst c15
          refine lv_aload_n hx hb zd_R_readItems_20 rfl (lv_at hl 1 rfl) ?_
          refine zi_bipush hx hb zd_R_readItems_21 (by decide) ?_
          by_cases ha23 : rk tf ln (b1) = 44
          · have hp23 := rk_lt ha23 (by decide)
            refine zk_W (As := [.int (iI (44))]) (b := rq) (own := "CronFinder$Reader") (nL := 3) (rest := []) hx hb hml hown hw (c_R_accept_y l g rq tx tf ln pq (b1) (w1) op hln (by omega) hch 44 (by decide) ha23) zw_2_69 zw_2_71 zw_0_4 zw_1_13 zw_2_72 (np := 1) (by decide +kernel) rfl (by decide) (fun _ => zN_mv) hK trivial hP hD hS hA [0, 1] rfl (by decide) rfl (va_recv hK hP (ci := 4) (q0 := 0) rfl rfl) hl.1 rfl (Nat.le_of_ble_eq_true rfl) (by decide) zd_R_readItems_23 (fun H locs hP hD hS => ?_)
            have hP : va_P g.1 zCl [(rq, .inr (4, [.ref (tx), .int (iI (ln)), .ref (pq), .int (iI (b1 + 1)), .int (iI (w1)), .int (iI (bI (op)))])), (tx, .inl (g.2 2, 400, .inl (zaI tf))), (pq, .inr (3, [.ref (ra 0), .ref (ra 1), .ref (ra 2), .ref (ra 3), .ref (ra 4), .ref (ra 5), .ref (ra 6), .ref (rl), .int (iI (sub)), .int (iI (od)), .int (zbits (bits))])), (ra 6, .inr (2, [.int (iI (1970)), .int (iI (2299)), .ref (aj)])), (aj, .inl (g.2 1, 330, .inl (zaB (pAf 6 true fr1 to1 st1 fc))))] H := hP
            have hD : va_D A [(rq, .inr (4, [.ref (tx), .int (iI (ln)), .ref (pq), .int (iI (b1 + 1)), .int (iI (w1)), .int (iI (bI (op)))])), (tx, .inl (g.2 2, 400, .inl (zaI tf))), (pq, .inr (3, [.ref (ra 0), .ref (ra 1), .ref (ra 2), .ref (ra 3), .ref (ra 4), .ref (ra 5), .ref (ra 6), .ref (rl), .int (iI (sub)), .int (iI (od)), .int (zbits (bits))])), (ra 6, .inr (2, [.int (iI (1970)), .int (iI (2299)), .ref (aj)])), (aj, .inl (g.2 1, 330, .inl (zaB (pAf 6 true fr1 to1 st1 fc))))] := hD
            refine zb_if_ne (tgt := 31) hx hb zd_R_readItems_26 (by decide) (fun _ => ?_) (fun c26 => by cases c26)
            refine lv_iinc (v := iI (k + 1)) (lv' := [(2, .int (iI (k + 1))), (0, .ref (rq)), (1, .int (iI (6)))]) hx hb zd_R_readItems_31 hl (k := 0) rfl (iI_add _ _) (by decide) rfl (fun ls hl => ?_)
            refine lv_goto (tgt := 2) hx hb zd_R_readItems_34 (by decide) ?_
            exact ih (b1 + 1) w1 (k + 1) _ H locs ls ⟨by omega, by omega⟩ ((pIs_3 hq12 ha23).symm.trans hF) ⟨by omega, by omega⟩ (by omega) hP hD hS (lv_sub hl [0, 1, 2] rfl)
          · refine zk_V (As := [.int (iI (44))]) (b := rq) (own := "CronFinder$Reader") (nL := 3) (rest := []) hx hb hml hown hw (c_R_accept_n l g rq tx tf ln pq (b1) (w1) op hln (by omega) hch 44 (by decide) ha23) zw_2_69 zw_2_71 zw_0_4 zw_1_13 zw_2_72 (np := 1) (by decide +kernel) rfl (by decide) zN_mv hK trivial (hP.sub (ws' := [(rq, .inr (4, [.ref (tx), .int (iI (ln)), .ref (pq), .int (iI (b1)), .int (iI (w1)), .int (iI (bI (op)))])), (tx, .inl (g.2 2, 400, .inl (zaI tf)))]) [0, 1] rfl) (va_recv hK hP (ci := 4) (q0 := 0) rfl rfl) hl.1 rfl (Nat.le_of_ble_eq_true rfl) (by decide) zd_R_readItems_23 ?_
            refine zb_if_ne (tgt := 31) hx hb zd_R_readItems_26 (by decide) (fun c26 => by cases c26) (fun _ => ?_)
            refine zi_iconst hx hb zd_R_readItems_29 ?_
            cases (pIs_2 hq12 ha23).symm.trans hF
            refine zb_as (x := true) rfl ?_
            exact zw_zret hx hb hr hlk hP hS zd_R_readItems_30
        · subst c15
          refine zi_iconst hx hb zd_R_readItems_18 ?_
          cases (pIs_1 hq12).symm.trans hF
          refine zb_as (x := false) rfl ?_
          exact zw_zret hx hb hr hlk hP hS zd_R_readItems_19
  exact loop 401 at0 vl 0 f s.heap [] ls ⟨by omega, by omega⟩ (by rw [show ln - 0 = ln by omega]; exact hres) ⟨by omega, by omega⟩ (by omega) hP hD hS (lv_sub hl [0, 1, 2] rfl)
set_option maxHeartbeats 4000000 in
set_option maxRecDepth 100000 in
theorem c_R_lastDay (l : Launch) (g : zGl) (rq tx : Nat) (tf : Nat → Int) (ln : Int) (pq : Nat) (at0 vl : Int) (op : Bool) (hln : 0 ≤ ln ∧ ln ≤ 400) (hat : 0 ≤ at0 ∧ at0 ≤ ln) (hch : ∀ j : Nat, 0 ≤ tf j ∧ tf j < 256) (ra : Nat → Nat) (rl : Nat) (sub od : Int) (bits : Nat → Bool) (en : Nat → Nat) (ok : Bool) (a' vl' : Int) (r' : Nat) (s' o' : Int) (hres : pLD en tf ln at0 vl rl sub od = (ok, a', vl', r', s', o')) : zWi l zy_R_readLastDay zc_R_readLastDay 1 (some .boolean) ({ frames := 2, cells := 0, slots := 0, locals := 45 }) g (zSe en) [.ref (rq)] [(rq, .inr (4, [.ref (tx), .int (iI (ln)), .ref (pq), .int (iI (at0)), .int (iI (vl)), .int (iI (bI (op)))])), (tx, .inl (g.2 2, 400, .inl (zaI tf))), (pq, .inr (3, [.ref (ra 0), .ref (ra 1), .ref (ra 2), .ref (ra 3), .ref (ra 4), .ref (ra 5), .ref (ra 6), .ref (rl), .int (iI (sub)), .int (iI (od)), .int (zbits (bits))]))] (some (.int (iI (bI (ok))))) [(rq, .inr (4, [.ref (tx), .int (iI (ln)), .ref (pq), .int (iI (a')), .int (iI (vl')), .int (iI (bI (op)))])), (tx, .inl (g.2 2, 400, .inl (zaI tf))), (pq, .inr (3, [.ref (ra 0), .ref (ra 1), .ref (ra 2), .ref (ra 3), .ref (ra 4), .ref (ra 5), .ref (ra 6), .ref (r'), .int (iI (s')), .int (iI (o')), .int (zbits (bits))]))] 0 0 := by
  refine zw_open (by decide +kernel) (Nat.le_of_ble_eq_true rfl) ?_
  intro p e s m below meth c ls A hx hb hml hr hlk hown hin hw hK hT hP hD hS hA hl
  have hown : s.vm.findClass "CronFinder$Reader" = some m.cls := hown
  have hl : lv_has ls 1 [(0, .ref (rq))] := hl
  refine lv_aload_n hx hb zd_R_readLastDay_0 rfl (lv_at hl 0 rfl) ?_
  refine zi_bipush hx hb zd_R_readLastDay_1 (by decide) ?_
  by_cases ha3 : rk tf ln (at0) = 87
  · have hp3 := rk_lt ha3 (by decide)
    refine zk_W (As := [.int (iI (87))]) (b := rq) (own := "CronFinder$Reader") (nL := 1) (rest := []) hx hb hml hown hw (c_R_accept_y l g rq tx tf ln pq (at0) (vl) op hln (by omega) hch 87 (by decide) ha3) zw_2_69 zw_2_71 zw_0_4 zw_1_13 zw_2_72 (np := 1) (by decide +kernel) rfl (by decide) (fun _ => zN_mv) hK trivial hP hD hS hA [0, 1] rfl (by decide) rfl (va_recv hK hP (ci := 4) (q0 := 0) rfl rfl) hl.1 rfl (Nat.le_of_ble_eq_true rfl) (by decide) zd_R_readLastDay_3 (fun H locs hP hD hS => ?_)
    have hP : va_P g.1 zCl [(rq, .inr (4, [.ref (tx), .int (iI (ln)), .ref (pq), .int (iI (at0 + 1)), .int (iI (vl)), .int (iI (bI (op)))])), (tx, .inl (g.2 2, 400, .inl (zaI tf))), (pq, .inr (3, [.ref (ra 0), .ref (ra 1), .ref (ra 2), .ref (ra 3), .ref (ra 4), .ref (ra 5), .ref (ra 6), .ref (rl), .int (iI (sub)), .int (iI (od)), .int (zbits (bits))]))] H := hP
    have hD : va_D A [(rq, .inr (4, [.ref (tx), .int (iI (ln)), .ref (pq), .int (iI (at0 + 1)), .int (iI (vl)), .int (iI (bI (op)))])), (tx, .inl (g.2 2, 400, .inl (zaI tf))), (pq, .inr (3, [.ref (ra 0), .ref (ra 1), .ref (ra 2), .ref (ra 3), .ref (ra 4), .ref (ra 5), .ref (ra 6), .ref (rl), .int (iI (sub)), .int (iI (od)), .int (zbits (bits))]))] := hD
    refine zb_if_eq (tgt := 23) hx hb zd_R_readLastDay_6 (by decide) (fun c6 => by cases c6) (fun _ => ?_)
    refine lv_aload_n hx hb zd_R_readLastDay_9 rfl (lv_at hl 0 rfl) ?_
    refine va_get (D := g.1) (ci := 4) (v := .ref (pq)) (C := zR_R) (T := zT_R) (N := 6) hx hb hw zin_R hown hK hP 0 rfl rfl 2 (by decide) (hw _ zw_2_9) (fun _ h9 => h9) rfl zd_R_readLastDay_10 ?_
    refine va_gets hx hb (hT.1 2 (by decide)).1 hS hown (hw _ zw_2_81) (fun _ h9 => h9) zd_R_readLastDay_13 ?_
    refine zi_iconst hx hb zd_R_readLastDay_16 ?_
    refine zi_iconst hx hb zd_R_readLastDay_17 ?_
    refine zk_W (As := [.ref (en 2), .int (iI (0)), .int (iI (0))]) (b := pq) (own := "CronFinder$Reader") (nL := 1) (rest := []) hx hb hml hown hw (c_P_choose l g pq ra rl sub od (bits) (en 2) (0) (0)) zw_2_83 zw_2_43 zw_2_44 zw_1_2 zw_2_45 (np := 3) (by decide +kernel) rfl (by decide) (fun _ => zN_mv) hK trivial hP hD hS hA [2] rfl (by decide) rfl (va_recv hK hP (ci := 3) (q0 := 2) rfl rfl) hl.1 rfl (Nat.le_of_ble_eq_true rfl) (by decide) zd_R_readLastDay_18 (fun H locs hP hD hS => ?_)
    have hP : va_P g.1 zCl [(rq, .inr (4, [.ref (tx), .int (iI (ln)), .ref (pq), .int (iI (at0 + 1)), .int (iI (vl)), .int (iI (bI (op)))])), (tx, .inl (g.2 2, 400, .inl (zaI tf))), (pq, .inr (3, [.ref (ra 0), .ref (ra 1), .ref (ra 2), .ref (ra 3), .ref (ra 4), .ref (ra 5), .ref (ra 6), .ref (en 2), .int (iI (0)), .int (iI (0)), .int (zbits (bits))]))] H := hP
    have hD : va_D A [(rq, .inr (4, [.ref (tx), .int (iI (ln)), .ref (pq), .int (iI (at0 + 1)), .int (iI (vl)), .int (iI (bI (op)))])), (tx, .inl (g.2 2, 400, .inl (zaI tf))), (pq, .inr (3, [.ref (ra 0), .ref (ra 1), .ref (ra 2), .ref (ra 3), .ref (ra 4), .ref (ra 5), .ref (ra 6), .ref (en 2), .int (iI (0)), .int (iI (0)), .int (zbits (bits))]))] := hD
    refine zi_iconst hx hb zd_R_readLastDay_21 ?_
    first | cases (pLD_1 ha3).symm.trans hres
    refine zb_as (x := true) rfl ?_
    exact zw_zret hx hb hr hlk hP hS zd_R_readLastDay_22
  · refine zk_V (As := [.int (iI (87))]) (b := rq) (own := "CronFinder$Reader") (nL := 1) (rest := []) hx hb hml hown hw (c_R_accept_n l g rq tx tf ln pq (at0) (vl) op hln (by omega) hch 87 (by decide) ha3) zw_2_69 zw_2_71 zw_0_4 zw_1_13 zw_2_72 (np := 1) (by decide +kernel) rfl (by decide) zN_mv hK trivial (hP.sub (ws' := [(rq, .inr (4, [.ref (tx), .int (iI (ln)), .ref (pq), .int (iI (at0)), .int (iI (vl)), .int (iI (bI (op)))])), (tx, .inl (g.2 2, 400, .inl (zaI tf)))]) [0, 1] rfl) (va_recv hK hP (ci := 4) (q0 := 0) rfl rfl) hl.1 rfl (Nat.le_of_ble_eq_true rfl) (by decide) zd_R_readLastDay_3 ?_
    refine zb_if_eq (tgt := 23) hx hb zd_R_readLastDay_6 (by decide) (fun _ => ?_) (fun c6 => by cases c6)
    refine lv_aload_n hx hb zd_R_readLastDay_23 rfl (lv_at hl 0 rfl) ?_
    refine zi_bipush hx hb zd_R_readLastDay_24 (by decide) ?_
    by_cases ha26 : rk tf ln (at0) = 45
    · have hp26 := rk_lt ha26 (by decide)
      refine zk_W (As := [.int (iI (45))]) (b := rq) (own := "CronFinder$Reader") (nL := 1) (rest := []) hx hb hml hown hw (c_R_accept_y l g rq tx tf ln pq (at0) (vl) op hln (by omega) hch 45 (by decide) ha26) zw_2_69 zw_2_71 zw_0_4 zw_1_13 zw_2_72 (np := 1) (by decide +kernel) rfl (by decide) (fun _ => zN_mv) hK trivial hP hD hS hA [0, 1] rfl (by decide) rfl (va_recv hK hP (ci := 4) (q0 := 0) rfl rfl) hl.1 rfl (Nat.le_of_ble_eq_true rfl) (by decide) zd_R_readLastDay_26 (fun H locs hP hD hS => ?_)
      have hP : va_P g.1 zCl [(rq, .inr (4, [.ref (tx), .int (iI (ln)), .ref (pq), .int (iI (at0 + 1)), .int (iI (vl)), .int (iI (bI (op)))])), (tx, .inl (g.2 2, 400, .inl (zaI tf))), (pq, .inr (3, [.ref (ra 0), .ref (ra 1), .ref (ra 2), .ref (ra 3), .ref (ra 4), .ref (ra 5), .ref (ra 6), .ref (rl), .int (iI (sub)), .int (iI (od)), .int (zbits (bits))]))] H := hP
      have hD : va_D A [(rq, .inr (4, [.ref (tx), .int (iI (ln)), .ref (pq), .int (iI (at0 + 1)), .int (iI (vl)), .int (iI (bI (op)))])), (tx, .inl (g.2 2, 400, .inl (zaI tf))), (pq, .inr (3, [.ref (ra 0), .ref (ra 1), .ref (ra 2), .ref (ra 3), .ref (ra 4), .ref (ra 5), .ref (ra 6), .ref (rl), .int (iI (sub)), .int (iI (od)), .int (zbits (bits))]))] := hD
      refine zb_if_ne (tgt := 46) hx hb zd_R_readLastDay_29 (by decide) (fun _ => ?_) (fun c29 => by cases c29)
      refine lv_aload_n hx hb zd_R_readLastDay_46 rfl (lv_at hl 0 rfl) ?_
      refine zi_iconst hx hb zd_R_readLastDay_47 ?_
      refine zi_bipush hx hb zd_R_readLastDay_48 (by decide) ?_
      by_cases hu50 : rNm tf ln (1) (30) (at0 + 1)
      · have hv50 := rNm_rg hu50 (by omega)
        refine zk_W (As := [.int (iI (1)), .int (iI (30))]) (b := rq) (own := "CronFinder$Reader") (nL := 1) (rest := []) hx hb hml hown hw (c_R_num_y l g rq tx tf ln pq (at0 + 1) (vl) op hln (by omega) hch (1) (30) (by omega) hu50) zw_2_86 zw_2_88 zw_0_7 zw_1_13 zw_2_89 (np := 2) (by decide +kernel) rfl (by decide) (fun _ => zN_mv) hK trivial hP hD hS hA [0, 1] rfl (by decide) rfl (va_recv hK hP (ci := 4) (q0 := 0) rfl rfl) hl.1 rfl (Nat.le_of_ble_eq_true rfl) (by decide) zd_R_readLastDay_50 (fun H locs hP hD hS => ?_)
        have hP : va_P g.1 zCl [(rq, .inr (4, [.ref (tx), .int (iI (ln)), .ref (pq), .int (iI ((num tf ln (at0 + 1)).1)), .int (iI ((num tf ln (at0 + 1)).2)), .int (iI (bI (op)))])), (tx, .inl (g.2 2, 400, .inl (zaI tf))), (pq, .inr (3, [.ref (ra 0), .ref (ra 1), .ref (ra 2), .ref (ra 3), .ref (ra 4), .ref (ra 5), .ref (ra 6), .ref (rl), .int (iI (sub)), .int (iI (od)), .int (zbits (bits))]))] H := hP
        have hD : va_D A [(rq, .inr (4, [.ref (tx), .int (iI (ln)), .ref (pq), .int (iI ((num tf ln (at0 + 1)).1)), .int (iI ((num tf ln (at0 + 1)).2)), .int (iI (bI (op)))])), (tx, .inl (g.2 2, 400, .inl (zaI tf))), (pq, .inr (3, [.ref (ra 0), .ref (ra 1), .ref (ra 2), .ref (ra 3), .ref (ra 4), .ref (ra 5), .ref (ra 6), .ref (rl), .int (iI (sub)), .int (iI (od)), .int (zbits (bits))]))] := hD
        refine zb_if_ne (tgt := 58) hx hb zd_R_readLastDay_53 (by decide) (fun _ => ?_) (fun c53 => by cases c53)
        refine lv_aload_n hx hb zd_R_readLastDay_58 rfl (lv_at hl 0 rfl) ?_
        refine va_get (D := g.1) (ci := 4) (v := .ref (pq)) (C := zR_R) (T := zT_R) (N := 6) hx hb hw zin_R hown hK hP 0 rfl rfl 2 (by decide) (hw _ zw_2_9) (fun _ h9 => h9) rfl zd_R_readLastDay_59 ?_
        refine va_gets hx hb (hT.1 1 (by decide)).1 hS hown (hw _ zw_2_84) (fun _ h9 => h9) zd_R_readLastDay_62 ?_
        refine lv_aload_n hx hb zd_R_readLastDay_65 rfl (lv_at hl 0 rfl) ?_
        refine va_get (D := g.1) (ci := 4) (v := .int (iI ((num tf ln (at0 + 1)).2))) (C := zR_R) (T := zT_R) (N := 6) hx hb hw zin_R hown hK hP 0 rfl rfl 4 (by decide) (hw _ zw_2_11) (fun _ h9 => h9) rfl zd_R_readLastDay_66 ?_
        refine zi_iconst hx hb zd_R_readLastDay_69 ?_
        refine zk_W (As := [.ref (en 1), .int (iI ((num tf ln (at0 + 1)).2)), .int (iI (0))]) (b := pq) (own := "CronFinder$Reader") (nL := 1) (rest := []) hx hb hml hown hw (c_P_choose l g pq ra rl sub od (bits) (en 1) ((num tf ln (at0 + 1)).2) (0)) zw_2_83 zw_2_43 zw_2_44 zw_1_2 zw_2_45 (np := 3) (by decide +kernel) rfl (by decide) (fun _ => zN_mv) hK trivial hP hD hS hA [2] rfl (by decide) rfl (va_recv hK hP (ci := 3) (q0 := 2) rfl rfl) hl.1 rfl (Nat.le_of_ble_eq_true rfl) (by decide) zd_R_readLastDay_70 (fun H locs hP hD hS => ?_)
        have hP : va_P g.1 zCl [(rq, .inr (4, [.ref (tx), .int (iI (ln)), .ref (pq), .int (iI ((num tf ln (at0 + 1)).1)), .int (iI ((num tf ln (at0 + 1)).2)), .int (iI (bI (op)))])), (tx, .inl (g.2 2, 400, .inl (zaI tf))), (pq, .inr (3, [.ref (ra 0), .ref (ra 1), .ref (ra 2), .ref (ra 3), .ref (ra 4), .ref (ra 5), .ref (ra 6), .ref (en 1), .int (iI ((num tf ln (at0 + 1)).2)), .int (iI (0)), .int (zbits (bits))]))] H := hP
        have hD : va_D A [(rq, .inr (4, [.ref (tx), .int (iI (ln)), .ref (pq), .int (iI ((num tf ln (at0 + 1)).1)), .int (iI ((num tf ln (at0 + 1)).2)), .int (iI (bI (op)))])), (tx, .inl (g.2 2, 400, .inl (zaI tf))), (pq, .inr (3, [.ref (ra 0), .ref (ra 1), .ref (ra 2), .ref (ra 3), .ref (ra 4), .ref (ra 5), .ref (ra 6), .ref (en 1), .int (iI ((num tf ln (at0 + 1)).2)), .int (iI (0)), .int (zbits (bits))]))] := hD
        refine zi_iconst hx hb zd_R_readLastDay_73 ?_
        first | cases (pLD_3 ha3 ha26 hu50).symm.trans hres
        refine zb_as (x := true) rfl ?_
        exact zw_zret hx hb hr hlk hP hS zd_R_readLastDay_74
      · refine zk_W (As := [.int (iI (1)), .int (iI (30))]) (b := rq) (own := "CronFinder$Reader") (nL := 1) (rest := []) hx hb hml hown hw (c_R_num_n l g rq tx tf ln pq (at0 + 1) (vl) op hln (by omega) hch (1) (30) (by omega) hu50) zw_2_86 zw_2_88 zw_0_7 zw_1_13 zw_2_89 (np := 2) (by decide +kernel) rfl (by decide) (fun _ => zN_mv) hK trivial hP hD hS hA [0, 1] rfl (by decide) rfl (va_recv hK hP (ci := 4) (q0 := 0) rfl rfl) hl.1 rfl (Nat.le_of_ble_eq_true rfl) (by decide) zd_R_readLastDay_50 (fun H locs hP hD hS => ?_)
        have hP : va_P g.1 zCl [(rq, .inr (4, [.ref (tx), .int (iI (ln)), .ref (pq), .int (iI (at0 + 1)), .int (iI (vl)), .int (iI (bI (op)))])), (tx, .inl (g.2 2, 400, .inl (zaI tf))), (pq, .inr (3, [.ref (ra 0), .ref (ra 1), .ref (ra 2), .ref (ra 3), .ref (ra 4), .ref (ra 5), .ref (ra 6), .ref (rl), .int (iI (sub)), .int (iI (od)), .int (zbits (bits))]))] H := hP
        have hD : va_D A [(rq, .inr (4, [.ref (tx), .int (iI (ln)), .ref (pq), .int (iI (at0 + 1)), .int (iI (vl)), .int (iI (bI (op)))])), (tx, .inl (g.2 2, 400, .inl (zaI tf))), (pq, .inr (3, [.ref (ra 0), .ref (ra 1), .ref (ra 2), .ref (ra 3), .ref (ra 4), .ref (ra 5), .ref (ra 6), .ref (rl), .int (iI (sub)), .int (iI (od)), .int (zbits (bits))]))] := hD
        refine zb_if_ne (tgt := 58) hx hb zd_R_readLastDay_53 (by decide) (fun c53 => by cases c53) (fun _ => ?_)
        refine zi_iconst hx hb zd_R_readLastDay_56 ?_
        first | cases (pLD_4 ha3 ha26 hu50).symm.trans hres
        refine zb_as (x := false) rfl ?_
        exact zw_zret hx hb hr hlk hP hS zd_R_readLastDay_57
    · refine zk_V (As := [.int (iI (45))]) (b := rq) (own := "CronFinder$Reader") (nL := 1) (rest := []) hx hb hml hown hw (c_R_accept_n l g rq tx tf ln pq (at0) (vl) op hln (by omega) hch 45 (by decide) ha26) zw_2_69 zw_2_71 zw_0_4 zw_1_13 zw_2_72 (np := 1) (by decide +kernel) rfl (by decide) zN_mv hK trivial (hP.sub (ws' := [(rq, .inr (4, [.ref (tx), .int (iI (ln)), .ref (pq), .int (iI (at0)), .int (iI (vl)), .int (iI (bI (op)))])), (tx, .inl (g.2 2, 400, .inl (zaI tf)))]) [0, 1] rfl) (va_recv hK hP (ci := 4) (q0 := 0) rfl rfl) hl.1 rfl (Nat.le_of_ble_eq_true rfl) (by decide) zd_R_readLastDay_26 ?_
      refine zb_if_ne (tgt := 46) hx hb zd_R_readLastDay_29 (by decide) (fun c29 => by cases c29) (fun _ => ?_)
      refine lv_aload_n hx hb zd_R_readLastDay_32 rfl (lv_at hl 0 rfl) ?_
      refine va_get (D := g.1) (ci := 4) (v := .ref (pq)) (C := zR_R) (T := zT_R) (N := 6) hx hb hw zin_R hown hK hP 0 rfl rfl 2 (by decide) (hw _ zw_2_9) (fun _ h9 => h9) rfl zd_R_readLastDay_33 ?_
      refine va_gets hx hb (hT.1 1 (by decide)).1 hS hown (hw _ zw_2_84) (fun _ h9 => h9) zd_R_readLastDay_36 ?_
      refine zi_iconst hx hb zd_R_readLastDay_39 ?_
      refine zi_iconst hx hb zd_R_readLastDay_40 ?_
      refine zk_W (As := [.ref (en 1), .int (iI (0)), .int (iI (0))]) (b := pq) (own := "CronFinder$Reader") (nL := 1) (rest := []) hx hb hml hown hw (c_P_choose l g pq ra rl sub od (bits) (en 1) (0) (0)) zw_2_83 zw_2_43 zw_2_44 zw_1_2 zw_2_45 (np := 3) (by decide +kernel) rfl (by decide) (fun _ => zN_mv) hK trivial hP hD hS hA [2] rfl (by decide) rfl (va_recv hK hP (ci := 3) (q0 := 2) rfl rfl) hl.1 rfl (Nat.le_of_ble_eq_true rfl) (by decide) zd_R_readLastDay_41 (fun H locs hP hD hS => ?_)
      have hP : va_P g.1 zCl [(rq, .inr (4, [.ref (tx), .int (iI (ln)), .ref (pq), .int (iI (at0)), .int (iI (vl)), .int (iI (bI (op)))])), (tx, .inl (g.2 2, 400, .inl (zaI tf))), (pq, .inr (3, [.ref (ra 0), .ref (ra 1), .ref (ra 2), .ref (ra 3), .ref (ra 4), .ref (ra 5), .ref (ra 6), .ref (en 1), .int (iI (0)), .int (iI (0)), .int (zbits (bits))]))] H := hP
      have hD : va_D A [(rq, .inr (4, [.ref (tx), .int (iI (ln)), .ref (pq), .int (iI (at0)), .int (iI (vl)), .int (iI (bI (op)))])), (tx, .inl (g.2 2, 400, .inl (zaI tf))), (pq, .inr (3, [.ref (ra 0), .ref (ra 1), .ref (ra 2), .ref (ra 3), .ref (ra 4), .ref (ra 5), .ref (ra 6), .ref (en 1), .int (iI (0)), .int (iI (0)), .int (zbits (bits))]))] := hD
      refine zi_iconst hx hb zd_R_readLastDay_44 ?_
      first | cases (pLD_2 ha3 ha26).symm.trans hres
      refine zb_as (x := true) rfl ?_
      exact zw_zret hx hb hr hlk hP hS zd_R_readLastDay_45
set_option maxHeartbeats 4000000 in
set_option maxRecDepth 100000 in
theorem c_R_ordinal (l : Launch) (g : zGl) (rq tx : Nat) (tf : Nat → Int) (ln : Int) (pq : Nat) (at0 vl : Int) (op : Bool) (hln : 0 ≤ ln ∧ ln ≤ 400) (hat : 0 ≤ at0 ∧ at0 ≤ ln) (hch : ∀ j : Nat, 0 ≤ tf j ∧ tf j < 256) (ra : Nat → Nat) (rl : Nat) (sub od : Int) (bits : Nat → Bool) (en : Nat → Nat) (wd : Int) (ok : Bool) (a' vl' : Int) (r' : Nat) (s' o' : Int) (hres : pOr en tf ln wd at0 vl rl sub od = (ok, a', vl', r', s', o')) : zWi l zy_R_readOrdinal zc_R_readOrdinal 2 (some .boolean) ({ frames := 2, cells := 0, slots := 0, locals := 45 }) g (zSe en) [.ref (rq), .int (iI (wd))] [(rq, .inr (4, [.ref (tx), .int (iI (ln)), .ref (pq), .int (iI (at0)), .int (iI (vl)), .int (iI (bI (op)))])), (tx, .inl (g.2 2, 400, .inl (zaI tf))), (pq, .inr (3, [.ref (ra 0), .ref (ra 1), .ref (ra 2), .ref (ra 3), .ref (ra 4), .ref (ra 5), .ref (ra 6), .ref (rl), .int (iI (sub)), .int (iI (od)), .int (zbits (bits))]))] (some (.int (iI (bI (ok))))) [(rq, .inr (4, [.ref (tx), .int (iI (ln)), .ref (pq), .int (iI (a')), .int (iI (vl')), .int (iI (bI (op)))])), (tx, .inl (g.2 2, 400, .inl (zaI tf))), (pq, .inr (3, [.ref (ra 0), .ref (ra 1), .ref (ra 2), .ref (ra 3), .ref (ra 4), .ref (ra 5), .ref (ra 6), .ref (r'), .int (iI (s')), .int (iI (o')), .int (zbits (bits))]))] 0 0 := by
  refine zw_open (by decide +kernel) (Nat.le_of_ble_eq_true rfl) ?_
  intro p e s m below meth c ls A hx hb hml hr hlk hown hin hw hK hT hP hD hS hA hl
  have hown : s.vm.findClass "CronFinder$Reader" = some m.cls := hown
  have hl : lv_has ls 2 [(0, .ref (rq)), (1, .int (iI (wd)))] := hl
  refine lv_aload_n hx hb zd_R_readOrdinal_0 rfl (lv_at hl 0 rfl) ?_
  refine zi_iconst hx hb zd_R_readOrdinal_1 ?_
  refine zi_iconst hx hb zd_R_readOrdinal_2 ?_
  by_cases hu3 : rNm tf ln (1) (5) (at0)
  · have hv3 := rNm_rg hu3 (by omega)
    refine zk_W (As := [.int (iI (1)), .int (iI (5))]) (b := rq) (own := "CronFinder$Reader") (nL := 2) (rest := []) hx hb hml hown hw (c_R_num_y l g rq tx tf ln pq (at0) (vl) op hln (by omega) hch (1) (5) (by omega) hu3) zw_2_86 zw_2_88 zw_0_7 zw_1_13 zw_2_89 (np := 2) (by decide +kernel) rfl (by decide) (fun _ => zN_mv) hK trivial hP hD hS hA [0, 1] rfl (by decide) rfl (va_recv hK hP (ci := 4) (q0 := 0) rfl rfl) hl.1 rfl (Nat.le_of_ble_eq_true rfl) (by decide) zd_R_readOrdinal_3 (fun H locs hP hD hS => ?_)
    have hP : va_P g.1 zCl [(rq, .inr (4, [.ref (tx), .int (iI (ln)), .ref (pq), .int (iI ((num tf ln (at0)).1)), .int (iI ((num tf ln (at0)).2)), .int (iI (bI (op)))])), (tx, .inl (g.2 2, 400, .inl (zaI tf))), (pq, .inr (3, [.ref (ra 0), .ref (ra 1), .ref (ra 2), .ref (ra 3), .ref (ra 4), .ref (ra 5), .ref (ra 6), .ref (rl), .int (iI (sub)), .int (iI (od)), .int (zbits (bits))]))] H := hP
    have hD : va_D A [(rq, .inr (4, [.ref (tx), .int (iI (ln)), .ref (pq), .int (iI ((num tf ln (at0)).1)), .int (iI ((num tf ln (at0)).2)), .int (iI (bI (op)))])), (tx, .inl (g.2 2, 400, .inl (zaI tf))), (pq, .inr (3, [.ref (ra 0), .ref (ra 1), .ref (ra 2), .ref (ra 3), .ref (ra 4), .ref (ra 5), .ref (ra 6), .ref (rl), .int (iI (sub)), .int (iI (od)), .int (zbits (bits))]))] := hD
    refine zb_if_ne (tgt := 11) hx hb zd_R_readOrdinal_6 (by decide) (fun _ => ?_) (fun c6 => by cases c6)
    refine lv_aload_n hx hb zd_R_readOrdinal_11 rfl (lv_at hl 0 rfl) ?_
    refine va_get (D := g.1) (ci := 4) (v := .ref (pq)) (C := zR_R) (T := zT_R) (N := 6) hx hb hw zin_R hown hK hP 0 rfl rfl 2 (by decide) (hw _ zw_2_9) (fun _ h9 => h9) rfl zd_R_readOrdinal_12 ?_
    refine va_gets hx hb (hT.1 6 (by decide)).1 hS hown (hw _ zw_2_182) (fun _ h9 => h9) zd_R_readOrdinal_15 ?_
    refine lv_iload_n hx hb zd_R_readOrdinal_18 rfl (lv_at hl 1 rfl) ?_
    refine lv_aload_n hx hb zd_R_readOrdinal_19 rfl (lv_at hl 0 rfl) ?_
    refine va_get (D := g.1) (ci := 4) (v := .int (iI ((num tf ln (at0)).2))) (C := zR_R) (T := zT_R) (N := 6) hx hb hw zin_R hown hK hP 0 rfl rfl 4 (by decide) (hw _ zw_2_11) (fun _ h9 => h9) rfl zd_R_readOrdinal_20 ?_
    refine zk_W (As := [.ref (en 6), .int (iI (wd)), .int (iI ((num tf ln (at0)).2))]) (b := pq) (own := "CronFinder$Reader") (nL := 2) (rest := []) hx hb hml hown hw (c_P_choose l g pq ra rl sub od (bits) (en 6) (wd) ((num tf ln (at0)).2)) zw_2_83 zw_2_43 zw_2_44 zw_1_2 zw_2_45 (np := 3) (by decide +kernel) rfl (by decide) (fun _ => zN_mv) hK trivial hP hD hS hA [2] rfl (by decide) rfl (va_recv hK hP (ci := 3) (q0 := 2) rfl rfl) hl.1 rfl (Nat.le_of_ble_eq_true rfl) (by decide) zd_R_readOrdinal_23 (fun H locs hP hD hS => ?_)
    have hP : va_P g.1 zCl [(rq, .inr (4, [.ref (tx), .int (iI (ln)), .ref (pq), .int (iI ((num tf ln (at0)).1)), .int (iI ((num tf ln (at0)).2)), .int (iI (bI (op)))])), (tx, .inl (g.2 2, 400, .inl (zaI tf))), (pq, .inr (3, [.ref (ra 0), .ref (ra 1), .ref (ra 2), .ref (ra 3), .ref (ra 4), .ref (ra 5), .ref (ra 6), .ref (en 6), .int (iI (wd)), .int (iI ((num tf ln (at0)).2)), .int (zbits (bits))]))] H := hP
    have hD : va_D A [(rq, .inr (4, [.ref (tx), .int (iI (ln)), .ref (pq), .int (iI ((num tf ln (at0)).1)), .int (iI ((num tf ln (at0)).2)), .int (iI (bI (op)))])), (tx, .inl (g.2 2, 400, .inl (zaI tf))), (pq, .inr (3, [.ref (ra 0), .ref (ra 1), .ref (ra 2), .ref (ra 3), .ref (ra 4), .ref (ra 5), .ref (ra 6), .ref (en 6), .int (iI (wd)), .int (iI ((num tf ln (at0)).2)), .int (zbits (bits))]))] := hD
    refine zi_iconst hx hb zd_R_readOrdinal_26 ?_
    first | cases (pOr_1 hu3).symm.trans hres
    refine zb_as (x := true) rfl ?_
    exact zw_zret hx hb hr hlk hP hS zd_R_readOrdinal_27
  · refine zk_W (As := [.int (iI (1)), .int (iI (5))]) (b := rq) (own := "CronFinder$Reader") (nL := 2) (rest := []) hx hb hml hown hw (c_R_num_n l g rq tx tf ln pq (at0) (vl) op hln (by omega) hch (1) (5) (by omega) hu3) zw_2_86 zw_2_88 zw_0_7 zw_1_13 zw_2_89 (np := 2) (by decide +kernel) rfl (by decide) (fun _ => zN_mv) hK trivial hP hD hS hA [0, 1] rfl (by decide) rfl (va_recv hK hP (ci := 4) (q0 := 0) rfl rfl) hl.1 rfl (Nat.le_of_ble_eq_true rfl) (by decide) zd_R_readOrdinal_3 (fun H locs hP hD hS => ?_)
    have hP : va_P g.1 zCl [(rq, .inr (4, [.ref (tx), .int (iI (ln)), .ref (pq), .int (iI (at0)), .int (iI (vl)), .int (iI (bI (op)))])), (tx, .inl (g.2 2, 400, .inl (zaI tf))), (pq, .inr (3, [.ref (ra 0), .ref (ra 1), .ref (ra 2), .ref (ra 3), .ref (ra 4), .ref (ra 5), .ref (ra 6), .ref (rl), .int (iI (sub)), .int (iI (od)), .int (zbits (bits))]))] H := hP
    have hD : va_D A [(rq, .inr (4, [.ref (tx), .int (iI (ln)), .ref (pq), .int (iI (at0)), .int (iI (vl)), .int (iI (bI (op)))])), (tx, .inl (g.2 2, 400, .inl (zaI tf))), (pq, .inr (3, [.ref (ra 0), .ref (ra 1), .ref (ra 2), .ref (ra 3), .ref (ra 4), .ref (ra 5), .ref (ra 6), .ref (rl), .int (iI (sub)), .int (iI (od)), .int (zbits (bits))]))] := hD
    refine zb_if_ne (tgt := 11) hx hb zd_R_readOrdinal_6 (by decide) (fun c6 => by cases c6) (fun _ => ?_)
    refine zi_iconst hx hb zd_R_readOrdinal_9 ?_
    first | cases (pOr_2 hu3).symm.trans hres
    refine zb_as (x := false) rfl ?_
    exact zw_zret hx hb hr hlk hP hS zd_R_readOrdinal_10
