/-! Reader: the day, the weekday -/
theorem zd_R_readDay_0 : decode zc_R_readDay 0 = .ok (.aload_n 0, 1) := by decide +kernel
theorem zd_R_readDay_1 : decode zc_R_readDay 1 = .ok (.bipush 63, 2) := by decide +kernel
theorem zd_R_readDay_3 : decode zc_R_readDay 3 = .ok (.invokevirtual 64, 3) := by decide +kernel
theorem zd_R_readDay_6 : decode zc_R_readDay 6 = .ok (.ifCond .eq 10, 3) := by decide +kernel
theorem zd_R_readDay_9 : decode zc_R_readDay 9 = .ok (.aload_n 0, 1) := by decide +kernel
theorem zd_R_readDay_10 : decode zc_R_readDay 10 = .ok (.iconst 1, 1) := by decide +kernel
theorem zd_R_readDay_11 : decode zc_R_readDay 11 = .ok (.putfield 29, 3) := by decide +kernel
theorem zd_R_readDay_14 : decode zc_R_readDay 14 = .ok (.iconst 1, 1) := by decide +kernel
theorem zd_R_readDay_15 : decode zc_R_readDay 15 = .ok (.ireturn, 1) := by decide +kernel
theorem zd_R_readDay_16 : decode zc_R_readDay 16 = .ok (.aload_n 0, 1) := by decide +kernel
theorem zd_R_readDay_17 : decode zc_R_readDay 17 = .ok (.bipush 76, 2) := by decide +kernel
theorem zd_R_readDay_19 : decode zc_R_readDay 19 = .ok (.invokevirtual 64, 3) := by decide +kernel
theorem zd_R_readDay_22 : decode zc_R_readDay 22 = .ok (.ifCond .eq 8, 3) := by decide +kernel
theorem zd_R_readDay_25 : decode zc_R_readDay 25 = .ok (.aload_n 0, 1) := by decide +kernel
theorem zd_R_readDay_26 : decode zc_R_readDay 26 = .ok (.invokevirtual 68, 3) := by decide +kernel
theorem zd_R_readDay_29 : decode zc_R_readDay 29 = .ok (.ireturn, 1) := by decide +kernel
theorem zd_R_readDay_30 : decode zc_R_readDay 30 = .ok (.aload_n 0, 1) := by decide +kernel
theorem zd_R_readDay_31 : decode zc_R_readDay 31 = .ok (.getfield 23, 3) := by decide +kernel
theorem zd_R_readDay_34 : decode zc_R_readDay 34 = .ok (.istore_n 1, 1) := by decide +kernel
theorem zd_R_readDay_35 : decode zc_R_readDay 35 = .ok (.aload_n 0, 1) := by decide +kernel
theorem zd_R_readDay_36 : decode zc_R_readDay 36 = .ok (.iconst 3, 1) := by decide +kernel
theorem zd_R_readDay_37 : decode zc_R_readDay 37 = .ok (.invokevirtual 71, 3) := by decide +kernel
theorem zd_R_readDay_40 : decode zc_R_readDay 40 = .ok (.ifCond .eq 29, 3) := by decide +kernel
theorem zd_R_readDay_43 : decode zc_R_readDay 43 = .ok (.aload_n 0, 1) := by decide +kernel
theorem zd_R_readDay_44 : decode zc_R_readDay 44 = .ok (.bipush 87, 2) := by decide +kernel
theorem zd_R_readDay_46 : decode zc_R_readDay 46 = .ok (.invokevirtual 64, 3) := by decide +kernel
theorem zd_R_readDay_49 : decode zc_R_readDay 49 = .ok (.ifCond .eq 20, 3) := by decide +kernel
theorem zd_R_readDay_52 : decode zc_R_readDay 52 = .ok (.aload_n 0, 1) := by decide +kernel
theorem zd_R_readDay_53 : decode zc_R_readDay 53 = .ok (.getfield 19, 3) := by decide +kernel
theorem zd_R_readDay_56 : decode zc_R_readDay 56 = .ok (.getstatic 74, 3) := by decide +kernel
theorem zd_R_readDay_59 : decode zc_R_readDay 59 = .ok (.aload_n 0, 1) := by decide +kernel
theorem zd_R_readDay_60 : decode zc_R_readDay 60 = .ok (.getfield 26, 3) := by decide +kernel
theorem zd_R_readDay_63 : decode zc_R_readDay 63 = .ok (.iconst 0, 1) := by decide +kernel
theorem zd_R_readDay_64 : decode zc_R_readDay 64 = .ok (.invokevirtual 80, 3) := by decide +kernel
theorem zd_R_readDay_67 : decode zc_R_readDay 67 = .ok (.iconst 1, 1) := by decide +kernel
theorem zd_R_readDay_68 : decode zc_R_readDay 68 = .ok (.ireturn, 1) := by decide +kernel
theorem zd_R_readDay_69 : decode zc_R_readDay 69 = .ok (.aload_n 0, 1) := by decide +kernel
theorem zd_R_readDay_70 : decode zc_R_readDay 70 = .ok (.iload_n 1, 1) := by decide +kernel
theorem zd_R_readDay_71 : decode zc_R_readDay 71 = .ok (.putfield 23, 3) := by decide +kernel
theorem zd_R_readDay_74 : decode zc_R_readDay 74 = .ok (.aload_n 0, 1) := by decide +kernel
theorem zd_R_readDay_75 : decode zc_R_readDay 75 = .ok (.iconst 3, 1) := by decide +kernel
theorem zd_R_readDay_76 : decode zc_R_readDay 76 = .ok (.invokevirtual 57, 3) := by decide +kernel
theorem zd_R_readDay_79 : decode zc_R_readDay 79 = .ok (.ireturn, 1) := by decide +kernel
theorem zd_R_readWeekday_0 : decode zc_R_readWeekday 0 = .ok (.aload_n 0, 1) := by decide +kernel
theorem zd_R_readWeekday_1 : decode zc_R_readWeekday 1 = .ok (.getfield 29, 3) := by decide +kernel
theorem zd_R_readWeekday_4 : decode zc_R_readWeekday 4 = .ok (.ifCond .ne 10, 3) := by decide +kernel
theorem zd_R_readWeekday_7 : decode zc_R_readWeekday 7 = .ok (.aload_n 0, 1) := by decide +kernel
theorem zd_R_readWeekday_8 : decode zc_R_readWeekday 8 = .ok (.bipush 63, 2) := by decide +kernel
theorem zd_R_readWeekday_10 : decode zc_R_readWeekday 10 = .ok (.invokevirtual 64, 3) := by decide +kernel
theorem zd_R_readWeekday_13 : decode zc_R_readWeekday 13 = .ok (.ireturn, 1) := by decide +kernel
theorem zd_R_readWeekday_14 : decode zc_R_readWeekday 14 = .ok (.aload_n 0, 1) := by decide +kernel
theorem zd_R_readWeekday_15 : decode zc_R_readWeekday 15 = .ok (.getfield 19, 3) := by decide +kernel
theorem zd_R_readWeekday_18 : decode zc_R_readWeekday 18 = .ok (.getstatic 94, 3) := by decide +kernel
theorem zd_R_readWeekday_21 : decode zc_R_readWeekday 21 = .ok (.iconst 0, 1) := by decide +kernel
theorem zd_R_readWeekday_22 : decode zc_R_readWeekday 22 = .ok (.iconst 0, 1) := by decide +kernel
theorem zd_R_readWeekday_23 : decode zc_R_readWeekday 23 = .ok (.invokevirtual 80, 3) := by decide +kernel
theorem zd_R_readWeekday_26 : decode zc_R_readWeekday 26 = .ok (.aload_n 0, 1) := by decide +kernel
theorem zd_R_readWeekday_27 : decode zc_R_readWeekday 27 = .ok (.bipush 76, 2) := by decide +kernel
theorem zd_R_readWeekday_29 : decode zc_R_readWeekday 29 = .ok (.invokevirtual 64, 3) := by decide +kernel
theorem zd_R_readWeekday_32 : decode zc_R_readWeekday 32 = .ok (.ifCond .eq 21, 3) := by decide +kernel
theorem zd_R_readWeekday_35 : decode zc_R_readWeekday 35 = .ok (.aload_n 0, 1) := by decide +kernel
theorem zd_R_readWeekday_36 : decode zc_R_readWeekday 36 = .ok (.getfield 19, 3) := by decide +kernel
theorem zd_R_readWeekday_39 : decode zc_R_readWeekday 39 = .ok (.iconst 5, 1) := by decide +kernel
theorem zd_R_readWeekday_40 : decode zc_R_readWeekday 40 = .ok (.invokevirtual 38, 3) := by decide +kernel
theorem zd_R_readWeekday_43 : decode zc_R_readWeekday 43 = .ok (.bipush 7, 2) := by decide +kernel
theorem zd_R_readWeekday_45 : decode zc_R_readWeekday 45 = .ok (.bipush 7, 2) := by decide +kernel
theorem zd_R_readWeekday_47 : decode zc_R_readWeekday 47 = .ok (.iconst 1, 1) := by decide +kernel
theorem zd_R_readWeekday_48 : decode zc_R_readWeekday 48 = .ok (.invokevirtual 97, 3) := by decide +kernel
theorem zd_R_readWeekday_51 : decode zc_R_readWeekday 51 = .ok (.iconst 1, 1) := by decide +kernel
theorem zd_R_readWeekday_52 : decode zc_R_readWeekday 52 = .ok (.ireturn, 1) := by decide +kernel
theorem zd_R_readWeekday_53 : decode zc_R_readWeekday 53 = .ok (.aload_n 0, 1) := by decide +kernel
theorem zd_R_readWeekday_54 : decode zc_R_readWeekday 54 = .ok (.getfield 23, 3) := by decide +kernel
theorem zd_R_readWeekday_57 : decode zc_R_readWeekday 57 = .ok (.istore_n 1, 1) := by decide +kernel
theorem zd_R_readWeekday_58 : decode zc_R_readWeekday 58 = .ok (.aload_n 0, 1) := by decide +kernel
theorem zd_R_readWeekday_59 : decode zc_R_readWeekday 59 = .ok (.iconst 5, 1) := by decide +kernel
theorem zd_R_readWeekday_60 : decode zc_R_readWeekday 60 = .ok (.invokevirtual 71, 3) := by decide +kernel
theorem zd_R_readWeekday_63 : decode zc_R_readWeekday 63 = .ok (.ifCond .eq 47, 3) := by decide +kernel
theorem zd_R_readWeekday_66 : decode zc_R_readWeekday 66 = .ok (.aload_n 0, 1) := by decide +kernel
theorem zd_R_readWeekday_67 : decode zc_R_readWeekday 67 = .ok (.bipush 76, 2) := by decide +kernel
theorem zd_R_readWeekday_69 : decode zc_R_readWeekday 69 = .ok (.invokevirtual 64, 3) := by decide +kernel
theorem zd_R_readWeekday_72 : decode zc_R_readWeekday 72 = .ok (.ifCond .eq 20, 3) := by decide +kernel
theorem zd_R_readWeekday_75 : decode zc_R_readWeekday 75 = .ok (.aload_n 0, 1) := by decide +kernel
theorem zd_R_readWeekday_76 : decode zc_R_readWeekday 76 = .ok (.getfield 19, 3) := by decide +kernel
theorem zd_R_readWeekday_79 : decode zc_R_readWeekday 79 = .ok (.getstatic 101, 3) := by decide +kernel
theorem zd_R_readWeekday_82 : decode zc_R_readWeekday 82 = .ok (.aload_n 0, 1) := by decide +kernel
theorem zd_R_readWeekday_83 : decode zc_R_readWeekday 83 = .ok (.getfield 26, 3) := by decide +kernel
theorem zd_R_readWeekday_86 : decode zc_R_readWeekday 86 = .ok (.iconst 0, 1) := by decide +kernel
theorem zd_R_readWeekday_87 : decode zc_R_readWeekday 87 = .ok (.invokevirtual 80, 3) := by decide +kernel
theorem zd_R_readWeekday_90 : decode zc_R_readWeekday 90 = .ok (.iconst 1, 1) := by decide +kernel
theorem zd_R_readWeekday_91 : decode zc_R_readWeekday 91 = .ok (.ireturn, 1) := by decide +kernel
theorem zd_R_readWeekday_92 : decode zc_R_readWeekday 92 = .ok (.aload_n 0, 1) := by decide +kernel
theorem zd_R_readWeekday_93 : decode zc_R_readWeekday 93 = .ok (.bipush 35, 2) := by decide +kernel
theorem zd_R_readWeekday_95 : decode zc_R_readWeekday 95 = .ok (.invokevirtual 64, 3) := by decide +kernel
theorem zd_R_readWeekday_98 : decode zc_R_readWeekday 98 = .ok (.ifCond .eq 12, 3) := by decide +kernel
theorem zd_R_readWeekday_101 : decode zc_R_readWeekday 101 = .ok (.aload_n 0, 1) := by decide +kernel
theorem zd_R_readWeekday_102 : decode zc_R_readWeekday 102 = .ok (.aload_n 0, 1) := by decide +kernel
theorem zd_R_readWeekday_103 : decode zc_R_readWeekday 103 = .ok (.getfield 26, 3) := by decide +kernel
theorem zd_R_readWeekday_106 : decode zc_R_readWeekday 106 = .ok (.invokevirtual 104, 3) := by decide +kernel
theorem zd_R_readWeekday_109 : decode zc_R_readWeekday 109 = .ok (.ireturn, 1) := by decide +kernel
theorem zd_R_readWeekday_110 : decode zc_R_readWeekday 110 = .ok (.aload_n 0, 1) := by decide +kernel
theorem zd_R_readWeekday_111 : decode zc_R_readWeekday 111 = .ok (.iload_n 1, 1) := by decide +kernel
theorem zd_R_readWeekday_112 : decode zc_R_readWeekday 112 = .ok (.putfield 23, 3) := by decide +kernel
theorem zd_R_readWeekday_115 : decode zc_R_readWeekday 115 = .ok (.aload_n 0, 1) := by decide +kernel
theorem zd_R_readWeekday_116 : decode zc_R_readWeekday 116 = .ok (.iconst 5, 1) := by decide +kernel
theorem zd_R_readWeekday_117 : decode zc_R_readWeekday 117 = .ok (.invokevirtual 57, 3) := by decide +kernel
theorem zd_R_readWeekday_120 : decode zc_R_readWeekday 120 = .ok (.ireturn, 1) := by decide +kernel
/-- what the reader takes of the statics -/
def zRt (en : Nat → Nat) (q1 v1 q2 v2 : Nat) (A : Nat → Prop) : zStt := fun U H => zSe en A U H ∧ zRs q1 v1 q2 v2 A U H
theorem zRt_mv (en : Nat → Nat) (q1 v1 q2 v2 : Nat) (A : Nat → Prop) : zMv (zRt en q1 v1 q2 v2 A) := fun u U H hW h => ⟨zSe_mv en A u U H hW h.1, zRs_mv q1 v1 q2 v2 A u U H hW h.2⟩
theorem zRt_now {en : Nat → Nat} {q1 v1 q2 v2 : Nat} {A : Nat → Prop} {s : State} {H : Heap} {locs : List Loc} (h : zRt en q1 v1 q2 v2 A s s.heap) (hS : va_S A s.heap H locs) : zRt en q1 v1 q2 v2 A s H := ⟨zSe_now h.1 hS, zRs_now h.2 hS⟩
theorem zRt_nar {en : Nat → Nat} {q1 v1 q2 v2 : Nat} {A B : Nat → Prop} {s : State} {H : Heap} (h : zRt en q1 v1 q2 v2 A s H) (hAB : ∀ q, B q → A q) : zRt en q1 v1 q2 v2 B s H := ⟨zSe_nar h.1 hAB, zRs_nar h.2 hAB⟩
/-- what a field leaves: is it good, the place, the value read last, is the day open, rule, subject, ordinal, its row -/
abbrev pFo : Type := Bool × Int × Int × Bool × Nat × Int × Int × (Nat → Bool)
def pFd (op : Bool) (f : Nat → Bool) (x : Bool × Int × Int × Nat × Int × Int) : pFo := (x.1, x.2.1, x.2.2.1, op, x.2.2.2.1, x.2.2.2.2.1, x.2.2.2.2.2, f)
def pFi (op : Bool) (rl : Nat) (sub od : Int) (x : Bool × Int × Int × (Nat → Bool)) : pFo := (x.1, x.2.1, x.2.2.1, op, rl, sub, od, x.2.2.2)
def pDy (en : Nat → Nat) (tf : Nat → Int) (ln a vl : Int) (op : Bool) (rl : Nat) (sub od : Int) (f : Nat → Bool) : pFo :=
  if rk tf ln a = 63 then (true, a + 1, vl, true, rl, sub, od, f)
  else if rk tf ln a = 76 then pFd op f (pLD en tf ln (a + 1) vl rl sub od)
  else if vOk 3 tf ln a = false then pFi op rl sub od (pIs 3 tf ln ln.toNat a vl f)
  else if rk tf ln (vAt 3 tf ln a) = 87 then (true, vAt 3 tf ln a + 1, vVl 3 tf ln a, op, en 3, vVl 3 tf ln a, 0, f)
  else pFi op rl sub od (pIs 3 tf ln ln.toNat a (vVl 3 tf ln a) f)
def pWd (en : Nat → Nat) (tf : Nat → Int) (ln a vl : Int) (op : Bool) (rl : Nat) (sub od : Int) (f : Nat → Bool) : pFo :=
  if op = false then (if rk tf ln a = 63 then (true, a + 1, vl, op, rl, sub, od, f) else (false, a, vl, op, rl, sub, od, f))
  else if rk tf ln a = 76 then (true, a + 1, vl, op, en 4, 0, 0, pAf 5 true 7 7 1 f)
  else if vOk 5 tf ln a = false then pFi op (en 4) 0 0 (pIs 5 tf ln ln.toNat a vl f)
  else if rk tf ln (vAt 5 tf ln a) = 76 then (true, vAt 5 tf ln a + 1, vVl 5 tf ln a, op, en 5, vVl 5 tf ln a, 0, f)
  else if rk tf ln (vAt 5 tf ln a) = 35 then pFd op f (pOr en tf ln (vVl 5 tf ln a) (vAt 5 tf ln a + 1) (vVl 5 tf ln a) (en 4) 0 0)
  else pFi op (en 4) 0 0 (pIs 5 tf ln ln.toNat a (vVl 5 tf ln a) f)
section DAYS2
variable {en : Nat → Nat} {tf : Nat → Int} {ln a vl sub od : Int} {op : Bool} {rl : Nat} {f : Nat → Bool} {x : Bool × Int × Int × Nat × Int × Int} {z : Bool × Int × Int × (Nat → Bool)}
theorem pDy_1 (h : rk tf ln a = 63) : pDy en tf ln a vl op rl sub od f = (true, a + 1, vl, true, rl, sub, od, f) := by rw [pDy, if_pos h]
theorem pDy_2 (h : ¬ rk tf ln a = 63) (h1 : rk tf ln a = 76) (h2 : pLD en tf ln (a + 1) vl rl sub od = x) : pDy en tf ln a vl op rl sub od f = pFd op f x := by rw [pDy, if_neg h, if_pos h1, h2]
theorem pDy_3 (h : ¬ rk tf ln a = 63) (h1 : ¬ rk tf ln a = 76) (h2 : ¬ vOk 3 tf ln a = true) (h3 : pIs 3 tf ln ln.toNat a vl f = z) : pDy en tf ln a vl op rl sub od f = pFi op rl sub od z := by rw [pDy, if_neg h, if_neg h1, if_pos (bf h2), h3]
theorem pDy_4 (h : ¬ rk tf ln a = 63) (h1 : ¬ rk tf ln a = 76) (h2 : vOk 3 tf ln a = true) (h3 : rk tf ln (vAt 3 tf ln a) = 87) : pDy en tf ln a vl op rl sub od f = (true, vAt 3 tf ln a + 1, vVl 3 tf ln a, op, en 3, vVl 3 tf ln a, 0, f) := by rw [pDy, if_neg h, if_neg h1, if_neg (bt_nf h2), if_pos h3]
theorem pDy_5 (h : ¬ rk tf ln a = 63) (h1 : ¬ rk tf ln a = 76) (h2 : vOk 3 tf ln a = true) (h3 : ¬ rk tf ln (vAt 3 tf ln a) = 87) (h4 : pIs 3 tf ln ln.toNat a (vVl 3 tf ln a) f = z) : pDy en tf ln a vl op rl sub od f = pFi op rl sub od z := by rw [pDy, if_neg h, if_neg h1, if_neg (bt_nf h2), if_neg h3, h4]
theorem pWd_1 (h0 : op = false) (h : rk tf ln a = 63) : pWd en tf ln a vl op rl sub od f = (true, a + 1, vl, op, rl, sub, od, f) := by rw [pWd, if_pos h0, if_pos h]
theorem pWd_2 (h0 : op = false) (h : ¬ rk tf ln a = 63) : pWd en tf ln a vl op rl sub od f = (false, a, vl, op, rl, sub, od, f) := by rw [pWd, if_pos h0, if_neg h]
theorem pWd_3 (h0 : op = true) (h : rk tf ln a = 76) : pWd en tf ln a vl op rl sub od f = (true, a + 1, vl, op, en 4, 0, 0, pAf 5 true 7 7 1 f) := by rw [pWd, if_neg (bt_nf h0), if_pos h]
theorem pWd_4 (h0 : op = true) (h : ¬ rk tf ln a = 76) (h1 : ¬ vOk 5 tf ln a = true) (h2 : pIs 5 tf ln ln.toNat a vl f = z) : pWd en tf ln a vl op rl sub od f = pFi op (en 4) 0 0 z := by rw [pWd, if_neg (bt_nf h0), if_neg h, if_pos (bf h1), h2]
theorem pWd_5 (h0 : op = true) (h : ¬ rk tf ln a = 76) (h1 : vOk 5 tf ln a = true) (h2 : rk tf ln (vAt 5 tf ln a) = 76) : pWd en tf ln a vl op rl sub od f = (true, vAt 5 tf ln a + 1, vVl 5 tf ln a, op, en 5, vVl 5 tf ln a, 0, f) := by rw [pWd, if_neg (bt_nf h0), if_neg h, if_neg (bt_nf h1), if_pos h2]
theorem pWd_6 (h0 : op = true) (h : ¬ rk tf ln a = 76) (h1 : vOk 5 tf ln a = true) (h2 : ¬ rk tf ln (vAt 5 tf ln a) = 76) (h3 : rk tf ln (vAt 5 tf ln a) = 35) (h4 : pOr en tf ln (vVl 5 tf ln a) (vAt 5 tf ln a + 1) (vVl 5 tf ln a) (en 4) 0 0 = x) : pWd en tf ln a vl op rl sub od f = pFd op f x := by rw [pWd, if_neg (bt_nf h0), if_neg h, if_neg (bt_nf h1), if_neg h2, if_pos h3, h4]
theorem pWd_7 (h0 : op = true) (h : ¬ rk tf ln a = 76) (h1 : vOk 5 tf ln a = true) (h2 : ¬ rk tf ln (vAt 5 tf ln a) = 76) (h3 : ¬ rk tf ln (vAt 5 tf ln a) = 35) (h4 : pIs 5 tf ln ln.toNat a (vVl 5 tf ln a) f = z) : pWd en tf ln a vl op rl sub od f = pFi op (en 4) 0 0 z := by rw [pWd, if_neg (bt_nf h0), if_neg h, if_neg (bt_nf h1), if_neg h2, if_neg h3, h4]
end DAYS2
set_option maxHeartbeats 4000000 in
set_option maxRecDepth 100000 in
theorem c_R_day (l : Launch) (g : zGl) (rq tx : Nat) (tf : Nat → Int) (ln : Int) (pq : Nat) (at0 vl : Int) (op : Bool) (hln : 0 ≤ ln ∧ ln ≤ 400) (hat : 0 ≤ at0 ∧ at0 ≤ ln) (hch : ∀ j : Nat, 0 ≤ tf j ∧ tf j < 256) (ra : Nat → Nat) (aj : Nat) (f : Nat → Bool) (rl : Nat) (sub od : Int) (bits : Nat → Bool) (q1 v1 q2 v2 : Nat) (en : Nat → Nat) (ok : Bool) (a' vl' : Int) (op' : Bool) (r' : Nat) (s' o' : Int) (f' : Nat → Bool) (hres : pDy en tf ln at0 vl op rl sub od f = (ok, a', vl', op', r', s', o', f')) : zWi l zy_R_readDay zc_R_readDay 2 (some .boolean) ({ frames := 9, cells := 0, slots := 0, locals := 197 }) g (zRt en q1 v1 q2 v2) [.ref (rq)] [(rq, .inr (4, [.ref (tx), .int (iI (ln)), .ref (pq), .int (iI (at0)), .int (iI (vl)), .int (iI (bI (op)))])), (tx, .inl (g.2 2, 400, .inl (zaI tf))), (pq, .inr (3, [.ref (ra 0), .ref (ra 1), .ref (ra 2), .ref (ra 3), .ref (ra 4), .ref (ra 5), .ref (ra 6), .ref (rl), .int (iI (sub)), .int (iI (od)), .int (zbits (bits))])), (ra 3, .inr (2, [.int (iI (1)), .int (iI (31)), .ref (aj)])), (aj, .inl (g.2 1, 31, .inl (zaB f)))] (some (.int (iI (bI (ok))))) [(rq, .inr (4, [.ref (tx), .int (iI (ln)), .ref (pq), .int (iI (a')), .int (iI (vl')), .int (iI (bI (op')))])), (tx, .inl (g.2 2, 400, .inl (zaI tf))), (pq, .inr (3, [.ref (ra 0), .ref (ra 1), .ref (ra 2), .ref (ra 3), .ref (ra 4), .ref (ra 5), .ref (ra 6), .ref (r'), .int (iI (s')), .int (iI (o')), .int (zbits (bits))])), (ra 3, .inr (2, [.int (iI (1)), .int (iI (31)), .ref (aj)])), (aj, .inl (g.2 1, 31, .inl (zaB f')))] 0 0 := by
  refine zw_open (by decide +kernel) (Nat.le_of_ble_eq_true rfl) ?_
  intro p e s m below meth c ls A hx hb hml hr hlk hown hin hw hK hT hP hD hS hA hl
  have hown : s.vm.findClass "CronFinder$Reader" = some m.cls := hown
  have hl : lv_has ls 2 [(0, .ref (rq))] := hl
  refine lv_aload_n hx hb zd_R_readDay_0 rfl (lv_at hl 0 rfl) ?_
  refine zi_bipush hx hb zd_R_readDay_1 (by decide) ?_
  by_cases ha3 : rk tf ln (at0) = 63
  · have hp3 := rk_lt ha3 (by decide)
    refine zk_W (As := [.int (iI (63))]) (b := rq) (own := "CronFinder$Reader") (nL := 2) (rest := []) hx hb hml hown hw (c_R_accept_y l g rq tx tf ln pq (at0) (vl) op hln (by omega) hch 63 (by decide) ha3) zw_2_69 zw_2_71 zw_0_4 zw_1_13 zw_2_72 (np := 1) (by decide +kernel) rfl (by decide) (fun _ => zN_mv) hK trivial hP hD hS hA [0, 1] rfl (by decide) rfl (va_recv hK hP (ci := 4) (q0 := 0) rfl rfl) hl.1 rfl (Nat.le_of_ble_eq_true rfl) (by decide) zd_R_readDay_3 (fun H locs hP hD hS => ?_)
    have hP : va_P g.1 zCl [(rq, .inr (4, [.ref (tx), .int (iI (ln)), .ref (pq), .int (iI (at0 + 1)), .int (iI (vl)), .int (iI (bI (op)))])), (tx, .inl (g.2 2, 400, .inl (zaI tf))), (pq, .inr (3, [.ref (ra 0), .ref (ra 1), .ref (ra 2), .ref (ra 3), .ref (ra 4), .ref (ra 5), .ref (ra 6), .ref (rl), .int (iI (sub)), .int (iI (od)), .int (zbits (bits))])), (ra 3, .inr (2, [.int (iI (1)), .int (iI (31)), .ref (aj)])), (aj, .inl (g.2 1, 31, .inl (zaB f)))] H := hP
    have hD : va_D A [(rq, .inr (4, [.ref (tx), .int (iI (ln)), .ref (pq), .int (iI (at0 + 1)), .int (iI (vl)), .int (iI (bI (op)))])), (tx, .inl (g.2 2, 400, .inl (zaI tf))), (pq, .inr (3, [.ref (ra 0), .ref (ra 1), .ref (ra 2), .ref (ra 3), .ref (ra 4), .ref (ra 5), .ref (ra 6), .ref (rl), .int (iI (sub)), .int (iI (od)), .int (zbits (bits))])), (ra 3, .inr (2, [.int (iI (1)), .int (iI (31)), .ref (aj)])), (aj, .inl (g.2 1, 31, .inl (zaB f)))] := hD
    refine zb_if_eq (tgt := 16) hx hb zd_R_readDay_6 (by decide) (fun c6 => by cases c6) (fun _ => ?_)
    refine lv_aload_n hx hb zd_R_readDay_9 rfl (lv_at hl 0 rfl) ?_
    refine zi_iconst hx hb zd_R_readDay_10 ?_
    refine zb_as (x := true) rfl ?_
    refine va_put (D := g.1) (ci := 4) (v := .int (iI (bI (true)))) (ty := .boolean) (C := zR_R) (T := zT_R) (N := 6) hx hb hw zin_R zt_R zto_R zn_R hown hK hP hD hS 0 rfl rfl 5 (by decide) (hw _ zw_2_12) (fun _ h9 => h9) rfl  (by decide +kernel) (zaB_nn _) (zaB_ff _) (Nat.le_of_ble_eq_true rfl) zd_R_readDay_11 (fun H locs hP hD hS => ?_)
    have hP : va_P g.1 zCl [(rq, .inr (4, [.ref (tx), .int (iI (ln)), .ref (pq), .int (iI (at0 + 1)), .int (iI (vl)), .int (iI (bI (true)))])), (tx, .inl (g.2 2, 400, .inl (zaI tf))), (pq, .inr (3, [.ref (ra 0), .ref (ra 1), .ref (ra 2), .ref (ra 3), .ref (ra 4), .ref (ra 5), .ref (ra 6), .ref (rl), .int (iI (sub)), .int (iI (od)), .int (zbits (bits))])), (ra 3, .inr (2, [.int (iI (1)), .int (iI (31)), .ref (aj)])), (aj, .inl (g.2 1, 31, .inl (zaB f)))] H := hP
    have hD : va_D A [(rq, .inr (4, [.ref (tx), .int (iI (ln)), .ref (pq), .int (iI (at0 + 1)), .int (iI (vl)), .int (iI (bI (true)))])), (tx, .inl (g.2 2, 400, .inl (zaI tf))), (pq, .inr (3, [.ref (ra 0), .ref (ra 1), .ref (ra 2), .ref (ra 3), .ref (ra 4), .ref (ra 5), .ref (ra 6), .ref (rl), .int (iI (sub)), .int (iI (od)), .int (zbits (bits))])), (ra 3, .inr (2, [.int (iI (1)), .int (iI (31)), .ref (aj)])), (aj, .inl (g.2 1, 31, .inl (zaB f)))] := hD
    refine zi_iconst hx hb zd_R_readDay_14 ?_
    first | cases (pDy_1 ha3).symm.trans hres
    refine zb_as (x := true) rfl ?_
    exact zw_zret hx hb hr hlk hP hS zd_R_readDay_15
  · refine zk_V (As := [.int (iI (63))]) (b := rq) (own := "CronFinder$Reader") (nL := 2) (rest := []) hx hb hml hown hw (c_R_accept_n l g rq tx tf ln pq (at0) (vl) op hln (by omega) hch 63 (by decide) ha3) zw_2_69 zw_2_71 zw_0_4 zw_1_13 zw_2_72 (np := 1) (by decide +kernel) rfl (by decide) zN_mv hK trivial (hP.sub (ws' := [(rq, .inr (4, [.ref (tx), .int (iI (ln)), .ref (pq), .int (iI (at0)), .int (iI (vl)), .int (iI (bI (op)))])), (tx, .inl (g.2 2, 400, .inl (zaI tf)))]) [0, 1] rfl) (va_recv hK hP (ci := 4) (q0 := 0) rfl rfl) hl.1 rfl (Nat.le_of_ble_eq_true rfl) (by decide) zd_R_readDay_3 ?_
    refine zb_if_eq (tgt := 16) hx hb zd_R_readDay_6 (by decide) (fun _ => ?_) (fun c6 => by cases c6)
    refine lv_aload_n hx hb zd_R_readDay_16 rfl (lv_at hl 0 rfl) ?_
    refine zi_bipush hx hb zd_R_readDay_17 (by decide) ?_
    by_cases ha19 : rk tf ln (at0) = 76
    · have hp19 := rk_lt ha19 (by decide)
      refine zk_W (As := [.int (iI (76))]) (b := rq) (own := "CronFinder$Reader") (nL := 2) (rest := []) hx hb hml hown hw (c_R_accept_y l g rq tx tf ln pq (at0) (vl) op hln (by omega) hch 76 (by decide) ha19) zw_2_69 zw_2_71 zw_0_4 zw_1_13 zw_2_72 (np := 1) (by decide +kernel) rfl (by decide) (fun _ => zN_mv) hK trivial hP hD hS hA [0, 1] rfl (by decide) rfl (va_recv hK hP (ci := 4) (q0 := 0) rfl rfl) hl.1 rfl (Nat.le_of_ble_eq_true rfl) (by decide) zd_R_readDay_19 (fun H locs hP hD hS => ?_)
      have hP : va_P g.1 zCl [(rq, .inr (4, [.ref (tx), .int (iI (ln)), .ref (pq), .int (iI (at0 + 1)), .int (iI (vl)), .int (iI (bI (op)))])), (tx, .inl (g.2 2, 400, .inl (zaI tf))), (pq, .inr (3, [.ref (ra 0), .ref (ra 1), .ref (ra 2), .ref (ra 3), .ref (ra 4), .ref (ra 5), .ref (ra 6), .ref (rl), .int (iI (sub)), .int (iI (od)), .int (zbits (bits))])), (ra 3, .inr (2, [.int (iI (1)), .int (iI (31)), .ref (aj)])), (aj, .inl (g.2 1, 31, .inl (zaB f)))] H := hP
      have hD : va_D A [(rq, .inr (4, [.ref (tx), .int (iI (ln)), .ref (pq), .int (iI (at0 + 1)), .int (iI (vl)), .int (iI (bI (op)))])), (tx, .inl (g.2 2, 400, .inl (zaI tf))), (pq, .inr (3, [.ref (ra 0), .ref (ra 1), .ref (ra 2), .ref (ra 3), .ref (ra 4), .ref (ra 5), .ref (ra 6), .ref (rl), .int (iI (sub)), .int (iI (od)), .int (zbits (bits))])), (ra 3, .inr (2, [.int (iI (1)), .int (iI (31)), .ref (aj)])), (aj, .inl (g.2 1, 31, .inl (zaB f)))] := hD
      refine zb_if_eq (tgt := 30) hx hb zd_R_readDay_22 (by decide) (fun c22 => by cases c22) (fun _ => ?_)
      refine lv_aload_n hx hb zd_R_readDay_25 rfl (lv_at hl 0 rfl) ?_
      rcases hq26 : pLD en tf ln (at0 + 1) (vl) rl sub od with ⟨ok1, b1, w1, r1, s1, o1⟩
      refine zk_W (As := []) (b := rq) (own := "CronFinder$Reader") (nL := 2) (rest := []) hx hb hml hown hw (c_R_lastDay l g rq tx tf ln pq (at0 + 1) (vl) op hln (by omega) hch ra rl sub od (bits) en ok1 b1 w1 r1 s1 o1 hq26) zw_2_77 zw_2_79 zw_0_6 zw_1_13 zw_2_80 (np := 0) (by decide +kernel) rfl (by decide) (zSe_mv en) hK (zSe_nar (zSe_now hT.1 hS) (va_free hD hS hA [0, 1, 2] rfl)) hP hD hS hA [0, 1, 2] rfl (by decide) rfl (va_recv hK hP (ci := 4) (q0 := 0) rfl rfl) hl.1 rfl (Nat.le_of_ble_eq_true rfl) (by decide) zd_R_readDay_26 (fun H locs hP hD hS => ?_)
      have hP : va_P g.1 zCl [(rq, .inr (4, [.ref (tx), .int (iI (ln)), .ref (pq), .int (iI (b1)), .int (iI (w1)), .int (iI (bI (op)))])), (tx, .inl (g.2 2, 400, .inl (zaI tf))), (pq, .inr (3, [.ref (ra 0), .ref (ra 1), .ref (ra 2), .ref (ra 3), .ref (ra 4), .ref (ra 5), .ref (ra 6), .ref (r1), .int (iI (s1)), .int (iI (o1)), .int (zbits (bits))])), (ra 3, .inr (2, [.int (iI (1)), .int (iI (31)), .ref (aj)])), (aj, .inl (g.2 1, 31, .inl (zaB f)))] H := hP
      have hD : va_D A [(rq, .inr (4, [.ref (tx), .int (iI (ln)), .ref (pq), .int (iI (b1)), .int (iI (w1)), .int (iI (bI (op)))])), (tx, .inl (g.2 2, 400, .inl (zaI tf))), (pq, .inr (3, [.ref (ra 0), .ref (ra 1), .ref (ra 2), .ref (ra 3), .ref (ra 4), .ref (ra 5), .ref (ra 6), .ref (r1), .int (iI (s1)), .int (iI (o1)), .int (zbits (bits))])), (ra 3, .inr (2, [.int (iI (1)), .int (iI (31)), .ref (aj)])), (aj, .inl (g.2 1, 31, .inl (zaB f)))] := hD
      first | cases (pDy_2 ha3 ha19 hq26).symm.trans hres
      exact zw_zret hx hb hr hlk hP hS zd_R_readDay_29
    · refine zk_V (As := [.int (iI (76))]) (b := rq) (own := "CronFinder$Reader") (nL := 2) (rest := []) hx hb hml hown hw (c_R_accept_n l g rq tx tf ln pq (at0) (vl) op hln (by omega) hch 76 (by decide) ha19) zw_2_69 zw_2_71 zw_0_4 zw_1_13 zw_2_72 (np := 1) (by decide +kernel) rfl (by decide) zN_mv hK trivial (hP.sub (ws' := [(rq, .inr (4, [.ref (tx), .int (iI (ln)), .ref (pq), .int (iI (at0)), .int (iI (vl)), .int (iI (bI (op)))])), (tx, .inl (g.2 2, 400, .inl (zaI tf)))]) [0, 1] rfl) (va_recv hK hP (ci := 4) (q0 := 0) rfl rfl) hl.1 rfl (Nat.le_of_ble_eq_true rfl) (by decide) zd_R_readDay_19 ?_
      refine zb_if_eq (tgt := 30) hx hb zd_R_readDay_22 (by decide) (fun _ => ?_) (fun c22 => by cases c22)
      refine lv_aload_n hx hb zd_R_readDay_30 rfl (lv_at hl 0 rfl) ?_
      refine va_get (D := g.1) (ci := 4) (v := .int (iI (at0))) (C := zR_R) (T := zT_R) (N := 6) hx hb hw zin_R hown hK hP 0 rfl rfl 3 (by decide) (hw _ zw_2_10) (fun _ h9 => h9) rfl zd_R_readDay_31 ?_
      refine lv_istore_n (lv' := [(1, .int (iI (at0))), (0, .ref (rq))]) hx hb zd_R_readDay_34 rfl hl (by decide) rfl (fun ls hl => ?_)
      refine lv_aload_n hx hb zd_R_readDay_35 rfl (lv_at hl 1 rfl) ?_
      refine zi_iconst hx hb zd_R_readDay_36 ?_
      by_cases hv37 : vOk 3 tf ln (at0) = true
      · have hw37 := vOk_rg hv37 (by omega) (by decide)
        have hwn37 : 1 ≤ vVl 3 tf ln (at0) ∧ vVl 3 tf ln (at0) ≤ 31 := ⟨hw37.2.2.1, hw37.2.2.2⟩
        refine zk_W (As := [.int (iI (3))]) (b := rq) (own := "CronFinder$Reader") (nL := 2) (rest := []) hx hb hml hown hw (c_R_value_y_3 l g rq tx tf ln pq (at0) (vl) op hln (by omega) hch ra (aj) f rl sub od (bits) q1 v1 q2 v2 hv37) zw_2_93 zw_2_95 zw_0_8 zw_1_13 zw_2_96 (np := 1) (by decide +kernel) rfl (by decide) (zRs_mv q1 v1 q2 v2) hK (zRs_nar (zRs_now hT.2 hS) (va_free hD hS hA [0, 1, 2, 3, 4] rfl)) hP hD hS hA [0, 1, 2, 3, 4] rfl (by decide) rfl (va_recv hK hP (ci := 4) (q0 := 0) rfl rfl) hl.1 rfl (Nat.le_of_ble_eq_true rfl) (by decide) zd_R_readDay_37 (fun H locs hP hD hS => ?_)
        have hP : va_P g.1 zCl [(rq, .inr (4, [.ref (tx), .int (iI (ln)), .ref (pq), .int (iI (vAt 3 tf ln (at0))), .int (iI (vVl 3 tf ln (at0))), .int (iI (bI (op)))])), (tx, .inl (g.2 2, 400, .inl (zaI tf))), (pq, .inr (3, [.ref (ra 0), .ref (ra 1), .ref (ra 2), .ref (ra 3), .ref (ra 4), .ref (ra 5), .ref (ra 6), .ref (rl), .int (iI (sub)), .int (iI (od)), .int (zbits (bits))])), (ra 3, .inr (2, [.int (iI (1)), .int (iI (31)), .ref (aj)])), (aj, .inl (g.2 1, 31, .inl (zaB f)))] H := hP
        have hD : va_D A [(rq, .inr (4, [.ref (tx), .int (iI (ln)), .ref (pq), .int (iI (vAt 3 tf ln (at0))), .int (iI (vVl 3 tf ln (at0))), .int (iI (bI (op)))])), (tx, .inl (g.2 2, 400, .inl (zaI tf))), (pq, .inr (3, [.ref (ra 0), .ref (ra 1), .ref (ra 2), .ref (ra 3), .ref (ra 4), .ref (ra 5), .ref (ra 6), .ref (rl), .int (iI (sub)), .int (iI (od)), .int (zbits (bits))])), (ra 3, .inr (2, [.int (iI (1)), .int (iI (31)), .ref (aj)])), (aj, .inl (g.2 1, 31, .inl (zaB f)))] := hD
        refine zb_if_eq (tgt := 69) hx hb zd_R_readDay_40 (by decide) (fun c40 => by cases c40) (fun _ => ?_)
        refine lv_aload_n hx hb zd_R_readDay_43 rfl (lv_at hl 1 rfl) ?_
        refine zi_bipush hx hb zd_R_readDay_44 (by decide) ?_
        by_cases ha46 : rk tf ln (vAt 3 tf ln (at0)) = 87
        · have hp46 := rk_lt ha46 (by decide)
          refine zk_W (As := [.int (iI (87))]) (b := rq) (own := "CronFinder$Reader") (nL := 2) (rest := []) hx hb hml hown hw (c_R_accept_y l g rq tx tf ln pq (vAt 3 tf ln (at0)) (vVl 3 tf ln (at0)) op hln (by omega) hch 87 (by decide) ha46) zw_2_69 zw_2_71 zw_0_4 zw_1_13 zw_2_72 (np := 1) (by decide +kernel) rfl (by decide) (fun _ => zN_mv) hK trivial hP hD hS hA [0, 1] rfl (by decide) rfl (va_recv hK hP (ci := 4) (q0 := 0) rfl rfl) hl.1 rfl (Nat.le_of_ble_eq_true rfl) (by decide) zd_R_readDay_46 (fun H locs hP hD hS => ?_)
          have hP : va_P g.1 zCl [(rq, .inr (4, [.ref (tx), .int (iI (ln)), .ref (pq), .int (iI ((vAt 3 tf ln (at0)) + 1)), .int (iI (vVl 3 tf ln (at0))), .int (iI (bI (op)))])), (tx, .inl (g.2 2, 400, .inl (zaI tf))), (pq, .inr (3, [.ref (ra 0), .ref (ra 1), .ref (ra 2), .ref (ra 3), .ref (ra 4), .ref (ra 5), .ref (ra 6), .ref (rl), .int (iI (sub)), .int (iI (od)), .int (zbits (bits))])), (ra 3, .inr (2, [.int (iI (1)), .int (iI (31)), .ref (aj)])), (aj, .inl (g.2 1, 31, .inl (zaB f)))] H := hP
          have hD : va_D A [(rq, .inr (4, [.ref (tx), .int (iI (ln)), .ref (pq), .int (iI ((vAt 3 tf ln (at0)) + 1)), .int (iI (vVl 3 tf ln (at0))), .int (iI (bI (op)))])), (tx, .inl (g.2 2, 400, .inl (zaI tf))), (pq, .inr (3, [.ref (ra 0), .ref (ra 1), .ref (ra 2), .ref (ra 3), .ref (ra 4), .ref (ra 5), .ref (ra 6), .ref (rl), .int (iI (sub)), .int (iI (od)), .int (zbits (bits))])), (ra 3, .inr (2, [.int (iI (1)), .int (iI (31)), .ref (aj)])), (aj, .inl (g.2 1, 31, .inl (zaB f)))] := hD
          refine zb_if_eq (tgt := 69) hx hb zd_R_readDay_49 (by decide) (fun c49 => by cases c49) (fun _ => ?_)
          refine lv_aload_n hx hb zd_R_readDay_52 rfl (lv_at hl 1 rfl) ?_
          refine va_get (D := g.1) (ci := 4) (v := .ref (pq)) (C := zR_R) (T := zT_R) (N := 6) hx hb hw zin_R hown hK hP 0 rfl rfl 2 (by decide) (hw _ zw_2_9) (fun _ h9 => h9) rfl zd_R_readDay_53 ?_
          refine va_gets hx hb (hT.1.1 3 (by decide)).1 hS hown (hw _ zw_2_159) (fun _ h9 => h9) zd_R_readDay_56 ?_
          refine lv_aload_n hx hb zd_R_readDay_59 rfl (lv_at hl 1 rfl) ?_
          refine va_get (D := g.1) (ci := 4) (v := .int (iI (vVl 3 tf ln (at0)))) (C := zR_R) (T := zT_R) (N := 6) hx hb hw zin_R hown hK hP 0 rfl rfl 4 (by decide) (hw _ zw_2_11) (fun _ h9 => h9) rfl zd_R_readDay_60 ?_
          refine zi_iconst hx hb zd_R_readDay_63 ?_
          refine zk_W (As := [.ref (en 3), .int (iI (vVl 3 tf ln (at0))), .int (iI (0))]) (b := pq) (own := "CronFinder$Reader") (nL := 2) (rest := []) hx hb hml hown hw (c_P_choose l g pq ra rl sub od (bits) (en 3) (vVl 3 tf ln (at0)) (0)) zw_2_83 zw_2_43 zw_2_44 zw_1_2 zw_2_45 (np := 3) (by decide +kernel) rfl (by decide) (fun _ => zN_mv) hK trivial hP hD hS hA [2] rfl (by decide) rfl (va_recv hK hP (ci := 3) (q0 := 2) rfl rfl) hl.1 rfl (Nat.le_of_ble_eq_true rfl) (by decide) zd_R_readDay_64 (fun H locs hP hD hS => ?_)
          have hP : va_P g.1 zCl [(rq, .inr (4, [.ref (tx), .int (iI (ln)), .ref (pq), .int (iI ((vAt 3 tf ln (at0)) + 1)), .int (iI (vVl 3 tf ln (at0))), .int (iI (bI (op)))])), (tx, .inl (g.2 2, 400, .inl (zaI tf))), (pq, .inr (3, [.ref (ra 0), .ref (ra 1), .ref (ra 2), .ref (ra 3), .ref (ra 4), .ref (ra 5), .ref (ra 6), .ref (en 3), .int (iI (vVl 3 tf ln (at0))), .int (iI (0)), .int (zbits (bits))])), (ra 3, .inr (2, [.int (iI (1)), .int (iI (31)), .ref (aj)])), (aj, .inl (g.2 1, 31, .inl (zaB f)))] H := hP
          have hD : va_D A [(rq, .inr (4, [.ref (tx), .int (iI (ln)), .ref (pq), .int (iI ((vAt 3 tf ln (at0)) + 1)), .int (iI (vVl 3 tf ln (at0))), .int (iI (bI (op)))])), (tx, .inl (g.2 2, 400, .inl (zaI tf))), (pq, .inr (3, [.ref (ra 0), .ref (ra 1), .ref (ra 2), .ref (ra 3), .ref (ra 4), .ref (ra 5), .ref (ra 6), .ref (en 3), .int (iI (vVl 3 tf ln (at0))), .int (iI (0)), .int (zbits (bits))])), (ra 3, .inr (2, [.int (iI (1)), .int (iI (31)), .ref (aj)])), (aj, .inl (g.2 1, 31, .inl (zaB f)))] := hD
          refine zi_iconst hx hb zd_R_readDay_67 ?_
          first | cases (pDy_4 ha3 ha19 hv37 ha46).symm.trans hres
          refine zb_as (x := true) rfl ?_
          exact zw_zret hx hb hr hlk hP hS zd_R_readDay_68
        · refine zk_V (As := [.int (iI (87))]) (b := rq) (own := "CronFinder$Reader") (nL := 2) (rest := []) hx hb hml hown hw (c_R_accept_n l g rq tx tf ln pq (vAt 3 tf ln (at0)) (vVl 3 tf ln (at0)) op hln (by omega) hch 87 (by decide) ha46) zw_2_69 zw_2_71 zw_0_4 zw_1_13 zw_2_72 (np := 1) (by decide +kernel) rfl (by decide) zN_mv hK trivial (hP.sub (ws' := [(rq, .inr (4, [.ref (tx), .int (iI (ln)), .ref (pq), .int (iI (vAt 3 tf ln (at0))), .int (iI (vVl 3 tf ln (at0))), .int (iI (bI (op)))])), (tx, .inl (g.2 2, 400, .inl (zaI tf)))]) [0, 1] rfl) (va_recv hK hP (ci := 4) (q0 := 0) rfl rfl) hl.1 rfl (Nat.le_of_ble_eq_true rfl) (by decide) zd_R_readDay_46 ?_
          refine zb_if_eq (tgt := 69) hx hb zd_R_readDay_49 (by decide) (fun _ => ?_) (fun c49 => by cases c49)
          refine lv_aload_n hx hb zd_R_readDay_69 rfl (lv_at hl 1 rfl) ?_
          refine lv_iload_n hx hb zd_R_readDay_70 rfl (lv_at hl 0 rfl) ?_
          refine va_put (D := g.1) (ci := 4) (v := .int (iI (at0))) (ty := .int) (C := zR_R) (T := zT_R) (N := 6) hx hb hw zin_R zt_R zto_R zn_R hown hK hP hD hS 0 rfl rfl 3 (by decide) (hw _ zw_2_10) (fun _ h9 => h9) rfl  (by decide +kernel) rfl rfl (Nat.le_of_ble_eq_true rfl) zd_R_readDay_71 (fun H locs hP hD hS => ?_)
          have hP : va_P g.1 zCl [(rq, .inr (4, [.ref (tx), .int (iI (ln)), .ref (pq), .int (iI (at0)), .int (iI (vVl 3 tf ln (at0))), .int (iI (bI (op)))])), (tx, .inl (g.2 2, 400, .inl (zaI tf))), (pq, .inr (3, [.ref (ra 0), .ref (ra 1), .ref (ra 2), .ref (ra 3), .ref (ra 4), .ref (ra 5), .ref (ra 6), .ref (rl), .int (iI (sub)), .int (iI (od)), .int (zbits (bits))])), (ra 3, .inr (2, [.int (iI (1)), .int (iI (31)), .ref (aj)])), (aj, .inl (g.2 1, 31, .inl (zaB f)))] H := hP
          have hD : va_D A [(rq, .inr (4, [.ref (tx), .int (iI (ln)), .ref (pq), .int (iI (at0)), .int (iI (vVl 3 tf ln (at0))), .int (iI (bI (op)))])), (tx, .inl (g.2 2, 400, .inl (zaI tf))), (pq, .inr (3, [.ref (ra 0), .ref (ra 1), .ref (ra 2), .ref (ra 3), .ref (ra 4), .ref (ra 5), .ref (ra 6), .ref (rl), .int (iI (sub)), .int (iI (od)), .int (zbits (bits))])), (ra 3, .inr (2, [.int (iI (1)), .int (iI (31)), .ref (aj)])), (aj, .inl (g.2 1, 31, .inl (zaB f)))] := hD
          refine lv_aload_n hx hb zd_R_readDay_74 rfl (lv_at hl 1 rfl) ?_
          refine zi_iconst hx hb zd_R_readDay_75 ?_
          rcases hq76 : pIs 3 tf ln ln.toNat (at0) (vVl 3 tf ln (at0)) f with ⟨ok1, b1, w1, f1⟩
          have hr76 := pIs_rg (by decide) (by omega) hq76
          refine zk_W (As := [.int (iI (3))]) (b := rq) (own := "CronFinder$Reader") (nL := 2) (rest := []) hx hb hml hown hw (c_R_items_3 l g rq tx tf ln pq (at0) (vVl 3 tf ln (at0)) op hln (by omega) hch ra (aj) f rl sub od (bits) q1 v1 q2 v2 ok1 b1 w1 f1 hq76) zw_2_161 zw_2_163 zw_0_10 zw_1_13 zw_2_164 (np := 1) (by decide +kernel) rfl (by decide) (zRs_mv q1 v1 q2 v2) hK (zRs_nar (zRs_now hT.2 hS) (va_free hD hS hA [0, 1, 2, 3, 4] rfl)) hP hD hS hA [0, 1, 2, 3, 4] rfl (by decide) rfl (va_recv hK hP (ci := 4) (q0 := 0) rfl rfl) hl.1 rfl (Nat.le_of_ble_eq_true rfl) (by decide) zd_R_readDay_76 (fun H locs hP hD hS => ?_)
          have hP : va_P g.1 zCl [(rq, .inr (4, [.ref (tx), .int (iI (ln)), .ref (pq), .int (iI (b1)), .int (iI (w1)), .int (iI (bI (op)))])), (tx, .inl (g.2 2, 400, .inl (zaI tf))), (pq, .inr (3, [.ref (ra 0), .ref (ra 1), .ref (ra 2), .ref (ra 3), .ref (ra 4), .ref (ra 5), .ref (ra 6), .ref (rl), .int (iI (sub)), .int (iI (od)), .int (zbits (bits))])), (ra 3, .inr (2, [.int (iI (1)), .int (iI (31)), .ref (aj)])), (aj, .inl (g.2 1, 31, .inl (zaB f1)))] H := hP
          have hD : va_D A [(rq, .inr (4, [.ref (tx), .int (iI (ln)), .ref (pq), .int (iI (b1)), .int (iI (w1)), .int (iI (bI (op)))])), (tx, .inl (g.2 2, 400, .inl (zaI tf))), (pq, .inr (3, [.ref (ra 0), .ref (ra 1), .ref (ra 2), .ref (ra 3), .ref (ra 4), .ref (ra 5), .ref (ra 6), .ref (rl), .int (iI (sub)), .int (iI (od)), .int (zbits (bits))])), (ra 3, .inr (2, [.int (iI (1)), .int (iI (31)), .ref (aj)])), (aj, .inl (g.2 1, 31, .inl (zaB f1)))] := hD
          first | cases (pDy_3 ha3 ha19 hv37 hq76).symm.trans hres | cases (pDy_5 ha3 ha19 hv37 ha46 hq76).symm.trans hres
          exact zw_zret hx hb hr hlk hP hS zd_R_readDay_79
      · refine zk_W (As := [.int (iI (3))]) (b := rq) (own := "CronFinder$Reader") (nL := 2) (rest := []) hx hb hml hown hw (c_R_value_n_3 l g rq tx tf ln pq (at0) (vl) op hln (by omega) hch ra (aj) f rl sub od (bits) q1 v1 q2 v2 (Bool.eq_false_iff.mpr hv37)) zw_2_93 zw_2_95 zw_0_8 zw_1_13 zw_2_96 (np := 1) (by decide +kernel) rfl (by decide) (zRs_mv q1 v1 q2 v2) hK (zRs_nar (zRs_now hT.2 hS) (va_free hD hS hA [0, 1, 2, 3, 4] rfl)) hP hD hS hA [0, 1, 2, 3, 4] rfl (by decide) rfl (va_recv hK hP (ci := 4) (q0 := 0) rfl rfl) hl.1 rfl (Nat.le_of_ble_eq_true rfl) (by decide) zd_R_readDay_37 (fun H locs hP hD hS => ?_)
        have hP : va_P g.1 zCl [(rq, .inr (4, [.ref (tx), .int (iI (ln)), .ref (pq), .int (iI (at0)), .int (iI (vl)), .int (iI (bI (op)))])), (tx, .inl (g.2 2, 400, .inl (zaI tf))), (pq, .inr (3, [.ref (ra 0), .ref (ra 1), .ref (ra 2), .ref (ra 3), .ref (ra 4), .ref (ra 5), .ref (ra 6), .ref (rl), .int (iI (sub)), .int (iI (od)), .int (zbits (bits))])), (ra 3, .inr (2, [.int (iI (1)), .int (iI (31)), .ref (aj)])), (aj, .inl (g.2 1, 31, .inl (zaB f)))] H := hP
        have hD : va_D A [(rq, .inr (4, [.ref (tx), .int (iI (ln)), .ref (pq), .int (iI (at0)), .int (iI (vl)), .int (iI (bI (op)))])), (tx, .inl (g.2 2, 400, .inl (zaI tf))), (pq, .inr (3, [.ref (ra 0), .ref (ra 1), .ref (ra 2), .ref (ra 3), .ref (ra 4), .ref (ra 5), .ref (ra 6), .ref (rl), .int (iI (sub)), .int (iI (od)), .int (zbits (bits))])), (ra 3, .inr (2, [.int (iI (1)), .int (iI (31)), .ref (aj)])), (aj, .inl (g.2 1, 31, .inl (zaB f)))] := hD
        refine zb_if_eq (tgt := 69) hx hb zd_R_readDay_40 (by decide) (fun _ => ?_) (fun c40 => by cases c40)
        refine lv_aload_n hx hb zd_R_readDay_69 rfl (lv_at hl 1 rfl) ?_
        refine lv_iload_n hx hb zd_R_readDay_70 rfl (lv_at hl 0 rfl) ?_
        refine va_put (D := g.1) (ci := 4) (v := .int (iI (at0))) (ty := .int) (C := zR_R) (T := zT_R) (N := 6) hx hb hw zin_R zt_R zto_R zn_R hown hK hP hD hS 0 rfl rfl 3 (by decide) (hw _ zw_2_10) (fun _ h9 => h9) rfl  (by decide +kernel) rfl rfl (Nat.le_of_ble_eq_true rfl) zd_R_readDay_71 (fun H locs hP hD hS => ?_)
        have hP : va_P g.1 zCl [(rq, .inr (4, [.ref (tx), .int (iI (ln)), .ref (pq), .int (iI (at0)), .int (iI (vl)), .int (iI (bI (op)))])), (tx, .inl (g.2 2, 400, .inl (zaI tf))), (pq, .inr (3, [.ref (ra 0), .ref (ra 1), .ref (ra 2), .ref (ra 3), .ref (ra 4), .ref (ra 5), .ref (ra 6), .ref (rl), .int (iI (sub)), .int (iI (od)), .int (zbits (bits))])), (ra 3, .inr (2, [.int (iI (1)), .int (iI (31)), .ref (aj)])), (aj, .inl (g.2 1, 31, .inl (zaB f)))] H := hP
        have hD : va_D A [(rq, .inr (4, [.ref (tx), .int (iI (ln)), .ref (pq), .int (iI (at0)), .int (iI (vl)), .int (iI (bI (op)))])), (tx, .inl (g.2 2, 400, .inl (zaI tf))), (pq, .inr (3, [.ref (ra 0), .ref (ra 1), .ref (ra 2), .ref (ra 3), .ref (ra 4), .ref (ra 5), .ref (ra 6), .ref (rl), .int (iI (sub)), .int (iI (od)), .int (zbits (bits))])), (ra 3, .inr (2, [.int (iI (1)), .int (iI (31)), .ref (aj)])), (aj, .inl (g.2 1, 31, .inl (zaB f)))] := hD
        refine lv_aload_n hx hb zd_R_readDay_74 rfl (lv_at hl 1 rfl) ?_
        refine zi_iconst hx hb zd_R_readDay_75 ?_
        rcases hq76 : pIs 3 tf ln ln.toNat (at0) (vl) f with ⟨ok1, b1, w1, f1⟩
        have hr76 := pIs_rg (by decide) (by omega) hq76
        refine zk_W (As := [.int (iI (3))]) (b := rq) (own := "CronFinder$Reader") (nL := 2) (rest := []) hx hb hml hown hw (c_R_items_3 l g rq tx tf ln pq (at0) (vl) op hln (by omega) hch ra (aj) f rl sub od (bits) q1 v1 q2 v2 ok1 b1 w1 f1 hq76) zw_2_161 zw_2_163 zw_0_10 zw_1_13 zw_2_164 (np := 1) (by decide +kernel) rfl (by decide) (zRs_mv q1 v1 q2 v2) hK (zRs_nar (zRs_now hT.2 hS) (va_free hD hS hA [0, 1, 2, 3, 4] rfl)) hP hD hS hA [0, 1, 2, 3, 4] rfl (by decide) rfl (va_recv hK hP (ci := 4) (q0 := 0) rfl rfl) hl.1 rfl (Nat.le_of_ble_eq_true rfl) (by decide) zd_R_readDay_76 (fun H locs hP hD hS => ?_)
        have hP : va_P g.1 zCl [(rq, .inr (4, [.ref (tx), .int (iI (ln)), .ref (pq), .int (iI (b1)), .int (iI (w1)), .int (iI (bI (op)))])), (tx, .inl (g.2 2, 400, .inl (zaI tf))), (pq, .inr (3, [.ref (ra 0), .ref (ra 1), .ref (ra 2), .ref (ra 3), .ref (ra 4), .ref (ra 5), .ref (ra 6), .ref (rl), .int (iI (sub)), .int (iI (od)), .int (zbits (bits))])), (ra 3, .inr (2, [.int (iI (1)), .int (iI (31)), .ref (aj)])), (aj, .inl (g.2 1, 31, .inl (zaB f1)))] H := hP
        have hD : va_D A [(rq, .inr (4, [.ref (tx), .int (iI (ln)), .ref (pq), .int (iI (b1)), .int (iI (w1)), .int (iI (bI (op)))])), (tx, .inl (g.2 2, 400, .inl (zaI tf))), (pq, .inr (3, [.ref (ra 0), .ref (ra 1), .ref (ra 2), .ref (ra 3), .ref (ra 4), .ref (ra 5), .ref (ra 6), .ref (rl), .int (iI (sub)), .int (iI (od)), .int (zbits (bits))])), (ra 3, .inr (2, [.int (iI (1)), .int (iI (31)), .ref (aj)])), (aj, .inl (g.2 1, 31, .inl (zaB f1)))] := hD
        first | cases (pDy_3 ha3 ha19 hv37 hq76).symm.trans hres | cases (pDy_5 ha3 ha19 hv37 ha46 hq76).symm.trans hres
        exact zw_zret hx hb hr hlk hP hS zd_R_readDay_79
set_option maxHeartbeats 4000000 in
set_option maxRecDepth 100000 in
theorem c_R_weekday (l : Launch) (g : zGl) (rq tx : Nat) (tf : Nat → Int) (ln : Int) (pq : Nat) (at0 vl : Int) (op : Bool) (hln : 0 ≤ ln ∧ ln ≤ 400) (hat : 0 ≤ at0 ∧ at0 ≤ ln) (hch : ∀ j : Nat, 0 ≤ tf j ∧ tf j < 256) (ra : Nat → Nat) (aj : Nat) (f : Nat → Bool) (rl : Nat) (sub od : Int) (bits : Nat → Bool) (q1 v1 q2 v2 : Nat) (en : Nat → Nat) (ok : Bool) (a' vl' : Int) (op' : Bool) (r' : Nat) (s' o' : Int) (f' : Nat → Bool) (hres : pWd en tf ln at0 vl op rl sub od f = (ok, a', vl', op', r', s', o', f')) : zWi l zy_R_readWeekday zc_R_readWeekday 2 (some .boolean) ({ frames := 9, cells := 0, slots := 0, locals := 197 }) g (zRt en q1 v1 q2 v2) [.ref (rq)] [(rq, .inr (4, [.ref (tx), .int (iI (ln)), .ref (pq), .int (iI (at0)), .int (iI (vl)), .int (iI (bI (op)))])), (tx, .inl (g.2 2, 400, .inl (zaI tf))), (pq, .inr (3, [.ref (ra 0), .ref (ra 1), .ref (ra 2), .ref (ra 3), .ref (ra 4), .ref (ra 5), .ref (ra 6), .ref (rl), .int (iI (sub)), .int (iI (od)), .int (zbits (bits))])), (ra 5, .inr (2, [.int (iI (1)), .int (iI (7)), .ref (aj)])), (aj, .inl (g.2 1, 7, .inl (zaB f)))] (some (.int (iI (bI (ok))))) [(rq, .inr (4, [.ref (tx), .int (iI (ln)), .ref (pq), .int (iI (a')), .int (iI (vl')), .int (iI (bI (op')))])), (tx, .inl (g.2 2, 400, .inl (zaI tf))), (pq, .inr (3, [.ref (ra 0), .ref (ra 1), .ref (ra 2), .ref (ra 3), .ref (ra 4), .ref (ra 5), .ref (ra 6), .ref (r'), .int (iI (s')), .int (iI (o')), .int (zbits (bits))])), (ra 5, .inr (2, [.int (iI (1)), .int (iI (7)), .ref (aj)])), (aj, .inl (g.2 1, 7, .inl (zaB f')))] 0 0 := by
  refine zw_open (by decide +kernel) (Nat.le_of_ble_eq_true rfl) ?_
  intro p e s m below meth c ls A hx hb hml hr hlk hown hin hw hK hT hP hD hS hA hl
  have hown : s.vm.findClass "CronFinder$Reader" = some m.cls := hown
  have hl : lv_has ls 2 [(0, .ref (rq))] := hl
  refine lv_aload_n hx hb zd_R_readWeekday_0 rfl (lv_at hl 0 rfl) ?_
  refine va_get (D := g.1) (ci := 4) (v := .int (iI (bI (op)))) (C := zR_R) (T := zT_R) (N := 6) hx hb hw zin_R hown hK hP 0 rfl rfl 5 (by decide) (hw _ zw_2_12) (fun _ h9 => h9) rfl zd_R_readWeekday_1 ?_
  refine zb_if_ne (tgt := 14) hx hb zd_R_readWeekday_4 (by decide) (fun c4 => ?_) (fun c4 => ?_)
  · refine lv_aload_n hx hb zd_R_readWeekday_14 rfl (lv_at hl 0 rfl) ?_
    refine va_get (D := g.1) (ci := 4) (v := .ref (pq)) (C := zR_R) (T := zT_R) (N := 6) hx hb hw zin_R hown hK hP 0 rfl rfl 2 (by decide) (hw _ zw_2_9) (fun _ h9 => h9) rfl zd_R_readWeekday_15 ?_
    refine va_gets hx hb (hT.1.1 4 (by decide)).1 hS hown (hw _ zw_2_174) (fun _ h9 => h9) zd_R_readWeekday_18 ?_
    refine zi_iconst hx hb zd_R_readWeekday_21 ?_
    refine zi_iconst hx hb zd_R_readWeekday_22 ?_
    refine zk_W (As := [.ref (en 4), .int (iI (0)), .int (iI (0))]) (b := pq) (own := "CronFinder$Reader") (nL := 2) (rest := []) hx hb hml hown hw (c_P_choose l g pq ra rl sub od (bits) (en 4) (0) (0)) zw_2_83 zw_2_43 zw_2_44 zw_1_2 zw_2_45 (np := 3) (by decide +kernel) rfl (by decide) (fun _ => zN_mv) hK trivial hP hD hS hA [2] rfl (by decide) rfl (va_recv hK hP (ci := 3) (q0 := 2) rfl rfl) hl.1 rfl (Nat.le_of_ble_eq_true rfl) (by decide) zd_R_readWeekday_23 (fun H locs hP hD hS => ?_)
    have hP : va_P g.1 zCl [(rq, .inr (4, [.ref (tx), .int (iI (ln)), .ref (pq), .int (iI (at0)), .int (iI (vl)), .int (iI (bI (op)))])), (tx, .inl (g.2 2, 400, .inl (zaI tf))), (pq, .inr (3, [.ref (ra 0), .ref (ra 1), .ref (ra 2), .ref (ra 3), .ref (ra 4), .ref (ra 5), .ref (ra 6), .ref (en 4), .int (iI (0)), .int (iI (0)), .int (zbits (bits))])), (ra 5, .inr (2, [.int (iI (1)), .int (iI (7)), .ref (aj)])), (aj, .inl (g.2 1, 7, .inl (zaB f)))] H := hP
    have hD : va_D A [(rq, .inr (4, [.ref (tx), .int (iI (ln)), .ref (pq), .int (iI (at0)), .int (iI (vl)), .int (iI (bI (op)))])), (tx, .inl (g.2 2, 400, .inl (zaI tf))), (pq, .inr (3, [.ref (ra 0), .ref (ra 1), .ref (ra 2), .ref (ra 3), .ref (ra 4), .ref (ra 5), .ref (ra 6), .ref (en 4), .int (iI (0)), .int (iI (0)), .int (zbits (bits))])), (ra 5, .inr (2, [.int (iI (1)), .int (iI (7)), .ref (aj)])), (aj, .inl (g.2 1, 7, .inl (zaB f)))] := hD
    refine lv_aload_n hx hb zd_R_readWeekday_26 rfl (lv_at hl 0 rfl) ?_
    refine zi_bipush hx hb zd_R_readWeekday_27 (by decide) ?_
    by_cases ha29 : rk tf ln (at0) = 76
    · have hp29 := rk_lt ha29 (by decide)
      refine zk_W (As := [.int (iI (76))]) (b := rq) (own := "CronFinder$Reader") (nL := 2) (rest := []) hx hb hml hown hw (c_R_accept_y l g rq tx tf ln pq (at0) (vl) op hln (by omega) hch 76 (by decide) ha29) zw_2_69 zw_2_71 zw_0_4 zw_1_13 zw_2_72 (np := 1) (by decide +kernel) rfl (by decide) (fun _ => zN_mv) hK trivial hP hD hS hA [0, 1] rfl (by decide) rfl (va_recv hK hP (ci := 4) (q0 := 0) rfl rfl) hl.1 rfl (Nat.le_of_ble_eq_true rfl) (by decide) zd_R_readWeekday_29 (fun H locs hP hD hS => ?_)
      have hP : va_P g.1 zCl [(rq, .inr (4, [.ref (tx), .int (iI (ln)), .ref (pq), .int (iI (at0 + 1)), .int (iI (vl)), .int (iI (bI (op)))])), (tx, .inl (g.2 2, 400, .inl (zaI tf))), (pq, .inr (3, [.ref (ra 0), .ref (ra 1), .ref (ra 2), .ref (ra 3), .ref (ra 4), .ref (ra 5), .ref (ra 6), .ref (en 4), .int (iI (0)), .int (iI (0)), .int (zbits (bits))])), (ra 5, .inr (2, [.int (iI (1)), .int (iI (7)), .ref (aj)])), (aj, .inl (g.2 1, 7, .inl (zaB f)))] H := hP
      have hD : va_D A [(rq, .inr (4, [.ref (tx), .int (iI (ln)), .ref (pq), .int (iI (at0 + 1)), .int (iI (vl)), .int (iI (bI (op)))])), (tx, .inl (g.2 2, 400, .inl (zaI tf))), (pq, .inr (3, [.ref (ra 0), .ref (ra 1), .ref (ra 2), .ref (ra 3), .ref (ra 4), .ref (ra 5), .ref (ra 6), .ref (en 4), .int (iI (0)), .int (iI (0)), .int (zbits (bits))])), (ra 5, .inr (2, [.int (iI (1)), .int (iI (7)), .ref (aj)])), (aj, .inl (g.2 1, 7, .inl (zaB f)))] := hD
      refine zb_if_eq (tgt := 53) hx hb zd_R_readWeekday_32 (by decide) (fun c32 => by cases c32) (fun _ => ?_)
      refine lv_aload_n hx hb zd_R_readWeekday_35 rfl (lv_at hl 0 rfl) ?_
      refine va_get (D := g.1) (ci := 4) (v := .ref (pq)) (C := zR_R) (T := zT_R) (N := 6) hx hb hw zin_R hown hK hP 0 rfl rfl 2 (by decide) (hw _ zw_2_9) (fun _ h9 => h9) rfl zd_R_readWeekday_36 ?_
      refine zi_iconst hx hb zd_R_readWeekday_39 ?_
      refine zk_V (As := [.int (iI (5))]) (b := pq) (own := "CronFinder$Reader") (nL := 2) (rest := []) hx hb hml hown hw (c_P_row_5 l g pq ra (en 4) 0 0 (bits)) zw_2_46 zw_2_35 zw_2_36 zw_1_2 zw_2_37 (np := 1) (by decide +kernel) rfl (by decide) zN_mv hK trivial (hP.sub (ws' := [(pq, .inr (3, [.ref (ra 0), .ref (ra 1), .ref (ra 2), .ref (ra 3), .ref (ra 4), .ref (ra 5), .ref (ra 6), .ref (en 4), .int (iI (0)), .int (iI (0)), .int (zbits (bits))]))]) [2] rfl) (va_recv hK hP (ci := 3) (q0 := 2) rfl rfl) hl.1 rfl (Nat.le_of_ble_eq_true rfl) (by decide) zd_R_readWeekday_40 ?_
      refine zi_bipush hx hb zd_R_readWeekday_43 (by decide) ?_
      refine zi_bipush hx hb zd_R_readWeekday_45 (by decide) ?_
      refine zi_iconst hx hb zd_R_readWeekday_47 ?_
      refine zk_W (As := [.int (iI (7)), .int (iI (7)), .int (iI (1))]) (b := ra 5) (own := "CronFinder$Reader") (nL := 2) (rest := []) hx hb hml hown hw (c_O_allow l g (ra 5) (aj) (1) (7) (7) f (by omega) (7) (7) (1) (by omega)) zw_2_169 zw_2_52 zw_2_53 zw_1_3 zw_2_54 (np := 3) (by decide +kernel) rfl (by decide) (fun _ => zN_mv) hK trivial hP hD hS hA [3, 4] rfl (by decide) rfl (va_recv hK hP (ci := 2) (q0 := 3) rfl rfl) hl.1 rfl (Nat.le_of_ble_eq_true rfl) (by decide) zd_R_readWeekday_48 (fun H locs hP hD hS => ?_)
      have hP : va_P g.1 zCl [(rq, .inr (4, [.ref (tx), .int (iI (ln)), .ref (pq), .int (iI (at0 + 1)), .int (iI (vl)), .int (iI (bI (op)))])), (tx, .inl (g.2 2, 400, .inl (zaI tf))), (pq, .inr (3, [.ref (ra 0), .ref (ra 1), .ref (ra 2), .ref (ra 3), .ref (ra 4), .ref (ra 5), .ref (ra 6), .ref (en 4), .int (iI (0)), .int (iI (0)), .int (zbits (bits))])), (ra 5, .inr (2, [.int (iI (1)), .int (iI (7)), .ref (aj)])), (aj, .inl (g.2 1, 7, .inl (zaB (oAl ((7 : Nat) : Int) (7 - 1) ((7 - 7) % ((7 : Nat) : Int) + 1) (1) (7 + 1) 0 f))))] H := hP
      have hD : va_D A [(rq, .inr (4, [.ref (tx), .int (iI (ln)), .ref (pq), .int (iI (at0 + 1)), .int (iI (vl)), .int (iI (bI (op)))])), (tx, .inl (g.2 2, 400, .inl (zaI tf))), (pq, .inr (3, [.ref (ra 0), .ref (ra 1), .ref (ra 2), .ref (ra 3), .ref (ra 4), .ref (ra 5), .ref (ra 6), .ref (en 4), .int (iI (0)), .int (iI (0)), .int (zbits (bits))])), (ra 5, .inr (2, [.int (iI (1)), .int (iI (7)), .ref (aj)])), (aj, .inl (g.2 1, 7, .inl (zaB (oAl ((7 : Nat) : Int) (7 - 1) ((7 - 7) % ((7 : Nat) : Int) + 1) (1) (7 + 1) 0 f))))] := hD
      refine zi_iconst hx hb zd_R_readWeekday_51 ?_
      first | cases (pWd_3 c4 ha29).symm.trans hres
      refine zb_as (x := true) rfl ?_
      exact zw_zret hx hb hr hlk hP hS zd_R_readWeekday_52
    · refine zk_V (As := [.int (iI (76))]) (b := rq) (own := "CronFinder$Reader") (nL := 2) (rest := []) hx hb hml hown hw (c_R_accept_n l g rq tx tf ln pq (at0) (vl) op hln (by omega) hch 76 (by decide) ha29) zw_2_69 zw_2_71 zw_0_4 zw_1_13 zw_2_72 (np := 1) (by decide +kernel) rfl (by decide) zN_mv hK trivial (hP.sub (ws' := [(rq, .inr (4, [.ref (tx), .int (iI (ln)), .ref (pq), .int (iI (at0)), .int (iI (vl)), .int (iI (bI (op)))])), (tx, .inl (g.2 2, 400, .inl (zaI tf)))]) [0, 1] rfl) (va_recv hK hP (ci := 4) (q0 := 0) rfl rfl) hl.1 rfl (Nat.le_of_ble_eq_true rfl) (by decide) zd_R_readWeekday_29 ?_
      refine zb_if_eq (tgt := 53) hx hb zd_R_readWeekday_32 (by decide) (fun _ => ?_) (fun c32 => by cases c32)
      refine lv_aload_n hx hb zd_R_readWeekday_53 rfl (lv_at hl 0 rfl) ?_
      refine va_get (D := g.1) (ci := 4) (v := .int (iI (at0))) (C := zR_R) (T := zT_R) (N := 6) hx hb hw zin_R hown hK hP 0 rfl rfl 3 (by decide) (hw _ zw_2_10) (fun _ h9 => h9) rfl zd_R_readWeekday_54 ?_
      refine lv_istore_n (lv' := [(1, .int (iI (at0))), (0, .ref (rq))]) hx hb zd_R_readWeekday_57 rfl hl (by decide) rfl (fun ls hl => ?_)
      refine lv_aload_n hx hb zd_R_readWeekday_58 rfl (lv_at hl 1 rfl) ?_
      refine zi_iconst hx hb zd_R_readWeekday_59 ?_
      by_cases hv60 : vOk 5 tf ln (at0) = true
      · have hw60 := vOk_rg hv60 (by omega) (by decide)
        have hwn60 : 1 ≤ vVl 5 tf ln (at0) ∧ vVl 5 tf ln (at0) ≤ 7 := ⟨hw60.2.2.1, hw60.2.2.2⟩
        refine zk_W (As := [.int (iI (5))]) (b := rq) (own := "CronFinder$Reader") (nL := 2) (rest := []) hx hb hml hown hw (c_R_value_y_5 l g rq tx tf ln pq (at0) (vl) op hln (by omega) hch ra (aj) f (en 4) 0 0 (bits) q1 v1 q2 v2 hv60) zw_2_93 zw_2_95 zw_0_8 zw_1_13 zw_2_96 (np := 1) (by decide +kernel) rfl (by decide) (zRs_mv q1 v1 q2 v2) hK (zRs_nar (zRs_now hT.2 hS) (va_free hD hS hA [0, 1, 2, 3, 4] rfl)) hP hD hS hA [0, 1, 2, 3, 4] rfl (by decide) rfl (va_recv hK hP (ci := 4) (q0 := 0) rfl rfl) hl.1 rfl (Nat.le_of_ble_eq_true rfl) (by decide) zd_R_readWeekday_60 (fun H locs hP hD hS => ?_)
        have hP : va_P g.1 zCl [(rq, .inr (4, [.ref (tx), .int (iI (ln)), .ref (pq), .int (iI (vAt 5 tf ln (at0))), .int (iI (vVl 5 tf ln (at0))), .int (iI (bI (op)))])), (tx, .inl (g.2 2, 400, .inl (zaI tf))), (pq, .inr (3, [.ref (ra 0), .ref (ra 1), .ref (ra 2), .ref (ra 3), .ref (ra 4), .ref (ra 5), .ref (ra 6), .ref (en 4), .int (iI (0)), .int (iI (0)), .int (zbits (bits))])), (ra 5, .inr (2, [.int (iI (1)), .int (iI (7)), .ref (aj)])), (aj, .inl (g.2 1, 7, .inl (zaB f)))] H := hP
        have hD : va_D A [(rq, .inr (4, [.ref (tx), .int (iI (ln)), .ref (pq), .int (iI (vAt 5 tf ln (at0))), .int (iI (vVl 5 tf ln (at0))), .int (iI (bI (op)))])), (tx, .inl (g.2 2, 400, .inl (zaI tf))), (pq, .inr (3, [.ref (ra 0), .ref (ra 1), .ref (ra 2), .ref (ra 3), .ref (ra 4), .ref (ra 5), .ref (ra 6), .ref (en 4), .int (iI (0)), .int (iI (0)), .int (zbits (bits))])), (ra 5, .inr (2, [.int (iI (1)), .int (iI (7)), .ref (aj)])), (aj, .inl (g.2 1, 7, .inl (zaB f)))] := hD
        refine zb_if_eq (tgt := 110) hx hb zd_R_readWeekday_63 (by decide) (fun c63 => by cases c63) (fun _ => ?_)
        refine lv_aload_n hx hb zd_R_readWeekday_66 rfl (lv_at hl 1 rfl) ?_
        refine zi_bipush hx hb zd_R_readWeekday_67 (by decide) ?_
        by_cases ha69 : rk tf ln (vAt 5 tf ln (at0)) = 76
        · have hp69 := rk_lt ha69 (by decide)
          refine zk_W (As := [.int (iI (76))]) (b := rq) (own := "CronFinder$Reader") (nL := 2) (rest := []) hx hb hml hown hw (c_R_accept_y l g rq tx tf ln pq (vAt 5 tf ln (at0)) (vVl 5 tf ln (at0)) op hln (by omega) hch 76 (by decide) ha69) zw_2_69 zw_2_71 zw_0_4 zw_1_13 zw_2_72 (np := 1) (by decide +kernel) rfl (by decide) (fun _ => zN_mv) hK trivial hP hD hS hA [0, 1] rfl (by decide) rfl (va_recv hK hP (ci := 4) (q0 := 0) rfl rfl) hl.1 rfl (Nat.le_of_ble_eq_true rfl) (by decide) zd_R_readWeekday_69 (fun H locs hP hD hS => ?_)
          have hP : va_P g.1 zCl [(rq, .inr (4, [.ref (tx), .int (iI (ln)), .ref (pq), .int (iI ((vAt 5 tf ln (at0)) + 1)), .int (iI (vVl 5 tf ln (at0))), .int (iI (bI (op)))])), (tx, .inl (g.2 2, 400, .inl (zaI tf))), (pq, .inr (3, [.ref (ra 0), .ref (ra 1), .ref (ra 2), .ref (ra 3), .ref (ra 4), .ref (ra 5), .ref (ra 6), .ref (en 4), .int (iI (0)), .int (iI (0)), .int (zbits (bits))])), (ra 5, .inr (2, [.int (iI (1)), .int (iI (7)), .ref (aj)])), (aj, .inl (g.2 1, 7, .inl (zaB f)))] H := hP
          have hD : va_D A [(rq, .inr (4, [.ref (tx), .int (iI (ln)), .ref (pq), .int (iI ((vAt 5 tf ln (at0)) + 1)), .int (iI (vVl 5 tf ln (at0))), .int (iI (bI (op)))])), (tx, .inl (g.2 2, 400, .inl (zaI tf))), (pq, .inr (3, [.ref (ra 0), .ref (ra 1), .ref (ra 2), .ref (ra 3), .ref (ra 4), .ref (ra 5), .ref (ra 6), .ref (en 4), .int (iI (0)), .int (iI (0)), .int (zbits (bits))])), (ra 5, .inr (2, [.int (iI (1)), .int (iI (7)), .ref (aj)])), (aj, .inl (g.2 1, 7, .inl (zaB f)))] := hD
          refine zb_if_eq (tgt := 92) hx hb zd_R_readWeekday_72 (by decide) (fun c72 => by cases c72) (fun _ => ?_)
          refine lv_aload_n hx hb zd_R_readWeekday_75 rfl (lv_at hl 1 rfl) ?_
          refine va_get (D := g.1) (ci := 4) (v := .ref (pq)) (C := zR_R) (T := zT_R) (N := 6) hx hb hw zin_R hown hK hP 0 rfl rfl 2 (by decide) (hw _ zw_2_9) (fun _ h9 => h9) rfl zd_R_readWeekday_76 ?_
          refine va_gets hx hb (hT.1.1 5 (by decide)).1 hS hown (hw _ zw_2_176) (fun _ h9 => h9) zd_R_readWeekday_79 ?_
          refine lv_aload_n hx hb zd_R_readWeekday_82 rfl (lv_at hl 1 rfl) ?_
          refine va_get (D := g.1) (ci := 4) (v := .int (iI (vVl 5 tf ln (at0)))) (C := zR_R) (T := zT_R) (N := 6) hx hb hw zin_R hown hK hP 0 rfl rfl 4 (by decide) (hw _ zw_2_11) (fun _ h9 => h9) rfl zd_R_readWeekday_83 ?_
          refine zi_iconst hx hb zd_R_readWeekday_86 ?_
          refine zk_W (As := [.ref (en 5), .int (iI (vVl 5 tf ln (at0))), .int (iI (0))]) (b := pq) (own := "CronFinder$Reader") (nL := 2) (rest := []) hx hb hml hown hw (c_P_choose l g pq ra (en 4) 0 0 (bits) (en 5) (vVl 5 tf ln (at0)) (0)) zw_2_83 zw_2_43 zw_2_44 zw_1_2 zw_2_45 (np := 3) (by decide +kernel) rfl (by decide) (fun _ => zN_mv) hK trivial hP hD hS hA [2] rfl (by decide) rfl (va_recv hK hP (ci := 3) (q0 := 2) rfl rfl) hl.1 rfl (Nat.le_of_ble_eq_true rfl) (by decide) zd_R_readWeekday_87 (fun H locs hP hD hS => ?_)
          have hP : va_P g.1 zCl [(rq, .inr (4, [.ref (tx), .int (iI (ln)), .ref (pq), .int (iI ((vAt 5 tf ln (at0)) + 1)), .int (iI (vVl 5 tf ln (at0))), .int (iI (bI (op)))])), (tx, .inl (g.2 2, 400, .inl (zaI tf))), (pq, .inr (3, [.ref (ra 0), .ref (ra 1), .ref (ra 2), .ref (ra 3), .ref (ra 4), .ref (ra 5), .ref (ra 6), .ref (en 5), .int (iI (vVl 5 tf ln (at0))), .int (iI (0)), .int (zbits (bits))])), (ra 5, .inr (2, [.int (iI (1)), .int (iI (7)), .ref (aj)])), (aj, .inl (g.2 1, 7, .inl (zaB f)))] H := hP
          have hD : va_D A [(rq, .inr (4, [.ref (tx), .int (iI (ln)), .ref (pq), .int (iI ((vAt 5 tf ln (at0)) + 1)), .int (iI (vVl 5 tf ln (at0))), .int (iI (bI (op)))])), (tx, .inl (g.2 2, 400, .inl (zaI tf))), (pq, .inr (3, [.ref (ra 0), .ref (ra 1), .ref (ra 2), .ref (ra 3), .ref (ra 4), .ref (ra 5), .ref (ra 6), .ref (en 5), .int (iI (vVl 5 tf ln (at0))), .int (iI (0)), .int (zbits (bits))])), (ra 5, .inr (2, [.int (iI (1)), .int (iI (7)), .ref (aj)])), (aj, .inl (g.2 1, 7, .inl (zaB f)))] := hD
          refine zi_iconst hx hb zd_R_readWeekday_90 ?_
          first | cases (pWd_5 c4 ha29 hv60 ha69).symm.trans hres
          refine zb_as (x := true) rfl ?_
          exact zw_zret hx hb hr hlk hP hS zd_R_readWeekday_91
        · refine zk_V (As := [.int (iI (76))]) (b := rq) (own := "CronFinder$Reader") (nL := 2) (rest := []) hx hb hml hown hw (c_R_accept_n l g rq tx tf ln pq (vAt 5 tf ln (at0)) (vVl 5 tf ln (at0)) op hln (by omega) hch 76 (by decide) ha69) zw_2_69 zw_2_71 zw_0_4 zw_1_13 zw_2_72 (np := 1) (by decide +kernel) rfl (by decide) zN_mv hK trivial (hP.sub (ws' := [(rq, .inr (4, [.ref (tx), .int (iI (ln)), .ref (pq), .int (iI (vAt 5 tf ln (at0))), .int (iI (vVl 5 tf ln (at0))), .int (iI (bI (op)))])), (tx, .inl (g.2 2, 400, .inl (zaI tf)))]) [0, 1] rfl) (va_recv hK hP (ci := 4) (q0 := 0) rfl rfl) hl.1 rfl (Nat.le_of_ble_eq_true rfl) (by decide) zd_R_readWeekday_69 ?_
          refine zb_if_eq (tgt := 92) hx hb zd_R_readWeekday_72 (by decide) (fun _ => ?_) (fun c72 => by cases c72)
          refine lv_aload_n hx hb zd_R_readWeekday_92 rfl (lv_at hl 1 rfl) ?_
          refine zi_bipush hx hb zd_R_readWeekday_93 (by decide) ?_
          by_cases ha95 : rk tf ln (vAt 5 tf ln (at0)) = 35
          · have hp95 := rk_lt ha95 (by decide)
            refine zk_W (As := [.int (iI (35))]) (b := rq) (own := "CronFinder$Reader") (nL := 2) (rest := []) hx hb hml hown hw (c_R_accept_y l g rq tx tf ln pq (vAt 5 tf ln (at0)) (vVl 5 tf ln (at0)) op hln (by omega) hch 35 (by decide) ha95) zw_2_69 zw_2_71 zw_0_4 zw_1_13 zw_2_72 (np := 1) (by decide +kernel) rfl (by decide) (fun _ => zN_mv) hK trivial hP hD hS hA [0, 1] rfl (by decide) rfl (va_recv hK hP (ci := 4) (q0 := 0) rfl rfl) hl.1 rfl (Nat.le_of_ble_eq_true rfl) (by decide) zd_R_readWeekday_95 (fun H locs hP hD hS => ?_)
            have hP : va_P g.1 zCl [(rq, .inr (4, [.ref (tx), .int (iI (ln)), .ref (pq), .int (iI ((vAt 5 tf ln (at0)) + 1)), .int (iI (vVl 5 tf ln (at0))), .int (iI (bI (op)))])), (tx, .inl (g.2 2, 400, .inl (zaI tf))), (pq, .inr (3, [.ref (ra 0), .ref (ra 1), .ref (ra 2), .ref (ra 3), .ref (ra 4), .ref (ra 5), .ref (ra 6), .ref (en 4), .int (iI (0)), .int (iI (0)), .int (zbits (bits))])), (ra 5, .inr (2, [.int (iI (1)), .int (iI (7)), .ref (aj)])), (aj, .inl (g.2 1, 7, .inl (zaB f)))] H := hP
            have hD : va_D A [(rq, .inr (4, [.ref (tx), .int (iI (ln)), .ref (pq), .int (iI ((vAt 5 tf ln (at0)) + 1)), .int (iI (vVl 5 tf ln (at0))), .int (iI (bI (op)))])), (tx, .inl (g.2 2, 400, .inl (zaI tf))), (pq, .inr (3, [.ref (ra 0), .ref (ra 1), .ref (ra 2), .ref (ra 3), .ref (ra 4), .ref (ra 5), .ref (ra 6), .ref (en 4), .int (iI (0)), .int (iI (0)), .int (zbits (bits))])), (ra 5, .inr (2, [.int (iI (1)), .int (iI (7)), .ref (aj)])), (aj, .inl (g.2 1, 7, .inl (zaB f)))] := hD
            refine zb_if_eq (tgt := 110) hx hb zd_R_readWeekday_98 (by decide) (fun c98 => by cases c98) (fun _ => ?_)
            refine lv_aload_n hx hb zd_R_readWeekday_101 rfl (lv_at hl 1 rfl) ?_
            refine lv_aload_n hx hb zd_R_readWeekday_102 rfl (lv_at hl 1 rfl) ?_
            refine va_get (D := g.1) (ci := 4) (v := .int (iI (vVl 5 tf ln (at0)))) (C := zR_R) (T := zT_R) (N := 6) hx hb hw zin_R hown hK hP 0 rfl rfl 4 (by decide) (hw _ zw_2_11) (fun _ h9 => h9) rfl zd_R_readWeekday_103 ?_
            rcases hq106 : pOr en tf ln (vVl 5 tf ln (at0)) ((vAt 5 tf ln (at0)) + 1) (vVl 5 tf ln (at0)) (en 4) 0 0 with ⟨ok1, b1, w1, r1, s1, o1⟩
            refine zk_W (As := [.int (iI (vVl 5 tf ln (at0)))]) (b := rq) (own := "CronFinder$Reader") (nL := 2) (rest := []) hx hb hml hown hw (c_R_ordinal l g rq tx tf ln pq ((vAt 5 tf ln (at0)) + 1) (vVl 5 tf ln (at0)) op hln (by omega) hch ra (en 4) 0 0 (bits) en (vVl 5 tf ln (at0)) ok1 b1 w1 r1 s1 o1 hq106) zw_2_178 zw_2_180 zw_0_13 zw_1_13 zw_2_181 (np := 1) (by decide +kernel) rfl (by decide) (zSe_mv en) hK (zSe_nar (zSe_now hT.1 hS) (va_free hD hS hA [0, 1, 2] rfl)) hP hD hS hA [0, 1, 2] rfl (by decide) rfl (va_recv hK hP (ci := 4) (q0 := 0) rfl rfl) hl.1 rfl (Nat.le_of_ble_eq_true rfl) (by decide) zd_R_readWeekday_106 (fun H locs hP hD hS => ?_)
            have hP : va_P g.1 zCl [(rq, .inr (4, [.ref (tx), .int (iI (ln)), .ref (pq), .int (iI (b1)), .int (iI (w1)), .int (iI (bI (op)))])), (tx, .inl (g.2 2, 400, .inl (zaI tf))), (pq, .inr (3, [.ref (ra 0), .ref (ra 1), .ref (ra 2), .ref (ra 3), .ref (ra 4), .ref (ra 5), .ref (ra 6), .ref (r1), .int (iI (s1)), .int (iI (o1)), .int (zbits (bits))])), (ra 5, .inr (2, [.int (iI (1)), .int (iI (7)), .ref (aj)])), (aj, .inl (g.2 1, 7, .inl (zaB f)))] H := hP
            have hD : va_D A [(rq, .inr (4, [.ref (tx), .int (iI (ln)), .ref (pq), .int (iI (b1)), .int (iI (w1)), .int (iI (bI (op)))])), (tx, .inl (g.2 2, 400, .inl (zaI tf))), (pq, .inr (3, [.ref (ra 0), .ref (ra 1), .ref (ra 2), .ref (ra 3), .ref (ra 4), .ref (ra 5), .ref (ra 6), .ref (r1), .int (iI (s1)), .int (iI (o1)), .int (zbits (bits))])), (ra 5, .inr (2, [.int (iI (1)), .int (iI (7)), .ref (aj)])), (aj, .inl (g.2 1, 7, .inl (zaB f)))] := hD
            first | cases (pWd_6 c4 ha29 hv60 ha69 ha95 hq106).symm.trans hres
            exact zw_zret hx hb hr hlk hP hS zd_R_readWeekday_109
          · refine zk_V (As := [.int (iI (35))]) (b := rq) (own := "CronFinder$Reader") (nL := 2) (rest := []) hx hb hml hown hw (c_R_accept_n l g rq tx tf ln pq (vAt 5 tf ln (at0)) (vVl 5 tf ln (at0)) op hln (by omega) hch 35 (by decide) ha95) zw_2_69 zw_2_71 zw_0_4 zw_1_13 zw_2_72 (np := 1) (by decide +kernel) rfl (by decide) zN_mv hK trivial (hP.sub (ws' := [(rq, .inr (4, [.ref (tx), .int (iI (ln)), .ref (pq), .int (iI (vAt 5 tf ln (at0))), .int (iI (vVl 5 tf ln (at0))), .int (iI (bI (op)))])), (tx, .inl (g.2 2, 400, .inl (zaI tf)))]) [0, 1] rfl) (va_recv hK hP (ci := 4) (q0 := 0) rfl rfl) hl.1 rfl (Nat.le_of_ble_eq_true rfl) (by decide) zd_R_readWeekday_95 ?_
            refine zb_if_eq (tgt := 110) hx hb zd_R_readWeekday_98 (by decide) (fun _ => ?_) (fun c98 => by cases c98)
            refine lv_aload_n hx hb zd_R_readWeekday_110 rfl (lv_at hl 1 rfl) ?_
            refine lv_iload_n hx hb zd_R_readWeekday_111 rfl (lv_at hl 0 rfl) ?_
            refine va_put (D := g.1) (ci := 4) (v := .int (iI (at0))) (ty := .int) (C := zR_R) (T := zT_R) (N := 6) hx hb hw zin_R zt_R zto_R zn_R hown hK hP hD hS 0 rfl rfl 3 (by decide) (hw _ zw_2_10) (fun _ h9 => h9) rfl  (by decide +kernel) rfl rfl (Nat.le_of_ble_eq_true rfl) zd_R_readWeekday_112 (fun H locs hP hD hS => ?_)
            have hP : va_P g.1 zCl [(rq, .inr (4, [.ref (tx), .int (iI (ln)), .ref (pq), .int (iI (at0)), .int (iI (vVl 5 tf ln (at0))), .int (iI (bI (op)))])), (tx, .inl (g.2 2, 400, .inl (zaI tf))), (pq, .inr (3, [.ref (ra 0), .ref (ra 1), .ref (ra 2), .ref (ra 3), .ref (ra 4), .ref (ra 5), .ref (ra 6), .ref (en 4), .int (iI (0)), .int (iI (0)), .int (zbits (bits))])), (ra 5, .inr (2, [.int (iI (1)), .int (iI (7)), .ref (aj)])), (aj, .inl (g.2 1, 7, .inl (zaB f)))] H := hP
            have hD : va_D A [(rq, .inr (4, [.ref (tx), .int (iI (ln)), .ref (pq), .int (iI (at0)), .int (iI (vVl 5 tf ln (at0))), .int (iI (bI (op)))])), (tx, .inl (g.2 2, 400, .inl (zaI tf))), (pq, .inr (3, [.ref (ra 0), .ref (ra 1), .ref (ra 2), .ref (ra 3), .ref (ra 4), .ref (ra 5), .ref (ra 6), .ref (en 4), .int (iI (0)), .int (iI (0)), .int (zbits (bits))])), (ra 5, .inr (2, [.int (iI (1)), .int (iI (7)), .ref (aj)])), (aj, .inl (g.2 1, 7, .inl (zaB f)))] := hD
            refine lv_aload_n hx hb zd_R_readWeekday_115 rfl (lv_at hl 1 rfl) ?_
            refine zi_iconst hx hb zd_R_readWeekday_116 ?_
            rcases hq117 : pIs 5 tf ln ln.toNat (at0) (vVl 5 tf ln (at0)) f with ⟨ok1, b1, w1, f1⟩
            have hr117 := pIs_rg (by decide) (by omega) hq117
            refine zk_W (As := [.int (iI (5))]) (b := rq) (own := "CronFinder$Reader") (nL := 2) (rest := []) hx hb hml hown hw (c_R_items_5 l g rq tx tf ln pq (at0) (vVl 5 tf ln (at0)) op hln (by omega) hch ra (aj) f (en 4) 0 0 (bits) q1 v1 q2 v2 ok1 b1 w1 f1 hq117) zw_2_161 zw_2_163 zw_0_10 zw_1_13 zw_2_164 (np := 1) (by decide +kernel) rfl (by decide) (zRs_mv q1 v1 q2 v2) hK (zRs_nar (zRs_now hT.2 hS) (va_free hD hS hA [0, 1, 2, 3, 4] rfl)) hP hD hS hA [0, 1, 2, 3, 4] rfl (by decide) rfl (va_recv hK hP (ci := 4) (q0 := 0) rfl rfl) hl.1 rfl (Nat.le_of_ble_eq_true rfl) (by decide) zd_R_readWeekday_117 (fun H locs hP hD hS => ?_)
            have hP : va_P g.1 zCl [(rq, .inr (4, [.ref (tx), .int (iI (ln)), .ref (pq), .int (iI (b1)), .int (iI (w1)), .int (iI (bI (op)))])), (tx, .inl (g.2 2, 400, .inl (zaI tf))), (pq, .inr (3, [.ref (ra 0), .ref (ra 1), .ref (ra 2), .ref (ra 3), .ref (ra 4), .ref (ra 5), .ref (ra 6), .ref (en 4), .int (iI (0)), .int (iI (0)), .int (zbits (bits))])), (ra 5, .inr (2, [.int (iI (1)), .int (iI (7)), .ref (aj)])), (aj, .inl (g.2 1, 7, .inl (zaB f1)))] H := hP
            have hD : va_D A [(rq, .inr (4, [.ref (tx), .int (iI (ln)), .ref (pq), .int (iI (b1)), .int (iI (w1)), .int (iI (bI (op)))])), (tx, .inl (g.2 2, 400, .inl (zaI tf))), (pq, .inr (3, [.ref (ra 0), .ref (ra 1), .ref (ra 2), .ref (ra 3), .ref (ra 4), .ref (ra 5), .ref (ra 6), .ref (en 4), .int (iI (0)), .int (iI (0)), .int (zbits (bits))])), (ra 5, .inr (2, [.int (iI (1)), .int (iI (7)), .ref (aj)])), (aj, .inl (g.2 1, 7, .inl (zaB f1)))] := hD
            first | cases (pWd_4 c4 ha29 hv60 hq117).symm.trans hres | cases (pWd_7 c4 ha29 hv60 ha69 ha95 hq117).symm.trans hres
            exact zw_zret hx hb hr hlk hP hS zd_R_readWeekday_120
      · refine zk_W (As := [.int (iI (5))]) (b := rq) (own := "CronFinder$Reader") (nL := 2) (rest := []) hx hb hml hown hw (c_R_value_n_5 l g rq tx tf ln pq (at0) (vl) op hln (by omega) hch ra (aj) f (en 4) 0 0 (bits) q1 v1 q2 v2 (Bool.eq_false_iff.mpr hv60)) zw_2_93 zw_2_95 zw_0_8 zw_1_13 zw_2_96 (np := 1) (by decide +kernel) rfl (by decide) (zRs_mv q1 v1 q2 v2) hK (zRs_nar (zRs_now hT.2 hS) (va_free hD hS hA [0, 1, 2, 3, 4] rfl)) hP hD hS hA [0, 1, 2, 3, 4] rfl (by decide) rfl (va_recv hK hP (ci := 4) (q0 := 0) rfl rfl) hl.1 rfl (Nat.le_of_ble_eq_true rfl) (by decide) zd_R_readWeekday_60 (fun H locs hP hD hS => ?_)
        have hP : va_P g.1 zCl [(rq, .inr (4, [.ref (tx), .int (iI (ln)), .ref (pq), .int (iI (at0)), .int (iI (vl)), .int (iI (bI (op)))])), (tx, .inl (g.2 2, 400, .inl (zaI tf))), (pq, .inr (3, [.ref (ra 0), .ref (ra 1), .ref (ra 2), .ref (ra 3), .ref (ra 4), .ref (ra 5), .ref (ra 6), .ref (en 4), .int (iI (0)), .int (iI (0)), .int (zbits (bits))])), (ra 5, .inr (2, [.int (iI (1)), .int (iI (7)), .ref (aj)])), (aj, .inl (g.2 1, 7, .inl (zaB f)))] H := hP
        have hD : va_D A [(rq, .inr (4, [.ref (tx), .int (iI (ln)), .ref (pq), .int (iI (at0)), .int (iI (vl)), .int (iI (bI (op)))])), (tx, .inl (g.2 2, 400, .inl (zaI tf))), (pq, .inr (3, [.ref (ra 0), .ref (ra 1), .ref (ra 2), .ref (ra 3), .ref (ra 4), .ref (ra 5), .ref (ra 6), .ref (en 4), .int (iI (0)), .int (iI (0)), .int (zbits (bits))])), (ra 5, .inr (2, [.int (iI (1)), .int (iI (7)), .ref (aj)])), (aj, .inl (g.2 1, 7, .inl (zaB f)))] := hD
        refine zb_if_eq (tgt := 110) hx hb zd_R_readWeekday_63 (by decide) (fun _ => ?_) (fun c63 => by cases c63)
        refine lv_aload_n hx hb zd_R_readWeekday_110 rfl (lv_at hl 1 rfl) ?_
        refine lv_iload_n hx hb zd_R_readWeekday_111 rfl (lv_at hl 0 rfl) ?_
        refine va_put (D := g.1) (ci := 4) (v := .int (iI (at0))) (ty := .int) (C := zR_R) (T := zT_R) (N := 6) hx hb hw zin_R zt_R zto_R zn_R hown hK hP hD hS 0 rfl rfl 3 (by decide) (hw _ zw_2_10) (fun _ h9 => h9) rfl  (by decide +kernel) rfl rfl (Nat.le_of_ble_eq_true rfl) zd_R_readWeekday_112 (fun H locs hP hD hS => ?_)
        have hP : va_P g.1 zCl [(rq, .inr (4, [.ref (tx), .int (iI (ln)), .ref (pq), .int (iI (at0)), .int (iI (vl)), .int (iI (bI (op)))])), (tx, .inl (g.2 2, 400, .inl (zaI tf))), (pq, .inr (3, [.ref (ra 0), .ref (ra 1), .ref (ra 2), .ref (ra 3), .ref (ra 4), .ref (ra 5), .ref (ra 6), .ref (en 4), .int (iI (0)), .int (iI (0)), .int (zbits (bits))])), (ra 5, .inr (2, [.int (iI (1)), .int (iI (7)), .ref (aj)])), (aj, .inl (g.2 1, 7, .inl (zaB f)))] H := hP
        have hD : va_D A [(rq, .inr (4, [.ref (tx), .int (iI (ln)), .ref (pq), .int (iI (at0)), .int (iI (vl)), .int (iI (bI (op)))])), (tx, .inl (g.2 2, 400, .inl (zaI tf))), (pq, .inr (3, [.ref (ra 0), .ref (ra 1), .ref (ra 2), .ref (ra 3), .ref (ra 4), .ref (ra 5), .ref (ra 6), .ref (en 4), .int (iI (0)), .int (iI (0)), .int (zbits (bits))])), (ra 5, .inr (2, [.int (iI (1)), .int (iI (7)), .ref (aj)])), (aj, .inl (g.2 1, 7, .inl (zaB f)))] := hD
        refine lv_aload_n hx hb zd_R_readWeekday_115 rfl (lv_at hl 1 rfl) ?_
        refine zi_iconst hx hb zd_R_readWeekday_116 ?_
        rcases hq117 : pIs 5 tf ln ln.toNat (at0) (vl) f with ⟨ok1, b1, w1, f1⟩
        have hr117 := pIs_rg (by decide) (by omega) hq117
        refine zk_W (As := [.int (iI (5))]) (b := rq) (own := "CronFinder$Reader") (nL := 2) (rest := []) hx hb hml hown hw (c_R_items_5 l g rq tx tf ln pq (at0) (vl) op hln (by omega) hch ra (aj) f (en 4) 0 0 (bits) q1 v1 q2 v2 ok1 b1 w1 f1 hq117) zw_2_161 zw_2_163 zw_0_10 zw_1_13 zw_2_164 (np := 1) (by decide +kernel) rfl (by decide) (zRs_mv q1 v1 q2 v2) hK (zRs_nar (zRs_now hT.2 hS) (va_free hD hS hA [0, 1, 2, 3, 4] rfl)) hP hD hS hA [0, 1, 2, 3, 4] rfl (by decide) rfl (va_recv hK hP (ci := 4) (q0 := 0) rfl rfl) hl.1 rfl (Nat.le_of_ble_eq_true rfl) (by decide) zd_R_readWeekday_117 (fun H locs hP hD hS => ?_)
        have hP : va_P g.1 zCl [(rq, .inr (4, [.ref (tx), .int (iI (ln)), .ref (pq), .int (iI (b1)), .int (iI (w1)), .int (iI (bI (op)))])), (tx, .inl (g.2 2, 400, .inl (zaI tf))), (pq, .inr (3, [.ref (ra 0), .ref (ra 1), .ref (ra 2), .ref (ra 3), .ref (ra 4), .ref (ra 5), .ref (ra 6), .ref (en 4), .int (iI (0)), .int (iI (0)), .int (zbits (bits))])), (ra 5, .inr (2, [.int (iI (1)), .int (iI (7)), .ref (aj)])), (aj, .inl (g.2 1, 7, .inl (zaB f1)))] H := hP
        have hD : va_D A [(rq, .inr (4, [.ref (tx), .int (iI (ln)), .ref (pq), .int (iI (b1)), .int (iI (w1)), .int (iI (bI (op)))])), (tx, .inl (g.2 2, 400, .inl (zaI tf))), (pq, .inr (3, [.ref (ra 0), .ref (ra 1), .ref (ra 2), .ref (ra 3), .ref (ra 4), .ref (ra 5), .ref (ra 6), .ref (en 4), .int (iI (0)), .int (iI (0)), .int (zbits (bits))])), (ra 5, .inr (2, [.int (iI (1)), .int (iI (7)), .ref (aj)])), (aj, .inl (g.2 1, 7, .inl (zaB f1)))] := hD
        first | cases (pWd_4 c4 ha29 hv60 hq117).symm.trans hres | cases (pWd_7 c4 ha29 hv60 ha69 ha95 hq117).symm.trans hres
        exact zw_zret hx hb hr hlk hP hS zd_R_readWeekday_120
  · refine lv_aload_n hx hb zd_R_readWeekday_7 rfl (lv_at hl 0 rfl) ?_
    refine zi_bipush hx hb zd_R_readWeekday_8 (by decide) ?_
    by_cases ha10 : rk tf ln (at0) = 63
    · have hp10 := rk_lt ha10 (by decide)
      refine zk_W (As := [.int (iI (63))]) (b := rq) (own := "CronFinder$Reader") (nL := 2) (rest := []) hx hb hml hown hw (c_R_accept_y l g rq tx tf ln pq (at0) (vl) op hln (by omega) hch 63 (by decide) ha10) zw_2_69 zw_2_71 zw_0_4 zw_1_13 zw_2_72 (np := 1) (by decide +kernel) rfl (by decide) (fun _ => zN_mv) hK trivial hP hD hS hA [0, 1] rfl (by decide) rfl (va_recv hK hP (ci := 4) (q0 := 0) rfl rfl) hl.1 rfl (Nat.le_of_ble_eq_true rfl) (by decide) zd_R_readWeekday_10 (fun H locs hP hD hS => ?_)
      have hP : va_P g.1 zCl [(rq, .inr (4, [.ref (tx), .int (iI (ln)), .ref (pq), .int (iI (at0 + 1)), .int (iI (vl)), .int (iI (bI (op)))])), (tx, .inl (g.2 2, 400, .inl (zaI tf))), (pq, .inr (3, [.ref (ra 0), .ref (ra 1), .ref (ra 2), .ref (ra 3), .ref (ra 4), .ref (ra 5), .ref (ra 6), .ref (rl), .int (iI (sub)), .int (iI (od)), .int (zbits (bits))])), (ra 5, .inr (2, [.int (iI (1)), .int (iI (7)), .ref (aj)])), (aj, .inl (g.2 1, 7, .inl (zaB f)))] H := hP
      have hD : va_D A [(rq, .inr (4, [.ref (tx), .int (iI (ln)), .ref (pq), .int (iI (at0 + 1)), .int (iI (vl)), .int (iI (bI (op)))])), (tx, .inl (g.2 2, 400, .inl (zaI tf))), (pq, .inr (3, [.ref (ra 0), .ref (ra 1), .ref (ra 2), .ref (ra 3), .ref (ra 4), .ref (ra 5), .ref (ra 6), .ref (rl), .int (iI (sub)), .int (iI (od)), .int (zbits (bits))])), (ra 5, .inr (2, [.int (iI (1)), .int (iI (7)), .ref (aj)])), (aj, .inl (g.2 1, 7, .inl (zaB f)))] := hD
      first | cases (pWd_1 c4 ha10).symm.trans hres
      exact zw_zret hx hb hr hlk hP hS zd_R_readWeekday_13
    · refine zk_V (As := [.int (iI (63))]) (b := rq) (own := "CronFinder$Reader") (nL := 2) (rest := []) hx hb hml hown hw (c_R_accept_n l g rq tx tf ln pq (at0) (vl) op hln (by omega) hch 63 (by decide) ha10) zw_2_69 zw_2_71 zw_0_4 zw_1_13 zw_2_72 (np := 1) (by decide +kernel) rfl (by decide) zN_mv hK trivial (hP.sub (ws' := [(rq, .inr (4, [.ref (tx), .int (iI (ln)), .ref (pq), .int (iI (at0)), .int (iI (vl)), .int (iI (bI (op)))])), (tx, .inl (g.2 2, 400, .inl (zaI tf)))]) [0, 1] rfl) (va_recv hK hP (ci := 4) (q0 := 0) rfl rfl) hl.1 rfl (Nat.le_of_ble_eq_true rfl) (by decide) zd_R_readWeekday_10 ?_
      first | cases (pWd_2 c4 ha10).symm.trans hres
      exact zw_zret hx hb hr hlk hP hS zd_R_readWeekday_13
