/-! ties: what a text that stands leaves on both sides -/
section TXT
variable {tf : Nat → Int} {ln a vl s o b v s2 o2 : Int} {op op2 ok : Bool} {r r2 n j : Nat} {f f2 : Nat → Bool} {al al2 : Nat → Nat → Bool}
theorem pDy_r0 (h : pDy id tf ln a vl false 0 0 0 f = (ok, b, v, true, r, s, o, f2)) : r = 0 := by
  unfold pDy pFd pFi at h
  repeat' split at h
  all_goals first | (cases h; rfl) | (simp only [Prod.mk.injEq] at h; exact absurd h.2.2.2.1 (by decide))
theorem bEnd_in {a0 : Int} (ha : 0 ≤ a ∧ a ≤ ln) (h : a0 = a ∨ a0 = bEnd tf ln 401 a) : 0 ≤ a0 ∧ a0 ≤ ln := by
  have hb := bEnd_ge tf ln 401 a ha.2
  rcases h with h | h <;> omega
/-- a text that stands: its lists allow something, its rule fits -/
theorem pT_ok {v' s' o' a' : Int} {op' : Bool} {r' : Nat} {al' : Nat → Nat → Bool} (hln : 0 ≤ ln) (h : pT id tf ln 7 0 0 0 false 0 0 0 (fun _ _ => false) = (true, a', v', op', r', s', o', al')) : pNe al' ∧ qRg op' r' s' o' ∧ (op' = true → 4 ≤ r') := by
  obtain ⟨x0, b0, v0, p0, r0, s0, o0, l0, F0, T0, g0⟩ := pT_inv h (fun q => absurd q.1 (by decide))
  have e0 := bEnd_in ⟨Int.le_refl _, hln⟩ g0
  obtain ⟨f0, I0, rfl, rfl, rfl, rfl, rfl⟩ := pFl_o (by decide) (by decide) F0
  have R0 := pIs_rg (by decide) e0 I0
  obtain ⟨x1, b1, v1, p1, r1, s1, o1, l1, F1, T1, g1⟩ := pT_inv T0 (fun q => absurd q.1 (by decide))
  have e1 := bEnd_in (show 0 ≤ b0 ∧ b0 ≤ ln by omega) g1
  obtain ⟨f1, I1, rfl, rfl, rfl, rfl, rfl⟩ := pFl_o (by decide) (by decide) F1
  have R1 := pIs_rg (by decide) e1 I1
  obtain ⟨x2, b2, v2, p2, r2, s2, o2, l2, F2, T2, g2⟩ := pT_inv T1 (fun q => absurd q.1 (by decide))
  have e2 := bEnd_in (show 0 ≤ b1 ∧ b1 ≤ ln by omega) g2
  obtain ⟨f2, I2, rfl, rfl, rfl, rfl, rfl⟩ := pFl_o (by decide) (by decide) F2
  have R2 := pIs_rg (by decide) e2 I2
  obtain ⟨x3, b3, v3, p3, r3, s3, o3, l3, F3, T3, g3⟩ := pT_inv T2 (fun q => absurd q.1 (by decide))
  have e3 := bEnd_in (show 0 ≤ b2 ∧ b2 ≤ ln by omega) g3
  rcases D3 : pDy id tf ln x3 v2 false 0 0 0 (fun _ => false) with ⟨k3, c3, w3, q3, u3, t3, y3, f3⟩
  have F3' := (pFl_3 (en := id) (al := pUp (pUp (pUp (fun _ _ => false) 0 f0) 1 f1) 2 f2) D3).symm.trans F3
  simp only [Prod.mk.injEq] at F3'
  obtain ⟨z1, z2, z3, z4, z5, z6, z7, z8⟩ := F3'
  subst z1; subst z2; subst z3; subst z4; subst z5; subst z6; subst z7; subst z8
  have R3 := pDy_rg e3 D3
  have Q3 := pDy_q e3 D3
  have N3 : q3 = true → u3 = 0 := fun q => by subst q; exact pDy_r0 D3
  obtain ⟨x4, b4, v4, p4, r4, s4, o4, l4, F4, T4, g4⟩ := pT_inv T3 (fun q => absurd q.1 (by decide))
  have e4 := bEnd_in (show 0 ≤ c3 ∧ c3 ≤ ln by omega) g4
  obtain ⟨f4, I4, rfl, rfl, rfl, rfl, rfl⟩ := pFl_o (by decide) (by decide) F4
  have R4 := pIs_rg (by decide) e4 I4
  obtain ⟨x5, b5, v5, p5, r5, s5, o5, l5, F5, T5, g5⟩ := pT_inv T4 (fun q => absurd q.1 (by decide))
  have e5 := bEnd_in (show 0 ≤ b4 ∧ b4 ≤ ln by omega) g5
  rcases D5 : pWd id tf ln x5 v4 p4 r4 s4 o4 (fun _ => false) with ⟨k5, c5, w5, q5, u5, t5, y5, f5⟩
  have F5' := (pFl_5 (en := id) (al := pUp (pUp (pUp (pUp (pUp (fun _ _ => false) 0 f0) 1 f1) 2 f2) 3 f3) 4 f4) D5).symm.trans F5
  simp only [Prod.mk.injEq] at F5'
  obtain ⟨z1, z2, z3, z4, z5, z6, z7, z8⟩ := F5'
  subst z1; subst z2; subst z3; subst z4; subst z5; subst z6; subst z7; subst z8
  have Q5 := pWd_r e5 Q3 N3 D5
  have H0 := pIs_ne (by decide) _ _ _ _ I0
  have H1 := pIs_ne (by decide) _ _ _ _ I1
  have H2 := pIs_ne (by decide) _ _ _ _ I2
  have key : al' 0 = f0 ∧ al' 1 = f1 ∧ al' 2 = f2 ∧ op' = q5 ∧ r' = u5 ∧ s' = t5 ∧ o' = y5 := by
    by_cases q6 : c5 = ln
    · have T6 := (pT_y (en := id) (n := 0) q6).symm.trans T5
      simp only [Prod.mk.injEq] at T6
      obtain ⟨-, -, -, z4, z5, z6, z7, z8⟩ := T6
      subst z8
      exact ⟨rfl, rfl, rfl, z4.symm, z5.symm, z6.symm, z7.symm⟩
    · obtain ⟨x6, b6, v6, p6, r6, s6, o6, l6, F6, T6, g6⟩ := pT_inv T5 (fun q => q6 q.2)
      obtain ⟨f6, I6, rfl, rfl, rfl, rfl, rfl⟩ := pFl_o (by decide) (by decide) F6
      simp only [pT, Prod.mk.injEq] at T6
      obtain ⟨-, -, -, z4, z5, z6, z7, z8⟩ := T6
      subst z8
      exact ⟨rfl, rfl, rfl, z4.symm, z5.symm, z6.symm, z7.symm⟩
  obtain ⟨k0, k1, k2, rfl, rfl, rfl, rfl⟩ := key
  refine ⟨⟨?_, ?_, ?_⟩, Q5.1, Q5.2.2⟩
  · obtain ⟨k, a1, a2, a3⟩ := H0
    exact ⟨k, a1, Int.le_of_lt_add_one (show k < 59 + 1 from a2), by rw [k0]; exact a3⟩
  · obtain ⟨k, a1, a2, a3⟩ := H1
    exact ⟨k, a1, Int.le_of_lt_add_one (show k < 59 + 1 from a2), by rw [k1]; exact a3⟩
  · obtain ⟨k, a1, a2, a3⟩ := H2
    exact ⟨k, a1, Int.le_of_lt_add_one (show k < 23 + 1 from a2), by rw [k2]; exact a3⟩
def qWf (wf : Nat → Int) (op : Bool) (r : Nat) : Nat → Int := zu (zu wf 0 (qW3 op r)) 1 (if op = true then qW5 r else 1)
def qFi (fi : Nat → Int) (op : Bool) (s : Int) : Nat → Int := zu (zu fi 0 (if op = true then 0 else s)) 1 (if op = true then s else 0)
def qSf (sf : Nat → Int) (op : Bool) (o : Int) : Nat → Int := zu (zu sf 0 0) 1 (if op = true then o else 0)
theorem qRel_T {wf fi sf : Nat → Int} {tr : Nat → Nat → Bool} (hq : qRg op r s o) (h4 : op = true → 4 ≤ r) : qRel (qSt op r tr al) (qWf wf op r) (qFi fi op s) (qSf sf op o) al (pSeal (al 3)) r s o := by
  refine ⟨fun _ _ => rfl, fun _ _ => rfl, fun _ _ => rfl, fun _ _ => rfl, fun _ _ => rfl, ?_⟩
  rcases hq with ⟨rfl, rfl, h⟩ | ⟨rfl, h⟩
  · rcases h with ⟨rfl, rfl⟩ | ⟨rfl, h1, h2⟩ | ⟨rfl, rfl⟩ | ⟨rfl, h1, h2⟩
    · exact Or.inl ⟨rfl, rfl, rfl, rfl, fun _ _ => rfl⟩
    · exact Or.inr (Or.inl ⟨rfl, rfl, rfl, rfl, h1⟩)
    · exact Or.inr (Or.inr (Or.inl ⟨rfl, rfl, rfl⟩))
    · exact Or.inr (Or.inr (Or.inr (Or.inl ⟨rfl, rfl, rfl, rfl, h1⟩)))
  · have h5 := h4 rfl
    rcases h with ⟨rfl, rfl, rfl⟩ | ⟨rfl, rfl, rfl⟩ | ⟨rfl, h1, h2, rfl⟩ | ⟨rfl, h1, h2, h3, h6⟩
    · omega
    · exact Or.inr (Or.inr (Or.inr (Or.inr (Or.inl ⟨rfl, rfl, rfl, fun _ _ => rfl⟩))))
    · exact Or.inr (Or.inr (Or.inr (Or.inr (Or.inr (Or.inl ⟨rfl, rfl, rfl, rfl, h1, h2⟩)))))
    · exact Or.inr (Or.inr (Or.inr (Or.inr (Or.inr (Or.inr ⟨rfl, rfl, rfl, rfl, rfl, h1, h2, h3, h6⟩)))))
/-- the numbers that the reference keeps lie where its days want them -/
def qHr (wf fi sf : Nat → Int) : Prop := (0 ≤ fi 0 ∧ fi 0 ≤ 31) ∧ (0 ≤ wf 0 ∧ wf 0 ≤ 4 ∧ (wf 0 = 4 → 1 ≤ fi 0)) ∧ (0 ≤ fi 1 ∧ fi 1 ≤ 31 ∧ 0 ≤ wf 1 ∧ wf 1 ≤ 6 ∧ 0 ≤ sf 1 ∧ sf 1 ≤ 5)
theorem qHr_T {wf fi sf : Nat → Int} (hq : qRg op r s o) (h4 : op = true → 4 ≤ r) : qHr (qWf wf op r) (qFi fi op s) (qSf sf op o) := by
  have key : (0 ≤ (if op = true then (0 : Int) else s) ∧ (if op = true then (0 : Int) else s) ≤ 31) ∧ (0 ≤ qW3 op r ∧ qW3 op r ≤ 4 ∧ (qW3 op r = 4 → 1 ≤ (if op = true then (0 : Int) else s))) ∧ (0 ≤ (if op = true then s else (0 : Int)) ∧ (if op = true then s else (0 : Int)) ≤ 31 ∧ 0 ≤ (if op = true then qW5 r else (1 : Int)) ∧ (if op = true then qW5 r else (1 : Int)) ≤ 6 ∧ 0 ≤ (if op = true then o else (0 : Int)) ∧ (if op = true then o else (0 : Int)) ≤ 5) := by
    have w5 := qW5_rg r
    rcases hq with ⟨rfl, rfl, h⟩ | ⟨rfl, h⟩
    · rw [if_neg (by decide), if_neg (by decide), if_neg (by decide), if_neg (by decide)]
      rcases h with ⟨rfl, rfl⟩ | ⟨rfl, h1, h2⟩ | ⟨rfl, rfl⟩ | ⟨rfl, h1, h2⟩ <;> simp [qW3] <;> omega
    · have h5 := h4 rfl
      rw [if_pos rfl, if_pos rfl, if_pos rfl, if_pos rfl]
      have w3 : qW3 true r = 1 := rfl
      rw [w3]
      omega
  exact key
theorem qRg_h (hq : qRg op r s o) : (0 ≤ s ∧ s ≤ 31 ∧ 0 ≤ o ∧ o ≤ 5) ∧ r < 7 ∧ (r = 3 → 1 ≤ s) := by
  unfold qRg at hq
  omega
end TXT
