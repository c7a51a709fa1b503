/-! ties: a text read with the rules themselves or their numbers; what a text that stands leaves; days and times of the two sides -/
section TIE1
variable {en : Nat → Nat} {tf : Nat → Int} {ln a vl sub od wd : Int} {op : Bool} {r : Nat} {f : Nat → Bool} {al : Nat → Nat → Bool}
def mL (en : Nat → Nat) (x : Bool × Int × Int × Nat × Int × Int) : Bool × Int × Int × Nat × Int × Int := (x.1, x.2.1, x.2.2.1, en x.2.2.2.1, x.2.2.2.2.1, x.2.2.2.2.2)
def mF (en : Nat → Nat) (x : pFo) : pFo := (x.1, x.2.1, x.2.2.1, x.2.2.2.1, en x.2.2.2.2.1, x.2.2.2.2.2.1, x.2.2.2.2.2.2.1, x.2.2.2.2.2.2.2)
def mT (en : Nat → Nat) (x : Bool × pSt) : Bool × pSt := (x.1, x.2.1, x.2.2.1, x.2.2.2.1, en x.2.2.2.2.1, x.2.2.2.2.2.1, x.2.2.2.2.2.2.1, x.2.2.2.2.2.2.2)
theorem pLD_en : pLD en tf ln a vl (en r) sub od = mL en (pLD id tf ln a vl r sub od) := by
  by_cases h1 : rk tf ln a = 87
  · rw [pLD_1 h1, pLD_1 h1]; rfl
  · by_cases h2 : rk tf ln a = 45
    · by_cases h3 : rNm tf ln 1 30 (a + 1)
      · rw [pLD_3 h1 h2 h3, pLD_3 h1 h2 h3]; rfl
      · rw [pLD_4 h1 h2 h3, pLD_4 h1 h2 h3]; rfl
    · rw [pLD_2 h1 h2, pLD_2 h1 h2]; rfl
theorem pOr_en : pOr en tf ln wd a vl (en r) sub od = mL en (pOr id tf ln wd a vl r sub od) := by
  by_cases h1 : rNm tf ln 1 5 a
  · rw [pOr_1 h1, pOr_1 h1]; rfl
  · rw [pOr_2 h1, pOr_2 h1]; rfl
theorem pDy_en : pDy en tf ln a vl op (en r) sub od f = mF en (pDy id tf ln a vl op r sub od f) := by
  by_cases h1 : rk tf ln a = 63
  · rw [pDy_1 h1, pDy_1 h1]; rfl
  · by_cases h2 : rk tf ln a = 76
    · rw [pDy_2 h1 h2 pLD_en, pDy_2 h1 h2 rfl]; rfl
    · by_cases h3 : vOk 3 tf ln a = true
      · by_cases h4 : rk tf ln (vAt 3 tf ln a) = 87
        · rw [pDy_4 h1 h2 h3 h4, pDy_4 h1 h2 h3 h4]; rfl
        · rw [pDy_5 h1 h2 h3 h4 rfl, pDy_5 h1 h2 h3 h4 rfl]; rfl
      · rw [pDy_3 h1 h2 h3 rfl, pDy_3 h1 h2 h3 rfl]; rfl
theorem pWd_en : pWd en tf ln a vl op (en r) sub od f = mF en (pWd id tf ln a vl op r sub od f) := by
  cases op
  · by_cases h1 : rk tf ln a = 63
    · rw [pWd_1 rfl h1, pWd_1 rfl h1]; rfl
    · rw [pWd_2 rfl h1, pWd_2 rfl h1]; rfl
  · by_cases h2 : rk tf ln a = 76
    · rw [pWd_3 rfl h2, pWd_3 rfl h2]; rfl
    · by_cases h3 : vOk 5 tf ln a = true
      · by_cases h4 : rk tf ln (vAt 5 tf ln a) = 76
        · rw [pWd_5 rfl h2 h3 h4, pWd_5 rfl h2 h3 h4]; rfl
        · by_cases h5 : rk tf ln (vAt 5 tf ln a) = 35
          · rw [pWd_6 rfl h2 h3 h4 h5 pOr_en, pWd_6 rfl h2 h3 h4 h5 rfl]; rfl
          · rw [pWd_7 rfl h2 h3 h4 h5 rfl, pWd_7 rfl h2 h3 h4 h5 rfl]; rfl
      · rw [pWd_4 rfl h2 h3 rfl, pWd_4 rfl h2 h3 rfl]; rfl
theorem pFl_en (j : Nat) : pFl en tf ln j a vl op (en r) sub od al = mT en (pFl id tf ln j a vl op r sub od al) := by
  unfold pFl
  by_cases h3 : j = 3
  · rw [if_pos h3, if_pos h3, pDy_en]; rfl
  · rw [if_neg h3, if_neg h3]
    by_cases h5 : j = 5
    · rw [if_pos h5, if_pos h5, pWd_en]; rfl
    · rw [if_neg h5, if_neg h5]; rfl
theorem pT_en (n j : Nat) (a vl : Int) (op : Bool) (r : Nat) (sub od : Int) (al : Nat → Nat → Bool) : pT en tf ln n j a vl op (en r) sub od al = mT en (pT id tf ln n j a vl op r sub od al) := by
  induction n generalizing j a vl op r sub od al with
  | zero => rfl
  | succ n ih =>
    unfold pT
    by_cases h1 : j = 6 ∧ a = ln
    · rw [if_pos h1, if_pos h1]; rfl
    · rw [if_neg h1, if_neg h1]
      by_cases h2 : ¬ j = 0 ∧ ¬ a < bEnd tf ln 401 a
      · rw [if_pos h2, if_pos h2]; rfl
      · rw [if_neg h2, if_neg h2, pFl_en]
        rcases pFl id tf ln j (if j = 0 then a else bEnd tf ln 401 a) vl op r sub od al with ⟨k1, a1, v1, op1, r1, s1, o1, al1⟩
        cases k1
        · rfl
        · exact ih (j + 1) a1 v1 op1 r1 s1 o1 al1
end TIE1
section TIE2
variable {tf : Nat → Int} {ln a vl s o b v s2 o2 : Int} {op op2 : Bool} {r r2 n j : Nat} {f f2 : Nat → Bool} {al al2 : Nat → Nat → Bool} {X : pSt}
theorem pT_inv (h : pT id tf ln (n + 1) j a vl op r s o al = (true, X)) (h6 : ¬ (j = 6 ∧ a = ln)) : ∃ a0 b v op2 r2 s2 o2 al2, pFl id tf ln j a0 vl op r s o al = (true, b, v, op2, r2, s2, o2, al2) ∧ pT id tf ln n (j + 1) b v op2 r2 s2 o2 al2 = (true, X) ∧ (a0 = a ∨ a0 = bEnd tf ln 401 a) := by
  unfold pT at h
  rw [if_neg h6] at h
  by_cases h2 : ¬ j = 0 ∧ ¬ a < bEnd tf ln 401 a
  · rw [if_pos h2] at h; cases h
  · rw [if_neg h2] at h
    refine ⟨if j = 0 then a else bEnd tf ln 401 a, ?_⟩
    rcases hq : pFl id tf ln j (if j = 0 then a else bEnd tf ln 401 a) vl op r s o al with ⟨k1, a1, v1, op1, r1, s1, o1, al1⟩
    rw [hq] at h
    cases k1
    · cases h
    · refine ⟨a1, v1, op1, r1, s1, o1, al1, rfl, h, ?_⟩
      by_cases h0 : j = 0
      · rw [if_pos h0]; exact Or.inl rfl
      · rw [if_neg h0]; exact Or.inr rfl
/-- rule, subject and ordinal fit each other -/
def qRg (op : Bool) (r : Nat) (s o : Int) : Prop := (op = false ∧ o = 0 ∧ ((r = 0 ∧ s = 0) ∨ (r = 1 ∧ 0 ≤ s ∧ s ≤ 30) ∨ (r = 2 ∧ s = 0) ∨ (r = 3 ∧ 1 ≤ s ∧ s ≤ 31))) ∨ (op = true ∧ ((r = 0 ∧ s = 0 ∧ o = 0) ∨ (r = 4 ∧ s = 0 ∧ o = 0) ∨ (r = 5 ∧ 1 ≤ s ∧ s ≤ 7 ∧ o = 0) ∨ (r = 6 ∧ 1 ≤ s ∧ s ≤ 7 ∧ 1 ≤ o ∧ o ≤ 5)))
theorem pDy_q (ha : 0 ≤ a ∧ a ≤ ln) (h : pDy id tf ln a vl false 0 0 0 f = (true, b, v, op2, r2, s2, o2, f2)) : qRg op2 r2 s2 o2 := by
  by_cases h1 : rk tf ln a = 63
  · rw [pDy_1 h1] at h; cases h; exact Or.inr ⟨rfl, Or.inl ⟨rfl, rfl, rfl⟩⟩
  · by_cases h2 : rk tf ln a = 76
    · by_cases g1 : rk tf ln (a + 1) = 87
      · rw [pDy_2 h1 h2 (pLD_1 g1)] at h; cases h; exact Or.inl ⟨rfl, rfl, Or.inr (Or.inr (Or.inl ⟨rfl, rfl⟩))⟩
      · by_cases g2 : rk tf ln (a + 1) = 45
        · by_cases g3 : rNm tf ln 1 30 (a + 1 + 1)
          · rw [pDy_2 h1 h2 (pLD_3 g1 g2 g3)] at h; cases h
            exact Or.inl ⟨rfl, rfl, Or.inr (Or.inl ⟨rfl, Int.le_trans (by decide : (0 : Int) ≤ 1) g3.2.1, g3.2.2⟩)⟩
          · rw [pDy_2 h1 h2 (pLD_4 g1 g2 g3)] at h; cases h
        · rw [pDy_2 h1 h2 (pLD_2 g1 g2)] at h; cases h; exact Or.inl ⟨rfl, rfl, Or.inr (Or.inl ⟨rfl, (by decide : (0 : Int) ≤ 0), (by decide : (0 : Int) ≤ 30)⟩)⟩
    · by_cases h3 : vOk 3 tf ln a = true
      · by_cases h4 : rk tf ln (vAt 3 tf ln a) = 87
        · rw [pDy_4 h1 h2 h3 h4] at h; cases h
          have g := vOk_rg h3 ha (by decide)
          exact Or.inl ⟨rfl, rfl, Or.inr (Or.inr (Or.inr ⟨rfl, g.2.2.1, g.2.2.2⟩))⟩
        · rcases hq : pIs 3 tf ln ln.toNat a (vVl 3 tf ln a) f with ⟨k1, b1, w1, f1⟩
          rw [pDy_5 h1 h2 h3 h4 hq] at h; cases h; exact Or.inl ⟨rfl, rfl, Or.inl ⟨rfl, rfl⟩⟩
      · rcases hq : pIs 3 tf ln ln.toNat a vl f with ⟨k1, b1, w1, f1⟩
        rw [pDy_3 h1 h2 h3 hq] at h; cases h; exact Or.inl ⟨rfl, rfl, Or.inl ⟨rfl, rfl⟩⟩
theorem pWd_r (ha : 0 ≤ a ∧ a ≤ ln) (hq : qRg op r s o) (hr : op = true → r = 0) (h : pWd id tf ln a vl op r s o f = (true, b, v, op2, r2, s2, o2, f2)) : qRg op2 r2 s2 o2 ∧ op2 = op ∧ (op2 = true → 4 ≤ r2) := by
  cases op
  · by_cases h1 : rk tf ln a = 63
    · rw [pWd_1 rfl h1] at h; cases h; exact ⟨hq, rfl, fun q => by cases q⟩
    · rw [pWd_2 rfl h1] at h; cases h
  · by_cases h2 : rk tf ln a = 76
    · rw [pWd_3 rfl h2] at h; cases h; exact ⟨Or.inr ⟨rfl, Or.inr (Or.inl ⟨rfl, rfl, rfl⟩)⟩, rfl, fun _ => by decide⟩
    · by_cases h3 : vOk 5 tf ln a = true
      · have g := vOk_rg h3 ha (by decide)
        by_cases h4 : rk tf ln (vAt 5 tf ln a) = 76
        · rw [pWd_5 rfl h2 h3 h4] at h; cases h; exact ⟨Or.inr ⟨rfl, Or.inr (Or.inr (Or.inl ⟨rfl, g.2.2.1, g.2.2.2, rfl⟩))⟩, rfl, fun _ => by decide⟩
        · by_cases h5 : rk tf ln (vAt 5 tf ln a) = 35
          · by_cases h6 : rNm tf ln 1 5 (vAt 5 tf ln a + 1)
            · rw [pWd_6 rfl h2 h3 h4 h5 (pOr_1 h6)] at h; cases h
              exact ⟨Or.inr ⟨rfl, Or.inr (Or.inr (Or.inr ⟨rfl, g.2.2.1, g.2.2.2, h6.2.1, h6.2.2⟩))⟩, rfl, fun _ => (by decide : 4 ≤ 6)⟩
            · rw [pWd_6 rfl h2 h3 h4 h5 (pOr_2 h6)] at h; cases h
          · rcases hq2 : pIs 5 tf ln ln.toNat a (vVl 5 tf ln a) f with ⟨k1, b1, w1, f1⟩
            rw [pWd_7 rfl h2 h3 h4 h5 hq2] at h; cases h; exact ⟨Or.inr ⟨rfl, Or.inr (Or.inl ⟨rfl, rfl, rfl⟩)⟩, rfl, fun _ => by decide⟩
      · rcases hq2 : pIs 5 tf ln ln.toNat a vl f with ⟨k1, b1, w1, f1⟩
        rw [pWd_4 rfl h2 h3 hq2] at h; cases h; exact ⟨Or.inr ⟨rfl, Or.inr (Or.inl ⟨rfl, rfl, rfl⟩)⟩, rfl, fun _ => by decide⟩
/-- a list that stands allows something -/
theorem oAl_ne {nn st cnt step : Int} (hn : 0 < nn) : ∀ (q : Nat) (k : Int) (g : Nat → Bool) (i : Nat), g i = true → oAl nn st cnt step q k g i = true := by
  intro q
  induction q with
  | zero => intro k g i h; exact h
  | succ q ih =>
    intro k g i h
    by_cases hk : k < cnt
    · rw [oAl_s hk]
      refine ih (k + step) _ i ?_
      by_cases e : i = ((st + k) % nn).toNat
      · rw [e, zu_s]
      · rw [zu_n _ _ e]; exact h
    · rw [oAl_e (by omega)]; exact h
theorem pAf_ne {fr to st : Int} (hj : j < 7) : ∃ k : Int, 0 ≤ k ∧ k < ((fNn j : Nat) : Int) ∧ pAf j true fr to st f k.toNat = true := by
  have g := fLH hj
  have h1 := Int.emod_nonneg (fr - fLo j + 0) (show ((fNn j : Nat) : Int) ≠ 0 by omega)
  have h2 := Int.emod_lt_of_pos (fr - fLo j + 0) (show (0 : Int) < ((fNn j : Nat) : Int) by omega)
  have h3 := Int.emod_nonneg (to - fr) (show ((fNn j : Nat) : Int) ≠ 0 by omega)
  refine ⟨(fr - fLo j + 0) % ((fNn j : Nat) : Int), h1, h2, ?_⟩
  show oAl ((fNn j : Nat) : Int) (fr - fLo j) ((to - fr) % ((fNn j : Nat) : Int) + 1) st (fNn j + 1) 0 f _ = true
  rw [oAl_s (by omega)]
  refine oAl_ne (by omega) _ _ _ _ ?_
  rw [zu_s]
theorem pAf_mono {fr to st : Int} {k : Nat} (hj : j < 7) (h : f k = true) : pAf j true fr to st f k = true := oAl_ne (by have := fLH hj; omega) _ _ _ _ h
theorem pIs_mono (hj : j < 7) (n : Nat) (a vl : Int) (f : Nat → Bool) {k : Nat} (hk : f k = true) (h : pIs j tf ln n a vl f = (true, b, v, f2)) : f2 k = true := by
  induction n generalizing a vl f with
  | zero => rw [pIs_0 rfl] at h; cases h
  | succ n ih =>
    rcases hq : pI j tf ln a vl with ⟨k1, b1, fr, to, st, v1⟩
    cases k1
    · rw [pIs_1 hq] at h; cases h
    · by_cases h4 : rk tf ln b1 = 44
      · rw [pIs_3 hq h4] at h; exact ih _ _ _ (pAf_mono hj hk) h
      · rw [pIs_2 hq h4] at h; cases h; exact pAf_mono hj hk
theorem pIs_ne (hj : j < 7) (n : Nat) (a vl : Int) (f : Nat → Bool) (h : pIs j tf ln n a vl f = (true, b, v, f2)) : ∃ k : Int, 0 ≤ k ∧ k < ((fNn j : Nat) : Int) ∧ f2 k.toNat = true := by
  cases n with
  | zero => rw [pIs_0 rfl] at h; cases h
  | succ n =>
    rcases hq : pI j tf ln a vl with ⟨k1, b1, fr, to, st, v1⟩
    cases k1
    · rw [pIs_1 hq] at h; cases h
    · by_cases h4 : rk tf ln b1 = 44
      · rw [pIs_3 hq h4] at h
        obtain ⟨k, g1, g2, g3⟩ := pAf_ne (f := f) (fr := fr) (to := to) (st := st) hj
        exact ⟨k, g1, g2, pIs_mono hj n _ _ _ g3 h⟩
      · rw [pIs_2 hq h4] at h; cases h; exact pAf_ne hj
theorem pFl_o (h3 : ¬ j = 3) (h5 : ¬ j = 5) (h : pFl id tf ln j a vl op r s o al = (true, b, v, op2, r2, s2, o2, al2)) : ∃ f2, pIs j tf ln ln.toNat a vl (al j) = (true, b, v, f2) ∧ op2 = op ∧ r2 = r ∧ s2 = s ∧ o2 = o ∧ al2 = pUp al j f2 := by
  rcases hq : pIs j tf ln ln.toNat a vl (al j) with ⟨k1, b1, w1, f1⟩
  rw [pFl_i h3 h5 hq] at h
  cases h
  exact ⟨f1, rfl, rfl, rfl, rfl, rfl, rfl⟩
end TIE2
