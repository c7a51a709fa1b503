/-! ties: the days of the two sides are the same; so are their times -/
/-- what the reference keeps says the same as the plan -/
def qRel (st : Nat → Nat → Bool) (wf fi sf : Nat → Int) (al : Nat → Nat → Bool) (bits : Nat → Bool) (ru : Nat) (sub od : Int) : Prop :=
  (∀ k, k < 330 → st 6 k = al 6 k) ∧ (∀ k, k < 12 → st 4 k = al 4 k) ∧ (∀ k, k < 60 → st 0 k = al 0 k) ∧ (∀ k, k < 60 → st 1 k = al 1 k) ∧ (∀ k, k < 24 → st 2 k = al 2 k) ∧
  ((ru = 0 ∧ wf 0 = 0 ∧ wf 1 = 1 ∧ bits = pSeal (al 3) ∧ ∀ k, k < 31 → st 3 k = al 3 k) ∨ (ru = 1 ∧ wf 0 = 2 ∧ wf 1 = 1 ∧ fi 0 = sub ∧ 0 ≤ sub) ∨ (ru = 2 ∧ wf 0 = 3 ∧ wf 1 = 1) ∨ (ru = 3 ∧ wf 0 = 4 ∧ wf 1 = 1 ∧ fi 0 = sub ∧ 1 ≤ sub) ∨
   (ru = 4 ∧ wf 0 = 1 ∧ wf 1 = 0 ∧ ∀ k, k < 7 → st 5 k = al 5 k) ∨ (ru = 5 ∧ wf 0 = 1 ∧ wf 1 = 5 ∧ fi 1 = sub ∧ 1 ≤ sub ∧ sub ≤ 7) ∨ (ru = 6 ∧ wf 0 = 1 ∧ wf 1 = 6 ∧ fi 1 = sub ∧ sf 1 = od ∧ 1 ≤ sub ∧ sub ≤ 7 ∧ 1 ≤ od ∧ od ≤ 5))
section QEQ
variable {st : Nat → Nat → Bool} {wf fi sf : Nat → Int} {hdf : Nat → Bool} {mo n : Int}
theorem oHas_in {f g : Nat → Bool} {lo hi x : Int} {k : Nat} (h : lo ≤ x ∧ x ≤ hi) (hk : (x - lo).toNat = k) (e : g k = f k) : oHas f lo hi x = g k := by
  unfold oHas
  rw [decide_eq_true h.1, decide_eq_true h.2, Bool.true_and, Bool.true_and, hk, e]
theorem qDF_w (h1 : ¬ (st 6 (mo / 12).toNat = false ∨ st 4 (mo % 12).toNat = false)) (h2 : ¬ hdf n.toNat = true) (hw0 : 1 < wf 0) (hw1 : wf 1 = 1) : qDF st wf fi sf hdf mo n = decide (qSp (wf 0) (fi 0) (dM0 (mo + 1) - dM0 mo) (dM0 mo) = n - dM0 mo + 1) := by
  have h3 : ¬ (wf 0 = 0 ∧ st 3 (n - dM0 mo).toNat = false) := fun q => by have := q.1; omega
  by_cases q : qSp (wf 0) (fi 0) (dM0 (mo + 1) - dM0 mo) (dM0 mo) = n - dM0 mo + 1
  · rw [qDF_r h1 h2 h3 (fun z => z.2 q), if_neg (by omega), if_pos hw1, decide_eq_true q]
  · rw [qDF_4 h1 h2 h3 ⟨hw0, q⟩, decide_eq_false q]
theorem qDF_v (h1 : ¬ (st 6 (mo / 12).toNat = false ∨ st 4 (mo % 12).toNat = false)) (h2 : ¬ hdf n.toNat = true) (hw0 : wf 0 = 1) : qDF st wf fi sf hdf mo n = (if wf 1 = 0 then st 5 ((n + 4) % 7).toNat else if wf 1 = 1 then true else if ¬ (n + 4) % 7 + 1 = fi 1 then false else if wf 1 = 5 then decide (dM0 (mo + 1) - dM0 mo < n - dM0 mo + 1 + 7) else decide ((n - dM0 mo) / 7 + 1 = sf 1)) :=
  qDF_r h1 h2 (fun q => by have := q.1; omega) (fun q => by have := q.1; omega)
theorem pDB_i {day len : Int} {i : Nat} : pDB day len i = decide (1 ≤ day ∧ day ≤ len ∧ (i : Int) + 1 = day) := rfl
theorem q_r1 {L sub d B : Int} {i : Nat} (hd : (i : Int) = d) (hL : 0 ≤ d ∧ d < L) (hs : 0 ≤ sub) : decide (qSp 2 sub L B = d + 1) = pDB (L - sub) L i := by
  rw [pDB_i]
  refine decide_eq_decide.mpr ?_
  unfold qSp
  rw [if_pos rfl]
  split <;> omega
theorem q_r2 {L sub d B : Int} {i : Nat} (hd : (i : Int) = d) (hL : 0 ≤ d ∧ d < L) : decide (qSp 3 sub L B = d + 1) = pDB (pNear L ((B + 4) % 7 + 1) L) L i := by
  rw [pDB_i]
  refine decide_eq_decide.mpr ?_
  unfold qSp
  rw [if_neg (by decide), if_pos rfl]
  omega
theorem q_r3 {L sub d B : Int} {i : Nat} (hd : (i : Int) = d) (hL : 0 ≤ d ∧ d < L) : decide (qSp 4 sub L B = d + 1) = (decide (sub ≤ L) && pDB (pNear sub ((B + 4) % 7 + 1) L) L i) := by
  rw [pDB_i, Bool.eq_iff_iff]
  simp only [decide_eq_true_eq, Bool.and_eq_true]
  unfold qSp
  rw [if_neg (by decide), if_neg (by decide)]
  split <;> omega
theorem q_r5 {L sub d B n : Int} {i : Nat} (hd : (i : Int) = d) (hn : n = B + d) (hB : 0 ≤ B) (hL : 0 ≤ d ∧ d < L ∧ 28 ≤ L) (hs : 1 ≤ sub ∧ sub ≤ 7) : (if ¬ (n + 4) % 7 + 1 = sub then false else decide (L < d + 1 + 7)) = pDB (L - (((B + 4) % 7 + 1 + L - 2) % 7 + 1 - sub) % 7) L i := by
  have e1 : (n + 4) % 7 = ((B + 4) % 7 + d) % 7 := by omega
  have hb := Int.emod_nonneg (B + 4) (show (7 : Int) ≠ 0 by decide)
  have hc := Int.emod_lt_of_pos (B + 4) (show (0 : Int) < 7 by decide)
  generalize (B + 4) % 7 = b7 at *
  rw [pDB_i, e1]
  by_cases q : (b7 + d) % 7 + 1 = sub
  · rw [if_neg (fun z => z q)]
    refine decide_eq_decide.mpr ?_
    omega
  · rw [if_pos q]
    refine (decide_eq_false ?_).symm
    omega
theorem q_r6 {L sub od d B n : Int} {i : Nat} (hd : (i : Int) = d) (hn : n = B + d) (hB : 0 ≤ B) (hL : 0 ≤ d ∧ d < L ∧ L ≤ 31) (hs : 1 ≤ sub ∧ sub ≤ 7 ∧ 1 ≤ od ∧ od ≤ 5) : (if ¬ (n + 4) % 7 + 1 = sub then false else decide (d / 7 + 1 = od)) = pDB (1 + (sub - ((B + 4) % 7 + 1)) % 7 + (od - 1) * 7) L i := by
  have e1 : (n + 4) % 7 = ((B + 4) % 7 + d) % 7 := by omega
  have hb := Int.emod_nonneg (B + 4) (show (7 : Int) ≠ 0 by decide)
  have hc := Int.emod_lt_of_pos (B + 4) (show (0 : Int) < 7 by decide)
  generalize (B + 4) % 7 = b7 at *
  rw [pDB_i, e1]
  by_cases q : (b7 + d) % 7 + 1 = sub
  · rw [if_neg (fun z => z q)]
    refine decide_eq_decide.mpr ?_
    omega
  · rw [if_pos q]
    refine (decide_eq_false ?_).symm
    omega
variable {al : Nat → Nat → Bool} {bits : Nat → Bool} {ru : Nat} {sub od : Int} {hol : Int → Bool}
theorem qF_eq (h : qRel st wf fi sf al bits ru sub od) (hh : ∀ x : Int, 0 ≤ x → x ≤ 120529 → hdf x.toNat = hol x) (hn : 0 ≤ n ∧ n ≤ 120529) : qF st wf fi sf hdf n = fFit (pDays al bits ru sub od) hol n := by
  obtain ⟨k6, k4, -, -, -, hr⟩ := h
  have hs := dMon_sp (d := n) (by omega)
  unfold qF fFit
  generalize dMon n = mo at hs ⊢
  obtain ⟨m1, m2, m3, m4⟩ := hs
  have hr1 := dM0_rg (m := mo) (by omega)
  have hr3 := dM0_le (show mo ≤ mo + 1 by omega)
  have hY : oHas (al 6) 1970 2299 (1970 + mo / 12) = st 6 (mo / 12).toNat := oHas_in (by omega) (by omega) (k6 _ (by omega))
  have hM : oHas (al 4) 1 12 (mo % 12 + 1) = st 4 (mo % 12).toNat := oHas_in (by omega) (by omega) (k4 _ (by omega))
  have hP : pDays al bits ru sub od mo (n - dM0 mo).toNat = ((st 6 (mo / 12).toNat && st 4 (mo % 12).toNat) && pRule al bits ru sub od (dM0 (mo + 1) - dM0 mo) ((dM0 mo + 4) % 7 + 1) (n - dM0 mo).toNat) := by
    unfold pDays
    rw [hY, hM]
  rw [hP]
  cases e6 : st 6 (mo / 12).toNat
  · rw [qDF_1 (Or.inl e6)]; rfl
  · cases e4 : st 4 (mo % 12).toNat
    · rw [qDF_1 (Or.inr e4)]; rfl
    · have h1 : ¬ (st 6 (mo / 12).toNat = false ∨ st 4 (mo % 12).toNat = false) := fun q => q.elim (b2n e6) (b2n e4)
      have hhn := hh n hn.1 hn.2
      cases eh : hol n
      · rw [eh] at hhn
        have h2 : ¬ hdf n.toNat = true := b2f hhn
        rw [Bool.and_self, Bool.true_and, Bool.not_false, Bool.and_true]
        have hd : (((n - dM0 mo).toNat : Nat) : Int) = n - dM0 mo := by omega
        rcases hr with ⟨rfl, w0, w1, hb, k3⟩ | ⟨rfl, w0, w1, f0, hs⟩ | ⟨rfl, w0, w1⟩ | ⟨rfl, w0, w1, f0, hs⟩ | ⟨rfl, w0, w1, k5⟩ | ⟨rfl, w0, w1, f1, hs⟩ | ⟨rfl, w0, w1, f1, s1, hs⟩
        · have k3' := k3 (n - dM0 mo).toNat (by omega)
          have hR : pRule al bits 0 sub od (dM0 (mo + 1) - dM0 mo) ((dM0 mo + 4) % 7 + 1) (n - dM0 mo).toNat = st 3 (n - dM0 mo).toNat := by
            show (bits (n - dM0 mo).toNat && decide ((((n - dM0 mo).toNat : Nat) : Int) < dM0 (mo + 1) - dM0 mo)) = _
            rw [decide_eq_true (by omega), Bool.and_true, hb]
            unfold pSeal
            rw [decide_eq_true (by omega), Bool.true_and]
            exact oHas_in (g := st 3) (by omega) (by omega) k3'
          rw [hR]
          cases e3 : st 3 (n - dM0 mo).toNat
          · exact qDF_3 h1 h2 ⟨w0, e3⟩
          · rw [qDF_r h1 h2 (fun q => b2n e3 q.2) (fun q => by have := q.1; omega), if_neg (by omega), if_pos w1]
        · rw [qDF_w h1 h2 (by omega) w1, w0, f0]
          exact q_r1 hd (by omega) hs
        · rw [qDF_w h1 h2 (by omega) w1, w0]
          exact q_r2 hd (by omega)
        · rw [qDF_w h1 h2 (by omega) w1, w0, f0]
          exact q_r3 hd (by omega)
        · rw [qDF_v h1 h2 w0, if_pos w1]
          show _ = (decide ((((n - dM0 mo).toNat : Nat) : Int) < dM0 (mo + 1) - dM0 mo) && oHas (al 5) 1 7 (((dM0 mo + 4) % 7 + 1 + ((((n - dM0 mo).toNat : Nat) : Int) + 1) - 2) % 7 + 1))
          rw [decide_eq_true (by omega), Bool.true_and]
          refine (oHas_in (g := st 5) (k := ((n + 4) % 7).toNat) (by omega) ?_ (k5 _ (by omega))).symm
          omega
        · rw [qDF_v h1 h2 w0, if_neg (by omega), if_neg (by omega), if_pos w1, f1]
          exact q_r5 hd (by omega) hr1.1 (by omega) hs
        · rw [qDF_v h1 h2 w0, if_neg (by omega), if_neg (by omega), if_neg (show ¬ wf 1 = 5 by omega), f1, s1]
          exact q_r6 hd (by omega) hr1.1 (by omega) hs
      · rw [eh] at hhn
        rw [qDF_2 h1 hhn, Bool.not_true, Bool.and_false]
end QEQ
section TCG
variable {F F' G G' : Int → Bool} {tm rr : Int}
theorem tOk_cg (hF : ∀ d, 0 ≤ d → d ≤ 120529 → F d = F' d) (hG : ∀ y, 0 ≤ y → y < 86400 → G y = G' y) {T : Int} (hT : 0 ≤ T ∧ T ≤ 10413791999) : tOk F G T = tOk F' G' T := by
  unfold tOk
  rw [hF _ (by omega) (by omega), hG _ (by omega) (by omega)]
theorem tNF_cg (hF : ∀ d, 0 ≤ d → d ≤ 120529 → F d = F' d) (hG : ∀ y, 0 ≤ y → y < 86400 → G y = G' y) (h0 : 0 ≤ tm) (h : tNF F G tm rr) : tNF F' G' tm rr := by
  rcases h with ⟨h1, h2⟩ | ⟨h1, h2, h3, h4⟩
  · exact Or.inl ⟨h1, fun T a b => by rw [← tOk_cg hF hG (by omega)]; exact h2 T a b⟩
  · exact Or.inr ⟨h1, h2, by rw [← tOk_cg hF hG (by omega)]; exact h3, fun T a b => by rw [← tOk_cg hF hG (by omega)]; exact h4 T a b⟩
theorem tNB_cg (hF : ∀ d, 0 ≤ d → d ≤ 120529 → F d = F' d) (hG : ∀ y, 0 ≤ y → y < 86400 → G y = G' y) (h0 : tm ≤ 10413791999) (h : tNB F G tm rr) : tNB F' G' tm rr := by
  rcases h with ⟨h1, h2⟩ | ⟨h1, h2, h3, h4⟩
  · exact Or.inl ⟨h1, fun T a b => by rw [← tOk_cg hF hG (by omega)]; exact h2 T a b⟩
  · exact Or.inr ⟨h1, h2, by rw [← tOk_cg hF hG (by omega)]; exact h3, fun T a b => by rw [← tOk_cg hF hG (by omega)]; exact h4 T a b⟩
theorem tLt_cg (hF : ∀ d, 0 ≤ d → d ≤ 120529 → F d = F' d) (hG : ∀ y, 0 ≤ y → y < 86400 → G y = G' y) (n : Nat) (tm : Int) (h0 : -1 ≤ tm) (h : tLt F G n tm rr) : tLt F' G' n tm rr := by
  induction n generalizing tm with
  | zero => exact h
  | succ n ih =>
    rcases h with h | ⟨h1, u, h2, h3⟩
    · exact Or.inl h
    · have hb := tNF_bd (by omega) h2
      exact Or.inr ⟨h1, u, tNF_cg hF hG (by omega) h2, ih u (by omega) h3⟩
theorem tNF_ex (F G : Int → Bool) {tm : Int} (h0 : 0 ≤ tm) : ∃ r, tNF F G tm r := by
  obtain ⟨r, h⟩ := srch_ex (tOk F G) (tm + 1) 10413791999 (by omega)
  refine ⟨r, ?_⟩
  rcases h with ⟨h1, h2⟩ | ⟨h1, h2, h3, h4⟩
  · exact Or.inl ⟨h1, fun T a b => h2 T (by omega) b⟩
  · exact Or.inr ⟨by omega, h2, h3, fun T a b => h4 T (by omega) b⟩
theorem tNB_ex (F G : Int → Bool) (tm : Int) : ∃ r, tNB F G tm r := srchb_ex (tOk F G) tm
theorem tLt_ex (F G : Int → Bool) (n : Nat) (tm : Int) (h0 : -1 ≤ tm) : ∃ r, tLt F G n tm r := by
  induction n generalizing tm with
  | zero => exact ⟨tm, rfl⟩
  | succ n ih =>
    by_cases q : tm = -1
    · exact ⟨-1, Or.inl ⟨q, rfl⟩⟩
    · obtain ⟨u, hu⟩ := tNF_ex F G (tm := tm) (by omega)
      have hb := tNF_bd (by omega) hu
      obtain ⟨r, hr⟩ := ih u (by omega)
      exact ⟨r, Or.inr ⟨q, u, hu, hr⟩⟩
theorem sOk_cg {f0 f1 f2 g0 g1 g2 : Nat → Bool} (h0 : ∀ k, k < 60 → f0 k = g0 k) (h1 : ∀ k, k < 60 → f1 k = g1 k) (h2 : ∀ k, k < 24 → f2 k = g2 k) {y : Int} (hy : 0 ≤ y ∧ y < 86400) : sOk f0 f1 f2 y = sOk g0 g1 g2 y := by
  unfold sOk
  rw [h0 _ (by omega), h1 _ (by omega), h2 _ (by omega)]
end TCG
