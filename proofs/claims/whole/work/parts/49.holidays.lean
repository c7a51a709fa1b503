/-! holidays: what adding and taking out leave -/
section DSH
variable {h : Nat → Int} {cnt d N : Int} {hol : Int → Bool}
theorem dsA_lo {j : Nat} (hj : (j : Int) < N) : dsAdd h cnt d N j = h j := by
  unfold dsAdd
  rw [zu_n _ _ (by omega), pk_cpy_out (Or.inl (by omega))]
theorem dsA_at (h0 : 0 ≤ N) : dsAdd h cnt d N N.toNat = d := by unfold dsAdd; rw [zu_s]
theorem dsA_hi {j : Nat} (h0 : 0 ≤ N ∧ N ≤ cnt) (hj : N < (j : Int) ∧ (j : Int) ≤ cnt) : dsAdd h cnt d N j = h (j - 1) := by
  unfold dsAdd
  rw [zu_n _ _ (by omega), pk_cpy_in (by omega) (by omega)]
  congr 1
  omega
def holA (hol : Int → Bool) (d : Int) (b : Bool) : Int → Bool := fun x => if x = d then b else hol x
theorem holA_s : holA hol d true d = true := by unfold holA; rw [if_pos rfl]
theorem holA_at {b : Bool} : holA hol d b d = b := by unfold holA; rw [if_pos rfl]
theorem holA_n {b : Bool} {x : Int} (hx : ¬ x = d) : holA hol d b x = hol x := by unfold holA; rw [if_neg hx]
theorem dsR_add (hR : dsR h cnt hol) (hN : dsN h cnt d N) (hd : 0 ≤ d ∧ d ≤ 120529) (hh : hol d = false) (hf : cnt < 200) : dsR (dsAdd h cnt d N) (cnt + 1) (holA hol d true) := by
  obtain ⟨r1, r2, r3, r4, r5⟩ := hR
  obtain ⟨n1, n2, n3, n4⟩ := hN
  have ne : ∀ j : Nat, (j : Int) < cnt → ¬ h j = d := fun j hj e => by
    have := (r5 d).mpr ⟨j, hj, e⟩
    rw [hh] at this; cases this
  have val : ∀ j : Nat, (j : Int) < cnt + 1 → ((j : Int) < N ∧ dsAdd h cnt d N j = h j) ∨ ((j : Int) = N ∧ dsAdd h cnt d N j = d) ∨ (N < (j : Int) ∧ dsAdd h cnt d N j = h (j - 1)) := fun j hj => by
    by_cases q1 : (j : Int) < N
    · exact Or.inl ⟨q1, dsA_lo q1⟩
    · by_cases q2 : (j : Int) = N
      · refine Or.inr (Or.inl ⟨q2, ?_⟩)
        have e : j = N.toNat := by omega
        rw [e]; exact dsA_at n1
      · exact Or.inr (Or.inr ⟨by omega, dsA_hi ⟨n1, n2⟩ ⟨by omega, by omega⟩⟩)
  refine ⟨by omega, by omega, fun j hj => ?_, fun i j hij hj => ?_, fun x => ?_⟩
  · rcases val j hj with ⟨q, e⟩ | ⟨q, e⟩ | ⟨q, e⟩ <;> rw [e]
    · exact r3 j (by omega)
    · exact hd
    · exact r3 (j - 1) (by omega)
  · rcases val i (by omega) with ⟨q, e⟩ | ⟨q, e⟩ | ⟨q, e⟩ <;> rcases val j hj with ⟨q', e'⟩ | ⟨q', e'⟩ | ⟨q', e'⟩ <;> rw [e, e']
    · exact r4 i j hij (by omega)
    · exact n3 i q
    · by_cases z : i = j - 1
      · omega
      · exact r4 i (j - 1) (by omega) (by omega)
    · omega
    · omega
    · have g := n4 (j - 1) (by omega) (by omega)
      have g2 := ne (j - 1) (by omega)
      omega
    · omega
    · omega
    · exact r4 (i - 1) (j - 1) (by omega) (by omega)
  · by_cases q : x = d
    · subst q
      rw [holA_at]
      exact ⟨fun _ => ⟨N.toNat, by omega, dsA_at n1⟩, fun _ => rfl⟩
    · rw [holA_n q, r5 x]
      constructor
      · rintro ⟨j, hj, e⟩
        by_cases z : (j : Int) < N
        · exact ⟨j, by omega, by rw [dsA_lo z]; exact e⟩
        · refine ⟨j + 1, by omega, ?_⟩
          rw [dsA_hi ⟨n1, n2⟩ ⟨by omega, by omega⟩]
          exact e
      · rintro ⟨j, hj, e⟩
        rcases val j hj with ⟨q1, e1⟩ | ⟨q1, e1⟩ | ⟨q1, e1⟩
        · exact ⟨j, by omega, by rw [← e1]; exact e⟩
        · rw [e1] at e; exact absurd e.symm q
        · exact ⟨j - 1, by omega, by rw [← e1]; exact e⟩
theorem dsM_lo {j : Nat} (h0 : 0 ≤ N) (hj : (j : Int) < N) : dsRem h cnt N j = h j := by
  unfold dsRem
  rw [pk_cpy_out (Or.inl (by omega))]
theorem dsM_hi {j : Nat} (h0 : 0 ≤ N ∧ N < cnt) (hj : N ≤ (j : Int) ∧ (j : Int) < cnt - 1) : dsRem h cnt N j = h (j + 1) := by
  unfold dsRem
  rw [pk_cpy_in (by omega) (by omega)]
  congr 1
  omega
theorem dsR_rem (hR : dsR h cnt hol) (hN : dsN h cnt d N) (hh : hol d = true) : N < cnt ∧ dsR (dsRem h cnt N) (cnt - 1) (holA hol d false) := by
  obtain ⟨r1, r2, r3, r4, r5⟩ := hR
  obtain ⟨n1, n2, n3, n4⟩ := hN
  obtain ⟨k, k1, k2⟩ := (r5 d).mp hh
  have hk : (k : Int) = N := by
    by_cases z : (k : Int) < N
    · have := n3 k z; omega
    · by_cases z2 : N < (k : Int)
      · have g := n4 N.toNat (by omega) (by omega)
        have g2 := r4 N.toNat k (by omega) k1
        omega
      · omega
  have hd : h N.toNat = d := by rw [← k2]; congr 1; omega
  have lt : N < cnt := by omega
  have val : ∀ j : Nat, (j : Int) < cnt - 1 → ((j : Int) < N ∧ dsRem h cnt N j = h j) ∨ (N ≤ (j : Int) ∧ dsRem h cnt N j = h (j + 1)) := fun j hj => by
    by_cases q1 : (j : Int) < N
    · exact Or.inl ⟨q1, dsM_lo n1 q1⟩
    · exact Or.inr ⟨by omega, dsM_hi ⟨n1, lt⟩ ⟨by omega, hj⟩⟩
  refine ⟨lt, by omega, by omega, fun j hj => ?_, fun i j hij hj => ?_, fun x => ?_⟩
  · rcases val j hj with ⟨q, e⟩ | ⟨q, e⟩ <;> rw [e]
    · exact r3 j (by omega)
    · exact r3 (j + 1) (by omega)
  · rcases val i (by omega) with ⟨q, e⟩ | ⟨q, e⟩ <;> rcases val j hj with ⟨q', e'⟩ | ⟨q', e'⟩ <;> rw [e, e']
    · exact r4 i j hij (by omega)
    · exact r4 i (j + 1) (by omega) (by omega)
    · omega
    · exact r4 (i + 1) (j + 1) (by omega) (by omega)
  · by_cases q : x = d
    · subst q
      rw [holA_at]
      constructor
      · intro z; cases z
      · rintro ⟨j, hj, e⟩
        rcases val j hj with ⟨q1, e1⟩ | ⟨q1, e1⟩
        · have := n3 j q1; rw [e1] at e; omega
        · have g := r4 N.toNat (j + 1) (by omega) (by omega)
          rw [e1] at e; omega
    · rw [holA_n q, r5 x]
      constructor
      · rintro ⟨j, hj, e⟩
        by_cases z : (j : Int) < N
        · exact ⟨j, by omega, by rw [dsM_lo n1 z]; exact e⟩
        · have hjN : ¬ (j : Int) = N := fun z2 => by
            have : j = N.toNat := by omega
            rw [this, hd] at e; exact q e.symm
          refine ⟨j - 1, by omega, ?_⟩
          rw [dsM_hi ⟨n1, lt⟩ ⟨by omega, by omega⟩, show j - 1 + 1 = j by omega]
          exact e
      · rintro ⟨j, hj, e⟩
        rcases val j hj with ⟨q1, e1⟩ | ⟨q1, e1⟩
        · exact ⟨j, by omega, by rw [← e1]; exact e⟩
        · exact ⟨j + 1, by omega, by rw [← e1]; exact e⟩
end DSH
theorem zC_seg (pre a b : va_W) : (List.range' pre.length a.length).map (fun i => (pre ++ (a ++ b))[i]?) = a.map some := by
  refine List.ext_getElem? (fun k => ?_)
  simp only [List.getElem?_map, List.getElem?_range']
  by_cases hk : k < a.length
  · simp [hk, List.getElem?_append_right, List.getElem?_append_left]
  · simp [hk]
