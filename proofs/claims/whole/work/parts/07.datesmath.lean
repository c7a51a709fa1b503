/-! the calendar, in numbers -/
def dLeap (y : Int) : Bool := decide (y % 4 = 0) && (decide (¬ y % 100 = 0) || decide (y % 400 = 0))
def dY0 (y : Int) : Int := (y - 1970) * 365 + ((y - 1) / 4 - (y - 1) / 100 + (y - 1) / 400 - 477)
def dBM (k : Int) : Int := if k = 0 then 0 else if k = 1 then 31 else if k = 2 then 59 else if k = 3 then 90 else if k = 4 then 120 else if k = 5 then 151 else if k = 6 then 181 else if k = 7 then 212 else if k = 8 then 243 else if k = 9 then 273 else if k = 10 then 304 else 334
def dM0 (m : Int) : Int := dY0 (1970 + m / 12) + dBM (m % 12) + (if 2 ≤ m % 12 then bI (dLeap (1970 + m / 12)) else 0)
def dMl (y k : Int) : Int := if k = 1 then 28 + bI (dLeap y) else if k = 3 ∨ k = 5 ∨ k = 8 ∨ k = 10 then 30 else 31
theorem dLeap_i (y : Int) : bI (dLeap y) = if y % 4 = 0 ∧ (¬ y % 100 = 0 ∨ y % 400 = 0) then 1 else 0 := by
  simp [bI, dLeap]
theorem dY0_s (y : Int) : dY0 (y + 1) = dY0 y + 365 + bI (dLeap y) := by
  rw [dLeap_i]
  unfold dY0
  split <;> omega
theorem dY0_rg {y : Int} (h : 1970 ≤ y ∧ y ≤ 2400) : 0 ≤ dY0 y ∧ dY0 y ≤ 400000 := by
  unfold dY0
  omega
theorem dY0_le {a b : Int} (h : a ≤ b) : dY0 a + 365 * (b - a) ≤ dY0 b := by
  unfold dY0
  omega
theorem dBM_rg (k : Int) : 0 ≤ dBM k ∧ dBM k ≤ 334 := by
  unfold dBM
  repeat' split
  all_goals omega
theorem dM0_s (m : Int) : dM0 (m + 1) = dM0 m + dMl (1970 + m / 12) (m % 12) := by
  have hb := bI_rg (dLeap (1970 + m / 12))
  by_cases h : m % 12 = 11
  · have e1 : (m + 1) / 12 = m / 12 + 1 := by omega
    have e2 : (m + 1) % 12 = 0 := by omega
    unfold dM0
    rw [e1, e2, h, show 1970 + (m / 12 + 1) = 1970 + m / 12 + 1 by omega, dY0_s]
    simp [dBM, dMl]
    omega
  · have e1 : (m + 1) / 12 = m / 12 := by omega
    have e2 : (m + 1) % 12 = m % 12 + 1 := by omega
    unfold dM0
    rw [e1, e2]
    have h12 : m % 12 = 0 ∨ m % 12 = 1 ∨ m % 12 = 2 ∨ m % 12 = 3 ∨ m % 12 = 4 ∨ m % 12 = 5 ∨ m % 12 = 6 ∨ m % 12 = 7 ∨ m % 12 = 8 ∨ m % 12 = 9 ∨ m % 12 = 10 := by omega
    rcases h12 with h | h | h | h | h | h | h | h | h | h | h <;> rw [h] <;> simp [dBM, dMl] <;> omega
theorem dMl_rg (y k : Int) : 28 ≤ dMl y k ∧ dMl y k ≤ 31 := by
  have hb := bI_rg (dLeap y)
  unfold dMl
  repeat' split
  all_goals omega
theorem dM0_12 (q : Int) : dM0 (12 * q) = dY0 (1970 + q) := by
  unfold dM0
  rw [show 12 * q / 12 = q by omega, show 12 * q % 12 = 0 by omega]
  simp [dBM]
theorem dM0_up (m : Int) (n : Nat) : dM0 m + 28 * n ≤ dM0 (m + n) ∧ dM0 (m + n) ≤ dM0 m + 31 * n := by
  induction n with
  | zero => simp
  | succ n ih =>
    have e : m + ((n + 1 : Nat) : Int) = m + n + 1 := by omega
    have h := dMl_rg (1970 + (m + n) / 12) ((m + n) % 12)
    rw [e, dM0_s]
    omega
theorem dM0_le {a b : Int} (h : a ≤ b) : dM0 a + 28 * (b - a) ≤ dM0 b ∧ dM0 b ≤ dM0 a + 31 * (b - a) := by
  have := dM0_up a (b - a).toNat
  rw [show a + ((b - a).toNat : Int) = b by omega] at this
  omega
theorem dM0_0 : dM0 0 = 0 := by decide
theorem dM0_end : dM0 3960 = 120530 := by decide
theorem dM0_rg {m : Int} (h : 0 ≤ m ∧ m ≤ 3960) : 0 ≤ dM0 m ∧ dM0 m ≤ 120530 := by
  have h1 := dM0_le h.1
  have h2 := dM0_le h.2
  rw [dM0_0] at h1
  rw [dM0_end] at h2
  omega
theorem dM0_ex (d : Int) (h0 : 0 ≤ d) (n : Nat) (h : d < dM0 n) : ∃ m : Int, 0 ≤ m ∧ m < n ∧ dM0 m ≤ d ∧ d < dM0 (m + 1) := by
  induction n with
  | zero => rw [show ((0 : Nat) : Int) = 0 from rfl, dM0_0] at h; omega
  | succ n ih =>
    by_cases h1 : d < dM0 n
    · obtain ⟨m, h2, h3, h4⟩ := ih h1
      exact ⟨m, h2, by omega, h4⟩
    · exact ⟨n, by omega, by omega, by omega, by rw [show ((n + 1 : Nat) : Int) = (n : Int) + 1 by omega] at h; exact h⟩
theorem dMon_ex {d : Int} (h : 0 ≤ d ∧ d < 120530) : ∃ m : Int, 0 ≤ m ∧ m < 3960 ∧ dM0 m ≤ d ∧ d < dM0 (m + 1) :=
  dM0_ex d h.1 3960 (by rw [show ((3960 : Nat) : Int) = 3960 from rfl, dM0_end]; exact h.2)
theorem dMon_un {d m n : Int} (h1 : dM0 m ≤ d) (h2 : d < dM0 (m + 1)) (h3 : dM0 n ≤ d) (h4 : d < dM0 (n + 1)) : m = n := by
  by_cases h : m < n
  · have := dM0_le (show m + 1 ≤ n by omega); omega
  · by_cases h' : n < m
    · have := dM0_le (show n + 1 ≤ m by omega); omega
    · omega
theorem dMon_y {d m : Int} (h1 : dM0 m ≤ d) (h2 : d < dM0 (m + 1)) : dY0 (1970 + m / 12) ≤ d ∧ d < dY0 (1970 + m / 12 + 1) := by
  have e1 := dM0_12 (m / 12)
  have e2 := dM0_12 (m / 12 + 1)
  have g1 := dM0_le (show 12 * (m / 12) ≤ m by omega)
  have g2 := dM0_le (show m + 1 ≤ 12 * (m / 12 + 1) by omega)
  rw [show 1970 + (m / 12 + 1) = 1970 + m / 12 + 1 by omega] at e2
  omega
