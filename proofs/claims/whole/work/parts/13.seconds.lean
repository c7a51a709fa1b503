/-! the seconds of a day -/
theorem oFr_ex (f : Nat → Bool) (lo hi x : Int) : ∃ r, oFr f lo hi x r := by
  have key : ∀ (n : Nat) (k : Int), (hi - k + 1).toNat ≤ n → max x lo ≤ k → (∀ j, max x lo ≤ j → j < k → f (j - lo).toNat = false) → ∃ r, oFr f lo hi x r := by
    intro n
    induction n with
    | zero => intro k h1 h2 h3; exact ⟨-1, Or.inl ⟨rfl, fun j q1 q2 => h3 j q1 (by omega)⟩⟩
    | succ n ih =>
      intro k h1 h2 h3
      by_cases q : k ≤ hi
      · cases hf : f (k - lo).toNat with
        | true => exact ⟨k, Or.inr ⟨h2, q, hf, h3⟩⟩
        | false => exact ih (k + 1) (by omega) (by omega) (oFr_nx h3 hf)
      · exact ⟨-1, Or.inl ⟨rfl, fun j q1 q2 => h3 j q1 (by omega)⟩⟩
  exact key _ (max x lo) (Nat.le_refl _) (by omega) (fun j q1 q2 => absurd q1 (by omega))
theorem oBk_ex (f : Nat → Bool) (lo hi x : Int) : ∃ r, oBk f lo hi x r := by
  have key : ∀ (n : Nat) (k : Int), (k - lo + 1).toNat ≤ n → k ≤ min x hi → (∀ j, k < j → j ≤ min x hi → f (j - lo).toNat = false) → ∃ r, oBk f lo hi x r := by
    intro n
    induction n with
    | zero => intro k h1 h2 h3; exact ⟨-1, Or.inl ⟨rfl, fun j q1 q2 => h3 j (by omega) q2⟩⟩
    | succ n ih =>
      intro k h1 h2 h3
      by_cases q : lo ≤ k
      · cases hf : f (k - lo).toNat with
        | true => exact ⟨k, Or.inr ⟨q, h2, hf, h3⟩⟩
        | false => exact ih (k + -1) (by omega) (by omega) (oBk_nx h3 hf)
      · exact ⟨-1, Or.inl ⟨rfl, fun j q1 q2 => h3 j (by omega) q2⟩⟩
  exact key _ (min x hi) (Nat.le_refl _) (by omega) (fun j q1 q2 => absurd q1 (by omega))
theorem oFr_rg {f : Nat → Bool} {lo hi x r : Int} (hl : 0 ≤ lo ∧ lo ≤ hi) (h : oFr f lo hi x r) : -1 ≤ r ∧ r ≤ hi ∧ (¬ r = -1 → max x lo ≤ r ∧ f (r - lo).toNat = true) := by
  rcases h with ⟨h1, -⟩ | ⟨h1, h2, h3, -⟩
  · exact ⟨by omega, by omega, fun q => absurd h1 q⟩
  · exact ⟨by omega, by omega, fun _ => ⟨h1, h3⟩⟩
theorem oBk_rg {f : Nat → Bool} {lo hi x r : Int} (hl : 0 ≤ lo ∧ lo ≤ hi) (h : oBk f lo hi x r) : -1 ≤ r ∧ r ≤ hi ∧ (¬ r = -1 → lo ≤ r ∧ r ≤ x ∧ f (r - lo).toNat = true) := by
  rcases h with ⟨h1, -⟩ | ⟨h1, h2, h3, -⟩
  · exact ⟨by omega, by omega, fun q => absurd h1 q⟩
  · exact ⟨by omega, by omega, fun _ => ⟨h1, by omega, h3⟩⟩
theorem oFr_none {f : Nat → Bool} {lo hi x : Int} (hl : 0 ≤ lo) (h : oFr f lo hi x (-1)) : ∀ k, max x lo ≤ k → k ≤ hi → f (k - lo).toNat = false := by
  rcases h with ⟨-, h⟩ | ⟨h1, h2, h3, h4⟩
  · exact h
  · omega
theorem oBk_none {f : Nat → Bool} {lo hi x : Int} (hl : 0 ≤ lo) (h : oBk f lo hi x (-1)) : ∀ k, lo ≤ k → k ≤ min x hi → f (k - lo).toNat = false := by
  rcases h with ⟨-, h⟩ | ⟨h1, h2, h3, h4⟩
  · exact h
  · omega
theorem oFr_some {f : Nat → Bool} {lo hi x r k : Int} (h : oFr f lo hi x r) (h1 : max x lo ≤ k ∧ k ≤ hi) (h2 : f (k - lo).toNat = true) (hl : 0 ≤ lo) : ¬ r = -1 := by
  intro e
  rw [e] at h
  rw [oFr_none hl h k h1.1 h1.2] at h2
  cases h2
theorem oBk_some {f : Nat → Bool} {lo hi x r k : Int} (h : oBk f lo hi x r) (h1 : lo ≤ k ∧ k ≤ min x hi) (h2 : f (k - lo).toNat = true) (hl : 0 ≤ lo) : ¬ r = -1 := by
  intro e
  rw [e] at h
  rw [oBk_none hl h k h1.1 h1.2] at h2
  cases h2
theorem oHas_0 {f : Nat → Bool} {hi x : Int} {b : Bool} (h : oHas f 0 hi x = b) (h1 : 0 ≤ x ∧ x ≤ hi) : f x.toNat = b := by
  unfold oHas at h
  rw [decide_eq_true h1.1, decide_eq_true h1.2, Int.sub_zero] at h
  exact h
def sOk (f0 f1 f2 : Nat → Bool) (y : Int) : Bool := f2 (y / 3600).toNat && (f1 (y / 60 % 60).toNat && f0 (y % 60).toNat)
def sSF (f0 f1 f2 : Nat → Bool) (x r : Int) : Prop := (r = -1 ∧ ∀ y, x ≤ y → y < 86400 → sOk f0 f1 f2 y = false) ∨ (x ≤ r ∧ r < 86400 ∧ sOk f0 f1 f2 r = true ∧ ∀ y, x ≤ y → y < r → sOk f0 f1 f2 y = false)
def sSB (f0 f1 f2 : Nat → Bool) (x r : Int) : Prop := (r = -1 ∧ ∀ y, 0 ≤ y → y ≤ x → sOk f0 f1 f2 y = false) ∨ (0 ≤ r ∧ r ≤ x ∧ sOk f0 f1 f2 r = true ∧ ∀ y, r < y → y ≤ x → sOk f0 f1 f2 y = false)
section SEC
variable {f0 f1 f2 : Nat → Bool} {x : Int}
theorem sSF_un {a b : Int} (hx : 0 ≤ x) (h : sSF f0 f1 f2 x a) (h' : sSF f0 f1 f2 x b) : a = b := by
  rcases h with ⟨h1, h2⟩ | ⟨h1, h2, h3, h4⟩ <;> rcases h' with ⟨g1, g2⟩ | ⟨g1, g2, g3, g4⟩
  · omega
  · rw [h2 b g1 g2] at g3; cases g3
  · rw [g2 a h1 h2] at h3; cases h3
  · by_cases q : a < b
    · rw [g4 a h1 q] at h3; cases h3
    · by_cases q2 : b < a
      · rw [h4 b g1 q2] at g3; cases g3
      · omega
theorem sSB_un {a b : Int} (h : sSB f0 f1 f2 x a) (h' : sSB f0 f1 f2 x b) : a = b := by
  rcases h with ⟨h1, h2⟩ | ⟨h1, h2, h3, h4⟩ <;> rcases h' with ⟨g1, g2⟩ | ⟨g1, g2, g3, g4⟩
  · omega
  · rw [h2 b g1 g2] at g3; cases g3
  · rw [g2 a h1 h2] at h3; cases h3
  · by_cases q : a < b
    · rw [h4 b q g2] at g3; cases g3
    · by_cases q2 : b < a
      · rw [g4 a q2 h2] at h3; cases h3
      · omega
theorem sOk_2 {y : Int} (h : f2 (y / 3600).toNat = false) : sOk f0 f1 f2 y = false := by unfold sOk; rw [h]; rfl
theorem sOk_1 {y : Int} (h : f1 (y / 60 % 60).toNat = false) : sOk f0 f1 f2 y = false := by unfold sOk; rw [h, Bool.false_and, Bool.and_false]
theorem sOk_0 {y : Int} (h : f0 (y % 60).toNat = false) : sOk f0 f1 f2 y = false := by unfold sOk; rw [h, Bool.and_false, Bool.and_false]
theorem sOk_t {y hh mm ss : Int} (e2 : y / 3600 = hh) (e1 : y / 60 % 60 = mm) (e0 : y % 60 = ss) (h2 : f2 hh.toNat = true) (h1 : f1 mm.toNat = true) (h0 : f0 ss.toNat = true) : sOk f0 f1 f2 y = true := by unfold sOk; rw [e2, e1, e0, h2, h1, h0]; rfl
theorem fr0 {f : Nat → Bool} {hi x r : Int} (h : oFr f 0 hi x r) (hn : ¬ r = -1) : max x 0 ≤ r ∧ r ≤ hi ∧ f r.toNat = true ∧ ∀ k, max x 0 ≤ k → k < r → f k.toNat = false := by
  rcases h with ⟨h1, -⟩ | ⟨h1, h2, h3, h4⟩
  · exact absurd h1 hn
  · exact ⟨h1, h2, by rw [Int.sub_zero] at h3; exact h3, fun k q1 q2 => by have := h4 k q1 q2; rw [Int.sub_zero] at this; exact this⟩
theorem bk0 {f : Nat → Bool} {hi x r : Int} (h : oBk f 0 hi x r) (hn : ¬ r = -1) : 0 ≤ r ∧ r ≤ min x hi ∧ f r.toNat = true ∧ ∀ k, r < k → k ≤ min x hi → f k.toNat = false := by
  rcases h with ⟨h1, -⟩ | ⟨h1, h2, h3, h4⟩
  · exact absurd h1 hn
  · exact ⟨h1, h2, by rw [Int.sub_zero] at h3; exact h3, fun k q1 q2 => by have := h4 k q1 q2; rw [Int.sub_zero] at this; exact this⟩
theorem frN {f : Nat → Bool} {hi x : Int} (h : oFr f 0 hi x (-1)) : ∀ k, max x 0 ≤ k → k ≤ hi → f k.toNat = false := fun k q1 q2 => by
  have := oFr_none (Int.le_refl 0) h k q1 q2
  rw [Int.sub_zero] at this; exact this
theorem bkN {f : Nat → Bool} {hi x : Int} (h : oBk f 0 hi x (-1)) : ∀ k, 0 ≤ k → k ≤ min x hi → f k.toNat = false := fun k q1 q2 => by
  have := oBk_none (Int.le_refl 0) h k q1 q2
  rw [Int.sub_zero] at this; exact this
theorem sNM (hx : 0 ≤ x) (h : f1 (x / 60 % 60).toNat = false ∨ oFr f0 0 59 (x % 60) (-1)) : ∀ y, x ≤ y → y / 60 = x / 60 → sOk f0 f1 f2 y = false := by
  intro y h1 h2
  rcases h with h | h
  · exact sOk_1 (by rw [h2]; exact h)
  · exact sOk_0 (frN h (y % 60) (by omega) (by omega))
theorem sNH (hx : 0 ≤ x) (h : f2 (x / 3600).toNat = false ∨ ((f1 (x / 60 % 60).toNat = false ∨ oFr f0 0 59 (x % 60) (-1)) ∧ oFr f1 0 59 (x / 60 % 60 + 1) (-1))) : ∀ y, x ≤ y → y / 3600 = x / 3600 → sOk f0 f1 f2 y = false := by
  intro y h1 h2
  rcases h with h | ⟨h, h3⟩
  · exact sOk_2 (by rw [h2]; exact h)
  · by_cases q : y / 60 = x / 60
    · exact sNM hx h y h1 q
    · exact sOk_1 (frN h3 (y / 60 % 60) (by omega) (by omega))
theorem sSF_a {s1 : Int} (hx : 0 ≤ x ∧ x < 86400) (h2 : f2 (x / 3600).toNat = true) (h1 : f1 (x / 60 % 60).toNat = true) (h0 : oFr f0 0 59 (x % 60) s1) (hn : ¬ s1 = -1) : sSF f0 f1 f2 x ((x / 3600 * 60 + x / 60 % 60) * 60 + s1) := by
  obtain ⟨q1, q2, q3, q4⟩ := fr0 h0 hn
  refine Or.inr ⟨by omega, by omega, sOk_t (by omega) (by omega) (by omega) h2 h1 q3, fun y a b => sOk_0 (q4 (y % 60) (by omega) (by omega))⟩
theorem sSF_b {nm s0 : Int} (hx : 0 ≤ x ∧ x < 86400) (h2 : f2 (x / 3600).toNat = true) (hno : f1 (x / 60 % 60).toNat = false ∨ oFr f0 0 59 (x % 60) (-1)) (hm : oFr f1 0 59 (x / 60 % 60 + 1) nm) (hn : ¬ nm = -1) (hs : oFr f0 0 59 0 s0) (hn0 : ¬ s0 = -1) : sSF f0 f1 f2 x ((x / 3600 * 60 + nm) * 60 + s0) := by
  obtain ⟨q1, q2, q3, q4⟩ := fr0 hm hn
  obtain ⟨r1, r2, r3, r4⟩ := fr0 hs hn0
  refine Or.inr ⟨by omega, by omega, sOk_t (by omega) (by omega) (by omega) h2 q3 r3, fun y a b => ?_⟩
  by_cases e : y / 60 = x / 60
  · exact sNM hx.1 hno y a e
  · by_cases e2 : y / 60 % 60 = nm
    · exact sOk_0 (r4 (y % 60) (by omega) (by omega))
    · exact sOk_1 (q4 (y / 60 % 60) (by omega) (by omega))
theorem sSF_c {nh m0 s0 : Int} (hx : 0 ≤ x ∧ x < 86400) (hno : f2 (x / 3600).toNat = false ∨ ((f1 (x / 60 % 60).toNat = false ∨ oFr f0 0 59 (x % 60) (-1)) ∧ oFr f1 0 59 (x / 60 % 60 + 1) (-1))) (hh : oFr f2 0 23 (x / 3600 + 1) nh) (hnh : ¬ nh = -1) (hm : oFr f1 0 59 0 m0) (hn : ¬ m0 = -1) (hs : oFr f0 0 59 0 s0) (hn0 : ¬ s0 = -1) : sSF f0 f1 f2 x ((nh * 60 + m0) * 60 + s0) := by
  obtain ⟨p1, p2, p3, p4⟩ := fr0 hh hnh
  obtain ⟨q1, q2, q3, q4⟩ := fr0 hm hn
  obtain ⟨r1, r2, r3, r4⟩ := fr0 hs hn0
  refine Or.inr ⟨by omega, by omega, sOk_t (by omega) (by omega) (by omega) p3 q3 r3, fun y a b => ?_⟩
  by_cases e : y / 3600 = x / 3600
  · exact sNH hx.1 hno y a e
  · by_cases e1 : y / 3600 = nh
    · by_cases e2 : y / 60 % 60 = m0
      · exact sOk_0 (r4 (y % 60) (by omega) (by omega))
      · exact sOk_1 (q4 (y / 60 % 60) (by omega) (by omega))
    · exact sOk_2 (p4 (y / 3600) (by omega) (by omega))
theorem sSF_d (hx : 0 ≤ x ∧ x < 86400) (hno : f2 (x / 3600).toNat = false ∨ ((f1 (x / 60 % 60).toNat = false ∨ oFr f0 0 59 (x % 60) (-1)) ∧ oFr f1 0 59 (x / 60 % 60 + 1) (-1))) (hh : oFr f2 0 23 (x / 3600 + 1) (-1)) : sSF f0 f1 f2 x (-1) := by
  refine Or.inl ⟨rfl, fun y a b => ?_⟩
  by_cases e : y / 3600 = x / 3600
  · exact sNH hx.1 hno y a e
  · exact sOk_2 (frN hh (y / 3600) (by omega) (by omega))
theorem sBM (hx : 0 ≤ x) (h : f1 (x / 60 % 60).toNat = false ∨ oBk f0 0 59 (x % 60) (-1)) : ∀ y, 0 ≤ y → y ≤ x → y / 60 = x / 60 → sOk f0 f1 f2 y = false := by
  intro y h0 h1 h2
  rcases h with h | h
  · exact sOk_1 (by rw [h2]; exact h)
  · exact sOk_0 (bkN h (y % 60) (by omega) (by omega))
theorem sBH (hx : 0 ≤ x) (h : f2 (x / 3600).toNat = false ∨ ((f1 (x / 60 % 60).toNat = false ∨ oBk f0 0 59 (x % 60) (-1)) ∧ oBk f1 0 59 (x / 60 % 60 - 1) (-1))) : ∀ y, 0 ≤ y → y ≤ x → y / 3600 = x / 3600 → sOk f0 f1 f2 y = false := by
  intro y h0 h1 h2
  rcases h with h | ⟨h, h3⟩
  · exact sOk_2 (by rw [h2]; exact h)
  · by_cases q : y / 60 = x / 60
    · exact sBM hx h y h0 h1 q
    · exact sOk_1 (bkN h3 (y / 60 % 60) (by omega) (by omega))
theorem sSB_a {s1 : Int} (hx : 0 ≤ x ∧ x < 86400) (h2 : f2 (x / 3600).toNat = true) (h1 : f1 (x / 60 % 60).toNat = true) (h0 : oBk f0 0 59 (x % 60) s1) (hn : ¬ s1 = -1) : sSB f0 f1 f2 x ((x / 3600 * 60 + x / 60 % 60) * 60 + s1) := by
  obtain ⟨q1, q2, q3, q4⟩ := bk0 h0 hn
  refine Or.inr ⟨by omega, by omega, sOk_t (by omega) (by omega) (by omega) h2 h1 q3, fun y a b => sOk_0 (q4 (y % 60) (by omega) (by omega))⟩
theorem sSB_b {nm s0 : Int} (hx : 0 ≤ x ∧ x < 86400) (h2 : f2 (x / 3600).toNat = true) (hno : f1 (x / 60 % 60).toNat = false ∨ oBk f0 0 59 (x % 60) (-1)) (hm : oBk f1 0 59 (x / 60 % 60 - 1) nm) (hn : ¬ nm = -1) (hs : oBk f0 0 59 59 s0) (hn0 : ¬ s0 = -1) : sSB f0 f1 f2 x ((x / 3600 * 60 + nm) * 60 + s0) := by
  obtain ⟨q1, q2, q3, q4⟩ := bk0 hm hn
  obtain ⟨r1, r2, r3, r4⟩ := bk0 hs hn0
  refine Or.inr ⟨by omega, by omega, sOk_t (by omega) (by omega) (by omega) h2 q3 r3, fun y a b => ?_⟩
  by_cases e : y / 60 = x / 60
  · exact sBM hx.1 hno y (by omega) b e
  · by_cases e2 : y / 60 % 60 = nm
    · exact sOk_0 (r4 (y % 60) (by omega) (by omega))
    · exact sOk_1 (q4 (y / 60 % 60) (by omega) (by omega))
theorem sSB_c {nh m0 s0 : Int} (hx : 0 ≤ x ∧ x < 86400) (hno : f2 (x / 3600).toNat = false ∨ ((f1 (x / 60 % 60).toNat = false ∨ oBk f0 0 59 (x % 60) (-1)) ∧ oBk f1 0 59 (x / 60 % 60 - 1) (-1))) (hh : oBk f2 0 23 (x / 3600 - 1) nh) (hnh : ¬ nh = -1) (hm : oBk f1 0 59 59 m0) (hn : ¬ m0 = -1) (hs : oBk f0 0 59 59 s0) (hn0 : ¬ s0 = -1) : sSB f0 f1 f2 x ((nh * 60 + m0) * 60 + s0) := by
  obtain ⟨p1, p2, p3, p4⟩ := bk0 hh hnh
  obtain ⟨q1, q2, q3, q4⟩ := bk0 hm hn
  obtain ⟨r1, r2, r3, r4⟩ := bk0 hs hn0
  refine Or.inr ⟨by omega, by omega, sOk_t (by omega) (by omega) (by omega) p3 q3 r3, fun y a b => ?_⟩
  by_cases e : y / 3600 = x / 3600
  · exact sBH hx.1 hno y (by omega) b e
  · by_cases e1 : y / 3600 = nh
    · by_cases e2 : y / 60 % 60 = m0
      · exact sOk_0 (r4 (y % 60) (by omega) (by omega))
      · exact sOk_1 (q4 (y / 60 % 60) (by omega) (by omega))
    · exact sOk_2 (p4 (y / 3600) (by omega) (by omega))
theorem sSB_d (hx : 0 ≤ x ∧ x < 86400) (hno : f2 (x / 3600).toNat = false ∨ ((f1 (x / 60 % 60).toNat = false ∨ oBk f0 0 59 (x % 60) (-1)) ∧ oBk f1 0 59 (x / 60 % 60 - 1) (-1))) (hh : oBk f2 0 23 (x / 3600 - 1) (-1)) : sSB f0 f1 f2 x (-1) := by
  refine Or.inl ⟨rfl, fun y a b => ?_⟩
  by_cases e : y / 3600 = x / 3600
  · exact sBH hx.1 hno y a b e
  · exact sOk_2 (bkN hh (y / 3600) (by omega) (by omega))
end SEC
