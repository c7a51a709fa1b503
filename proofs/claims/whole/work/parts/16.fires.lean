/-! fireBehind, fireNotBehind -/
theorem zd_F_fireBehind_0 : decode zc_F_fireBehind 0 = .ok (.lload_n 1, 1) := by decide +kernel
theorem zd_F_fireBehind_1 : decode zc_F_fireBehind 1 = .ok (.ldc2_w 110, 3) := by decide +kernel
theorem zd_F_fireBehind_4 : decode zc_F_fireBehind 4 = .ok (.lcmp, 1) := by decide +kernel
theorem zd_F_fireBehind_5 : decode zc_F_fireBehind 5 = .ok (.ifCond .lt 7, 3) := by decide +kernel
theorem zd_F_fireBehind_8 : decode zc_F_fireBehind 8 = .ok (.ldc2_w 96, 3) := by decide +kernel
theorem zd_F_fireBehind_11 : decode zc_F_fireBehind 11 = .ok (.lreturn, 1) := by decide +kernel
theorem zd_F_fireBehind_12 : decode zc_F_fireBehind 12 = .ok (.lload_n 1, 1) := by decide +kernel
theorem zd_F_fireBehind_13 : decode zc_F_fireBehind 13 = .ok (.lconst 1, 1) := by decide +kernel
theorem zd_F_fireBehind_14 : decode zc_F_fireBehind 14 = .ok (.ladd, 1) := by decide +kernel
theorem zd_F_fireBehind_15 : decode zc_F_fireBehind 15 = .ok (.lstore_n 3, 1) := by decide +kernel
theorem zd_F_fireBehind_16 : decode zc_F_fireBehind 16 = .ok (.lload_n 3, 1) := by decide +kernel
theorem zd_F_fireBehind_17 : decode zc_F_fireBehind 17 = .ok (.ldc2_w 98, 3) := by decide +kernel
theorem zd_F_fireBehind_20 : decode zc_F_fireBehind 20 = .ok (.ldiv, 1) := by decide +kernel
theorem zd_F_fireBehind_21 : decode zc_F_fireBehind 21 = .ok (.l2i, 1) := by decide +kernel
theorem zd_F_fireBehind_22 : decode zc_F_fireBehind 22 = .ok (.istore 5, 2) := by decide +kernel
theorem zd_F_fireBehind_24 : decode zc_F_fireBehind 24 = .ok (.aload_n 0, 1) := by decide +kernel
theorem zd_F_fireBehind_25 : decode zc_F_fireBehind 25 = .ok (.iload 5, 2) := by decide +kernel
theorem zd_F_fireBehind_27 : decode zc_F_fireBehind 27 = .ok (.invokevirtual 114, 3) := by decide +kernel
theorem zd_F_fireBehind_30 : decode zc_F_fireBehind 30 = .ok (.istore 6, 2) := by decide +kernel
theorem zd_F_fireBehind_32 : decode zc_F_fireBehind 32 = .ok (.iload 6, 2) := by decide +kernel
theorem zd_F_fireBehind_34 : decode zc_F_fireBehind 34 = .ok (.iload 5, 2) := by decide +kernel
theorem zd_F_fireBehind_36 : decode zc_F_fireBehind 36 = .ok (.if_icmp .ne 43, 3) := by decide +kernel
theorem zd_F_fireBehind_39 : decode zc_F_fireBehind 39 = .ok (.aload_n 0, 1) := by decide +kernel
theorem zd_F_fireBehind_40 : decode zc_F_fireBehind 40 = .ok (.getfield 20, 3) := by decide +kernel
theorem zd_F_fireBehind_43 : decode zc_F_fireBehind 43 = .ok (.lload_n 3, 1) := by decide +kernel
theorem zd_F_fireBehind_44 : decode zc_F_fireBehind 44 = .ok (.ldc2_w 98, 3) := by decide +kernel
theorem zd_F_fireBehind_47 : decode zc_F_fireBehind 47 = .ok (.lrem, 1) := by decide +kernel
theorem zd_F_fireBehind_48 : decode zc_F_fireBehind 48 = .ok (.l2i, 1) := by decide +kernel
theorem zd_F_fireBehind_49 : decode zc_F_fireBehind 49 = .ok (.invokevirtual 106, 3) := by decide +kernel
theorem zd_F_fireBehind_52 : decode zc_F_fireBehind 52 = .ok (.istore 7, 2) := by decide +kernel
theorem zd_F_fireBehind_54 : decode zc_F_fireBehind 54 = .ok (.iload 7, 2) := by decide +kernel
theorem zd_F_fireBehind_56 : decode zc_F_fireBehind 56 = .ok (.iconst (-1), 1) := by decide +kernel
theorem zd_F_fireBehind_57 : decode zc_F_fireBehind 57 = .ok (.if_icmp .eq 12, 3) := by decide +kernel
theorem zd_F_fireBehind_60 : decode zc_F_fireBehind 60 = .ok (.aload_n 0, 1) := by decide +kernel
theorem zd_F_fireBehind_61 : decode zc_F_fireBehind 61 = .ok (.iload 6, 2) := by decide +kernel
theorem zd_F_fireBehind_63 : decode zc_F_fireBehind 63 = .ok (.iload 7, 2) := by decide +kernel
theorem zd_F_fireBehind_65 : decode zc_F_fireBehind 65 = .ok (.invokevirtual 117, 3) := by decide +kernel
theorem zd_F_fireBehind_68 : decode zc_F_fireBehind 68 = .ok (.lreturn, 1) := by decide +kernel
theorem zd_F_fireBehind_69 : decode zc_F_fireBehind 69 = .ok (.aload_n 0, 1) := by decide +kernel
theorem zd_F_fireBehind_70 : decode zc_F_fireBehind 70 = .ok (.iload 5, 2) := by decide +kernel
theorem zd_F_fireBehind_72 : decode zc_F_fireBehind 72 = .ok (.iconst 1, 1) := by decide +kernel
theorem zd_F_fireBehind_73 : decode zc_F_fireBehind 73 = .ok (.iadd, 1) := by decide +kernel
theorem zd_F_fireBehind_74 : decode zc_F_fireBehind 74 = .ok (.invokevirtual 114, 3) := by decide +kernel
theorem zd_F_fireBehind_77 : decode zc_F_fireBehind 77 = .ok (.istore 6, 2) := by decide +kernel
theorem zd_F_fireBehind_79 : decode zc_F_fireBehind 79 = .ok (.iload 6, 2) := by decide +kernel
theorem zd_F_fireBehind_81 : decode zc_F_fireBehind 81 = .ok (.iconst (-1), 1) := by decide +kernel
theorem zd_F_fireBehind_82 : decode zc_F_fireBehind 82 = .ok (.if_icmp .ne 9, 3) := by decide +kernel
theorem zd_F_fireBehind_85 : decode zc_F_fireBehind 85 = .ok (.ldc2_w 96, 3) := by decide +kernel
theorem zd_F_fireBehind_88 : decode zc_F_fireBehind 88 = .ok (.goto 17, 3) := by decide +kernel
theorem zd_F_fireBehind_91 : decode zc_F_fireBehind 91 = .ok (.aload_n 0, 1) := by decide +kernel
theorem zd_F_fireBehind_92 : decode zc_F_fireBehind 92 = .ok (.iload 6, 2) := by decide +kernel
theorem zd_F_fireBehind_94 : decode zc_F_fireBehind 94 = .ok (.aload_n 0, 1) := by decide +kernel
theorem zd_F_fireBehind_95 : decode zc_F_fireBehind 95 = .ok (.getfield 20, 3) := by decide +kernel
theorem zd_F_fireBehind_98 : decode zc_F_fireBehind 98 = .ok (.iconst 0, 1) := by decide +kernel
theorem zd_F_fireBehind_99 : decode zc_F_fireBehind 99 = .ok (.invokevirtual 106, 3) := by decide +kernel
theorem zd_F_fireBehind_102 : decode zc_F_fireBehind 102 = .ok (.invokevirtual 117, 3) := by decide +kernel
theorem zd_F_fireBehind_105 : decode zc_F_fireBehind 105 = .ok (.lreturn, 1) := by decide +kernel
theorem zd_F_fireNotBehind_0 : decode zc_F_fireNotBehind 0 = .ok (.lload_n 1, 1) := by decide +kernel
theorem zd_F_fireNotBehind_1 : decode zc_F_fireNotBehind 1 = .ok (.ldc2_w 98, 3) := by decide +kernel
theorem zd_F_fireNotBehind_4 : decode zc_F_fireNotBehind 4 = .ok (.ldiv, 1) := by decide +kernel
theorem zd_F_fireNotBehind_5 : decode zc_F_fireNotBehind 5 = .ok (.l2i, 1) := by decide +kernel
theorem zd_F_fireNotBehind_6 : decode zc_F_fireNotBehind 6 = .ok (.istore_n 3, 1) := by decide +kernel
theorem zd_F_fireNotBehind_7 : decode zc_F_fireNotBehind 7 = .ok (.aload_n 0, 1) := by decide +kernel
theorem zd_F_fireNotBehind_8 : decode zc_F_fireNotBehind 8 = .ok (.iload_n 3, 1) := by decide +kernel
theorem zd_F_fireNotBehind_9 : decode zc_F_fireNotBehind 9 = .ok (.invokevirtual 121, 3) := by decide +kernel
theorem zd_F_fireNotBehind_12 : decode zc_F_fireNotBehind 12 = .ok (.istore 4, 2) := by decide +kernel
theorem zd_F_fireNotBehind_14 : decode zc_F_fireNotBehind 14 = .ok (.iload 4, 2) := by decide +kernel
theorem zd_F_fireNotBehind_16 : decode zc_F_fireNotBehind 16 = .ok (.iload_n 3, 1) := by decide +kernel
theorem zd_F_fireNotBehind_17 : decode zc_F_fireNotBehind 17 = .ok (.if_icmp .ne 42, 3) := by decide +kernel
theorem zd_F_fireNotBehind_20 : decode zc_F_fireNotBehind 20 = .ok (.aload_n 0, 1) := by decide +kernel
theorem zd_F_fireNotBehind_21 : decode zc_F_fireNotBehind 21 = .ok (.getfield 20, 3) := by decide +kernel
theorem zd_F_fireNotBehind_24 : decode zc_F_fireNotBehind 24 = .ok (.lload_n 1, 1) := by decide +kernel
theorem zd_F_fireNotBehind_25 : decode zc_F_fireNotBehind 25 = .ok (.ldc2_w 98, 3) := by decide +kernel
theorem zd_F_fireNotBehind_28 : decode zc_F_fireNotBehind 28 = .ok (.lrem, 1) := by decide +kernel
theorem zd_F_fireNotBehind_29 : decode zc_F_fireNotBehind 29 = .ok (.l2i, 1) := by decide +kernel
theorem zd_F_fireNotBehind_30 : decode zc_F_fireNotBehind 30 = .ok (.invokevirtual 124, 3) := by decide +kernel
theorem zd_F_fireNotBehind_33 : decode zc_F_fireNotBehind 33 = .ok (.istore 5, 2) := by decide +kernel
theorem zd_F_fireNotBehind_35 : decode zc_F_fireNotBehind 35 = .ok (.iload 5, 2) := by decide +kernel
theorem zd_F_fireNotBehind_37 : decode zc_F_fireNotBehind 37 = .ok (.iconst (-1), 1) := by decide +kernel
theorem zd_F_fireNotBehind_38 : decode zc_F_fireNotBehind 38 = .ok (.if_icmp .eq 12, 3) := by decide +kernel
theorem zd_F_fireNotBehind_41 : decode zc_F_fireNotBehind 41 = .ok (.aload_n 0, 1) := by decide +kernel
theorem zd_F_fireNotBehind_42 : decode zc_F_fireNotBehind 42 = .ok (.iload 4, 2) := by decide +kernel
theorem zd_F_fireNotBehind_44 : decode zc_F_fireNotBehind 44 = .ok (.iload 5, 2) := by decide +kernel
theorem zd_F_fireNotBehind_46 : decode zc_F_fireNotBehind 46 = .ok (.invokevirtual 117, 3) := by decide +kernel
theorem zd_F_fireNotBehind_49 : decode zc_F_fireNotBehind 49 = .ok (.lreturn, 1) := by decide +kernel
theorem zd_F_fireNotBehind_50 : decode zc_F_fireNotBehind 50 = .ok (.aload_n 0, 1) := by decide +kernel
theorem zd_F_fireNotBehind_51 : decode zc_F_fireNotBehind 51 = .ok (.iload_n 3, 1) := by decide +kernel
theorem zd_F_fireNotBehind_52 : decode zc_F_fireNotBehind 52 = .ok (.iconst 1, 1) := by decide +kernel
theorem zd_F_fireNotBehind_53 : decode zc_F_fireNotBehind 53 = .ok (.isub, 1) := by decide +kernel
theorem zd_F_fireNotBehind_54 : decode zc_F_fireNotBehind 54 = .ok (.invokevirtual 121, 3) := by decide +kernel
theorem zd_F_fireNotBehind_57 : decode zc_F_fireNotBehind 57 = .ok (.istore 4, 2) := by decide +kernel
theorem zd_F_fireNotBehind_59 : decode zc_F_fireNotBehind 59 = .ok (.iload 4, 2) := by decide +kernel
theorem zd_F_fireNotBehind_61 : decode zc_F_fireNotBehind 61 = .ok (.iconst (-1), 1) := by decide +kernel
theorem zd_F_fireNotBehind_62 : decode zc_F_fireNotBehind 62 = .ok (.if_icmp .ne 9, 3) := by decide +kernel
theorem zd_F_fireNotBehind_65 : decode zc_F_fireNotBehind 65 = .ok (.ldc2_w 96, 3) := by decide +kernel
theorem zd_F_fireNotBehind_68 : decode zc_F_fireNotBehind 68 = .ok (.goto 18, 3) := by decide +kernel
theorem zd_F_fireNotBehind_71 : decode zc_F_fireNotBehind 71 = .ok (.aload_n 0, 1) := by decide +kernel
theorem zd_F_fireNotBehind_72 : decode zc_F_fireNotBehind 72 = .ok (.iload 4, 2) := by decide +kernel
theorem zd_F_fireNotBehind_74 : decode zc_F_fireNotBehind 74 = .ok (.aload_n 0, 1) := by decide +kernel
theorem zd_F_fireNotBehind_75 : decode zc_F_fireNotBehind 75 = .ok (.getfield 20, 3) := by decide +kernel
theorem zd_F_fireNotBehind_78 : decode zc_F_fireNotBehind 78 = .ok (.ldc 127, 2) := by decide +kernel
theorem zd_F_fireNotBehind_80 : decode zc_F_fireNotBehind 80 = .ok (.invokevirtual 124, 3) := by decide +kernel
theorem zd_F_fireNotBehind_83 : decode zc_F_fireNotBehind 83 = .ok (.invokevirtual 117, 3) := by decide +kernel
theorem zd_F_fireNotBehind_86 : decode zc_F_fireNotBehind 86 = .ok (.lreturn, 1) := by decide +kernel
theorem srch_ex (G : Int → Bool) (x top : Int) (hx : 0 ≤ x) : ∃ r, (r = -1 ∧ ∀ d, x ≤ d → d ≤ top → G d = false) ∨ (x ≤ r ∧ r ≤ top ∧ G r = true ∧ ∀ d, x ≤ d → d < r → G d = false) := by
  obtain ⟨r, h⟩ := oFr_ex (fun n => G (n : Int)) 0 top x
  have e : ∀ k : Int, 0 ≤ k → ((k - 0).toNat : Int) = k := fun k h => by omega
  rcases h with ⟨h1, h2⟩ | ⟨h1, h2, h3, h4⟩
  · exact ⟨r, Or.inl ⟨h1, fun d q1 q2 => by have := h2 d (by omega) q2; simp only [e d (by omega)] at this; exact this⟩⟩
  · exact ⟨r, Or.inr ⟨by omega, h2, by simp only [e r (by omega)] at h3; exact h3, fun d q1 q2 => by have := h4 d (by omega) q2; simp only [e d (by omega)] at this; exact this⟩⟩
theorem srchb_ex (G : Int → Bool) (x : Int) : ∃ r, (r = -1 ∧ ∀ d, 0 ≤ d → d ≤ x → G d = false) ∨ (0 ≤ r ∧ r ≤ x ∧ G r = true ∧ ∀ d, r < d → d ≤ x → G d = false) := by
  obtain ⟨r, h⟩ := oBk_ex (fun n => G (n : Int)) 0 x x
  have e : ∀ k : Int, 0 ≤ k → ((k - 0).toNat : Int) = k := fun k h => by omega
  rcases h with ⟨h1, h2⟩ | ⟨h1, h2, h3, h4⟩
  · exact ⟨r, Or.inl ⟨h1, fun d q1 q2 => by have := h2 d q1 (by omega); simp only [e d q1] at this; exact this⟩⟩
  · exact ⟨r, Or.inr ⟨h1, by omega, by simp only [e r h1] at h3; exact h3, fun d q1 q2 => by have := h4 d q1 (by omega); simp only [e d (by omega)] at this; exact this⟩⟩
theorem fFD_ex (F : Int → Bool) {x : Int} (hx : 0 ≤ x) : ∃ r, fFD F x r := srch_ex F x 120529 hx
theorem fFB_ex (F : Int → Bool) (x : Int) : ∃ r, fFB F x r := srchb_ex F x
theorem sSF_ex (f0 f1 f2 : Nat → Bool) {x : Int} (hx : 0 ≤ x) : ∃ r, sSF f0 f1 f2 x r := by
  obtain ⟨r, h⟩ := srch_ex (sOk f0 f1 f2) x 86399 hx
  rcases h with ⟨h1, h2⟩ | ⟨h1, h2, h3, h4⟩
  · exact ⟨r, Or.inl ⟨h1, fun y q1 q2 => h2 y q1 (by omega)⟩⟩
  · exact ⟨r, Or.inr ⟨h1, by omega, h3, h4⟩⟩
theorem sSB_ex (f0 f1 f2 : Nat → Bool) (x : Int) : ∃ r, sSB f0 f1 f2 x r := srchb_ex (sOk f0 f1 f2) x
theorem fFD_rg {F : Int → Bool} {x r : Int} (hx : 0 ≤ x) (h : fFD F x r) : -1 ≤ r ∧ r ≤ 120529 ∧ (¬ r = -1 → x ≤ r ∧ F r = true) := by
  rcases h with ⟨h1, -⟩ | ⟨h1, h2, h3, -⟩
  · exact ⟨by omega, by omega, fun q => absurd h1 q⟩
  · exact ⟨by omega, h2, fun _ => ⟨h1, h3⟩⟩
theorem fFB_rg {F : Int → Bool} {x r : Int} (h : fFB F x r) (hx : -1 ≤ x) : -1 ≤ r ∧ r ≤ x ∧ (¬ r = -1 → 0 ≤ r ∧ F r = true) := by
  rcases h with ⟨h1, -⟩ | ⟨h1, h2, h3, -⟩
  · exact ⟨by omega, by omega, fun q => absurd h1 q⟩
  · exact ⟨by omega, h2, fun _ => ⟨h1, h3⟩⟩
theorem sSF_rg {f0 f1 f2 : Nat → Bool} {x r : Int} (hx : 0 ≤ x) (h : sSF f0 f1 f2 x r) : -1 ≤ r ∧ r < 86400 ∧ (¬ r = -1 → x ≤ r) := by
  rcases h with ⟨h1, -⟩ | ⟨h1, h2, h3, -⟩
  · exact ⟨by omega, by omega, fun q => absurd h1 q⟩
  · exact ⟨by omega, h2, fun _ => h1⟩
theorem sSB_rg {f0 f1 f2 : Nat → Bool} {x r : Int} (hx : 0 ≤ x ∧ x < 86400) (h : sSB f0 f1 f2 x r) : -1 ≤ r ∧ r < 86400 ∧ (¬ r = -1 → r ≤ x ∧ 0 ≤ r) := by
  rcases h with ⟨h1, -⟩ | ⟨h1, h2, h3, -⟩
  · exact ⟨by omega, by omega, fun q => absurd h1 q⟩
  · exact ⟨by omega, by omega, fun _ => ⟨h2, h1⟩⟩
def pNe (al : Nat → Nat → Bool) : Prop := (∃ k : Int, 0 ≤ k ∧ k ≤ 59 ∧ al 0 k.toNat = true) ∧ (∃ k : Int, 0 ≤ k ∧ k ≤ 59 ∧ al 1 k.toNat = true) ∧ ∃ k : Int, 0 ≤ k ∧ k ≤ 23 ∧ al 2 k.toNat = true
/-- a plan that fires on some day has seconds, minutes and hours -/
def pOk (al : Nat → Nat → Bool) (pD : Int → Nat → Bool) : Prop := (∀ mo i, pD mo i = false) ∨ pNe al
theorem pOk_ne {al : Nat → Nat → Bool} {pD : Int → Nat → Bool} {hol : Int → Bool} {d : Int} (h : pOk al pD) (h1 : fFit pD hol d = true) : pNe al := by
  rcases h with h | h
  · unfold fFit at h1; rw [h] at h1; cases h1
  · exact h
theorem sSF_so {al : Nat → Nat → Bool} {r : Int} (h : pNe al) (hq : sSF (al 0) (al 1) (al 2) 0 r) : ¬ r = -1 := by
  obtain ⟨⟨k0, a1, a2, a3⟩, ⟨k1, b1, b2, b3⟩, ⟨k2, c1, c2, c3⟩⟩ := h
  intro e
  rcases hq with ⟨-, h⟩ | ⟨h1, -⟩
  · have := h (k2 * 3600 + k1 * 60 + k0) (by omega) (by omega)
    rw [sOk_t (hh := k2) (mm := k1) (ss := k0) (by omega) (by omega) (by omega) c3 b3 a3] at this
    cases this
  · omega
theorem sSB_so {al : Nat → Nat → Bool} {r : Int} (h : pNe al) (hq : sSB (al 0) (al 1) (al 2) 86399 r) : ¬ r = -1 := by
  obtain ⟨⟨k0, a1, a2, a3⟩, ⟨k1, b1, b2, b3⟩, ⟨k2, c1, c2, c3⟩⟩ := h
  intro e
  rcases hq with ⟨-, h⟩ | ⟨h1, -⟩
  · have := h (k2 * 3600 + k1 * 60 + k0) (by omega) (by omega)
    rw [sOk_t (hh := k2) (mm := k1) (ss := k0) (by omega) (by omega) (by omega) c3 b3 a3] at this
    cases this
  · omega
def tOk (F G : Int → Bool) (T : Int) : Bool := F (T / 86400) && G (T % 86400)
def tNF (F G : Int → Bool) (tm r : Int) : Prop := (r = -1 ∧ ∀ T, tm < T → T ≤ 10413791999 → tOk F G T = false) ∨ (tm < r ∧ r ≤ 10413791999 ∧ tOk F G r = true ∧ ∀ T, tm < T → T < r → tOk F G T = false)
def tNB (F G : Int → Bool) (tm r : Int) : Prop := (r = -1 ∧ ∀ T, 0 ≤ T → T ≤ tm → tOk F G T = false) ∨ (0 ≤ r ∧ r ≤ tm ∧ tOk F G r = true ∧ ∀ T, r < T → T ≤ tm → tOk F G T = false)
section TIMES
variable {F G : Int → Bool} {tm : Int} {f0 f1 f2 : Nat → Bool}
theorem tNF_un {a b : Int} (h : tNF F G tm a) (h' : tNF F G tm b) (h0 : 0 ≤ tm) : a = b := by
  rcases h with ⟨h1, h2⟩ | ⟨h1, h2, h3, h4⟩ <;> rcases h' with ⟨g1, g2⟩ | ⟨g1, g2, g3, g4⟩
  · omega
  · rw [h2 b g1 g2] at g3; cases g3
  · rw [g2 a h1 h2] at h3; cases h3
  · by_cases q : a < b
    · rw [g4 a h1 q] at h3; cases h3
    · by_cases q2 : b < a
      · rw [h4 b g1 q2] at g3; cases g3
      · omega
theorem tNB_un {a b : Int} (h : tNB F G tm a) (h' : tNB F G tm b) : a = b := by
  rcases h with ⟨h1, h2⟩ | ⟨h1, h2, h3, h4⟩ <;> rcases h' with ⟨g1, g2⟩ | ⟨g1, g2, g3, g4⟩
  · omega
  · rw [h2 b g1 g2] at g3; cases g3
  · rw [g2 a h1 h2] at h3; cases h3
  · by_cases q : a < b
    · rw [h4 b q g2] at g3; cases g3
    · by_cases q2 : b < a
      · rw [g4 a q2 h2] at h3; cases h3
      · omega
theorem tOk_F {T : Int} (h : F (T / 86400) = false) : tOk F G T = false := by unfold tOk; rw [h]; rfl
theorem tOk_G {T : Int} (h : G (T % 86400) = false) : tOk F G T = false := by unfold tOk; rw [h, Bool.and_false]
theorem tOk_t {T d x : Int} (e1 : T / 86400 = d) (e2 : T % 86400 = x) (h1 : F d = true) (h2 : G x = true) : tOk F G T = true := by unfold tOk; rw [e1, e2, h1, h2]; rfl
theorem tNF_end (h : 10413791999 ≤ tm) : tNF F G tm (-1) := Or.inl ⟨rfl, fun T q1 q2 => absurd q1 (by omega)⟩
theorem fFD_up {x r : Int} (h : fFD F x r) (h1 : ¬ r = x) : fFD F (x + 1) r ∧ (x ≤ 120529 → F x = false) := by
  rcases h with ⟨h2, h3⟩ | ⟨h2, h3, h4, h5⟩
  · exact ⟨Or.inl ⟨h2, fun d q1 q2 => h3 d (by omega) q2⟩, fun q => h3 x (by omega) q⟩
  · exact ⟨Or.inr ⟨by omega, h3, h4, fun d q1 q2 => h5 d (by omega) q2⟩, fun _ => h5 x (by omega) (by omega)⟩
theorem fFB_dn {x r : Int} (h : fFB F x r) (h1 : ¬ r = x) (hx : 0 ≤ x) : fFB F (x - 1) r ∧ F x = false := by
  rcases h with ⟨h2, h3⟩ | ⟨h2, h3, h4, h5⟩
  · exact ⟨Or.inl ⟨h2, fun d q1 q2 => h3 d q1 (by omega)⟩, h3 x hx (by omega)⟩
  · exact ⟨Or.inr ⟨h2, by omega, h4, fun d q1 q2 => h5 d q1 (by omega)⟩, h5 x (by omega) (by omega)⟩
theorem tA_F (h : F ((tm + 1) / 86400) = false) : ∀ T, tm < T → T / 86400 = (tm + 1) / 86400 → tOk F G T = false := fun T q1 q2 => tOk_F (by rw [q2]; exact h)
theorem tA_G (h0 : 0 ≤ tm) (h : sSF f0 f1 f2 ((tm + 1) % 86400) (-1)) : ∀ T, tm < T → T / 86400 = (tm + 1) / 86400 → tOk F (sOk f0 f1 f2) T = false := by
  intro T q1 q2
  rcases h with ⟨-, h⟩ | ⟨h, -⟩
  · exact tOk_G (h (T % 86400) (by omega) (by omega))
  · omega
theorem tNF_a {x : Int} (h0 : 0 ≤ tm ∧ tm < 10413791999) (hF : F ((tm + 1) / 86400) = true) (hs : sSF f0 f1 f2 ((tm + 1) % 86400) x) (hn : ¬ x = -1) : tNF F (sOk f0 f1 f2) tm ((tm + 1) / 86400 * 86400 + x) := by
  rcases hs with ⟨h, -⟩ | ⟨h1, h2, h3, h4⟩
  · exact absurd h hn
  · refine Or.inr ⟨by omega, by omega, tOk_t (d := (tm + 1) / 86400) (x := x) (by omega) (by omega) hF h3, fun T q1 q2 => ?_⟩
    exact tOk_G (h4 (T % 86400) (by omega) (by omega))
theorem tNF_b {dd x : Int} (h0 : 0 ≤ tm ∧ tm < 10413791999) (hA : ∀ T, tm < T → T / 86400 = (tm + 1) / 86400 → tOk F (sOk f0 f1 f2) T = false) (hB : fFD F ((tm + 1) / 86400 + 1) dd) (hd : ¬ dd = -1) (hs : sSF f0 f1 f2 0 x) (hn : ¬ x = -1) : tNF F (sOk f0 f1 f2) tm (dd * 86400 + x) := by
  rcases hB with ⟨h, -⟩ | ⟨g1, g2, g3, g4⟩
  · exact absurd h hd
  rcases hs with ⟨h, -⟩ | ⟨h1, h2, h3, h4⟩
  · exact absurd h hn
  refine Or.inr ⟨by omega, by omega, tOk_t (d := dd) (x := x) (by omega) (by omega) g3 h3, fun T q1 q2 => ?_⟩
  by_cases e : T / 86400 = (tm + 1) / 86400
  · exact hA T q1 e
  · by_cases e2 : T / 86400 = dd
    · exact tOk_G (h4 (T % 86400) (by omega) (by omega))
    · exact tOk_F (g4 (T / 86400) (by omega) (by omega))
theorem tNF_c (h0 : 0 ≤ tm) (hA : ∀ T, tm < T → T / 86400 = (tm + 1) / 86400 → tOk F (sOk f0 f1 f2) T = false) (hB : fFD F ((tm + 1) / 86400 + 1) (-1)) : tNF F (sOk f0 f1 f2) tm (-1) := by
  rcases hB with ⟨-, h⟩ | ⟨h, -⟩
  · refine Or.inl ⟨rfl, fun T q1 q2 => ?_⟩
    by_cases e : T / 86400 = (tm + 1) / 86400
    · exact hA T q1 e
    · exact tOk_F (h (T / 86400) (by omega) (by omega))
  · omega
theorem tB_F (h : F (tm / 86400) = false) : ∀ T, T ≤ tm → T / 86400 = tm / 86400 → tOk F G T = false := fun T q1 q2 => tOk_F (by rw [q2]; exact h)
theorem tB_G (h0 : 0 ≤ tm) (h : sSB f0 f1 f2 (tm % 86400) (-1)) : ∀ T, T ≤ tm → T / 86400 = tm / 86400 → tOk F (sOk f0 f1 f2) T = false := by
  intro T q1 q2
  rcases h with ⟨-, h⟩ | ⟨h, -⟩
  · exact tOk_G (h (T % 86400) (by omega) (by omega))
  · omega
theorem tNB_a {x : Int} (h0 : 0 ≤ tm) (hF : F (tm / 86400) = true) (hs : sSB f0 f1 f2 (tm % 86400) x) (hn : ¬ x = -1) : tNB F (sOk f0 f1 f2) tm (tm / 86400 * 86400 + x) := by
  rcases hs with ⟨h, -⟩ | ⟨h1, h2, h3, h4⟩
  · exact absurd h hn
  · refine Or.inr ⟨by omega, by omega, tOk_t (d := tm / 86400) (x := x) (by omega) (by omega) hF h3, fun T q1 q2 => ?_⟩
    exact tOk_G (h4 (T % 86400) (by omega) (by omega))
theorem tNB_b {dd x : Int} (h0 : 0 ≤ tm) (hA : ∀ T, T ≤ tm → T / 86400 = tm / 86400 → tOk F (sOk f0 f1 f2) T = false) (hB : fFB F (tm / 86400 - 1) dd) (hd : ¬ dd = -1) (hs : sSB f0 f1 f2 86399 x) (hn : ¬ x = -1) : tNB F (sOk f0 f1 f2) tm (dd * 86400 + x) := by
  rcases hB with ⟨h, -⟩ | ⟨g1, g2, g3, g4⟩
  · exact absurd h hd
  rcases hs with ⟨h, -⟩ | ⟨h1, h2, h3, h4⟩
  · exact absurd h hn
  refine Or.inr ⟨by omega, by omega, tOk_t (d := dd) (x := x) (by omega) (by omega) g3 h3, fun T q1 q2 => ?_⟩
  by_cases e : T / 86400 = tm / 86400
  · exact hA T q2 e
  · by_cases e2 : T / 86400 = dd
    · exact tOk_G (h4 (T % 86400) (by omega) (by omega))
    · exact tOk_F (g4 (T / 86400) (by omega) (by omega))
theorem tNB_c (h0 : 0 ≤ tm) (hA : ∀ T, T ≤ tm → T / 86400 = tm / 86400 → tOk F (sOk f0 f1 f2) T = false) (hB : fFB F (tm / 86400 - 1) (-1)) : tNB F (sOk f0 f1 f2) tm (-1) := by
  rcases hB with ⟨-, h⟩ | ⟨h, -⟩
  · refine Or.inl ⟨rfl, fun T q1 q2 => ?_⟩
    by_cases e : T / 86400 = tm / 86400
    · exact hA T q2 e
    · exact tOk_F (h (T / 86400) (by omega) (by omega))
  · omega
end TIMES
set_option maxHeartbeats 4000000 in
set_option maxRecDepth 100000 in
theorem c_F_fireBehind (l : Launch) (g : zGl) (fq tp : Nat) (tl : Int) (sq : Nat) (br : Int) (hq ha : Nat) (h : Nat → Int) (cnt : Int) (hol : Int → Bool) (hR : dsR h cnt hol) (pq : Nat) (ra aa : Nat → Nat) (al : Nat → Nat → Bool) (sub od : Int) (bits : Nat → Bool) (t : Nat) (en : Nat → Nat) (tw : Nat) (hs : 0 ≤ sub ∧ sub ≤ 31 ∧ 0 ≤ od ∧ od ≤ 5) (ru : Nat) (hru : ru < 7 ∧ (ru = 3 → 1 ≤ sub)) (hok : pOk al (pDays al bits ru sub od)) (tm rr : Int) (hx0 : 0 ≤ tm ∧ tm ≤ 10413791999) (hj : tNF (fFit (pDays al bits ru sub od) hol) (sOk (al 0) (al 1) (al 2)) tm rr) : zSi l zy_F_fireBehind zc_F_fireBehind 8 (some .long) ({ frames := 5, cells := 0, slots := 0, locals := 113 }) g (zS3 t en tw (fun _ => False)) [.ref (fq), .long (lI (tm))] [(fq, .inr (0, [.ref (tp), .int (iI (tl)), .ref (pq), .ref (sq), .int (iI (br)), .ref (hq)])), (pq, .inr (3, [.ref (ra 0), .ref (ra 1), .ref (ra 2), .ref (ra 3), .ref (ra 4), .ref (ra 5), .ref (ra 6), .ref (en ru), .int (iI (sub)), .int (iI (od)), .int (zbits (bits))])), (ra 0, .inr (2, [.int (iI (0)), .int (iI (59)), .ref (aa 0)])), (aa 0, .inl (g.2 1, 60, .inl (zaB (al 0)))), (ra 1, .inr (2, [.int (iI (0)), .int (iI (59)), .ref (aa 1)])), (aa 1, .inl (g.2 1, 60, .inl (zaB (al 1)))), (ra 2, .inr (2, [.int (iI (0)), .int (iI (23)), .ref (aa 2)])), (aa 2, .inl (g.2 1, 24, .inl (zaB (al 2)))), (ra 3, .inr (2, [.int (iI (1)), .int (iI (31)), .ref (aa 3)])), (aa 3, .inl (g.2 1, 31, .inl (zaB (al 3)))), (ra 4, .inr (2, [.int (iI (1)), .int (iI (12)), .ref (aa 4)])), (aa 4, .inl (g.2 1, 12, .inl (zaB (al 4)))), (ra 5, .inr (2, [.int (iI (1)), .int (iI (7)), .ref (aa 5)])), (aa 5, .inl (g.2 1, 7, .inl (zaB (al 5)))), (ra 6, .inr (2, [.int (iI (1970)), .int (iI (2299)), .ref (aa 6)])), (aa 6, .inl (g.2 1, 330, .inl (zaB (al 6)))), (hq, .inr (1, [.ref (ha), .int (iI (cnt))])), (ha, .inl (g.2 0, 200, .inl (zaI h)))] (some (.long (lI (rr)))) := by
  refine zs_open (by decide +kernel) (Nat.le_of_ble_eq_true rfl) ?_
  intro p e s m below meth c ls hx hb hml hr hlk hown hw hK hT hP hl
  have hown : s.vm.findClass "CronFinder" = some m.cls := hown
  have hl : lv_has ls 8 [(0, .ref (fq)), (1, .long (lI (tm)))] := hl
  refine lv_lload_n hx hb zd_F_fireBehind_0 rfl (lv_at hl 1 rfl) ?_
  refine lv_ldc2 hx hb hown (hw _ zw_3_20) zd_F_fireBehind_1 ?_
  refine zl_asx _ 10413791999 (by decide) ?_
  refine zl_cmp_lt (tgt := 12) hx hb zd_F_fireBehind_4 zd_F_fireBehind_5 (by decide) (by omega) (fun c4 => ?_) (fun c4 => ?_)
  · refine lv_lload_n hx hb zd_F_fireBehind_12 rfl (lv_at hl 1 rfl) ?_
    refine zi_lconst (z := 1) hx hb zd_F_fireBehind_13 (by decide) ?_
    refine zi_ladd hx hb zd_F_fireBehind_14 ?_
    refine lv_lstore_n (lv' := [(3, .long (lI (tm + 1))), (0, .ref (fq)), (1, .long (lI (tm)))]) hx hb zd_F_fireBehind_15 rfl hl (by decide) rfl (fun ls hl => ?_)
    refine lv_lload_n hx hb zd_F_fireBehind_16 rfl (lv_at hl 0 rfl) ?_
    refine lv_ldc2 hx hb hown (hw _ zw_3_27) zd_F_fireBehind_17 ?_
    refine zl_asx _ 86400 (by decide) ?_
    refine zi_ldiv hx hb zd_F_fireBehind_20 (by omega) ?_
    refine zi_l2i hx hb zd_F_fireBehind_21 ?_
    refine lv_istore (lv' := [(5, .int (iI ((tm + 1) / 86400))), (3, .long (lI (tm + 1))), (0, .ref (fq)), (1, .long (lI (tm)))]) hx hb zd_F_fireBehind_22 hl (by decide) rfl (fun ls hl => ?_)
    refine lv_aload_n hx hb zd_F_fireBehind_24 rfl (lv_at hl 2 rfl) ?_
    refine lv_iload hx hb zd_F_fireBehind_25 (lv_at hl 0 rfl) ?_
    obtain ⟨r27, h27⟩ := fFD_ex (fFit (pDays al bits ru sub od) hol) (x := (tm + 1) / 86400) (by omega)
    have hg27 := fFD_rg (by omega) h27
    refine zk_V (As := [.int (iI ((tm + 1) / 86400))]) (b := fq) (own := "CronFinder") (nL := 8) (rest := []) hx hb hml hown hw (c_F_firingDayFrom l g fq tp tl sq br hq ha h cnt hol hR pq ra aa al sub od bits t en tw hs ru hru ((tm + 1) / 86400) r27 (by omega) h27) zw_3_28 zw_3_30 zw_0_17 zw_1_1 zw_3_31 (np := 1) (by decide +kernel) rfl (by decide) (zS3_mv t en tw _) hK hT (hP.sub (ws' := [(fq, .inr (0, [.ref (tp), .int (iI (tl)), .ref (pq), .ref (sq), .int (iI (br)), .ref (hq)])), (pq, .inr (3, [.ref (ra 0), .ref (ra 1), .ref (ra 2), .ref (ra 3), .ref (ra 4), .ref (ra 5), .ref (ra 6), .ref (en ru), .int (iI (sub)), .int (iI (od)), .int (zbits (bits))])), (ra 0, .inr (2, [.int (iI (0)), .int (iI (59)), .ref (aa 0)])), (aa 0, .inl (g.2 1, 60, .inl (zaB (al 0)))), (ra 1, .inr (2, [.int (iI (0)), .int (iI (59)), .ref (aa 1)])), (aa 1, .inl (g.2 1, 60, .inl (zaB (al 1)))), (ra 2, .inr (2, [.int (iI (0)), .int (iI (23)), .ref (aa 2)])), (aa 2, .inl (g.2 1, 24, .inl (zaB (al 2)))), (ra 3, .inr (2, [.int (iI (1)), .int (iI (31)), .ref (aa 3)])), (aa 3, .inl (g.2 1, 31, .inl (zaB (al 3)))), (ra 4, .inr (2, [.int (iI (1)), .int (iI (12)), .ref (aa 4)])), (aa 4, .inl (g.2 1, 12, .inl (zaB (al 4)))), (ra 5, .inr (2, [.int (iI (1)), .int (iI (7)), .ref (aa 5)])), (aa 5, .inl (g.2 1, 7, .inl (zaB (al 5)))), (ra 6, .inr (2, [.int (iI (1970)), .int (iI (2299)), .ref (aa 6)])), (aa 6, .inl (g.2 1, 330, .inl (zaB (al 6)))), (hq, .inr (1, [.ref (ha), .int (iI (cnt))])), (ha, .inl (g.2 0, 200, .inl (zaI h)))]) [0, 1, 2, 3, 4, 5, 6, 7, 8, 9, 10, 11, 12, 13, 14, 15, 16, 17] rfl) (va_recv hK hP (ci := 0) (q0 := 0) rfl rfl) hl.1 rfl (Nat.le_of_ble_eq_true rfl) (by decide) zd_F_fireBehind_27 ?_
    refine lv_istore (lv' := [(6, .int (iI (r27))), (5, .int (iI ((tm + 1) / 86400))), (3, .long (lI (tm + 1))), (0, .ref (fq)), (1, .long (lI (tm)))]) hx hb zd_F_fireBehind_30 hl (by decide) rfl (fun ls hl => ?_)
    refine lv_iload hx hb zd_F_fireBehind_32 (lv_at hl 0 rfl) ?_
    refine lv_iload hx hb zd_F_fireBehind_34 (lv_at hl 1 rfl) ?_
    refine zi_icmp_ne (tgt := 79) hx hb zd_F_fireBehind_36 (by decide) (by omega) (fun c36 => ?_) (fun c36 => ?_)
    · refine lv_iload hx hb zd_F_fireBehind_79 (lv_at hl 0 rfl) ?_
      refine zi_iconst hx hb zd_F_fireBehind_81 ?_
      refine zi_icmp_ne (tgt := 91) hx hb zd_F_fireBehind_82 (by decide) (by omega) (fun c82 => ?_) (fun c82 => ?_)
      · refine lv_aload_n hx hb zd_F_fireBehind_91 rfl (lv_at hl 3 rfl) ?_
        refine lv_iload hx hb zd_F_fireBehind_92 (lv_at hl 0 rfl) ?_
        refine lv_aload_n hx hb zd_F_fireBehind_94 rfl (lv_at hl 3 rfl) ?_
        refine va_get (D := g.1) (ci := 0) (v := .ref (pq)) (C := zR_F) (T := zT_F) (N := 6) hx hb hw zin_F hown hK hP 0 rfl rfl 2 (by decide) (hw _ zw_1_108) (fun _ h9 => h9) rfl zd_F_fireBehind_95 ?_
        refine zi_iconst hx hb zd_F_fireBehind_98 ?_
        have hne99 := pOk_ne hok ((hg27.2.2 (by omega)).2)
        obtain ⟨r99, h99⟩ := sSF_ex (al 0) (al 1) (al 2) (x := 0) (by omega)
        have hg99 := sSF_rg (by omega) h99
        refine zk_V (As := [.int (iI (0))]) (b := pq) (own := "CronFinder") (nL := 8) (rest := [.int (iI (r27)), .ref (fq)]) hx hb hml hown hw (c_P_secondFrom l g pq ra aa al (en ru) sub od bits (0) r99 (by omega) h99 hne99.1 hne99.2.1) zw_3_101 zw_3_102 zw_3_103 zw_1_2 zw_3_104 (np := 1) (by decide +kernel) rfl (by decide) zN_mv hK trivial (hP.sub (ws' := [(pq, .inr (3, [.ref (ra 0), .ref (ra 1), .ref (ra 2), .ref (ra 3), .ref (ra 4), .ref (ra 5), .ref (ra 6), .ref (en ru), .int (iI (sub)), .int (iI (od)), .int (zbits (bits))])), (ra 0, .inr (2, [.int (iI (0)), .int (iI (59)), .ref (aa 0)])), (aa 0, .inl (g.2 1, 60, .inl (zaB (al 0)))), (ra 1, .inr (2, [.int (iI (0)), .int (iI (59)), .ref (aa 1)])), (aa 1, .inl (g.2 1, 60, .inl (zaB (al 1)))), (ra 2, .inr (2, [.int (iI (0)), .int (iI (23)), .ref (aa 2)])), (aa 2, .inl (g.2 1, 24, .inl (zaB (al 2))))]) [1, 2, 3, 4, 5, 6, 7] rfl) (va_recv hK hP (ci := 3) (q0 := 1) rfl rfl) hl.1 rfl (Nat.le_of_ble_eq_true rfl) (by decide) zd_F_fireBehind_99 ?_
        refine zk_V (As := [.int (iI (r27)), .int (iI (r99))]) (b := fq) (own := "CronFinder") (nL := 8) (rest := []) hx hb hml hown hw (c_F_timeOf l g fq (r27) (r99) (by omega)) zw_3_113 zw_3_115 zw_0_25 zw_1_1 zw_3_116 (np := 2) (by decide +kernel) rfl (by decide) zN_mv hK trivial (hP.sub (ws' := []) [] rfl) (va_recv hK hP (ci := 0) (q0 := 0) rfl rfl) hl.1 rfl (Nat.le_of_ble_eq_true rfl) (by decide) zd_F_fireBehind_102 ?_
        refine zl_as (rr) (by first | exact tNF_un (tNF_b ⟨hx0.1, c4⟩ (tA_F ((fFD_up h27 c36).2 (by omega))) (fFD_up h27 c36).1 c82 h99 (sSF_so hne99 h99)) hj hx0.1 | exact tNF_un (tNF_c hx0.1 (tA_F ((fFD_up h27 c36).2 (by omega))) (by rw [← c82]; exact (fFD_up h27 c36).1)) hj hx0.1) ?_
        exact zs_lret hx hb hr hlk zd_F_fireBehind_105
      · refine lv_ldc2 hx hb hown (hw _ zw_3_26) zd_F_fireBehind_85 ?_
        refine zl_asx _ (-1) (by decide) ?_
        refine lv_goto (tgt := 105) hx hb zd_F_fireBehind_88 (by decide) ?_
        refine zl_as (rr) (by first | exact tNF_un (tNF_b ⟨hx0.1, c4⟩ (tA_F ((fFD_up h27 c36).2 (by omega))) (fFD_up h27 c36).1 c82 h99 (sSF_so hne99 h99)) hj hx0.1 | exact tNF_un (tNF_c hx0.1 (tA_F ((fFD_up h27 c36).2 (by omega))) (by rw [← c82]; exact (fFD_up h27 c36).1)) hj hx0.1) ?_
        exact zs_lret hx hb hr hlk zd_F_fireBehind_105
    · refine lv_aload_n hx hb zd_F_fireBehind_39 rfl (lv_at hl 3 rfl) ?_
      refine va_get (D := g.1) (ci := 0) (v := .ref (pq)) (C := zR_F) (T := zT_F) (N := 6) hx hb hw zin_F hown hK hP 0 rfl rfl 2 (by decide) (hw _ zw_1_108) (fun _ h9 => h9) rfl zd_F_fireBehind_40 ?_
      refine lv_lload_n hx hb zd_F_fireBehind_43 rfl (lv_at hl 2 rfl) ?_
      refine lv_ldc2 hx hb hown (hw _ zw_3_27) zd_F_fireBehind_44 ?_
      refine zl_asx _ 86400 (by decide) ?_
      refine zi_lrem hx hb zd_F_fireBehind_47 (by omega) ?_
      refine zi_l2i hx hb zd_F_fireBehind_48 ?_
      have hne49 := pOk_ne hok ((hg27.2.2 (by omega)).2)
      obtain ⟨r49, h49⟩ := sSF_ex (al 0) (al 1) (al 2) (x := (tm + 1) % 86400) (by omega)
      have hg49 := sSF_rg (by omega) h49
      refine zk_V (As := [.int (iI ((tm + 1) % 86400))]) (b := pq) (own := "CronFinder") (nL := 8) (rest := []) hx hb hml hown hw (c_P_secondFrom l g pq ra aa al (en ru) sub od bits ((tm + 1) % 86400) r49 (by omega) h49 hne49.1 hne49.2.1) zw_3_101 zw_3_102 zw_3_103 zw_1_2 zw_3_104 (np := 1) (by decide +kernel) rfl (by decide) zN_mv hK trivial (hP.sub (ws' := [(pq, .inr (3, [.ref (ra 0), .ref (ra 1), .ref (ra 2), .ref (ra 3), .ref (ra 4), .ref (ra 5), .ref (ra 6), .ref (en ru), .int (iI (sub)), .int (iI (od)), .int (zbits (bits))])), (ra 0, .inr (2, [.int (iI (0)), .int (iI (59)), .ref (aa 0)])), (aa 0, .inl (g.2 1, 60, .inl (zaB (al 0)))), (ra 1, .inr (2, [.int (iI (0)), .int (iI (59)), .ref (aa 1)])), (aa 1, .inl (g.2 1, 60, .inl (zaB (al 1)))), (ra 2, .inr (2, [.int (iI (0)), .int (iI (23)), .ref (aa 2)])), (aa 2, .inl (g.2 1, 24, .inl (zaB (al 2))))]) [1, 2, 3, 4, 5, 6, 7] rfl) (va_recv hK hP (ci := 3) (q0 := 1) rfl rfl) hl.1 rfl (Nat.le_of_ble_eq_true rfl) (by decide) zd_F_fireBehind_49 ?_
      refine lv_istore (lv' := [(7, .int (iI (r49))), (6, .int (iI (r27))), (5, .int (iI ((tm + 1) / 86400))), (3, .long (lI (tm + 1))), (0, .ref (fq)), (1, .long (lI (tm)))]) hx hb zd_F_fireBehind_52 hl (by decide) rfl (fun ls hl => ?_)
      refine lv_iload hx hb zd_F_fireBehind_54 (lv_at hl 0 rfl) ?_
      refine zi_iconst hx hb zd_F_fireBehind_56 ?_
      refine zi_icmp_eq (tgt := 69) hx hb zd_F_fireBehind_57 (by decide) (by omega) (fun c57 => ?_) (fun c57 => ?_)
      · refine lv_aload_n hx hb zd_F_fireBehind_69 rfl (lv_at hl 4 rfl) ?_
        refine lv_iload hx hb zd_F_fireBehind_70 (lv_at hl 2 rfl) ?_
        refine zi_iconst hx hb zd_F_fireBehind_72 ?_
        refine zi_iadd hx hb zd_F_fireBehind_73 ?_
        obtain ⟨r74, h74⟩ := fFD_ex (fFit (pDays al bits ru sub od) hol) (x := ((tm + 1) / 86400) + 1) (by omega)
        have hg74 := fFD_rg (by omega) h74
        refine zk_V (As := [.int (iI (((tm + 1) / 86400) + 1))]) (b := fq) (own := "CronFinder") (nL := 8) (rest := []) hx hb hml hown hw (c_F_firingDayFrom l g fq tp tl sq br hq ha h cnt hol hR pq ra aa al sub od bits t en tw hs ru hru (((tm + 1) / 86400) + 1) r74 (by omega) h74) zw_3_28 zw_3_30 zw_0_17 zw_1_1 zw_3_31 (np := 1) (by decide +kernel) rfl (by decide) (zS3_mv t en tw _) hK hT (hP.sub (ws' := [(fq, .inr (0, [.ref (tp), .int (iI (tl)), .ref (pq), .ref (sq), .int (iI (br)), .ref (hq)])), (pq, .inr (3, [.ref (ra 0), .ref (ra 1), .ref (ra 2), .ref (ra 3), .ref (ra 4), .ref (ra 5), .ref (ra 6), .ref (en ru), .int (iI (sub)), .int (iI (od)), .int (zbits (bits))])), (ra 0, .inr (2, [.int (iI (0)), .int (iI (59)), .ref (aa 0)])), (aa 0, .inl (g.2 1, 60, .inl (zaB (al 0)))), (ra 1, .inr (2, [.int (iI (0)), .int (iI (59)), .ref (aa 1)])), (aa 1, .inl (g.2 1, 60, .inl (zaB (al 1)))), (ra 2, .inr (2, [.int (iI (0)), .int (iI (23)), .ref (aa 2)])), (aa 2, .inl (g.2 1, 24, .inl (zaB (al 2)))), (ra 3, .inr (2, [.int (iI (1)), .int (iI (31)), .ref (aa 3)])), (aa 3, .inl (g.2 1, 31, .inl (zaB (al 3)))), (ra 4, .inr (2, [.int (iI (1)), .int (iI (12)), .ref (aa 4)])), (aa 4, .inl (g.2 1, 12, .inl (zaB (al 4)))), (ra 5, .inr (2, [.int (iI (1)), .int (iI (7)), .ref (aa 5)])), (aa 5, .inl (g.2 1, 7, .inl (zaB (al 5)))), (ra 6, .inr (2, [.int (iI (1970)), .int (iI (2299)), .ref (aa 6)])), (aa 6, .inl (g.2 1, 330, .inl (zaB (al 6)))), (hq, .inr (1, [.ref (ha), .int (iI (cnt))])), (ha, .inl (g.2 0, 200, .inl (zaI h)))]) [0, 1, 2, 3, 4, 5, 6, 7, 8, 9, 10, 11, 12, 13, 14, 15, 16, 17] rfl) (va_recv hK hP (ci := 0) (q0 := 0) rfl rfl) hl.1 rfl (Nat.le_of_ble_eq_true rfl) (by decide) zd_F_fireBehind_74 ?_
        refine lv_istore (lv' := [(6, .int (iI (r74))), (7, .int (iI (r49))), (5, .int (iI ((tm + 1) / 86400))), (3, .long (lI (tm + 1))), (0, .ref (fq)), (1, .long (lI (tm)))]) hx hb zd_F_fireBehind_77 hl (by decide) rfl (fun ls hl => ?_)
        refine lv_iload hx hb zd_F_fireBehind_79 (lv_at hl 0 rfl) ?_
        refine zi_iconst hx hb zd_F_fireBehind_81 ?_
        refine zi_icmp_ne (tgt := 91) hx hb zd_F_fireBehind_82 (by decide) (by omega) (fun c82 => ?_) (fun c82 => ?_)
        · refine lv_aload_n hx hb zd_F_fireBehind_91 rfl (lv_at hl 4 rfl) ?_
          refine lv_iload hx hb zd_F_fireBehind_92 (lv_at hl 0 rfl) ?_
          refine lv_aload_n hx hb zd_F_fireBehind_94 rfl (lv_at hl 4 rfl) ?_
          refine va_get (D := g.1) (ci := 0) (v := .ref (pq)) (C := zR_F) (T := zT_F) (N := 6) hx hb hw zin_F hown hK hP 0 rfl rfl 2 (by decide) (hw _ zw_1_108) (fun _ h9 => h9) rfl zd_F_fireBehind_95 ?_
          refine zi_iconst hx hb zd_F_fireBehind_98 ?_
          have hne99 := pOk_ne hok ((hg74.2.2 (by omega)).2)
          obtain ⟨r99, h99⟩ := sSF_ex (al 0) (al 1) (al 2) (x := 0) (by omega)
          have hg99 := sSF_rg (by omega) h99
          refine zk_V (As := [.int (iI (0))]) (b := pq) (own := "CronFinder") (nL := 8) (rest := [.int (iI (r74)), .ref (fq)]) hx hb hml hown hw (c_P_secondFrom l g pq ra aa al (en ru) sub od bits (0) r99 (by omega) h99 hne99.1 hne99.2.1) zw_3_101 zw_3_102 zw_3_103 zw_1_2 zw_3_104 (np := 1) (by decide +kernel) rfl (by decide) zN_mv hK trivial (hP.sub (ws' := [(pq, .inr (3, [.ref (ra 0), .ref (ra 1), .ref (ra 2), .ref (ra 3), .ref (ra 4), .ref (ra 5), .ref (ra 6), .ref (en ru), .int (iI (sub)), .int (iI (od)), .int (zbits (bits))])), (ra 0, .inr (2, [.int (iI (0)), .int (iI (59)), .ref (aa 0)])), (aa 0, .inl (g.2 1, 60, .inl (zaB (al 0)))), (ra 1, .inr (2, [.int (iI (0)), .int (iI (59)), .ref (aa 1)])), (aa 1, .inl (g.2 1, 60, .inl (zaB (al 1)))), (ra 2, .inr (2, [.int (iI (0)), .int (iI (23)), .ref (aa 2)])), (aa 2, .inl (g.2 1, 24, .inl (zaB (al 2))))]) [1, 2, 3, 4, 5, 6, 7] rfl) (va_recv hK hP (ci := 3) (q0 := 1) rfl rfl) hl.1 rfl (Nat.le_of_ble_eq_true rfl) (by decide) zd_F_fireBehind_99 ?_
          refine zk_V (As := [.int (iI (r74)), .int (iI (r99))]) (b := fq) (own := "CronFinder") (nL := 8) (rest := []) hx hb hml hown hw (c_F_timeOf l g fq (r74) (r99) (by omega)) zw_3_113 zw_3_115 zw_0_25 zw_1_1 zw_3_116 (np := 2) (by decide +kernel) rfl (by decide) zN_mv hK trivial (hP.sub (ws' := []) [] rfl) (va_recv hK hP (ci := 0) (q0 := 0) rfl rfl) hl.1 rfl (Nat.le_of_ble_eq_true rfl) (by decide) zd_F_fireBehind_102 ?_
          refine zl_as (rr) (by first | exact tNF_un (tNF_b ⟨hx0.1, c4⟩ (tA_G hx0.1 (by rw [← c57]; exact h49)) h74 c82 h99 (sSF_so hne99 h99)) hj hx0.1 | exact tNF_un (tNF_c hx0.1 (tA_G hx0.1 (by rw [← c57]; exact h49)) (by rw [← c82]; exact h74)) hj hx0.1) ?_
          exact zs_lret hx hb hr hlk zd_F_fireBehind_105
        · refine lv_ldc2 hx hb hown (hw _ zw_3_26) zd_F_fireBehind_85 ?_
          refine zl_asx _ (-1) (by decide) ?_
          refine lv_goto (tgt := 105) hx hb zd_F_fireBehind_88 (by decide) ?_
          refine zl_as (rr) (by first | exact tNF_un (tNF_b ⟨hx0.1, c4⟩ (tA_G hx0.1 (by rw [← c57]; exact h49)) h74 c82 h99 (sSF_so hne99 h99)) hj hx0.1 | exact tNF_un (tNF_c hx0.1 (tA_G hx0.1 (by rw [← c57]; exact h49)) (by rw [← c82]; exact h74)) hj hx0.1) ?_
          exact zs_lret hx hb hr hlk zd_F_fireBehind_105
      · refine lv_aload_n hx hb zd_F_fireBehind_60 rfl (lv_at hl 4 rfl) ?_
        refine lv_iload hx hb zd_F_fireBehind_61 (lv_at hl 1 rfl) ?_
        refine lv_iload hx hb zd_F_fireBehind_63 (lv_at hl 0 rfl) ?_
        refine zk_V (As := [.int (iI (r27)), .int (iI (r49))]) (b := fq) (own := "CronFinder") (nL := 8) (rest := []) hx hb hml hown hw (c_F_timeOf l g fq (r27) (r49) (by omega)) zw_3_113 zw_3_115 zw_0_25 zw_1_1 zw_3_116 (np := 2) (by decide +kernel) rfl (by decide) zN_mv hK trivial (hP.sub (ws' := []) [] rfl) (va_recv hK hP (ci := 0) (q0 := 0) rfl rfl) hl.1 rfl (Nat.le_of_ble_eq_true rfl) (by decide) zd_F_fireBehind_65 ?_
        refine zl_as (rr) (tNF_un (by have e := tNF_a (F := (fFit (pDays al bits ru sub od) hol)) ⟨hx0.1, c4⟩ (by rw [← c36]; exact (hg27.2.2 (by omega)).2) h49 c57; rw [← c36] at e; exact e) hj hx0.1) ?_
        exact zs_lret hx hb hr hlk zd_F_fireBehind_68
  · refine lv_ldc2 hx hb hown (hw _ zw_3_26) zd_F_fireBehind_8 ?_
    refine zl_asx _ (-1) (by decide) ?_
    refine zl_as (rr) (tNF_un (tNF_end c4) hj hx0.1) ?_
    exact zs_lret hx hb hr hlk zd_F_fireBehind_11
set_option maxHeartbeats 4000000 in
set_option maxRecDepth 100000 in
theorem c_F_fireNotBehind (l : Launch) (g : zGl) (fq tp : Nat) (tl : Int) (sq : Nat) (br : Int) (hq ha : Nat) (h : Nat → Int) (cnt : Int) (hol : Int → Bool) (hR : dsR h cnt hol) (pq : Nat) (ra aa : Nat → Nat) (al : Nat → Nat → Bool) (sub od : Int) (bits : Nat → Bool) (t : Nat) (en : Nat → Nat) (tw : Nat) (hs : 0 ≤ sub ∧ sub ≤ 31 ∧ 0 ≤ od ∧ od ≤ 5) (ru : Nat) (hru : ru < 7 ∧ (ru = 3 → 1 ≤ sub)) (hok : pOk al (pDays al bits ru sub od)) (tm rr : Int) (hx0 : 0 ≤ tm ∧ tm ≤ 10413791999) (hj : tNB (fFit (pDays al bits ru sub od) hol) (sOk (al 0) (al 1) (al 2)) tm rr) : zSi l zy_F_fireNotBehind zc_F_fireNotBehind 6 (some .long) ({ frames := 5, cells := 0, slots := 0, locals := 113 }) g (zS3 t en tw (fun _ => False)) [.ref (fq), .long (lI (tm))] [(fq, .inr (0, [.ref (tp), .int (iI (tl)), .ref (pq), .ref (sq), .int (iI (br)), .ref (hq)])), (pq, .inr (3, [.ref (ra 0), .ref (ra 1), .ref (ra 2), .ref (ra 3), .ref (ra 4), .ref (ra 5), .ref (ra 6), .ref (en ru), .int (iI (sub)), .int (iI (od)), .int (zbits (bits))])), (ra 0, .inr (2, [.int (iI (0)), .int (iI (59)), .ref (aa 0)])), (aa 0, .inl (g.2 1, 60, .inl (zaB (al 0)))), (ra 1, .inr (2, [.int (iI (0)), .int (iI (59)), .ref (aa 1)])), (aa 1, .inl (g.2 1, 60, .inl (zaB (al 1)))), (ra 2, .inr (2, [.int (iI (0)), .int (iI (23)), .ref (aa 2)])), (aa 2, .inl (g.2 1, 24, .inl (zaB (al 2)))), (ra 3, .inr (2, [.int (iI (1)), .int (iI (31)), .ref (aa 3)])), (aa 3, .inl (g.2 1, 31, .inl (zaB (al 3)))), (ra 4, .inr (2, [.int (iI (1)), .int (iI (12)), .ref (aa 4)])), (aa 4, .inl (g.2 1, 12, .inl (zaB (al 4)))), (ra 5, .inr (2, [.int (iI (1)), .int (iI (7)), .ref (aa 5)])), (aa 5, .inl (g.2 1, 7, .inl (zaB (al 5)))), (ra 6, .inr (2, [.int (iI (1970)), .int (iI (2299)), .ref (aa 6)])), (aa 6, .inl (g.2 1, 330, .inl (zaB (al 6)))), (hq, .inr (1, [.ref (ha), .int (iI (cnt))])), (ha, .inl (g.2 0, 200, .inl (zaI h)))] (some (.long (lI (rr)))) := by
  refine zs_open (by decide +kernel) (Nat.le_of_ble_eq_true rfl) ?_
  intro p e s m below meth c ls hx hb hml hr hlk hown hw hK hT hP hl
  have hown : s.vm.findClass "CronFinder" = some m.cls := hown
  have hl : lv_has ls 6 [(0, .ref (fq)), (1, .long (lI (tm)))] := hl
  refine lv_lload_n hx hb zd_F_fireNotBehind_0 rfl (lv_at hl 1 rfl) ?_
  refine lv_ldc2 hx hb hown (hw _ zw_3_27) zd_F_fireNotBehind_1 ?_
  refine zl_asx _ 86400 (by decide) ?_
  refine zi_ldiv hx hb zd_F_fireNotBehind_4 (by omega) ?_
  refine zi_l2i hx hb zd_F_fireNotBehind_5 ?_
  refine lv_istore_n (lv' := [(3, .int (iI (tm / 86400))), (0, .ref (fq)), (1, .long (lI (tm)))]) hx hb zd_F_fireNotBehind_6 rfl hl (by decide) rfl (fun ls hl => ?_)
  refine lv_aload_n hx hb zd_F_fireNotBehind_7 rfl (lv_at hl 1 rfl) ?_
  refine lv_iload_n hx hb zd_F_fireNotBehind_8 rfl (lv_at hl 0 rfl) ?_
  obtain ⟨r9, h9⟩ := fFB_ex (fFit (pDays al bits ru sub od) hol) (tm / 86400)
  have hg9 := fFB_rg h9 (by omega)
  refine zk_V (As := [.int (iI (tm / 86400))]) (b := fq) (own := "CronFinder") (nL := 6) (rest := []) hx hb hml hown hw (c_F_firingDayBackFrom l g fq tp tl sq br hq ha h cnt hol hR pq ra aa al sub od bits t en tw hs ru hru (tm / 86400) r9 (by omega) h9) zw_3_128 zw_3_130 zw_0_27 zw_1_1 zw_3_131 (np := 1) (by decide +kernel) rfl (by decide) (zS3_mv t en tw _) hK hT (hP.sub (ws' := [(fq, .inr (0, [.ref (tp), .int (iI (tl)), .ref (pq), .ref (sq), .int (iI (br)), .ref (hq)])), (pq, .inr (3, [.ref (ra 0), .ref (ra 1), .ref (ra 2), .ref (ra 3), .ref (ra 4), .ref (ra 5), .ref (ra 6), .ref (en ru), .int (iI (sub)), .int (iI (od)), .int (zbits (bits))])), (ra 0, .inr (2, [.int (iI (0)), .int (iI (59)), .ref (aa 0)])), (aa 0, .inl (g.2 1, 60, .inl (zaB (al 0)))), (ra 1, .inr (2, [.int (iI (0)), .int (iI (59)), .ref (aa 1)])), (aa 1, .inl (g.2 1, 60, .inl (zaB (al 1)))), (ra 2, .inr (2, [.int (iI (0)), .int (iI (23)), .ref (aa 2)])), (aa 2, .inl (g.2 1, 24, .inl (zaB (al 2)))), (ra 3, .inr (2, [.int (iI (1)), .int (iI (31)), .ref (aa 3)])), (aa 3, .inl (g.2 1, 31, .inl (zaB (al 3)))), (ra 4, .inr (2, [.int (iI (1)), .int (iI (12)), .ref (aa 4)])), (aa 4, .inl (g.2 1, 12, .inl (zaB (al 4)))), (ra 5, .inr (2, [.int (iI (1)), .int (iI (7)), .ref (aa 5)])), (aa 5, .inl (g.2 1, 7, .inl (zaB (al 5)))), (ra 6, .inr (2, [.int (iI (1970)), .int (iI (2299)), .ref (aa 6)])), (aa 6, .inl (g.2 1, 330, .inl (zaB (al 6)))), (hq, .inr (1, [.ref (ha), .int (iI (cnt))])), (ha, .inl (g.2 0, 200, .inl (zaI h)))]) [0, 1, 2, 3, 4, 5, 6, 7, 8, 9, 10, 11, 12, 13, 14, 15, 16, 17] rfl) (va_recv hK hP (ci := 0) (q0 := 0) rfl rfl) hl.1 rfl (Nat.le_of_ble_eq_true rfl) (by decide) zd_F_fireNotBehind_9 ?_
  refine lv_istore (lv' := [(4, .int (iI (r9))), (3, .int (iI (tm / 86400))), (0, .ref (fq)), (1, .long (lI (tm)))]) hx hb zd_F_fireNotBehind_12 hl (by decide) rfl (fun ls hl => ?_)
  refine lv_iload hx hb zd_F_fireNotBehind_14 (lv_at hl 0 rfl) ?_
  refine lv_iload_n hx hb zd_F_fireNotBehind_16 rfl (lv_at hl 1 rfl) ?_
  refine zi_icmp_ne (tgt := 59) hx hb zd_F_fireNotBehind_17 (by decide) (by omega) (fun c17 => ?_) (fun c17 => ?_)
  · refine lv_iload hx hb zd_F_fireNotBehind_59 (lv_at hl 0 rfl) ?_
    refine zi_iconst hx hb zd_F_fireNotBehind_61 ?_
    refine zi_icmp_ne (tgt := 71) hx hb zd_F_fireNotBehind_62 (by decide) (by omega) (fun c62 => ?_) (fun c62 => ?_)
    · refine lv_aload_n hx hb zd_F_fireNotBehind_71 rfl (lv_at hl 2 rfl) ?_
      refine lv_iload hx hb zd_F_fireNotBehind_72 (lv_at hl 0 rfl) ?_
      refine lv_aload_n hx hb zd_F_fireNotBehind_74 rfl (lv_at hl 2 rfl) ?_
      refine va_get (D := g.1) (ci := 0) (v := .ref (pq)) (C := zR_F) (T := zT_F) (N := 6) hx hb hw zin_F hown hK hP 0 rfl rfl 2 (by decide) (hw _ zw_1_108) (fun _ h9 => h9) rfl zd_F_fireNotBehind_75 ?_
      refine lv_ldc hx hb hown (hw _ zw_3_142) zd_F_fireNotBehind_78 ?_
      refine zi_asx _ 86399 (by decide) ?_
      have hne80 := pOk_ne hok ((hg9.2.2 (by omega)).2)
      obtain ⟨r80, h80⟩ := sSB_ex (al 0) (al 1) (al 2) (86399)
      have hg80 := sSB_rg (by omega) h80
      refine zk_V (As := [.int (iI (86399))]) (b := pq) (own := "CronFinder") (nL := 6) (rest := [.int (iI (r9)), .ref (fq)]) hx hb hml hown hw (c_P_secondBackFrom l g pq ra aa al (en ru) sub od bits (86399) r80 (by omega) h80 hne80.1 hne80.2.1) zw_3_133 zw_3_134 zw_3_135 zw_1_2 zw_3_136 (np := 1) (by decide +kernel) rfl (by decide) zN_mv hK trivial (hP.sub (ws' := [(pq, .inr (3, [.ref (ra 0), .ref (ra 1), .ref (ra 2), .ref (ra 3), .ref (ra 4), .ref (ra 5), .ref (ra 6), .ref (en ru), .int (iI (sub)), .int (iI (od)), .int (zbits (bits))])), (ra 0, .inr (2, [.int (iI (0)), .int (iI (59)), .ref (aa 0)])), (aa 0, .inl (g.2 1, 60, .inl (zaB (al 0)))), (ra 1, .inr (2, [.int (iI (0)), .int (iI (59)), .ref (aa 1)])), (aa 1, .inl (g.2 1, 60, .inl (zaB (al 1)))), (ra 2, .inr (2, [.int (iI (0)), .int (iI (23)), .ref (aa 2)])), (aa 2, .inl (g.2 1, 24, .inl (zaB (al 2))))]) [1, 2, 3, 4, 5, 6, 7] rfl) (va_recv hK hP (ci := 3) (q0 := 1) rfl rfl) hl.1 rfl (Nat.le_of_ble_eq_true rfl) (by decide) zd_F_fireNotBehind_80 ?_
      refine zk_V (As := [.int (iI (r9)), .int (iI (r80))]) (b := fq) (own := "CronFinder") (nL := 6) (rest := []) hx hb hml hown hw (c_F_timeOf l g fq (r9) (r80) (by omega)) zw_3_113 zw_3_115 zw_0_25 zw_1_1 zw_3_116 (np := 2) (by decide +kernel) rfl (by decide) zN_mv hK trivial (hP.sub (ws' := []) [] rfl) (va_recv hK hP (ci := 0) (q0 := 0) rfl rfl) hl.1 rfl (Nat.le_of_ble_eq_true rfl) (by decide) zd_F_fireNotBehind_83 ?_
      refine zl_as (rr) (by first | exact tNB_un (tNB_b hx0.1 (tB_F (fFB_dn h9 c17 (by omega)).2) (fFB_dn h9 c17 (by omega)).1 c62 h80 (sSB_so hne80 h80)) hj | exact tNB_un (tNB_c hx0.1 (tB_F (fFB_dn h9 c17 (by omega)).2) (by rw [← c62]; exact (fFB_dn h9 c17 (by omega)).1)) hj) ?_
      exact zs_lret hx hb hr hlk zd_F_fireNotBehind_86
    · refine lv_ldc2 hx hb hown (hw _ zw_3_26) zd_F_fireNotBehind_65 ?_
      refine zl_asx _ (-1) (by decide) ?_
      refine lv_goto (tgt := 86) hx hb zd_F_fireNotBehind_68 (by decide) ?_
      refine zl_as (rr) (by first | exact tNB_un (tNB_b hx0.1 (tB_F (fFB_dn h9 c17 (by omega)).2) (fFB_dn h9 c17 (by omega)).1 c62 h80 (sSB_so hne80 h80)) hj | exact tNB_un (tNB_c hx0.1 (tB_F (fFB_dn h9 c17 (by omega)).2) (by rw [← c62]; exact (fFB_dn h9 c17 (by omega)).1)) hj) ?_
      exact zs_lret hx hb hr hlk zd_F_fireNotBehind_86
  · refine lv_aload_n hx hb zd_F_fireNotBehind_20 rfl (lv_at hl 2 rfl) ?_
    refine va_get (D := g.1) (ci := 0) (v := .ref (pq)) (C := zR_F) (T := zT_F) (N := 6) hx hb hw zin_F hown hK hP 0 rfl rfl 2 (by decide) (hw _ zw_1_108) (fun _ h9 => h9) rfl zd_F_fireNotBehind_21 ?_
    refine lv_lload_n hx hb zd_F_fireNotBehind_24 rfl (lv_at hl 3 rfl) ?_
    refine lv_ldc2 hx hb hown (hw _ zw_3_27) zd_F_fireNotBehind_25 ?_
    refine zl_asx _ 86400 (by decide) ?_
    refine zi_lrem hx hb zd_F_fireNotBehind_28 (by omega) ?_
    refine zi_l2i hx hb zd_F_fireNotBehind_29 ?_
    have hne30 := pOk_ne hok ((hg9.2.2 (by omega)).2)
    obtain ⟨r30, h30⟩ := sSB_ex (al 0) (al 1) (al 2) (tm % 86400)
    have hg30 := sSB_rg (by omega) h30
    refine zk_V (As := [.int (iI (tm % 86400))]) (b := pq) (own := "CronFinder") (nL := 6) (rest := []) hx hb hml hown hw (c_P_secondBackFrom l g pq ra aa al (en ru) sub od bits (tm % 86400) r30 (by omega) h30 hne30.1 hne30.2.1) zw_3_133 zw_3_134 zw_3_135 zw_1_2 zw_3_136 (np := 1) (by decide +kernel) rfl (by decide) zN_mv hK trivial (hP.sub (ws' := [(pq, .inr (3, [.ref (ra 0), .ref (ra 1), .ref (ra 2), .ref (ra 3), .ref (ra 4), .ref (ra 5), .ref (ra 6), .ref (en ru), .int (iI (sub)), .int (iI (od)), .int (zbits (bits))])), (ra 0, .inr (2, [.int (iI (0)), .int (iI (59)), .ref (aa 0)])), (aa 0, .inl (g.2 1, 60, .inl (zaB (al 0)))), (ra 1, .inr (2, [.int (iI (0)), .int (iI (59)), .ref (aa 1)])), (aa 1, .inl (g.2 1, 60, .inl (zaB (al 1)))), (ra 2, .inr (2, [.int (iI (0)), .int (iI (23)), .ref (aa 2)])), (aa 2, .inl (g.2 1, 24, .inl (zaB (al 2))))]) [1, 2, 3, 4, 5, 6, 7] rfl) (va_recv hK hP (ci := 3) (q0 := 1) rfl rfl) hl.1 rfl (Nat.le_of_ble_eq_true rfl) (by decide) zd_F_fireNotBehind_30 ?_
    refine lv_istore (lv' := [(5, .int (iI (r30))), (4, .int (iI (r9))), (3, .int (iI (tm / 86400))), (0, .ref (fq)), (1, .long (lI (tm)))]) hx hb zd_F_fireNotBehind_33 hl (by decide) rfl (fun ls hl => ?_)
    refine lv_iload hx hb zd_F_fireNotBehind_35 (lv_at hl 0 rfl) ?_
    refine zi_iconst hx hb zd_F_fireNotBehind_37 ?_
    refine zi_icmp_eq (tgt := 50) hx hb zd_F_fireNotBehind_38 (by decide) (by omega) (fun c38 => ?_) (fun c38 => ?_)
    · refine lv_aload_n hx hb zd_F_fireNotBehind_50 rfl (lv_at hl 3 rfl) ?_
      refine lv_iload_n hx hb zd_F_fireNotBehind_51 rfl (lv_at hl 2 rfl) ?_
      refine zi_iconst hx hb zd_F_fireNotBehind_52 ?_
      refine zi_isub hx hb zd_F_fireNotBehind_53 ?_
      obtain ⟨r54, h54⟩ := fFB_ex (fFit (pDays al bits ru sub od) hol) ((tm / 86400) - 1)
      have hg54 := fFB_rg h54 (by omega)
      refine zk_V (As := [.int (iI ((tm / 86400) - 1))]) (b := fq) (own := "CronFinder") (nL := 6) (rest := []) hx hb hml hown hw (c_F_firingDayBackFrom l g fq tp tl sq br hq ha h cnt hol hR pq ra aa al sub od bits t en tw hs ru hru ((tm / 86400) - 1) r54 (by omega) h54) zw_3_128 zw_3_130 zw_0_27 zw_1_1 zw_3_131 (np := 1) (by decide +kernel) rfl (by decide) (zS3_mv t en tw _) hK hT (hP.sub (ws' := [(fq, .inr (0, [.ref (tp), .int (iI (tl)), .ref (pq), .ref (sq), .int (iI (br)), .ref (hq)])), (pq, .inr (3, [.ref (ra 0), .ref (ra 1), .ref (ra 2), .ref (ra 3), .ref (ra 4), .ref (ra 5), .ref (ra 6), .ref (en ru), .int (iI (sub)), .int (iI (od)), .int (zbits (bits))])), (ra 0, .inr (2, [.int (iI (0)), .int (iI (59)), .ref (aa 0)])), (aa 0, .inl (g.2 1, 60, .inl (zaB (al 0)))), (ra 1, .inr (2, [.int (iI (0)), .int (iI (59)), .ref (aa 1)])), (aa 1, .inl (g.2 1, 60, .inl (zaB (al 1)))), (ra 2, .inr (2, [.int (iI (0)), .int (iI (23)), .ref (aa 2)])), (aa 2, .inl (g.2 1, 24, .inl (zaB (al 2)))), (ra 3, .inr (2, [.int (iI (1)), .int (iI (31)), .ref (aa 3)])), (aa 3, .inl (g.2 1, 31, .inl (zaB (al 3)))), (ra 4, .inr (2, [.int (iI (1)), .int (iI (12)), .ref (aa 4)])), (aa 4, .inl (g.2 1, 12, .inl (zaB (al 4)))), (ra 5, .inr (2, [.int (iI (1)), .int (iI (7)), .ref (aa 5)])), (aa 5, .inl (g.2 1, 7, .inl (zaB (al 5)))), (ra 6, .inr (2, [.int (iI (1970)), .int (iI (2299)), .ref (aa 6)])), (aa 6, .inl (g.2 1, 330, .inl (zaB (al 6)))), (hq, .inr (1, [.ref (ha), .int (iI (cnt))])), (ha, .inl (g.2 0, 200, .inl (zaI h)))]) [0, 1, 2, 3, 4, 5, 6, 7, 8, 9, 10, 11, 12, 13, 14, 15, 16, 17] rfl) (va_recv hK hP (ci := 0) (q0 := 0) rfl rfl) hl.1 rfl (Nat.le_of_ble_eq_true rfl) (by decide) zd_F_fireNotBehind_54 ?_
      refine lv_istore (lv' := [(4, .int (iI (r54))), (5, .int (iI (r30))), (3, .int (iI (tm / 86400))), (0, .ref (fq)), (1, .long (lI (tm)))]) hx hb zd_F_fireNotBehind_57 hl (by decide) rfl (fun ls hl => ?_)
      refine lv_iload hx hb zd_F_fireNotBehind_59 (lv_at hl 0 rfl) ?_
      refine zi_iconst hx hb zd_F_fireNotBehind_61 ?_
      refine zi_icmp_ne (tgt := 71) hx hb zd_F_fireNotBehind_62 (by decide) (by omega) (fun c62 => ?_) (fun c62 => ?_)
      · refine lv_aload_n hx hb zd_F_fireNotBehind_71 rfl (lv_at hl 3 rfl) ?_
        refine lv_iload hx hb zd_F_fireNotBehind_72 (lv_at hl 0 rfl) ?_
        refine lv_aload_n hx hb zd_F_fireNotBehind_74 rfl (lv_at hl 3 rfl) ?_
        refine va_get (D := g.1) (ci := 0) (v := .ref (pq)) (C := zR_F) (T := zT_F) (N := 6) hx hb hw zin_F hown hK hP 0 rfl rfl 2 (by decide) (hw _ zw_1_108) (fun _ h9 => h9) rfl zd_F_fireNotBehind_75 ?_
        refine lv_ldc hx hb hown (hw _ zw_3_142) zd_F_fireNotBehind_78 ?_
        refine zi_asx _ 86399 (by decide) ?_
        have hne80 := pOk_ne hok ((hg54.2.2 (by omega)).2)
        obtain ⟨r80, h80⟩ := sSB_ex (al 0) (al 1) (al 2) (86399)
        have hg80 := sSB_rg (by omega) h80
        refine zk_V (As := [.int (iI (86399))]) (b := pq) (own := "CronFinder") (nL := 6) (rest := [.int (iI (r54)), .ref (fq)]) hx hb hml hown hw (c_P_secondBackFrom l g pq ra aa al (en ru) sub od bits (86399) r80 (by omega) h80 hne80.1 hne80.2.1) zw_3_133 zw_3_134 zw_3_135 zw_1_2 zw_3_136 (np := 1) (by decide +kernel) rfl (by decide) zN_mv hK trivial (hP.sub (ws' := [(pq, .inr (3, [.ref (ra 0), .ref (ra 1), .ref (ra 2), .ref (ra 3), .ref (ra 4), .ref (ra 5), .ref (ra 6), .ref (en ru), .int (iI (sub)), .int (iI (od)), .int (zbits (bits))])), (ra 0, .inr (2, [.int (iI (0)), .int (iI (59)), .ref (aa 0)])), (aa 0, .inl (g.2 1, 60, .inl (zaB (al 0)))), (ra 1, .inr (2, [.int (iI (0)), .int (iI (59)), .ref (aa 1)])), (aa 1, .inl (g.2 1, 60, .inl (zaB (al 1)))), (ra 2, .inr (2, [.int (iI (0)), .int (iI (23)), .ref (aa 2)])), (aa 2, .inl (g.2 1, 24, .inl (zaB (al 2))))]) [1, 2, 3, 4, 5, 6, 7] rfl) (va_recv hK hP (ci := 3) (q0 := 1) rfl rfl) hl.1 rfl (Nat.le_of_ble_eq_true rfl) (by decide) zd_F_fireNotBehind_80 ?_
        refine zk_V (As := [.int (iI (r54)), .int (iI (r80))]) (b := fq) (own := "CronFinder") (nL := 6) (rest := []) hx hb hml hown hw (c_F_timeOf l g fq (r54) (r80) (by omega)) zw_3_113 zw_3_115 zw_0_25 zw_1_1 zw_3_116 (np := 2) (by decide +kernel) rfl (by decide) zN_mv hK trivial (hP.sub (ws' := []) [] rfl) (va_recv hK hP (ci := 0) (q0 := 0) rfl rfl) hl.1 rfl (Nat.le_of_ble_eq_true rfl) (by decide) zd_F_fireNotBehind_83 ?_
        refine zl_as (rr) (by first | exact tNB_un (tNB_b hx0.1 (tB_G hx0.1 (by rw [← c38]; exact h30)) h54 c62 h80 (sSB_so hne80 h80)) hj | exact tNB_un (tNB_c hx0.1 (tB_G hx0.1 (by rw [← c38]; exact h30)) (by rw [← c62]; exact h54)) hj) ?_
        exact zs_lret hx hb hr hlk zd_F_fireNotBehind_86
      · refine lv_ldc2 hx hb hown (hw _ zw_3_26) zd_F_fireNotBehind_65 ?_
        refine zl_asx _ (-1) (by decide) ?_
        refine lv_goto (tgt := 86) hx hb zd_F_fireNotBehind_68 (by decide) ?_
        refine zl_as (rr) (by first | exact tNB_un (tNB_b hx0.1 (tB_G hx0.1 (by rw [← c38]; exact h30)) h54 c62 h80 (sSB_so hne80 h80)) hj | exact tNB_un (tNB_c hx0.1 (tB_G hx0.1 (by rw [← c38]; exact h30)) (by rw [← c62]; exact h54)) hj) ?_
        exact zs_lret hx hb hr hlk zd_F_fireNotBehind_86
    · refine lv_aload_n hx hb zd_F_fireNotBehind_41 rfl (lv_at hl 3 rfl) ?_
      refine lv_iload hx hb zd_F_fireNotBehind_42 (lv_at hl 1 rfl) ?_
      refine lv_iload hx hb zd_F_fireNotBehind_44 (lv_at hl 0 rfl) ?_
      refine zk_V (As := [.int (iI (r9)), .int (iI (r30))]) (b := fq) (own := "CronFinder") (nL := 6) (rest := []) hx hb hml hown hw (c_F_timeOf l g fq (r9) (r30) (by omega)) zw_3_113 zw_3_115 zw_0_25 zw_1_1 zw_3_116 (np := 2) (by decide +kernel) rfl (by decide) zN_mv hK trivial (hP.sub (ws' := []) [] rfl) (va_recv hK hP (ci := 0) (q0 := 0) rfl rfl) hl.1 rfl (Nat.le_of_ble_eq_true rfl) (by decide) zd_F_fireNotBehind_46 ?_
      refine zl_as (rr) (tNB_un (by have e := tNB_a (F := (fFit (pDays al bits ru sub od) hol)) hx0.1 (by rw [← c17]; exact (hg9.2.2 (by omega)).2) h30 c38; rw [← c17] at e; exact e) hj) ?_
      exact zs_lret hx hb hr hlk zd_F_fireNotBehind_49
