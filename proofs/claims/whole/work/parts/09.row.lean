/-! Row -/
theorem zd_O_first_0 : decode zc_O_first 0 = .ok (.aload_n 0, 1) := by decide +kernel
theorem zd_O_first_1 : decode zc_O_first 1 = .ok (.getfield 9, 3) := by decide +kernel
theorem zd_O_first_4 : decode zc_O_first 4 = .ok (.ireturn, 1) := by decide +kernel
theorem zd_O_highest_0 : decode zc_O_highest 0 = .ok (.aload_n 0, 1) := by decide +kernel
theorem zd_O_highest_1 : decode zc_O_highest 1 = .ok (.getfield 15, 3) := by decide +kernel
theorem zd_O_highest_4 : decode zc_O_highest 4 = .ok (.ireturn, 1) := by decide +kernel
theorem zd_O_clear_0 : decode zc_O_clear 0 = .ok (.iconst 0, 1) := by decide +kernel
theorem zd_O_clear_1 : decode zc_O_clear 1 = .ok (.istore_n 1, 1) := by decide +kernel
theorem zd_O_clear_2 : decode zc_O_clear 2 = .ok (.iload_n 1, 1) := by decide +kernel
theorem zd_O_clear_3 : decode zc_O_clear 3 = .ok (.aload_n 0, 1) := by decide +kernel
theorem zd_O_clear_4 : decode zc_O_clear 4 = .ok (.getfield 18, 3) := by decide +kernel
theorem zd_O_clear_7 : decode zc_O_clear 7 = .ok (.arraylength, 1) := by decide +kernel
theorem zd_O_clear_8 : decode zc_O_clear 8 = .ok (.if_icmp .ge 16, 3) := by decide +kernel
theorem zd_O_clear_11 : decode zc_O_clear 11 = .ok (.aload_n 0, 1) := by decide +kernel
theorem zd_O_clear_12 : decode zc_O_clear 12 = .ok (.getfield 18, 3) := by decide +kernel
theorem zd_O_clear_15 : decode zc_O_clear 15 = .ok (.iload_n 1, 1) := by decide +kernel
theorem zd_O_clear_16 : decode zc_O_clear 16 = .ok (.iconst 0, 1) := by decide +kernel
theorem zd_O_clear_17 : decode zc_O_clear 17 = .ok (.bastore, 1) := by decide +kernel
theorem zd_O_clear_18 : decode zc_O_clear 18 = .ok (.iinc 1 1, 3) := by decide +kernel
theorem zd_O_clear_21 : decode zc_O_clear 21 = .ok (.goto (-19), 3) := by decide +kernel
theorem zd_O_clear_24 : decode zc_O_clear 24 = .ok (.return_, 1) := by decide +kernel
theorem zd_O_allowAll_0 : decode zc_O_allowAll 0 = .ok (.aload_n 0, 1) := by decide +kernel
theorem zd_O_allowAll_1 : decode zc_O_allowAll 1 = .ok (.aload_n 0, 1) := by decide +kernel
theorem zd_O_allowAll_2 : decode zc_O_allowAll 2 = .ok (.getfield 9, 3) := by decide +kernel
theorem zd_O_allowAll_5 : decode zc_O_allowAll 5 = .ok (.aload_n 0, 1) := by decide +kernel
theorem zd_O_allowAll_6 : decode zc_O_allowAll 6 = .ok (.getfield 15, 3) := by decide +kernel
theorem zd_O_allowAll_9 : decode zc_O_allowAll 9 = .ok (.iconst 1, 1) := by decide +kernel
theorem zd_O_allowAll_10 : decode zc_O_allowAll 10 = .ok (.invokevirtual 22, 3) := by decide +kernel
theorem zd_O_allowAll_13 : decode zc_O_allowAll 13 = .ok (.return_, 1) := by decide +kernel
theorem zd_O_allow_0 : decode zc_O_allow 0 = .ok (.aload_n 0, 1) := by decide +kernel
theorem zd_O_allow_1 : decode zc_O_allow 1 = .ok (.getfield 18, 3) := by decide +kernel
theorem zd_O_allow_4 : decode zc_O_allow 4 = .ok (.arraylength, 1) := by decide +kernel
theorem zd_O_allow_5 : decode zc_O_allow 5 = .ok (.istore 4, 2) := by decide +kernel
theorem zd_O_allow_7 : decode zc_O_allow 7 = .ok (.iload_n 2, 1) := by decide +kernel
theorem zd_O_allow_8 : decode zc_O_allow 8 = .ok (.iload_n 1, 1) := by decide +kernel
theorem zd_O_allow_9 : decode zc_O_allow 9 = .ok (.isub, 1) := by decide +kernel
theorem zd_O_allow_10 : decode zc_O_allow 10 = .ok (.iload 4, 2) := by decide +kernel
theorem zd_O_allow_12 : decode zc_O_allow 12 = .ok (.invokestatic 26, 3) := by decide +kernel
theorem zd_O_allow_15 : decode zc_O_allow 15 = .ok (.iconst 1, 1) := by decide +kernel
theorem zd_O_allow_16 : decode zc_O_allow 16 = .ok (.iadd, 1) := by decide +kernel
theorem zd_O_allow_17 : decode zc_O_allow 17 = .ok (.istore 5, 2) := by decide +kernel
theorem zd_O_allow_19 : decode zc_O_allow 19 = .ok (.iload_n 1, 1) := by decide +kernel
theorem zd_O_allow_20 : decode zc_O_allow 20 = .ok (.aload_n 0, 1) := by decide +kernel
theorem zd_O_allow_21 : decode zc_O_allow 21 = .ok (.getfield 9, 3) := by decide +kernel
theorem zd_O_allow_24 : decode zc_O_allow 24 = .ok (.isub, 1) := by decide +kernel
theorem zd_O_allow_25 : decode zc_O_allow 25 = .ok (.istore 6, 2) := by decide +kernel
theorem zd_O_allow_27 : decode zc_O_allow 27 = .ok (.iconst 0, 1) := by decide +kernel
theorem zd_O_allow_28 : decode zc_O_allow 28 = .ok (.istore 7, 2) := by decide +kernel
theorem zd_O_allow_30 : decode zc_O_allow 30 = .ok (.iload 7, 2) := by decide +kernel
theorem zd_O_allow_32 : decode zc_O_allow 32 = .ok (.iload 5, 2) := by decide +kernel
theorem zd_O_allow_34 : decode zc_O_allow 34 = .ok (.if_icmp .ge 32, 3) := by decide +kernel
theorem zd_O_allow_37 : decode zc_O_allow 37 = .ok (.aload_n 0, 1) := by decide +kernel
theorem zd_O_allow_38 : decode zc_O_allow 38 = .ok (.getfield 18, 3) := by decide +kernel
theorem zd_O_allow_41 : decode zc_O_allow 41 = .ok (.iload 6, 2) := by decide +kernel
theorem zd_O_allow_43 : decode zc_O_allow 43 = .ok (.iload 7, 2) := by decide +kernel
theorem zd_O_allow_45 : decode zc_O_allow 45 = .ok (.iadd, 1) := by decide +kernel
theorem zd_O_allow_46 : decode zc_O_allow 46 = .ok (.iload 4, 2) := by decide +kernel
theorem zd_O_allow_48 : decode zc_O_allow 48 = .ok (.invokestatic 26, 3) := by decide +kernel
theorem zd_O_allow_51 : decode zc_O_allow 51 = .ok (.iconst 1, 1) := by decide +kernel
theorem zd_O_allow_52 : decode zc_O_allow 52 = .ok (.bastore, 1) := by decide +kernel
theorem zd_O_allow_53 : decode zc_O_allow 53 = .ok (.iload 7, 2) := by decide +kernel
theorem zd_O_allow_55 : decode zc_O_allow 55 = .ok (.iload_n 3, 1) := by decide +kernel
theorem zd_O_allow_56 : decode zc_O_allow 56 = .ok (.iconst 1, 1) := by decide +kernel
theorem zd_O_allow_57 : decode zc_O_allow 57 = .ok (.invokestatic 32, 3) := by decide +kernel
theorem zd_O_allow_60 : decode zc_O_allow 60 = .ok (.iadd, 1) := by decide +kernel
theorem zd_O_allow_61 : decode zc_O_allow 61 = .ok (.istore 7, 2) := by decide +kernel
theorem zd_O_allow_63 : decode zc_O_allow 63 = .ok (.goto (-33), 3) := by decide +kernel
theorem zd_O_allow_66 : decode zc_O_allow 66 = .ok (.return_, 1) := by decide +kernel
theorem zd_O_has_0 : decode zc_O_has 0 = .ok (.iload_n 1, 1) := by decide +kernel
theorem zd_O_has_1 : decode zc_O_has 1 = .ok (.aload_n 0, 1) := by decide +kernel
theorem zd_O_has_2 : decode zc_O_has 2 = .ok (.getfield 9, 3) := by decide +kernel
theorem zd_O_has_5 : decode zc_O_has 5 = .ok (.if_icmp .lt 29, 3) := by decide +kernel
theorem zd_O_has_8 : decode zc_O_has 8 = .ok (.iload_n 1, 1) := by decide +kernel
theorem zd_O_has_9 : decode zc_O_has 9 = .ok (.aload_n 0, 1) := by decide +kernel
theorem zd_O_has_10 : decode zc_O_has 10 = .ok (.getfield 15, 3) := by decide +kernel
theorem zd_O_has_13 : decode zc_O_has 13 = .ok (.if_icmp .gt 21, 3) := by decide +kernel
theorem zd_O_has_16 : decode zc_O_has 16 = .ok (.aload_n 0, 1) := by decide +kernel
theorem zd_O_has_17 : decode zc_O_has 17 = .ok (.getfield 18, 3) := by decide +kernel
theorem zd_O_has_20 : decode zc_O_has 20 = .ok (.iload_n 1, 1) := by decide +kernel
theorem zd_O_has_21 : decode zc_O_has 21 = .ok (.aload_n 0, 1) := by decide +kernel
theorem zd_O_has_22 : decode zc_O_has 22 = .ok (.getfield 9, 3) := by decide +kernel
theorem zd_O_has_25 : decode zc_O_has 25 = .ok (.isub, 1) := by decide +kernel
theorem zd_O_has_26 : decode zc_O_has 26 = .ok (.baload, 1) := by decide +kernel
theorem zd_O_has_27 : decode zc_O_has 27 = .ok (.ifCond .eq 7, 3) := by decide +kernel
theorem zd_O_has_30 : decode zc_O_has 30 = .ok (.iconst 1, 1) := by decide +kernel
theorem zd_O_has_31 : decode zc_O_has 31 = .ok (.goto 4, 3) := by decide +kernel
theorem zd_O_has_34 : decode zc_O_has 34 = .ok (.iconst 0, 1) := by decide +kernel
theorem zd_O_has_35 : decode zc_O_has 35 = .ok (.ireturn, 1) := by decide +kernel
theorem zd_O_from_0 : decode zc_O_from 0 = .ok (.iload_n 1, 1) := by decide +kernel
theorem zd_O_from_1 : decode zc_O_from 1 = .ok (.aload_n 0, 1) := by decide +kernel
theorem zd_O_from_2 : decode zc_O_from 2 = .ok (.getfield 9, 3) := by decide +kernel
theorem zd_O_from_5 : decode zc_O_from 5 = .ok (.invokestatic 32, 3) := by decide +kernel
theorem zd_O_from_8 : decode zc_O_from 8 = .ok (.istore_n 2, 1) := by decide +kernel
theorem zd_O_from_9 : decode zc_O_from 9 = .ok (.iload_n 2, 1) := by decide +kernel
theorem zd_O_from_10 : decode zc_O_from 10 = .ok (.aload_n 0, 1) := by decide +kernel
theorem zd_O_from_11 : decode zc_O_from 11 = .ok (.getfield 15, 3) := by decide +kernel
theorem zd_O_from_14 : decode zc_O_from 14 = .ok (.if_icmp .gt 25, 3) := by decide +kernel
theorem zd_O_from_17 : decode zc_O_from 17 = .ok (.aload_n 0, 1) := by decide +kernel
theorem zd_O_from_18 : decode zc_O_from 18 = .ok (.getfield 18, 3) := by decide +kernel
theorem zd_O_from_21 : decode zc_O_from 21 = .ok (.iload_n 2, 1) := by decide +kernel
theorem zd_O_from_22 : decode zc_O_from 22 = .ok (.aload_n 0, 1) := by decide +kernel
theorem zd_O_from_23 : decode zc_O_from 23 = .ok (.getfield 9, 3) := by decide +kernel
theorem zd_O_from_26 : decode zc_O_from 26 = .ok (.isub, 1) := by decide +kernel
theorem zd_O_from_27 : decode zc_O_from 27 = .ok (.baload, 1) := by decide +kernel
theorem zd_O_from_28 : decode zc_O_from 28 = .ok (.ifCond .eq 5, 3) := by decide +kernel
theorem zd_O_from_31 : decode zc_O_from 31 = .ok (.iload_n 2, 1) := by decide +kernel
theorem zd_O_from_32 : decode zc_O_from 32 = .ok (.ireturn, 1) := by decide +kernel
theorem zd_O_from_33 : decode zc_O_from 33 = .ok (.iinc 2 1, 3) := by decide +kernel
theorem zd_O_from_36 : decode zc_O_from 36 = .ok (.goto (-27), 3) := by decide +kernel
theorem zd_O_from_39 : decode zc_O_from 39 = .ok (.iconst (-1), 1) := by decide +kernel
theorem zd_O_from_40 : decode zc_O_from 40 = .ok (.ireturn, 1) := by decide +kernel
theorem zd_O_backFrom_0 : decode zc_O_backFrom 0 = .ok (.iload_n 1, 1) := by decide +kernel
theorem zd_O_backFrom_1 : decode zc_O_backFrom 1 = .ok (.aload_n 0, 1) := by decide +kernel
theorem zd_O_backFrom_2 : decode zc_O_backFrom 2 = .ok (.getfield 15, 3) := by decide +kernel
theorem zd_O_backFrom_5 : decode zc_O_backFrom 5 = .ok (.invokestatic 35, 3) := by decide +kernel
theorem zd_O_backFrom_8 : decode zc_O_backFrom 8 = .ok (.istore_n 2, 1) := by decide +kernel
theorem zd_O_backFrom_9 : decode zc_O_backFrom 9 = .ok (.iload_n 2, 1) := by decide +kernel
theorem zd_O_backFrom_10 : decode zc_O_backFrom 10 = .ok (.aload_n 0, 1) := by decide +kernel
theorem zd_O_backFrom_11 : decode zc_O_backFrom 11 = .ok (.getfield 9, 3) := by decide +kernel
theorem zd_O_backFrom_14 : decode zc_O_backFrom 14 = .ok (.if_icmp .lt 25, 3) := by decide +kernel
theorem zd_O_backFrom_17 : decode zc_O_backFrom 17 = .ok (.aload_n 0, 1) := by decide +kernel
theorem zd_O_backFrom_18 : decode zc_O_backFrom 18 = .ok (.getfield 18, 3) := by decide +kernel
theorem zd_O_backFrom_21 : decode zc_O_backFrom 21 = .ok (.iload_n 2, 1) := by decide +kernel
theorem zd_O_backFrom_22 : decode zc_O_backFrom 22 = .ok (.aload_n 0, 1) := by decide +kernel
theorem zd_O_backFrom_23 : decode zc_O_backFrom 23 = .ok (.getfield 9, 3) := by decide +kernel
theorem zd_O_backFrom_26 : decode zc_O_backFrom 26 = .ok (.isub, 1) := by decide +kernel
theorem zd_O_backFrom_27 : decode zc_O_backFrom 27 = .ok (.baload, 1) := by decide +kernel
theorem zd_O_backFrom_28 : decode zc_O_backFrom 28 = .ok (.ifCond .eq 5, 3) := by decide +kernel
theorem zd_O_backFrom_31 : decode zc_O_backFrom 31 = .ok (.iload_n 2, 1) := by decide +kernel
theorem zd_O_backFrom_32 : decode zc_O_backFrom 32 = .ok (.ireturn, 1) := by decide +kernel
theorem zd_O_backFrom_33 : decode zc_O_backFrom 33 = .ok (.iinc 2 (-1), 3) := by decide +kernel
theorem zd_O_backFrom_36 : decode zc_O_backFrom 36 = .ok (.goto (-27), 3) := by decide +kernel
theorem zd_O_backFrom_39 : decode zc_O_backFrom 39 = .ok (.iconst (-1), 1) := by decide +kernel
theorem zd_O_backFrom_40 : decode zc_O_backFrom 40 = .ok (.ireturn, 1) := by decide +kernel
theorem zB_ext {D : va_G} {cl : List vw_C} {ws : va_W} {H : Heap} {a n k : Nat} {cA : ClassId} {f f' : Nat → Bool} (h : va_P D cl ws H) (he : ws[k]? = some (a, .inl (cA, n, .inl (zaB f)))) (hf : ∀ j, j < n → f j = f' j) : va_P D cl (ws.set k (a, .inl (cA, n, .inl (zaB f')))) H := by
  have e : vp_cell cA (n, .inl (zaB f)) = vp_cell cA (n, .inl (zaB f')) := by
    rw [vp_cell_i, vp_cell_i]
    unfold arrV
    congr 1
    congr 1
    funext j
    simp only [zaB, hf j.val j.isLt]
  intro i q hq
  by_cases hi : i = k
  · subst hi
    have hlt : i < ws.length := (List.getElem?_eq_some_iff.mp he).1
    rw [List.getElem?_set_self hlt] at hq
    cases hq
    show H[a]? = some (vp_cell _ _)
    rw [← e]
    exact h i _ he
  · rw [List.getElem?_set_ne (fun e => hi e.symm)] at hq
    exact h i q hq
theorem oCl_nx {ff : Nat → Bool} {k : Int} (h : ∀ j : Nat, (j : Int) < k → ff j = false) (hk : 0 ≤ k) : ∀ j : Nat, (j : Int) < k + 1 → zu ff k.toNat false j = false := by
  intro j hj
  by_cases q : j = k.toNat
  · rw [q]; exact zu_s _ _ _
  · rw [zu_n _ _ q]; exact h j (by omega)
def oHas (f : Nat → Bool) (lo hi x : Int) : Bool := decide (lo ≤ x) && (decide (x ≤ hi) && f (x - lo).toNat)
def oFr (f : Nat → Bool) (lo hi x r : Int) : Prop := (r = -1 ∧ ∀ k, max x lo ≤ k → k ≤ hi → f (k - lo).toNat = false) ∨ (max x lo ≤ r ∧ r ≤ hi ∧ f (r - lo).toNat = true ∧ ∀ k, max x lo ≤ k → k < r → f (k - lo).toNat = false)
def oBk (f : Nat → Bool) (lo hi x r : Int) : Prop := (r = -1 ∧ ∀ k, lo ≤ k → k ≤ min x hi → f (k - lo).toNat = false) ∨ (lo ≤ r ∧ r ≤ min x hi ∧ f (r - lo).toNat = true ∧ ∀ k, r < k → k ≤ min x hi → f (k - lo).toNat = false)
theorem oFr_end {f : Nat → Bool} {lo hi x r k : Int} (h : oFr f lo hi x r) (hk : ∀ j, max x lo ≤ j → j < k → f (j - lo).toNat = false) (h1 : hi < k) : -1 = r := by
  rcases h with ⟨h2, -⟩ | ⟨h2, h3, h4, -⟩
  · exact h2.symm
  · rw [hk r h2 (by omega)] at h4; cases h4
theorem oFr_hit {f : Nat → Bool} {lo hi x r k : Int} (h : oFr f lo hi x r) (hk : ∀ j, max x lo ≤ j → j < k → f (j - lo).toNat = false) (h0 : max x lo ≤ k) (h1 : k ≤ hi) (h2 : f (k - lo).toNat = true) : k = r := by
  rcases h with ⟨-, h3⟩ | ⟨h3, h4, h5, h6⟩
  · rw [h3 k h0 h1] at h2; cases h2
  · by_cases q : k < r
    · rw [h6 k h0 q] at h2; cases h2
    · by_cases q2 : r < k
      · rw [hk r h3 q2] at h5; cases h5
      · omega
theorem oFr_nx {f : Nat → Bool} {lo x k : Int} (hk : ∀ j, max x lo ≤ j → j < k → f (j - lo).toNat = false) (h : f (k - lo).toNat = false) : ∀ j, max x lo ≤ j → j < k + 1 → f (j - lo).toNat = false := by
  intro j h1 h2
  by_cases q : j = k
  · rw [q]; exact h
  · exact hk j h1 (by omega)
theorem oBk_end {f : Nat → Bool} {lo hi x r k : Int} (h : oBk f lo hi x r) (hk : ∀ j, k < j → j ≤ min x hi → f (j - lo).toNat = false) (h1 : k < lo) : -1 = r := by
  rcases h with ⟨h2, -⟩ | ⟨h2, h3, h4, -⟩
  · exact h2.symm
  · rw [hk r (by omega) h3] at h4; cases h4
theorem oBk_hit {f : Nat → Bool} {lo hi x r k : Int} (h : oBk f lo hi x r) (hk : ∀ j, k < j → j ≤ min x hi → f (j - lo).toNat = false) (h0 : k ≤ min x hi) (h1 : lo ≤ k) (h2 : f (k - lo).toNat = true) : k = r := by
  rcases h with ⟨-, h3⟩ | ⟨h3, h4, h5, h6⟩
  · rw [h3 k h1 h0] at h2; cases h2
  · by_cases q : r < k
    · rw [h6 k q h0] at h2; cases h2
    · by_cases q2 : k < r
      · rw [hk r q2 h4] at h5; cases h5
      · omega
theorem oBk_nx {f : Nat → Bool} {lo hi x k : Int} (hk : ∀ j, k < j → j ≤ min x hi → f (j - lo).toNat = false) (h : f (k - lo).toNat = false) : ∀ j, k + -1 < j → j ≤ min x hi → f (j - lo).toNat = false := by
  intro j h1 h2
  by_cases q : j = k
  · rw [q]; exact h
  · exact hk j (by omega) h2
/-- the loop of 'allow': from k on, q turns at most -/
def oAl (n st cnt step : Int) : Nat → Int → (Nat → Bool) → (Nat → Bool)
  | 0, _, f => f
  | q + 1, k, f => if k < cnt then oAl n st cnt step q (k + step) (zu f ((st + k) % n).toNat true) else f
theorem oAl_s {n st cnt step : Int} {q : Nat} {k : Int} {f : Nat → Bool} (h : k < cnt) : oAl n st cnt step (q + 1) k f = oAl n st cnt step q (k + step) (zu f ((st + k) % n).toNat true) := by
  rw [oAl, if_pos h]
theorem oAl_e {n st cnt step : Int} {q : Nat} {k : Int} {f : Nat → Bool} (h : cnt ≤ k) : oAl n st cnt step (q + 1) k f = f := by
  rw [oAl, if_neg (by omega)]
set_option maxHeartbeats 4000000 in
set_option maxRecDepth 100000 in
theorem c_O_first (l : Launch) (g : zGl) (r a : Nat) (lo hi : Int) (nn : Nat) (f : Nat → Bool) (hn : (nn : Int) = hi - lo + 1 ∧ 0 ≤ lo ∧ lo ≤ hi ∧ hi < 10000) : zSi l zy_O_first zc_O_first 1 (some .int) ({ frames := 0, cells := 0, slots := 0, locals := 0 }) g zN [.ref (r)] [(r, .inr (2, [.int (iI (lo)), .int (iI (hi)), .ref (a)])), (a, .inl (g.2 1, nn, .inl (zaB f)))] (some (.int (iI (lo)))) := by
  refine zs_open (by decide +kernel) (Nat.le_of_ble_eq_true rfl) ?_
  intro p e s m below meth c ls hx hb hml hr hlk hown hw hK hT hP hl
  have hown : s.vm.findClass "CronFinder$Row" = some m.cls := hown
  have hl : lv_has ls 1 [(0, .ref (r))] := hl
  refine lv_aload_n hx hb zd_O_first_0 rfl (lv_at hl 0 rfl) ?_
  refine va_get (D := g.1) (ci := 2) (v := .int (iI (lo))) (C := zR_O) (T := zT_O) (N := 3) hx hb hw zin_O hown hK hP 0 rfl rfl 0 (by decide) (hw _ zw_1_44) (fun _ h9 => h9) rfl zd_O_first_1 ?_
  refine zi_as (lo) (rfl) ?_
  exact zs_iret hx hb hr hlk zd_O_first_4
set_option maxHeartbeats 4000000 in
set_option maxRecDepth 100000 in
theorem c_O_highest (l : Launch) (g : zGl) (r a : Nat) (lo hi : Int) (nn : Nat) (f : Nat → Bool) (hn : (nn : Int) = hi - lo + 1 ∧ 0 ≤ lo ∧ lo ≤ hi ∧ hi < 10000) : zSi l zy_O_highest zc_O_highest 1 (some .int) ({ frames := 0, cells := 0, slots := 0, locals := 0 }) g zN [.ref (r)] [(r, .inr (2, [.int (iI (lo)), .int (iI (hi)), .ref (a)])), (a, .inl (g.2 1, nn, .inl (zaB f)))] (some (.int (iI (hi)))) := by
  refine zs_open (by decide +kernel) (Nat.le_of_ble_eq_true rfl) ?_
  intro p e s m below meth c ls hx hb hml hr hlk hown hw hK hT hP hl
  have hown : s.vm.findClass "CronFinder$Row" = some m.cls := hown
  have hl : lv_has ls 1 [(0, .ref (r))] := hl
  refine lv_aload_n hx hb zd_O_highest_0 rfl (lv_at hl 0 rfl) ?_
  refine va_get (D := g.1) (ci := 2) (v := .int (iI (hi))) (C := zR_O) (T := zT_O) (N := 3) hx hb hw zin_O hown hK hP 0 rfl rfl 1 (by decide) (hw _ zw_1_45) (fun _ h9 => h9) rfl zd_O_highest_1 ?_
  refine zi_as (hi) (rfl) ?_
  exact zs_iret hx hb hr hlk zd_O_highest_4
set_option maxHeartbeats 4000000 in
set_option maxRecDepth 100000 in
theorem c_O_has (l : Launch) (g : zGl) (r a : Nat) (lo hi : Int) (nn : Nat) (f : Nat → Bool) (hn : (nn : Int) = hi - lo + 1 ∧ 0 ≤ lo ∧ lo ≤ hi ∧ hi < 10000) (x : Int) (hx0 : -2147483648 ≤ x ∧ x < 2147483648) : zSi l zy_O_has zc_O_has 2 (some .boolean) ({ frames := 0, cells := 0, slots := 0, locals := 0 }) g zN [.ref (r), .int (iI (x))] [(r, .inr (2, [.int (iI (lo)), .int (iI (hi)), .ref (a)])), (a, .inl (g.2 1, nn, .inl (zaB f)))] (some (.int (iI (bI (oHas f lo hi x))))) := by
  refine zs_open (by decide +kernel) (Nat.le_of_ble_eq_true rfl) ?_
  intro p e s m below meth c ls hx hb hml hr hlk hown hw hK hT hP hl
  have hown : s.vm.findClass "CronFinder$Row" = some m.cls := hown
  have hl : lv_has ls 2 [(0, .ref (r)), (1, .int (iI (x)))] := hl
  refine lv_iload_n hx hb zd_O_has_0 rfl (lv_at hl 1 rfl) ?_
  refine lv_aload_n hx hb zd_O_has_1 rfl (lv_at hl 0 rfl) ?_
  refine va_get (D := g.1) (ci := 2) (v := .int (iI (lo))) (C := zR_O) (T := zT_O) (N := 3) hx hb hw zin_O hown hK hP 0 rfl rfl 0 (by decide) (hw _ zw_1_44) (fun _ h9 => h9) rfl zd_O_has_2 ?_
  refine zi_icmp_lt (tgt := 34) hx hb zd_O_has_5 (by decide) (by omega) (fun c5 => ?_) (fun c5 => ?_)
  · refine zi_iconst hx hb zd_O_has_34 ?_
    refine zb_as (x := oHas f lo hi x) (by unfold oHas; first | (rw [decide_eq_true (by omega : lo ≤ x), decide_eq_true (by omega : x ≤ hi), c27]; rfl) | (rw [decide_eq_false (by omega : ¬ lo ≤ x)]; rfl) | (rw [decide_eq_false (by omega : ¬ x ≤ hi), Bool.false_and, Bool.and_false]; rfl)) ?_
    exact zs_zret hx hb hr hlk zd_O_has_35
  · refine lv_iload_n hx hb zd_O_has_8 rfl (lv_at hl 1 rfl) ?_
    refine lv_aload_n hx hb zd_O_has_9 rfl (lv_at hl 0 rfl) ?_
    refine va_get (D := g.1) (ci := 2) (v := .int (iI (hi))) (C := zR_O) (T := zT_O) (N := 3) hx hb hw zin_O hown hK hP 0 rfl rfl 1 (by decide) (hw _ zw_1_45) (fun _ h9 => h9) rfl zd_O_has_10 ?_
    refine zi_icmp_gt (tgt := 34) hx hb zd_O_has_13 (by decide) (by omega) (fun c13 => ?_) (fun c13 => ?_)
    · refine zi_iconst hx hb zd_O_has_34 ?_
      refine zb_as (x := oHas f lo hi x) (by unfold oHas; first | (rw [decide_eq_true (by omega : lo ≤ x), decide_eq_true (by omega : x ≤ hi), c27]; rfl) | (rw [decide_eq_false (by omega : ¬ lo ≤ x)]; rfl) | (rw [decide_eq_false (by omega : ¬ x ≤ hi), Bool.false_and, Bool.and_false]; rfl)) ?_
      exact zs_zret hx hb hr hlk zd_O_has_35
    · refine lv_aload_n hx hb zd_O_has_16 rfl (lv_at hl 0 rfl) ?_
      refine va_get (D := g.1) (ci := 2) (v := .ref (a)) (C := zR_O) (T := zT_O) (N := 3) hx hb hw zin_O hown hK hP 0 rfl rfl 2 (by decide) (hw _ zw_1_46) (fun _ h9 => h9) rfl zd_O_has_17 ?_
      refine lv_iload_n hx hb zd_O_has_20 rfl (lv_at hl 1 rfl) ?_
      refine lv_aload_n hx hb zd_O_has_21 rfl (lv_at hl 0 rfl) ?_
      refine va_get (D := g.1) (ci := 2) (v := .int (iI (lo))) (C := zR_O) (T := zT_O) (N := 3) hx hb hw zin_O hown hK hP 0 rfl rfl 0 (by decide) (hw _ zw_1_44) (fun _ h9 => h9) rfl zd_O_has_22 ?_
      refine zi_isub hx hb zd_O_has_25 ?_
      refine zi_zald hx hb hK hP 1 1 rfl rfl (by omega) zd_O_has_26 ?_
      refine zb_if_eq (tgt := 34) hx hb zd_O_has_27 (by decide) (fun c27 => ?_) (fun c27 => ?_)
      · refine zi_iconst hx hb zd_O_has_34 ?_
        refine zb_as (x := oHas f lo hi x) (by unfold oHas; first | (rw [decide_eq_true (by omega : lo ≤ x), decide_eq_true (by omega : x ≤ hi), c27]; rfl) | (rw [decide_eq_false (by omega : ¬ lo ≤ x)]; rfl) | (rw [decide_eq_false (by omega : ¬ x ≤ hi), Bool.false_and, Bool.and_false]; rfl)) ?_
        exact zs_zret hx hb hr hlk zd_O_has_35
      · refine zi_iconst hx hb zd_O_has_30 ?_
        refine lv_goto (tgt := 35) hx hb zd_O_has_31 (by decide) ?_
        refine zb_as (x := oHas f lo hi x) (by unfold oHas; first | (rw [decide_eq_true (by omega : lo ≤ x), decide_eq_true (by omega : x ≤ hi), c27]; rfl) | (rw [decide_eq_false (by omega : ¬ lo ≤ x)]; rfl) | (rw [decide_eq_false (by omega : ¬ x ≤ hi), Bool.false_and, Bool.and_false]; rfl)) ?_
        exact zs_zret hx hb hr hlk zd_O_has_35
set_option maxHeartbeats 4000000 in
set_option maxRecDepth 100000 in
theorem c_O_from (l : Launch) (g : zGl) (r a : Nat) (lo hi : Int) (nn : Nat) (f : Nat → Bool) (hn : (nn : Int) = hi - lo + 1 ∧ 0 ≤ lo ∧ lo ≤ hi ∧ hi < 10000) (x rr : Int) (hx0 : -2147483648 ≤ x ∧ x < 10000) (hq : oFr f lo hi x rr) : zSi l zy_O_from zc_O_from 3 (some .int) ({ frames := 1, cells := 0, slots := 0, locals := 21 }) g zN [.ref (r), .int (iI (x))] [(r, .inr (2, [.int (iI (lo)), .int (iI (hi)), .ref (a)])), (a, .inl (g.2 1, nn, .inl (zaB f)))] (some (.int (iI (rr)))) := by
  refine zs_open (by decide +kernel) (Nat.le_of_ble_eq_true rfl) ?_
  intro p e s m below meth c ls hx hb hml hr hlk hown hw hK hT hP hl
  have hown : s.vm.findClass "CronFinder$Row" = some m.cls := hown
  have hl : lv_has ls 3 [(0, .ref (r)), (1, .int (iI (x)))] := hl
  refine lv_iload_n hx hb zd_O_from_0 rfl (lv_at hl 1 rfl) ?_
  refine lv_aload_n hx hb zd_O_from_1 rfl (lv_at hl 0 rfl) ?_
  refine va_get (D := g.1) (ci := 2) (v := .int (iI (lo))) (C := zR_O) (T := zT_O) (N := 3) hx hb hw zin_O hown hK hP 0 rfl rfl 0 (by decide) (hw _ zw_1_44) (fun _ h9 => h9) rfl zd_O_from_2 ?_
  refine zk_S (As := [.int (iI (x)), .int (iI (lo))]) (own := "CronFinder$Row") (nL := 3) (rest := []) hx hb hml hown hw (c_max l g (x) (lo) (by omega)) zw_2_58 zw_2_59 zw_1_14 zw_2_60 (np := 2) (by decide +kernel) rfl (by decide) zN_mv hK trivial (hP.sub (ws' := []) [] rfl) hl.1 rfl (Nat.le_of_ble_eq_true rfl) (by decide) zd_O_from_5 ?_
  refine lv_istore_n (lv' := [(2, .int (iI (max (x) (lo)))), (0, .ref (r)), (1, .int (iI (x)))]) hx hb zd_O_from_8 rfl hl (by decide) rfl (fun ls hl => ?_)
  have loop : ∀ (n : Nat) (k : Int) (ls : Array Slot), (max x lo ≤ k ∧ ∀ j, max x lo ≤ j → j < k → f (j - lo).toNat = false) → (k < 20000) → ((hi - k + 1).toNat < n) → lv_has ls 3 [(2, .int (iI (k))), (0, .ref (r)), (1, .int (iI (x)))] → W p l e ({ frames := 1, cells := 0, slots := 0, locals := 21 }) s m [.ref (r), .int (iI (x))].toArray below meth c s.heap [] 0 0 (MQ below (zSil (some (.int (iI (rr))))) [.ref (r), .int (iI (x))].toArray s 0 0 (fun _ => False)) (F0 m 9 ls []) := by
    intro n
    induction n with
    | zero =>
      intro k ls h1 h3 h2 hl
      exact absurd h2 (by omega)
    | succ n ih =>
      intro k ls h1 h3 h2 hl
      refine lv_iload_n hx hb zd_O_from_9 rfl (lv_at hl 0 rfl) ?_
      refine lv_aload_n hx hb zd_O_from_10 rfl (lv_at hl 1 rfl) ?_
      refine va_get (D := g.1) (ci := 2) (v := .int (iI (hi))) (C := zR_O) (T := zT_O) (N := 3) hx hb hw zin_O hown hK hP 0 rfl rfl 1 (by decide) (hw _ zw_1_45) (fun _ h9 => h9) rfl zd_O_from_11 ?_
      refine zi_icmp_gt (tgt := 39) hx hb zd_O_from_14 (by decide) (by omega) (fun c14 => ?_) (fun c14 => ?_)
      · refine zi_iconst hx hb zd_O_from_39 ?_
        refine zi_as (rr) (oFr_end hq h1.2 (by omega)) ?_
        exact zs_iret hx hb hr hlk zd_O_from_40
      · refine lv_aload_n hx hb zd_O_from_17 rfl (lv_at hl 1 rfl) ?_
        refine va_get (D := g.1) (ci := 2) (v := .ref (a)) (C := zR_O) (T := zT_O) (N := 3) hx hb hw zin_O hown hK hP 0 rfl rfl 2 (by decide) (hw _ zw_1_46) (fun _ h9 => h9) rfl zd_O_from_18 ?_
        refine lv_iload_n hx hb zd_O_from_21 rfl (lv_at hl 0 rfl) ?_
        refine lv_aload_n hx hb zd_O_from_22 rfl (lv_at hl 1 rfl) ?_
        refine va_get (D := g.1) (ci := 2) (v := .int (iI (lo))) (C := zR_O) (T := zT_O) (N := 3) hx hb hw zin_O hown hK hP 0 rfl rfl 0 (by decide) (hw _ zw_1_44) (fun _ h9 => h9) rfl zd_O_from_23 ?_
        refine zi_isub hx hb zd_O_from_26 ?_
        refine zi_zald hx hb hK hP 1 1 rfl rfl (by omega) zd_O_from_27 ?_
        refine zb_if_eq (tgt := 33) hx hb zd_O_from_28 (by decide) (fun c28 => ?_) (fun c28 => ?_)
        · refine lv_iinc (v := iI (k + 1)) (lv' := [(2, .int (iI (k + 1))), (0, .ref (r)), (1, .int (iI (x)))]) hx hb zd_O_from_33 hl (k := 0) rfl (iI_add _ _) (by decide) rfl (fun ls hl => ?_)
          refine lv_goto (tgt := 9) hx hb zd_O_from_36 (by decide) ?_
          exact ih (k + 1) ls ⟨by omega, oFr_nx h1.2 c28⟩ (by omega) (by omega) (lv_sub hl [0, 1, 2] rfl)
        · refine lv_iload_n hx hb zd_O_from_31 rfl (lv_at hl 0 rfl) ?_
          refine zi_as (rr) (oFr_hit hq h1.2 h1.1 (by omega) c28) ?_
          exact zs_iret hx hb hr hlk zd_O_from_32
  exact loop ((hi - max x lo + 1).toNat + 1) (max x lo) ls ⟨by omega, fun j q1 q2 => absurd q1 (by omega)⟩ (by omega) (by omega) (lv_sub hl [0, 1, 2] rfl)
set_option maxHeartbeats 4000000 in
set_option maxRecDepth 100000 in
theorem c_O_backFrom (l : Launch) (g : zGl) (r a : Nat) (lo hi : Int) (nn : Nat) (f : Nat → Bool) (hn : (nn : Int) = hi - lo + 1 ∧ 0 ≤ lo ∧ lo ≤ hi ∧ hi < 10000) (x rr : Int) (hx0 : -2147483648 ≤ x ∧ x < 10000) (hq : oBk f lo hi x rr) : zSi l zy_O_backFrom zc_O_backFrom 3 (some .int) ({ frames := 1, cells := 0, slots := 0, locals := 21 }) g zN [.ref (r), .int (iI (x))] [(r, .inr (2, [.int (iI (lo)), .int (iI (hi)), .ref (a)])), (a, .inl (g.2 1, nn, .inl (zaB f)))] (some (.int (iI (rr)))) := by
  refine zs_open (by decide +kernel) (Nat.le_of_ble_eq_true rfl) ?_
  intro p e s m below meth c ls hx hb hml hr hlk hown hw hK hT hP hl
  have hown : s.vm.findClass "CronFinder$Row" = some m.cls := hown
  have hl : lv_has ls 3 [(0, .ref (r)), (1, .int (iI (x)))] := hl
  refine lv_iload_n hx hb zd_O_backFrom_0 rfl (lv_at hl 1 rfl) ?_
  refine lv_aload_n hx hb zd_O_backFrom_1 rfl (lv_at hl 0 rfl) ?_
  refine va_get (D := g.1) (ci := 2) (v := .int (iI (hi))) (C := zR_O) (T := zT_O) (N := 3) hx hb hw zin_O hown hK hP 0 rfl rfl 1 (by decide) (hw _ zw_1_45) (fun _ h9 => h9) rfl zd_O_backFrom_2 ?_
  refine zk_S (As := [.int (iI (x)), .int (iI (hi))]) (own := "CronFinder$Row") (nL := 3) (rest := []) hx hb hml hown hw (c_min l g (x) (hi) (by omega)) zw_3_141 zw_2_91 zw_1_14 zw_2_92 (np := 2) (by decide +kernel) rfl (by decide) zN_mv hK trivial (hP.sub (ws' := []) [] rfl) hl.1 rfl (Nat.le_of_ble_eq_true rfl) (by decide) zd_O_backFrom_5 ?_
  refine lv_istore_n (lv' := [(2, .int (iI (min (x) (hi)))), (0, .ref (r)), (1, .int (iI (x)))]) hx hb zd_O_backFrom_8 rfl hl (by decide) rfl (fun ls hl => ?_)
  have loop : ∀ (n : Nat) (k : Int) (ls : Array Slot), (k ≤ min x hi ∧ ∀ j, k < j → j ≤ min x hi → f (j - lo).toNat = false) → (-2147483648 ≤ k) → ((k - lo + 1).toNat < n) → lv_has ls 3 [(2, .int (iI (k))), (0, .ref (r)), (1, .int (iI (x)))] → W p l e ({ frames := 1, cells := 0, slots := 0, locals := 21 }) s m [.ref (r), .int (iI (x))].toArray below meth c s.heap [] 0 0 (MQ below (zSil (some (.int (iI (rr))))) [.ref (r), .int (iI (x))].toArray s 0 0 (fun _ => False)) (F0 m 9 ls []) := by
    intro n
    induction n with
    | zero =>
      intro k ls h1 h3 h2 hl
      exact absurd h2 (by omega)
    | succ n ih =>
      intro k ls h1 h3 h2 hl
      refine lv_iload_n hx hb zd_O_backFrom_9 rfl (lv_at hl 0 rfl) ?_
      refine lv_aload_n hx hb zd_O_backFrom_10 rfl (lv_at hl 1 rfl) ?_
      refine va_get (D := g.1) (ci := 2) (v := .int (iI (lo))) (C := zR_O) (T := zT_O) (N := 3) hx hb hw zin_O hown hK hP 0 rfl rfl 0 (by decide) (hw _ zw_1_44) (fun _ h9 => h9) rfl zd_O_backFrom_11 ?_
      refine zi_icmp_lt (tgt := 39) hx hb zd_O_backFrom_14 (by decide) (by omega) (fun c14 => ?_) (fun c14 => ?_)
      · refine zi_iconst hx hb zd_O_backFrom_39 ?_
        refine zi_as (rr) (oBk_end hq h1.2 (by omega)) ?_
        exact zs_iret hx hb hr hlk zd_O_backFrom_40
      · refine lv_aload_n hx hb zd_O_backFrom_17 rfl (lv_at hl 1 rfl) ?_
        refine va_get (D := g.1) (ci := 2) (v := .ref (a)) (C := zR_O) (T := zT_O) (N := 3) hx hb hw zin_O hown hK hP 0 rfl rfl 2 (by decide) (hw _ zw_1_46) (fun _ h9 => h9) rfl zd_O_backFrom_18 ?_
        refine lv_iload_n hx hb zd_O_backFrom_21 rfl (lv_at hl 0 rfl) ?_
        refine lv_aload_n hx hb zd_O_backFrom_22 rfl (lv_at hl 1 rfl) ?_
        refine va_get (D := g.1) (ci := 2) (v := .int (iI (lo))) (C := zR_O) (T := zT_O) (N := 3) hx hb hw zin_O hown hK hP 0 rfl rfl 0 (by decide) (hw _ zw_1_44) (fun _ h9 => h9) rfl zd_O_backFrom_23 ?_
        refine zi_isub hx hb zd_O_backFrom_26 ?_
        refine zi_zald hx hb hK hP 1 1 rfl rfl (by omega) zd_O_backFrom_27 ?_
        refine zb_if_eq (tgt := 33) hx hb zd_O_backFrom_28 (by decide) (fun c28 => ?_) (fun c28 => ?_)
        · refine lv_iinc (v := iI (k + (-1))) (lv' := [(2, .int (iI (k + (-1)))), (0, .ref (r)), (1, .int (iI (x)))]) hx hb zd_O_backFrom_33 hl (k := 0) rfl (iI_add _ _) (by decide) rfl (fun ls hl => ?_)
          refine lv_goto (tgt := 9) hx hb zd_O_backFrom_36 (by decide) ?_
          exact ih (k + -1) ls ⟨by omega, oBk_nx h1.2 c28⟩ (by omega) (by omega) (lv_sub hl [0, 1, 2] rfl)
        · refine lv_iload_n hx hb zd_O_backFrom_31 rfl (lv_at hl 0 rfl) ?_
          refine zi_as (rr) (oBk_hit hq h1.2 h1.1 (by omega) c28) ?_
          exact zs_iret hx hb hr hlk zd_O_backFrom_32
  exact loop ((min x hi - lo + 1).toNat + 1) (min x hi) ls ⟨by omega, fun j q1 q2 => absurd q1 (by omega)⟩ (by omega) (by omega) (lv_sub hl [0, 1, 2] rfl)
set_option maxHeartbeats 4000000 in
set_option maxRecDepth 100000 in
theorem c_O_clear (l : Launch) (g : zGl) (r a : Nat) (lo hi : Int) (nn : Nat) (f : Nat → Bool) (hn : (nn : Int) = hi - lo + 1 ∧ 0 ≤ lo ∧ lo ≤ hi ∧ hi < 10000) : zWi l zy_O_clear zc_O_clear 2 none ({ frames := 0, cells := 0, slots := 0, locals := 0 }) g (fun _ => zN) [.ref (r)] [(r, .inr (2, [.int (iI (lo)), .int (iI (hi)), .ref (a)])), (a, .inl (g.2 1, nn, .inl (zaB f)))] (none) [(r, .inr (2, [.int (iI (lo)), .int (iI (hi)), .ref (a)])), (a, .inl (g.2 1, nn, .inl (zaB (fun _ => false))))] 0 0 := by
  refine zw_open (by decide +kernel) (Nat.le_of_ble_eq_true rfl) ?_
  intro p e s m below meth c ls A hx hb hml hr hlk hown hin hw hK hT hP hD hS hA hl
  have hown : s.vm.findClass "CronFinder$Row" = some m.cls := hown
  have hl : lv_has ls 2 [(0, .ref (r))] := hl
  refine zi_iconst hx hb zd_O_clear_0 ?_
  refine lv_istore_n (lv' := [(1, .int (iI (0))), (0, .ref (r))]) hx hb zd_O_clear_1 rfl hl (by decide) rfl (fun ls hl => ?_)
  have loop : ∀ (n : Nat) (k : Int) (ff : Nat → Bool) (H : Heap) (locs : List Loc) (ls : Array Slot), ((0 ≤ k ∧ k ≤ (nn : Int)) ∧ ∀ j : Nat, (j : Int) < k → ff j = false) → ((nn : Int) - k < (n : Int)) → va_P g.1 zCl [(r, .inr (2, [.int (iI (lo)), .int (iI (hi)), .ref (a)])), (a, .inl (g.2 1, nn, .inl (zaB ff)))] H → va_D A [(r, .inr (2, [.int (iI (lo)), .int (iI (hi)), .ref (a)])), (a, .inl (g.2 1, nn, .inl (zaB ff)))] → va_S A s.heap H locs → lv_has ls 2 [(1, .int (iI (k))), (0, .ref (r))] → W p l e ({ frames := 0, cells := 0, slots := 0, locals := 0 }) s m [.ref (r)].toArray below meth c H locs 0 0 (MQ below (zWr g.1 zCl (none) [(r, .inr (2, [.int (iI (lo)), .int (iI (hi)), .ref (a)])), (a, .inl (g.2 1, nn, .inl (zaB (fun _ => false))))] A) [.ref (r)].toArray s 0 0 A) (F0 m 2 ls []) := by
    intro n
    induction n with
    | zero =>
      intro k ff H locs ls h1 h2 hP hD hS hl
      exact absurd h2 (by omega)
    | succ n ih =>
      intro k ff H locs ls h1 h2 hP hD hS hl
      refine lv_iload_n hx hb zd_O_clear_2 rfl (lv_at hl 0 rfl) ?_
      refine lv_aload_n hx hb zd_O_clear_3 rfl (lv_at hl 1 rfl) ?_
      refine va_get (D := g.1) (ci := 2) (v := .ref (a)) (C := zR_O) (T := zT_O) (N := 3) hx hb hw zin_O hown hK hP 0 rfl rfl 2 (by decide) (hw _ zw_1_46) (fun _ h9 => h9) rfl zd_O_clear_4 ?_
      refine va_alen hx hb hK hP 1 1 rfl rfl (v := iI ((nn : Nat) : Int)) (iI_nat _) zd_O_clear_7 ?_
      refine zi_icmp_ge (tgt := 24) hx hb zd_O_clear_8 (by decide) (by omega) (fun c8 => ?_) (fun c8 => ?_)
      · have hP : va_P g.1 zCl [(r, .inr (2, [.int (iI (lo)), .int (iI (hi)), .ref (a)])), (a, .inl (g.2 1, nn, .inl (zaB (fun _ => false))))] H := zB_ext (k := 1) hP rfl (fun j hj => h1.2 j (by omega))
        exact zw_vret hx hb hr hlk (ws := [(r, .inr (2, [.int (iI (lo)), .int (iI (hi)), .ref (a)])), (a, .inl (g.2 1, nn, .inl (zaB (fun _ => false))))]) hP hS zd_O_clear_24
      · refine lv_aload_n hx hb zd_O_clear_11 rfl (lv_at hl 1 rfl) ?_
        refine va_get (D := g.1) (ci := 2) (v := .ref (a)) (C := zR_O) (T := zT_O) (N := 3) hx hb hw zin_O hown hK hP 0 rfl rfl 2 (by decide) (hw _ zw_1_46) (fun _ h9 => h9) rfl zd_O_clear_12 ?_
        refine lv_iload_n hx hb zd_O_clear_15 rfl (lv_at hl 0 rfl) ?_
        refine zi_iconst hx hb zd_O_clear_16 ?_
        refine zb_as (x := false) rfl ?_
        refine zi_zast hx hb hK hP hD hS 1 1 rfl rfl (by omega) zd_O_clear_17 (fun H locs hP hD hS => ?_)
        have hP : va_P g.1 zCl [(r, .inr (2, [.int (iI (lo)), .int (iI (hi)), .ref (a)])), (a, .inl (g.2 1, nn, .inl (zaB (zu ff (k).toNat (false)))))] H := hP
        have hD : va_D A [(r, .inr (2, [.int (iI (lo)), .int (iI (hi)), .ref (a)])), (a, .inl (g.2 1, nn, .inl (zaB (zu ff (k).toNat (false)))))] := hD
        refine lv_iinc (v := iI (k + 1)) (lv' := [(1, .int (iI (k + 1))), (0, .ref (r))]) hx hb zd_O_clear_18 hl (k := 0) rfl (iI_add _ _) (by decide) rfl (fun ls hl => ?_)
        refine lv_goto (tgt := 2) hx hb zd_O_clear_21 (by decide) ?_
        exact ih (k + 1) (zu ff k.toNat false) H locs ls ⟨by omega, oCl_nx h1.2 (by omega)⟩ (by omega) hP hD hS (lv_sub hl [0, 1] rfl)
  exact loop (nn + 1) 0 f s.heap [] ls ⟨by omega, fun j hj => absurd hj (by omega)⟩ (by omega) hP hD hS (lv_sub hl [0, 1] rfl)
set_option maxHeartbeats 4000000 in
set_option maxRecDepth 100000 in
theorem c_O_allow (l : Launch) (g : zGl) (r a : Nat) (lo hi : Int) (nn : Nat) (f : Nat → Bool) (hn : (nn : Int) = hi - lo + 1 ∧ 0 ≤ lo ∧ lo ≤ hi ∧ hi < 10000) (fr to st : Int) (hs : 1 ≤ st ∧ st < 1000 ∧ lo ≤ fr ∧ fr ≤ hi ∧ lo ≤ to ∧ to ≤ hi) : zWi l zy_O_allow zc_O_allow 8 none ({ frames := 1, cells := 0, slots := 0, locals := 22 }) g (fun _ => zN) [.ref (r), .int (iI (fr)), .int (iI (to)), .int (iI (st))] [(r, .inr (2, [.int (iI (lo)), .int (iI (hi)), .ref (a)])), (a, .inl (g.2 1, nn, .inl (zaB f)))] (none) [(r, .inr (2, [.int (iI (lo)), .int (iI (hi)), .ref (a)])), (a, .inl (g.2 1, nn, .inl (zaB (oAl (nn : Int) (fr - lo) ((to - fr) % ((nn : Nat) : Int) + 1) st (nn + 1) 0 f))))] 0 0 := by
  refine zw_open (by decide +kernel) (Nat.le_of_ble_eq_true rfl) ?_
  intro p e s m below meth c ls A hx hb hml hr hlk hown hin hw hK hT hP hD hS hA hl
  have hown : s.vm.findClass "CronFinder$Row" = some m.cls := hown
  have hl : lv_has ls 8 [(0, .ref (r)), (1, .int (iI (fr))), (2, .int (iI (to))), (3, .int (iI (st)))] := hl
  refine lv_aload_n hx hb zd_O_allow_0 rfl (lv_at hl 0 rfl) ?_
  refine va_get (D := g.1) (ci := 2) (v := .ref (a)) (C := zR_O) (T := zT_O) (N := 3) hx hb hw zin_O hown hK hP 0 rfl rfl 2 (by decide) (hw _ zw_1_46) (fun _ h9 => h9) rfl zd_O_allow_1 ?_
  refine va_alen hx hb hK hP 1 1 rfl rfl (v := iI ((nn : Nat) : Int)) (iI_nat _) zd_O_allow_4 ?_
  refine lv_istore (lv' := [(4, .int (iI (((nn : Nat) : Int)))), (0, .ref (r)), (1, .int (iI (fr))), (2, .int (iI (to))), (3, .int (iI (st)))]) hx hb zd_O_allow_5 hl (by decide) rfl (fun ls hl => ?_)
  refine lv_iload_n hx hb zd_O_allow_7 rfl (lv_at hl 3 rfl) ?_
  refine lv_iload_n hx hb zd_O_allow_8 rfl (lv_at hl 2 rfl) ?_
  refine zi_isub hx hb zd_O_allow_9 ?_
  refine lv_iload hx hb zd_O_allow_10 (lv_at hl 0 rfl) ?_
  refine zk_S (As := [.int (iI (to - fr)), .int (iI (((nn : Nat) : Int)))]) (own := "CronFinder$Row") (nL := 8) (rest := []) hx hb hml hown hw (c_fm l g (to - fr) (((nn : Nat) : Int)) (by omega)) zw_2_55 zw_2_56 zw_1_14 zw_2_57 (np := 2) (by decide +kernel) rfl (by decide) zN_mv hK trivial (hP.sub (ws' := []) [] rfl) hl.1 rfl (Nat.le_of_ble_eq_true rfl) (by decide) zd_O_allow_12 ?_
  have hz12 := Int.emod_nonneg (to - fr) (show ((nn : Nat) : Int) ≠ 0 by omega)
  have hy12 := Int.emod_lt_of_pos (to - fr) (show (0 : Int) < ((nn : Nat) : Int) by omega)
  refine zi_iconst hx hb zd_O_allow_15 ?_
  refine zi_iadd hx hb zd_O_allow_16 ?_
  refine lv_istore (lv' := [(5, .int (iI (((to - fr) % (((nn : Nat) : Int))) + 1))), (4, .int (iI (((nn : Nat) : Int)))), (0, .ref (r)), (1, .int (iI (fr))), (2, .int (iI (to))), (3, .int (iI (st)))]) hx hb zd_O_allow_17 hl (by decide) rfl (fun ls hl => ?_)
  refine lv_iload_n hx hb zd_O_allow_19 rfl (lv_at hl 3 rfl) ?_
  refine lv_aload_n hx hb zd_O_allow_20 rfl (lv_at hl 2 rfl) ?_
  refine va_get (D := g.1) (ci := 2) (v := .int (iI (lo))) (C := zR_O) (T := zT_O) (N := 3) hx hb hw zin_O hown hK hP 0 rfl rfl 0 (by decide) (hw _ zw_1_44) (fun _ h9 => h9) rfl zd_O_allow_21 ?_
  refine zi_isub hx hb zd_O_allow_24 ?_
  refine lv_istore (lv' := [(6, .int (iI (fr - lo))), (5, .int (iI (((to - fr) % (((nn : Nat) : Int))) + 1))), (4, .int (iI (((nn : Nat) : Int)))), (0, .ref (r)), (1, .int (iI (fr))), (2, .int (iI (to))), (3, .int (iI (st)))]) hx hb zd_O_allow_25 hl (by decide) rfl (fun ls hl => ?_)
  refine zi_iconst hx hb zd_O_allow_27 ?_
  refine lv_istore (lv' := [(7, .int (iI (0))), (6, .int (iI (fr - lo))), (5, .int (iI (((to - fr) % (((nn : Nat) : Int))) + 1))), (4, .int (iI (((nn : Nat) : Int)))), (0, .ref (r)), (1, .int (iI (fr))), (2, .int (iI (to))), (3, .int (iI (st)))]) hx hb zd_O_allow_28 hl (by decide) rfl (fun ls hl => ?_)
  have loop : ∀ (n : Nat) (k : Int) (ff : Nat → Bool) (H : Heap) (locs : List Loc) (ls : Array Slot), (0 ≤ k ∧ k < 1000000) → (oAl (nn : Int) (fr - lo) ((to - fr) % ((nn : Nat) : Int) + 1) st n k ff = (oAl (nn : Int) (fr - lo) ((to - fr) % ((nn : Nat) : Int) + 1) st (nn + 1) 0 f)) → (((to - fr) % ((nn : Nat) : Int) + 1 - k).toNat < n) → va_P g.1 zCl [(r, .inr (2, [.int (iI (lo)), .int (iI (hi)), .ref (a)])), (a, .inl (g.2 1, nn, .inl (zaB ff)))] H → va_D A [(r, .inr (2, [.int (iI (lo)), .int (iI (hi)), .ref (a)])), (a, .inl (g.2 1, nn, .inl (zaB ff)))] → va_S A s.heap H locs → lv_has ls 8 [(7, .int (iI (k))), (6, .int (iI (fr - lo))), (5, .int (iI ((to - fr) % ((nn : Nat) : Int) + 1))), (4, .int (iI (((nn : Nat) : Int)))), (0, .ref (r)), (1, .int (iI (fr))), (2, .int (iI (to))), (3, .int (iI (st)))] → W p l e ({ frames := 1, cells := 0, slots := 0, locals := 22 }) s m [.ref (r), .int (iI (fr)), .int (iI (to)), .int (iI (st))].toArray below meth c H locs 0 0 (MQ below (zWr g.1 zCl (none) [(r, .inr (2, [.int (iI (lo)), .int (iI (hi)), .ref (a)])), (a, .inl (g.2 1, nn, .inl (zaB (oAl (nn : Int) (fr - lo) ((to - fr) % ((nn : Nat) : Int) + 1) st (nn + 1) 0 f))))] A) [.ref (r), .int (iI (fr)), .int (iI (to)), .int (iI (st))].toArray s 0 0 A) (F0 m 30 ls []) := by
    intro n
    induction n with
    | zero =>
      intro k ff H locs ls h1 hF h2 hP hD hS hl
      exact absurd h2 (by omega)
    | succ n ih =>
      intro k ff H locs ls h1 hF h2 hP hD hS hl
      refine lv_iload hx hb zd_O_allow_30 (lv_at hl 0 rfl) ?_
      refine lv_iload hx hb zd_O_allow_32 (lv_at hl 2 rfl) ?_
      refine zi_icmp_ge (tgt := 66) hx hb zd_O_allow_34 (by decide) (by omega) (fun c34 => ?_) (fun c34 => ?_)
      · have hff : ff = (oAl (nn : Int) (fr - lo) ((to - fr) % ((nn : Nat) : Int) + 1) st (nn + 1) 0 f) := (oAl_e (by omega)).symm.trans hF
        rw [hff] at hP
        exact zw_vret hx hb hr hlk (ws := [(r, .inr (2, [.int (iI (lo)), .int (iI (hi)), .ref (a)])), (a, .inl (g.2 1, nn, .inl (zaB (oAl (nn : Int) (fr - lo) ((to - fr) % ((nn : Nat) : Int) + 1) st (nn + 1) 0 f))))]) hP hS zd_O_allow_66
      · refine lv_aload_n hx hb zd_O_allow_37 rfl (lv_at hl 4 rfl) ?_
        refine va_get (D := g.1) (ci := 2) (v := .ref (a)) (C := zR_O) (T := zT_O) (N := 3) hx hb hw zin_O hown hK hP 0 rfl rfl 2 (by decide) (hw _ zw_1_46) (fun _ h9 => h9) rfl zd_O_allow_38 ?_
        refine lv_iload hx hb zd_O_allow_41 (lv_at hl 1 rfl) ?_
        refine lv_iload hx hb zd_O_allow_43 (lv_at hl 0 rfl) ?_
        refine zi_iadd hx hb zd_O_allow_45 ?_
        refine lv_iload hx hb zd_O_allow_46 (lv_at hl 3 rfl) ?_
        refine zk_S (As := [.int (iI ((fr - lo) + k)), .int (iI (((nn : Nat) : Int)))]) (own := "CronFinder$Row") (nL := 8) (rest := [.ref (a)]) hx hb hml hown hw (c_fm l g ((fr - lo) + k) (((nn : Nat) : Int)) (by omega)) zw_2_55 zw_2_56 zw_1_14 zw_2_57 (np := 2) (by decide +kernel) rfl (by decide) zN_mv hK trivial (hP.sub (ws' := []) [] rfl) hl.1 rfl (Nat.le_of_ble_eq_true rfl) (by decide) zd_O_allow_48 ?_
        have hz48 := Int.emod_nonneg ((fr - lo) + k) (show ((nn : Nat) : Int) ≠ 0 by omega)
        have hy48 := Int.emod_lt_of_pos ((fr - lo) + k) (show (0 : Int) < ((nn : Nat) : Int) by omega)
        refine zi_iconst hx hb zd_O_allow_51 ?_
        refine zb_as (x := true) rfl ?_
        refine zi_zast hx hb hK hP hD hS 1 1 rfl rfl (by omega) zd_O_allow_52 (fun H locs hP hD hS => ?_)
        have hP : va_P g.1 zCl [(r, .inr (2, [.int (iI (lo)), .int (iI (hi)), .ref (a)])), (a, .inl (g.2 1, nn, .inl (zaB (zu ff (((fr - lo) + k) % (((nn : Nat) : Int))).toNat (true)))))] H := hP
        have hD : va_D A [(r, .inr (2, [.int (iI (lo)), .int (iI (hi)), .ref (a)])), (a, .inl (g.2 1, nn, .inl (zaB (zu ff (((fr - lo) + k) % (((nn : Nat) : Int))).toNat (true)))))] := hD
        refine lv_iload hx hb zd_O_allow_53 (lv_at hl 0 rfl) ?_
        refine lv_iload_n hx hb zd_O_allow_55 rfl (lv_at hl 7 rfl) ?_
        refine zi_iconst hx hb zd_O_allow_56 ?_
        refine zk_S (As := [.int (iI (st)), .int (iI (1))]) (own := "CronFinder$Row") (nL := 8) (rest := [.int (iI (k))]) hx hb hml hown hw (c_max l g (st) (1) (by omega)) zw_2_58 zw_2_59 zw_1_14 zw_2_60 (np := 2) (by decide +kernel) rfl (by decide) zN_mv hK trivial (hP.sub (ws' := []) [] rfl) hl.1 rfl (Nat.le_of_ble_eq_true rfl) (by decide) zd_O_allow_57 ?_
        refine zi_as (st) (by omega) ?_
        refine zi_iadd hx hb zd_O_allow_60 ?_
        refine lv_istore (lv' := [(7, .int (iI (k + st))), (6, .int (iI (fr - lo))), (5, .int (iI ((to - fr) % ((nn : Nat) : Int) + 1))), (4, .int (iI (((nn : Nat) : Int)))), (0, .ref (r)), (1, .int (iI (fr))), (2, .int (iI (to))), (3, .int (iI (st)))]) hx hb zd_O_allow_61 hl (by decide) rfl (fun ls hl => ?_)
        refine lv_goto (tgt := 30) hx hb zd_O_allow_63 (by decide) ?_
        exact ih (k + st) _ H locs ls ⟨by omega, by omega⟩ (by rw [← oAl_s (by omega)]; exact hF) (by omega) hP hD hS (lv_sub hl [0, 1, 2, 3, 4, 5, 6, 7] rfl)
  exact loop (nn + 1) 0 f s.heap [] ls ⟨by omega, by omega⟩ rfl (by omega) hP hD hS (lv_sub hl [0, 1, 2, 3, 4, 5, 6, 7] rfl)
set_option maxHeartbeats 4000000 in
set_option maxRecDepth 100000 in
theorem c_O_allowAll (l : Launch) (g : zGl) (r a : Nat) (lo hi : Int) (nn : Nat) (f : Nat → Bool) (hn : (nn : Int) = hi - lo + 1 ∧ 0 ≤ lo ∧ lo ≤ hi ∧ hi < 10000) : zWi l zy_O_allowAll zc_O_allowAll 1 none ({ frames := 2, cells := 0, slots := 0, locals := 49 }) g (fun _ => zN) [.ref (r)] [(r, .inr (2, [.int (iI (lo)), .int (iI (hi)), .ref (a)])), (a, .inl (g.2 1, nn, .inl (zaB f)))] (none) [(r, .inr (2, [.int (iI (lo)), .int (iI (hi)), .ref (a)])), (a, .inl (g.2 1, nn, .inl (zaB (oAl ((nn : Nat) : Int) (lo - lo) ((hi - lo) % ((nn : Nat) : Int) + 1) (1) (nn + 1) 0 f))))] 0 0 := by
  refine zw_open (by decide +kernel) (Nat.le_of_ble_eq_true rfl) ?_
  intro p e s m below meth c ls A hx hb hml hr hlk hown hin hw hK hT hP hD hS hA hl
  have hown : s.vm.findClass "CronFinder$Row" = some m.cls := hown
  have hl : lv_has ls 1 [(0, .ref (r))] := hl
  refine lv_aload_n hx hb zd_O_allowAll_0 rfl (lv_at hl 0 rfl) ?_
  refine lv_aload_n hx hb zd_O_allowAll_1 rfl (lv_at hl 0 rfl) ?_
  refine va_get (D := g.1) (ci := 2) (v := .int (iI (lo))) (C := zR_O) (T := zT_O) (N := 3) hx hb hw zin_O hown hK hP 0 rfl rfl 0 (by decide) (hw _ zw_1_44) (fun _ h9 => h9) rfl zd_O_allowAll_2 ?_
  refine lv_aload_n hx hb zd_O_allowAll_5 rfl (lv_at hl 0 rfl) ?_
  refine va_get (D := g.1) (ci := 2) (v := .int (iI (hi))) (C := zR_O) (T := zT_O) (N := 3) hx hb hw zin_O hown hK hP 0 rfl rfl 1 (by decide) (hw _ zw_1_45) (fun _ h9 => h9) rfl zd_O_allowAll_6 ?_
  refine zi_iconst hx hb zd_O_allowAll_9 ?_
  refine zk_W (As := [.int (iI (lo)), .int (iI (hi)), .int (iI (1))]) (b := r) (own := "CronFinder$Row") (nL := 1) (rest := []) hx hb hml hown hw (c_O_allow l g (r) (a) (lo) (hi) (nn) f (by omega) (lo) (hi) (1) (by omega)) zw_2_51 zw_2_52 zw_2_53 zw_1_3 zw_2_54 (np := 3) (by decide +kernel) rfl (by decide) (fun _ => zN_mv) hK trivial hP hD hS hA [0, 1] rfl (by decide) rfl (va_recv hK hP (ci := 2) (q0 := 0) rfl rfl) hl.1 rfl (Nat.le_of_ble_eq_true rfl) (by decide) zd_O_allowAll_10 (fun H locs hP hD hS => ?_)
  have hP : va_P g.1 zCl [(r, .inr (2, [.int (iI (lo)), .int (iI (hi)), .ref (a)])), (a, .inl (g.2 1, nn, .inl (zaB (oAl ((nn : Nat) : Int) (lo - lo) ((hi - lo) % ((nn : Nat) : Int) + 1) (1) (nn + 1) 0 f))))] H := hP
  have hD : va_D A [(r, .inr (2, [.int (iI (lo)), .int (iI (hi)), .ref (a)])), (a, .inl (g.2 1, nn, .inl (zaB (oAl ((nn : Nat) : Int) (lo - lo) ((hi - lo) % ((nn : Nat) : Int) + 1) (1) (nn + 1) 0 f))))] := hD
  exact zw_vret hx hb hr hlk (ws := [(r, .inr (2, [.int (iI (lo)), .int (iI (hi)), .ref (a)])), (a, .inl (g.2 1, nn, .inl (zaB (oAl ((nn : Nat) : Int) (lo - lo) ((hi - lo) % ((nn : Nat) : Int) + 1) (1) (nn + 1) 0 f))))]) hP hS zd_O_allowAll_13
