theorem sh0 {N : Nat} (h : N ≤ 8) : 8 * (nI N - 1) = nI (8 * N) - 8 := by
  rcases (show N = 0 ∨ N = 1 ∨ N = 2 ∨ N = 3 ∨ N = 4 ∨ N = 5 ∨ N = 6 ∨ N = 7 ∨ N = 8 by omega) with rfl | rfl | rfl | rfl | rfl | rfl | rfl | rfl | rfl <;> decide
theorem sh_eq {i : Nat} (h : i ≤ 7) : nI (8 * (i + 1)) - 8 = nI (8 * i) := by
  rcases (show i = 0 ∨ i = 1 ∨ i = 2 ∨ i = 3 ∨ i = 4 ∨ i = 5 ∨ i = 6 ∨ i = 7 by omega) with rfl | rfl | rfl | rfl | rfl | rfl | rfl | rfl <;> decide
theorem sh_pos {j : Nat} (c : ¬ nI (8 * j) - 8 < 0) : ∃ i, j = i + 1 := by
  cases j with
  | zero => exact absurd (by decide) c
  | succ i => exact ⟨i, rfl⟩
theorem sh_zero {j : Nat} (h : j ≤ 8) (c : nI (8 * j) - 8 < 0) : j = 0 := by
  rcases (show j = 0 ∨ j = 1 ∨ j = 2 ∨ j = 3 ∨ j = 4 ∨ j = 5 ∨ j = 6 ∨ j = 7 ∨ j = 8 by omega) with rfl | rfl | rfl | rfl | rfl | rfl | rfl | rfl | rfl
  · rfl
  all_goals exact absurd c (by decide)
theorem sh_dec (x : Int32) : x + Int32.ofInt (-8) = x - 8 := by rw [Int32.sub_eq_add_neg]; rfl
theorem okN_lt {x : Int64} {n : Int32} (h : n < 1) : ¬ okN x n := by
  rintro ⟨N, e, h1, h2, -⟩
  subst e
  exact absurd h (nI_nlt (a := N) (b := 1) h1 (by omega))
theorem okN_gt {x : Int64} {n : Int32} (h : ¬ n ≤ 8) : ¬ okN x n := by
  rintro ⟨N, e, h1, h2, -⟩
  subst e
  exact h (nI_le (a := N) (b := 8) h2 (by decide))
theorem okN_at {x : Int64} {N i : Nat} (hN : N ≤ 8) (hi : i < N) (h0 : oct8 x (nI (8 * i)) = 0) : ¬ okN x (nI N) := by
  rintro ⟨N', e, h1, h2, h3⟩
  have : N = N' := (nI_eq (by omega) (by omega)).mp e
  subst this
  exact h3 i hi h0
