/-! numbers -/
theorem k_ltI {a b : Nat} (ha : a < 2 ^ 31) (hb : b < 2 ^ 31) (h : ¬ nI b ≤ nI a) : a < b := Nat.lt_of_not_le (fun q => h (nI_le q ha))
theorem k_leI {a b : Nat} (ha : a < 2 ^ 31) (hb : b < 2 ^ 31) (h : nI b ≤ nI a) : b ≤ a := (nI_leI hb ha).mp h
theorem vp_of {y M : Int32} {n : Nat} (hM : M = nI n) (hn : n < 2 ^ 31) (h1 : ¬ y < 0) (h2 : ¬ M ≤ y) : vp_in y n := by
  obtain ⟨j, hj, rfl⟩ := nI_of h1
  subst hM
  exact vp_in_nI (k_ltI hj hn h2) hn
/-- what a device draws below 126, from its seed -/
def drw (x : Int32) : Int32 := ((x * 1103515245 + 12345).toUInt32 >>> ((16 : Int32).toUInt32 &&& Int32.toUInt32 31)).toInt32 - ((x * 1103515245 + 12345).toUInt32 >>> ((16 : Int32).toUInt32 &&& Int32.toUInt32 31)).toInt32 / 126 * 126
/-- a byte of a long, as a long -/
def oct8 (x : Int64) (sh : Int32) : Int64 := (x.toUInt64 >>> (sh.toInt64.toUInt64 &&& Int64.toUInt64 63)).toInt64 &&& 255
/-- a NAME's n bytes, none of them 0 -/
def okN (x : Int64) (n : Int32) : Prop := ∃ N : Nat, n = nI N ∧ 1 ≤ N ∧ N ≤ 8 ∧ ∀ i : Nat, i < N → oct8 x (nI (8 * i)) ≠ 0
theorem lg0 {x y : Int64} : lg_cmp x y = 0 ↔ x = y := by
  unfold lg_cmp
  constructor
  · intro h
    by_cases h1 : x > y
    · rw [if_pos h1] at h; exact absurd h (by decide)
    · rw [if_neg h1] at h
      by_cases h2 : x = y
      · exact h2
      · rw [if_neg h2] at h; exact absurd h (by decide)
  · rintro rfl
    rw [if_neg (Int64.lt_irrefl), if_pos rfl]
theorem or_ne0 {x y : Int64} (h : y ≠ 0) : x ||| y ≠ 0 := fun e => h (by
  have e1 : (x ||| y).toBitVec = (0 : Int64).toBitVec := by rw [e]
  apply Int64.toBitVec_inj.mp
  rw [Int64.toBitVec_or] at e1
  ext i hi
  have e2 := congrArg (fun (z : BitVec 64) => z.getLsbD i) e1
  simp at e2
  have e3 := e2.2
  rw [BitVec.getLsbD_eq_getElem hi] at e3
  simp [e3])
