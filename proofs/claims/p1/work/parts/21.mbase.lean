theorem nI_mulN (a b : Nat) : nI a * nI b = nI (a * b) := (Int32.ofNat_mul a b).symm
theorem wsh : ∀ nn, nn ≤ 8 → ∀ j, j < nn → 8 * (nI nn - 1 - nI j) = nI (8 * (nn - 1 - j)) := by decide
theorem k_hz {i n : Int32} (hi : ¬ i < 0) (hn : ¬ n < 0) (h : n ≤ 0 - i) : i = 0 ∧ n = 0 := by
  obtain ⟨a, ha, rfl⟩ := nI_of hi
  obtain ⟨b, hb, rfl⟩ := nI_of hn
  rw [Int32.le_iff_toInt_le, Int32.toInt_sub, nI_toInt ha, nI_toInt hb] at h
  have h0 : (0 : Int32).toInt = 0 := rfl
  rw [h0] at h
  have ha0 : a = 0 ∧ b = 0 := by
    simp only [Int.bmod] at h
    split at h <;> omega
  obtain ⟨rfl, rfl⟩ := ha0
  exact ⟨rfl, rfl⟩
theorem sw_out {x : Int32} (h : x < 0 ∨ ¬ x ≤ 16) : x.toInt < 0 ∨ 16 < x.toInt := by
  rcases h with h | h
  · left; rw [Int32.lt_iff_toInt_lt] at h; exact h
  · right; rw [Int32.le_iff_toInt_le] at h; exact Int.not_le.mp h
/-- a byte of a long, by the signed shift, as an int -/
def oct32 (x : Int64) (sh : Int32) : Int32 := (x >>> (sh.toInt64 &&& 63)).toInt32 &&& 255
theorem m32 : ∀ b, b < 32 → (255#32).getLsbD b = decide (b < 8) := by decide
theorem m64 : ∀ b, b < 64 → (255#64).getLsbD b = decide (b < 8) := by decide
theorem bA32 (y : BitVec 32) : (y &&& 255#32 = 0#32) ↔ ∀ b, b < 8 → y.getLsbD b = false := by
  constructor
  · intro h b hb
    have h2 := congrArg (fun z : BitVec 32 => z.getLsbD b) h
    simp only [BitVec.getLsbD_and, BitVec.getLsbD_zero] at h2
    rw [m32 b (by omega)] at h2
    simpa [hb] using h2
  · intro h
    apply BitVec.eq_of_getLsbD_eq
    intro b hb
    rw [BitVec.getLsbD_and, m32 b hb, BitVec.getLsbD_zero]
    by_cases h8 : b < 8
    · rw [h b h8]; rfl
    · simp [h8]
theorem bA64 (y : BitVec 64) : (y &&& 255#64 = 0#64) ↔ ∀ b, b < 8 → y.getLsbD b = false := by
  constructor
  · intro h b hb
    have h2 := congrArg (fun z : BitVec 64 => z.getLsbD b) h
    simp only [BitVec.getLsbD_and, BitVec.getLsbD_zero] at h2
    rw [m64 b (by omega)] at h2
    simpa [hb] using h2
  · intro h
    apply BitVec.eq_of_getLsbD_eq
    intro b hb
    rw [BitVec.getLsbD_and, m64 b hb, BitVec.getLsbD_zero]
    by_cases h8 : b < 8
    · rw [h b h8]; rfl
    · simp [h8]
theorem bIff (x : BitVec 64) (s : Nat) (hs : s ≤ 56) : ((x.sshiftRight s).signExtend 32 &&& 255#32 = 0#32) ↔ (x >>> s &&& 255#64 = 0#64) := by
  rw [bA32, bA64]
  have e : ∀ b, b < 8 → ((x.sshiftRight s).signExtend 32).getLsbD b = (x >>> s).getLsbD b := by
    intro b hb
    rw [BitVec.getLsbD_signExtend, BitVec.getLsbD_sshiftRight, BitVec.getLsbD_ushiftRight]
    have h1 : s + b < 64 := by omega
    have h2 : b < 32 := by omega
    have h3 : ¬ 64 ≤ b := by omega
    have h4 : b < 64 := by omega
    simp [h1, h2, h3, h4]
  exact ⟨fun h b hb => (e b hb).symm.trans (h b hb), fun h b hb => (e b hb).trans (h b hb)⟩
theorem o32 (x : Int64) : ∀ i, i < 8 → (oct32 x (nI (8 * i))).toBitVec = (x.toBitVec.sshiftRight (8 * i)).signExtend 32 &&& 255#32 := by
  intro i hi
  rcases (show i = 0 ∨ i = 1 ∨ i = 2 ∨ i = 3 ∨ i = 4 ∨ i = 5 ∨ i = 6 ∨ i = 7 by omega) with rfl | rfl | rfl | rfl | rfl | rfl | rfl | rfl <;> rfl
theorem o8 (x : Int64) : ∀ i, i < 8 → (oct8 x (nI (8 * i))).toBitVec = (x.toBitVec >>> (8 * i)) &&& 255#64 := by
  intro i hi
  rcases (show i = 0 ∨ i = 1 ∨ i = 2 ∨ i = 3 ∨ i = 4 ∨ i = 5 ∨ i = 6 ∨ i = 7 by omega) with rfl | rfl | rfl | rfl | rfl | rfl | rfl | rfl <;> rfl
theorem oct_iff (x : Int64) {i : Nat} (hi : i < 8) : oct32 x (nI (8 * i)) = 0 ↔ oct8 x (nI (8 * i)) = 0 := by
  rw [← Int32.toBitVec_inj, ← Int64.toBitVec_inj, o32 x i hi, o8 x i hi]
  exact bIff x.toBitVec (8 * i) (by omega)
theorem okN_iff (x : Int64) {N : Nat} (h1 : 1 ≤ N) (h8 : N ≤ 8) : okN x (nI N) ↔ ∀ q, q < N → oct32 x (nI (8 * (N - 1 - q))) ≠ 0 := by
  constructor
  · rintro ⟨N', e, g1, g2, g3⟩ q hq h0
    have : N = N' := (nI_eq (by omega) (by omega)).mp e
    subst this
    exact g3 (N - 1 - q) (by omega) ((oct_iff x (by omega)).mp h0)
  · intro h
    refine ⟨N, rfl, h1, h8, fun i hi h0 => h (N - 1 - i) (by omega) ?_⟩
    rw [show N - 1 - (N - 1 - i) = i by omega]
    exact (oct_iff x (by omega)).mpr h0
