theorem wn_step1 {P : Nat → Prop} {gd x : Int32} {j : Nat} (hgd : (gd = 1 ∨ gd = 0) ∧ (gd = 1 ↔ ∀ q, q < j → P q)) (hx : x = gd &&& 1) (hp : P j) : (x = 1 ∨ x = 0) ∧ (x = 1 ↔ ∀ q, q < j + 1 → P q) := by
  obtain ⟨h01, hi⟩ := hgd
  have hf : x = gd := by rw [hx]; rcases h01 with rfl | rfl <;> decide
  rw [hf]
  refine ⟨h01, fun h q hq => ?_, fun h => hi.mpr (fun q hq => h q (by omega))⟩
  rcases Nat.lt_or_ge q j with z | z
  · exact hi.mp h q z
  · rw [show q = j by omega]; exact hp
theorem wn_step0 {P : Nat → Prop} {gd x : Int32} {j : Nat} (hgd : (gd = 1 ∨ gd = 0) ∧ (gd = 1 ↔ ∀ q, q < j → P q)) (hx : x = gd &&& 0) (hp : ¬ P j) : (x = 1 ∨ x = 0) ∧ (x = 1 ↔ ∀ q, q < j + 1 → P q) := by
  obtain ⟨h01, -⟩ := hgd
  have hf : x = 0 := by rw [hx]; rcases h01 with rfl | rfl <;> decide
  exact ⟨Or.inr hf, fun h => absurd (hf.symm.trans h) (by decide), fun h => absurd (h j (by omega)) hp⟩
