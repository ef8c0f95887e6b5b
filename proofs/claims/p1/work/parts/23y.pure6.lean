/-! ===== out of a range ===== -/
theorem k_nle {x : Int32} {n : Nat} (hn : n < 2 ^ 30) (h : nI (n + 1) ≤ x) : ¬ x ≤ nI n := fun q => by
  have h1 := Int32.le_iff_toInt_le.mp h
  have h2 := Int32.le_iff_toInt_le.mp q
  rw [nI_toInt (by omega)] at h1 h2
  omega
theorem k_lt0 (x : Int32) : x < 0 ∨ nI 0 ≤ x := by
  by_cases h : x < 0
  · exact Or.inl h
  · rw [nI_0]
    exact Or.inr (Int32.not_lt.mp h)
