theorem mF_1 {N : Nat} : mF N 1 = lN N := if_pos rfl
theorem k_uL0 {f : Nat → Int64} {i : Nat} (h : f i = lN 0) : vp_updL f i (lN 0) = f := funext fun j => by
  simp only [vp_updL]
  split
  · next e => rw [e]; exact h.symm
  · rfl
def kBad (N : Nat) (x : Int32) : Prop := x < 0 ∨ nI N ≤ x
def kBad2 (N : Nat) (x y : Int32) : Prop := kBad N x ∨ ((∃ j, j < N ∧ x = nI j) ∧ kBad N y)
theorem k_over {x : Int32} {n : Nat} (hn : n < 2 ^ 30) (h : x < 0 ∨ nI (n + 1) ≤ x) : x.toInt64 < lN 0 ∨ lN n < x.toInt64 := by
  rcases h with h | h
  · exact Or.inl (k_i2l_lt h)
  · refine Or.inr ?_
    have h9 := k_i2l_ge (n := n + 1) (by omega) h (by omega)
    rw [Nat.add_sub_cancel] at h9
    exact h9
theorem k_any (x : Int32) : x.toInt64 < lN 0 ∨ (-1) < x.toInt64 := by
  rw [Int64.lt_iff_toInt_lt, Int64.lt_iff_toInt_lt, pk_lT (by decide), show (-1 : Int64).toInt = -1 by decide]
  omega
theorem k_in1 {a b : Nat} (ha : a < 2 ^ 40) (hb : b < 2 ^ 40) (h : a ≤ b) : ¬ lN b < lN a := fun q => absurd ((pk_lLT (by omega) (by omega)).mp q) (by omega)
theorem k_sh0 : ∀ b, b < 10 → nI 0 >>> (nI b &&& 31) = nI 0 := by decide +kernel
