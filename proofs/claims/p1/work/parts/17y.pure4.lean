/-! ===== the print ===== -/
def kIt : Nat → Int64 → Int64
  | 0, h => h
  | k + 1, h => kIt k h * lN 31 + lN 0
def kHc (h : Int64) : Int64 := ((((((h * lN 31 + lN 0) * lN 31 + (-1)) * lN 31 + (-1)) * lN 31 + (-2)) * lN 31 + lN 0) * lN 31 + lN 0) * lN 31 + lN 0
def kHrow (i : Nat) : Nat → Int64 → Int64
  | 0, h => h
  | k + 1, h => if k = i then kHrow i k h else kHc (kHrow i k h)
def kHall (N : Nat) : Nat → Int64 → Int64
  | 0, h => h
  | i + 1, h => kHrow i N (kHall N i h)
def kFp (N : Nat) : Int64 := kIt (N + 4) (kHall N N (kIt 8 (lN 899)))
theorem k_or0 {x : Int32} : x ||| nI 0 = x := by
  apply Int32.toBitVec_inj.1
  show x.toBitVec ||| 0 = x.toBitVec
  simp
theorem k_reach : ∀ a, a < 10 → ∀ b, b < 10 → ((nI 1 <<< (nI a &&& 31)) >>> (nI b &&& 31)) &&& nI 1 = if a = b then nI 1 else nI 0 := by decide +kernel
theorem k_andor {x : Int32} : x = x ||| nI 0 := k_or0.symm
def kLo (j : Nat) : Nat := if j = 7 then 0 else 1
def kHi (j : Nat) : Nat := ([1000, 10, 10, 10, 15, 3, 50, 10] : List Nat).getD j 0
theorem kfL_0 {f g : Nat → Int64} : g = (fun j => if j < 0 then f j else g j) := funext fun j => (if_neg (Nat.not_lt_zero j)).symm
theorem kfL_s {f g : Nat → Int64} {k : Nat} : vp_updL (fun j => if j < k then f j else g j) k (f k) = fun j => if j < k + 1 then f j else g j := funext fun j => by
  by_cases h : j = k
  · subst h
    exact pk_uLs.trans (if_pos (by omega)).symm
  · refine (pk_uLn h).trans ?_
    by_cases h2 : j < k
    · exact (if_pos h2).trans (if_pos (by omega)).symm
    · exact (if_neg h2).trans (if_neg (by omega)).symm
theorem k_i2l_lt' {x : Int32} {n : Nat} (hn : n < 2 ^ 30) (h : x < nI n) : x.toInt64 < lN n := by
  rw [Int64.lt_iff_toInt_lt, k_i2l, pk_lT (by omega)]
  have h2 := Int32.lt_iff_toInt_lt.mp h
  rw [nI_toInt (by omega)] at h2
  exact h2
theorem k_overL {x : Int32} {lo n : Nat} (hl : lo < 2 ^ 30) (hn : n < 2 ^ 30) (h : x < nI lo ∨ nI (n + 1) ≤ x) : x.toInt64 < lN lo ∨ lN n < x.toInt64 := by
  rcases h with h | h
  · exact Or.inl (k_i2l_lt' hl h)
  · refine Or.inr ?_
    have h9 := k_i2l_ge (n := n + 1) (by omega) h (by omega)
    rw [Nat.add_sub_cancel] at h9
    exact h9
theorem k_links0 {N a b : Nat} (ha : a < 10) (hb : b < 10) : vp_updL (vp_updL (mF N) (100 + 10 * a + b) (lN 0)) (100 + 10 * b + a) (lN 0) = mF N := by
  rw [k_uL0 (i := 100 + 10 * a + b) (mF_z (by omega)), k_uL0 (mF_z (by omega))]
