/-! ===== the reference's constructor ===== -/
def kNodes (N : Nat) (x : Int32) : Prop := (x < nI 2 ∧ N = 2) ∨ (nI 10 < x ∧ N = 10) ∨ (x = nI N ∧ 2 ≤ N ∧ N ≤ 10)
theorem k_n2 {x : Int32} (h : x < nI 2) : ¬ nI 2 ≤ x := fun q => by
  have h1 := Int32.lt_iff_toInt_lt.mp h
  have h2 := Int32.le_iff_toInt_le.mp q
  omega
theorem k_n10 {x : Int32} (h : nI 10 < x) : nI 2 ≤ x ∧ ¬ x ≤ nI 10 := by
  have h1 := Int32.lt_iff_toInt_lt.mp h
  rw [nI_toInt (by omega)] at h1
  refine ⟨Int32.le_iff_toInt_le.mpr ?_, fun q => ?_⟩
  · rw [nI_toInt (by omega)]
    omega
  · have h2 := Int32.le_iff_toInt_le.mp q
    rw [nI_toInt (by omega)] at h2
    omega
def gL (f : Nat → Int64) (k : Nat) : Nat → Int64 := fun j => if (20 ≤ j ∧ j < 20 + k) ∨ (30 ≤ j ∧ j < 30 + k) then -1 else f j
theorem gL_0 {f : Nat → Int64} : f = gL f 0 := funext fun j => (if_neg (by omega)).symm
theorem gL_s {f : Nat → Int64} {k : Nat} (hk : k < 10) : vp_updL (vp_updL (gL f k) (20 + k) (-1)) (30 + k) (-1) = gL f (k + 1) := funext fun j => by
  by_cases h1 : j = 30 + k
  · subst h1
    exact pk_uLs.trans (if_pos (by omega)).symm
  · refine (pk_uLn h1).trans ?_
    by_cases h2 : j = 20 + k
    · subst h2
      exact pk_uLs.trans (if_pos (by omega)).symm
    · refine (pk_uLn h2).trans ?_
      unfold gL
      by_cases h3 : (20 ≤ j ∧ j < 20 + k) ∨ (30 ≤ j ∧ j < 30 + k)
      · rw [if_pos h3, if_pos (by omega)]
      · rw [if_neg h3, if_neg (by omega)]
theorem k_mF {N : Nat} (j : Nat) : (vp_updL (vp_updL (vp_updL (vp_updL (vp_updL (vp_updL (vp_updL (vp_updL (gL (vp_updL (vp_updL (fun _ => 0) 1 (lN N)) 11 (-1)) 10) 40 (lN 60)) 41 (lN 1)) 42 (lN 2)) 43 (lN 5)) 44 (lN 10)) 45 (lN 2)) 46 (lN 20)) 47 (lN 3)) j = mF N j := by
  by_cases h47 : j = 47
  · subst h47
    exact pk_uLs.trans rfl
  refine (pk_uLn h47).trans ?_
  by_cases h46 : j = 46
  · subst h46
    exact pk_uLs.trans rfl
  refine (pk_uLn h46).trans ?_
  by_cases h45 : j = 45
  · subst h45
    exact pk_uLs.trans rfl
  refine (pk_uLn h45).trans ?_
  by_cases h44 : j = 44
  · subst h44
    exact pk_uLs.trans rfl
  refine (pk_uLn h44).trans ?_
  by_cases h43 : j = 43
  · subst h43
    exact pk_uLs.trans rfl
  refine (pk_uLn h43).trans ?_
  by_cases h42 : j = 42
  · subst h42
    exact pk_uLs.trans rfl
  refine (pk_uLn h42).trans ?_
  by_cases h41 : j = 41
  · subst h41
    exact pk_uLs.trans rfl
  refine (pk_uLn h41).trans ?_
  by_cases h40 : j = 40
  · subst h40
    exact pk_uLs.trans rfl
  refine (pk_uLn h40).trans ?_
  unfold gL
  by_cases h2 : (20 ≤ j ∧ j < 20 + 10) ∨ (30 ≤ j ∧ j < 30 + 10)
  · rw [if_pos h2]
    exact (mF_l (by omega) (by omega)).symm
  rw [if_neg h2]
  by_cases h11 : j = 11
  · subst h11
    exact pk_uLs.trans rfl
  refine (pk_uLn h11).trans ?_
  by_cases h1 : j = 1
  · subst h1
    exact pk_uLs.trans rfl
  refine (pk_uLn h1).trans ?_
  by_cases h48 : 48 ≤ j
  · exact (mF_z h48).symm
  · exact (mF_o h1 h11 (by omega)).symm
