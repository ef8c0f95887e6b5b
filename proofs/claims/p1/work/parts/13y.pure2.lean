theorem mS_full {f : Nat → Int64} {N o d t T r w k w2 : Nat} (ho : o < 10) (hd : d < 10) (h : mS f N o d t T r w k) : mS (vp_updL f (1000 + 4 * (10 * o + d) + 3) (lN w2)) N o d t T r w2 k := by
  obtain ⟨a0, a1, a2, a3, a4, a5, a6, a7, a8, a9, a10, a11, a12, a13⟩ := h
  exact ⟨(pk_uLn (by omega)).trans a0, (pk_uLn (by omega)).trans a1, fun j h1 h2 => (pk_uLn (by omega)).trans (a2 j h1 h2), fun j h1 h2 => (pk_uLn (by omega)).trans (a3 j h1 h2), (pk_uLn (by omega)).trans a4, fun j h1 h2 => (pk_uLn (by omega)).trans (a5 j h1 h2), fun q h1 h2 => (pk_uLn (by omega)).trans (a6 q h1 h2), (pk_uLn (by omega)).trans a7, (pk_uLn (by omega)).trans a8, (pk_uLn (by omega)).trans a9, pk_uLs, (pk_uLn (by omega)).trans a11, (pk_uLn (by omega)).trans a12, (pk_uLn (by omega)).trans a13⟩
theorem mS_time {f : Nat → Int64} {N o d t T r w k t2 : Nat} (ho : o < 10) (hd : d < 10) (h : mS f N o d t T r w k) : mS (vp_updL f 0 (lN t2)) N o d t2 T r w k := by
  obtain ⟨a0, a1, a2, a3, a4, a5, a6, a7, a8, a9, a10, a11, a12, a13⟩ := h
  exact ⟨pk_uLs, (pk_uLn (by omega)).trans a1, fun j h1 h2 => (pk_uLn (by omega)).trans (a2 j h1 h2), fun j h1 h2 => (pk_uLn (by omega)).trans (a3 j h1 h2), (pk_uLn (by omega)).trans a4, fun j h1 h2 => (pk_uLn (by omega)).trans (a5 j h1 h2), fun q h1 h2 => (pk_uLn (by omega)).trans (a6 q h1 h2), (pk_uLn (by omega)).trans a7, (pk_uLn (by omega)).trans a8, (pk_uLn (by omega)).trans a9, (pk_uLn (by omega)).trans a10, (pk_uLn (by omega)).trans a11, (pk_uLn (by omega)).trans a12, (pk_uLn (by omega)).trans a13⟩
theorem mS_46 {f : Nat → Int64} {N o d t T r w k : Nat} (h : mS f N o d t T r w k) : f 46 = lN 20 := (h.2.2.2.1 46 (by omega) (by omega)).trans rfl
/-- a fresh object with packet 0 entered, not carried yet -/
def mB (f : Nat → Int64) (N o d : Nat) : Prop :=
  f 0 = lN 0 ∧ f 1 = lN N ∧ (∀ j, 20 ≤ j → j < 40 → f j = -1) ∧ (∀ j, 40 ≤ j → j < 48 → f j = mF N j) ∧ f (60 + o) = lN 0 ∧ (∀ j, 100 ≤ j → j < 1000 → f j = lN 0) ∧ (∀ q, q < 100 → f (1000 + 4 * q) = lN 0) ∧ f (1400 + 9 * (10 * o + d)) = lN 0 ∧ f 2300 = lN o ∧ f 2301 = lN d ∧ f 2304 = lN 0
theorem mS_first {f g u : Nat → Int64} {N o d : Nat} (ho : o < 10) (hd : d < 10) (h : mB f N o d)
    (hg : g (1400 + 9 * (10 * o + d)) = lN 1 ∧ g (1400 + 9 * (10 * o + d) + 1) = lN 0 ∧ g 2302 = lN 0 ∧ ∀ j, j ≠ 1400 + 9 * (10 * o + d) → j ≠ 1400 + 9 * (10 * o + d) + 1 → j ≠ 1400 + 9 * (10 * o + d) + 2 → j ≠ 2302 → j ≠ 2303 → g j = f j)
    (ha : mAsk (vp_updL (vp_updL g (1000 + 4 * (10 * o + d) + 0) (lN 1)) (1000 + 4 * (10 * o + d) + 3) (lN 0)) u o d 0 1 0) : mS u N o d 0 40 1 0 1 := by
  obtain ⟨a0, a1, a2, a3, a4, a5, a6, a7, a8, a9, a10⟩ := h
  obtain ⟨g1, g2, g3, gf⟩ := hg
  obtain ⟨b1, b2, b3, fr⟩ := ha
  refine ⟨(fr 0 (by omega) (by omega) (by omega) (by omega) (by omega)).trans ((pk_uLn (by omega)).trans ((pk_uLn (by omega)).trans ((gf 0 (by omega) (by omega) (by omega) (by omega) (by omega)).trans a0))), (fr 1 (by omega) (by omega) (by omega) (by omega) (by omega)).trans ((pk_uLn (by omega)).trans ((pk_uLn (by omega)).trans ((gf 1 (by omega) (by omega) (by omega) (by omega) (by omega)).trans a1))), fun j h1 h2 => (fr j (by omega) (by omega) (by omega) (by omega) (by omega)).trans ((pk_uLn (by omega)).trans ((pk_uLn (by omega)).trans ((gf j (by omega) (by omega) (by omega) (by omega) (by omega)).trans (a2 j h1 h2)))), fun j h1 h2 => (fr j (by omega) (by omega) (by omega) (by omega) (by omega)).trans ((pk_uLn (by omega)).trans ((pk_uLn (by omega)).trans ((gf j (by omega) (by omega) (by omega) (by omega) (by omega)).trans (a3 j h1 h2)))), b1, fun j h1 h2 => (fr j (by omega) (by omega) (by omega) (by omega) (by omega)).trans ((pk_uLn (by omega)).trans ((pk_uLn (by omega)).trans ((gf j (by omega) (by omega) (by omega) (by omega) (by omega)).trans (a5 j h1 h2)))), fun q h1 h2 => (fr _ (by omega) (by omega) (by omega) (by omega) (by omega)).trans ((pk_uLn (by omega)).trans ((pk_uLn (by omega)).trans ((gf _ (by omega) (by omega) (by omega) (by omega) (by omega)).trans (a6 q h1)))), (fr _ (by omega) (by omega) (by omega) (by omega) (by omega)).trans ((pk_uLn (by omega)).trans pk_uLs), b2, b3, (fr _ (by omega) (by omega) (by omega) (by omega) (by omega)).trans pk_uLs, (fr _ (by omega) (by omega) (by omega) (by omega) (by omega)).trans ((pk_uLn (by omega)).trans ((pk_uLn (by omega)).trans g1)), (fr _ (by omega) (by omega) (by omega) (by omega) (by omega)).trans ((pk_uLn (by omega)).trans ((pk_uLn (by omega)).trans g2)), (fr _ (by omega) (by omega) (by omega) (by omega) (by omega)).trans ((pk_uLn (by omega)).trans ((pk_uLn (by omega)).trans g3))⟩
theorem mE_of {f g u : Nat → Int64} {N o d t T r w k : Nat} (ho : o < 10) (hd : d < 10) (h : mS f N o d t T r w k) (hg : g = vp_updL f (1000 + 4 * (10 * o + d) + 0) (lN 0)) (hu : u 2302 = lN 3 ∧ ∀ j, (j < 1400 + 9 * (10 * o + d) ∨ 1400 + 9 * (10 * o + d) + 9 ≤ j) → j ≠ 2302 → j ≠ 2303 → j ≠ 2305 → j ≠ 2306 → u j = g j) : mE u N t := by
  obtain ⟨a0, a1, a2, a3, a4, a5, a6, a7, a8, a9, a10, a11, a12, a13⟩ := h
  obtain ⟨u1, uf⟩ := hu
  subst hg
  refine ⟨(uf 0 (by omega) (by omega) (by omega) (by omega) (by omega)).trans ((pk_uLn (by omega)).trans a0), (uf 1 (by omega) (by omega) (by omega) (by omega) (by omega)).trans ((pk_uLn (by omega)).trans a1), fun j h1 h2 => (uf j (by omega) (by omega) (by omega) (by omega) (by omega)).trans ((pk_uLn (by omega)).trans (a2 j h1 h2)), fun q h1 => ?_, u1⟩
  refine (uf _ (by omega) (by omega) (by omega) (by omega) (by omega)).trans ?_
  by_cases hq : q = 10 * o + d
  · rw [hq]
    exact pk_uLs
  · exact (pk_uLn (by omega)).trans (a6 q h1 hq)
theorem k_c10' {o d : Nat} (ho : o < 10) (hd : d < 10) : nI (10 * o + d) / nI 10 = nI o ∧ nI (10 * o + d) - nI (10 * o + d) / nI 10 * nI 10 = nI d :=
  ⟨(pk_div (by omega) (by omega) (by omega)).trans (congrArg nI (by omega)), (pk_rem (by omega) (by omega) (by omega)).trans (congrArg nI (by omega))⟩
theorem kSt_at {u : Nat} : kSt u 0 = (if u < 680 then nI 0 else nI 3) := by
  unfold kSt
  split
  · exact nI_0.symm
  · exact pk_us
