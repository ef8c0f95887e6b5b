/-! ===== the law's body ===== -/
theorem k_nat {N : Nat} (hN : N < 2 ^ 31) {x : Int32} (h : ¬ kBad N x) : ∃ j, j < N ∧ x = nI j := by
  have h1 : ¬ x < 0 := fun q => h (Or.inl q)
  have h2 : ¬ nI N ≤ x := fun q => h (Or.inr q)
  have h3 : ¬ x.toInt < (0 : Int32).toInt := fun q => h1 (Int32.lt_iff_toInt_lt.mpr q)
  have h4 : ¬ (nI N).toInt ≤ x.toInt := fun q => h2 (Int32.le_iff_toInt_le.mpr q)
  rw [nI_toInt hN] at h4
  have e0 : (0 : Int32).toInt = 0 := by decide
  rw [e0] at h3
  refine ⟨x.toInt.toNat, by omega, ?_⟩
  apply Int32.toInt_inj.mp
  rw [nI_toInt (by omega)]
  omega
theorem k_split2 {N : Nat} (hN : N ≤ 10) (x y : Int32) : (∃ a b, a < N ∧ b < N ∧ x = nI a ∧ y = nI b) ∨ kBad2 N x y := by
  by_cases hx : kBad N x
  · exact Or.inr (Or.inl hx)
  · obtain ⟨a, ha, rfl⟩ := k_nat (by omega) hx
    by_cases hy : kBad N y
    · exact Or.inr (Or.inr ⟨⟨a, ha, rfl⟩, hy⟩)
    · obtain ⟨b, hb, rfl⟩ := k_nat (by omega) hy
      exact Or.inl ⟨a, b, ha, hb, rfl, rfl⟩
theorem k_splitR (n : Nat) (hn : n < 2 ^ 30) (z : Int32) : (∃ u, u ≤ n ∧ z = nI u) ∨ (z < 0 ∨ nI (n + 1) ≤ z) := by
  by_cases hz : kBad (n + 1) z
  · exact Or.inr hz
  · obtain ⟨u, hu, rfl⟩ := k_nat (by omega) hz
    exact Or.inl ⟨u, by omega, rfl⟩
theorem k_splitP (j : Nat) (hj : j < 8) (z : Int32) : (∃ u, kLo j ≤ u ∧ u ≤ kHi j ∧ u ≤ 1000 ∧ z = nI u) ∨ (z < nI (kLo j) ∨ nI (kHi j + 1) ≤ z) := by
  have h9 := kHi_le j hj
  rcases k_splitR (kHi j) (by omega) z with ⟨u, hu, rfl⟩ | h
  · by_cases hl : kLo j ≤ u
    · exact Or.inl ⟨u, hl, hu, by omega, rfl⟩
    · have h8 : kLo j ≤ 1 := by
        unfold kLo
        split <;> omega
      exact Or.inr (Or.inl (nI_lt (by omega) (by omega)))
  · rcases h with h | h
    · refine Or.inr (Or.inl ?_)
      have h8 : kLo j ≤ 1 := by
        unfold kLo
        split <;> omega
      rw [Int32.lt_iff_toInt_lt] at h ⊢
      rw [nI_toInt (by omega)]
      have e0 : (0 : Int32).toInt = 0 := by decide
      rw [e0] at h
      omega
    · exact Or.inr (Or.inr h)
theorem k_cmpS (x : Int64) : lg_cmp x x = 0 := (lg_cmp_eq x x).mpr rfl
theorem k_sld {p : Program} {l : Launch} {e : Env} {R : Room} {s : State} {m : MethodId} {args : Array Value} {below : List Frame} {meth : Method} {c : Code} {H : Heap} {locs : List Loc} {cells slots : Nat} {Q : State → Prop} {cc : ByteArray} {pc : Nat} {ls : Array Slot} {rest : List Value} {A : Nat → Prop} {H0 : Heap}
    (hexec : p.tables.exec = Jvm.exec) (hb : c.code = cc) {b L : Nat} {xs : Nat → Int32} (hX : va_X b L xs s H0) (hbl : b < H0.size) (hbA : ¬ A b) (hS : va_S A H0 H locs) {i : Nat} (hi : i < L) (hL : L < 2 ^ 31) {v : Int32} (hv : xs i = v) (hdg : decode cc pc = .ok (.iaload, 1))
    (kk : W p l e R s m args below meth c H locs cells slots Q (F0 m (pc + 1) ls (.int v :: rest))) : W p l e R s m args below meth c H locs cells slots Q (F0 m pc ls (.int (nI i) :: .ref b :: rest)) := by
  refine va_sld hexec hb hX hbl hbA hS (vp_in_nI hi hL) hdg ?_
  rw [nI_clamp (by omega), hv]
  exact kk
theorem k_fc {u : Nat} : (if u < 680 then lN 0 else lN 3).toInt32 = kSt u 0 := by
  rw [kSt_at]
  by_cases h : u < 680
  · rw [if_pos h, if_pos h]
    rfl
  · rw [if_neg h, if_neg h]
    rfl
