/-! ===== what holds at the law's entry ===== -/
theorem e_I {args : Array Value} {s : State} (h : (Cond.arrayClass .int).before args s = true) : ∃ cA, ArrOfT s cA .int ∧ va_RA s cA .int := by
  obtain ⟨c, k, comp, h1, h2, h3⟩ := Cond.arrayClass_spec h
  exact ⟨c, fun n z => ⟨fun k h => (by cases h), k, h2, comp, h3⟩, h1⟩
theorem e_J {args : Array Value} {s : State} (h : (Cond.arrayClass .long).before args s = true) : ∃ cA, ArrOfT s cA .long ∧ va_RA s cA .long := by
  obtain ⟨c, k, comp, h1, h2, h3⟩ := Cond.arrayClass_spec h
  exact ⟨c, fun n z => ⟨fun k h => (by cases h), k, h2, comp, h3⟩, h1⟩
theorem e_M {C : String} {s : State} (h : va_AO C s) : ∃ cA, ArrOfT s cA (.object C) ∧ va_RA s cA (.object C) := by
  obtain ⟨comp, c, k, f1, -, f2, f3, f4⟩ := Cond.arrayOver_spec h
  exact ⟨c, fun n z => ⟨fun k h => (by cases h), k, f2, comp, f3⟩, k, comp, f2, f3, f1, f4⟩
theorem e_G {t : FieldType} {s : State} (h : va_AOA t s) : ∃ cA, ArrOfT s cA (.array t) ∧ va_RA s cA (.array t) := by
  obtain ⟨comp, c, k, f1, f2, f3, f4⟩ := Cond.arrayOver_specA h
  exact ⟨c, fun n z => ⟨fun k h => (by cases h), k, f2, comp, f3⟩, f4⟩
theorem e_eqi {args : Array Value} {s : State} {t : Term} {z : Int32} (h : (Cond.eq t (.int z)).before args s = true) : t.eval args s none [] s = some (.int z) := by
  cases hv : t.eval args s none [] s with
  | none => simp [Cond.before, Cond.holds, Cond.value, hv] at h
  | some w =>
    have hz : (Term.int z).eval args s none [] s = some (.int z) := rfl
    simp only [Cond.before, Cond.holds, Cond.value, hv, hz] at h
    cases w <;> simp_all
theorem e_len {args : Array Value} {s : State} {t : Term} {v : Value} (hv : (Term.length t).eval args s none [] s = some v) {b : Nat} {cell : Cell} (ht : t.eval args s none [] s = some (.ref b)) (harr : s.arrayAt? b = some cell) : cell.slots.size < 2 ^ 31 := by
  simp only [Term.eval, ht, harr, Option.bind_eq_bind, Option.bind_some] at hv
  by_cases hlt : cell.slots.size < 2147483648
  · exact hlt
  · simp [hlt] at hv
theorem e_tab {args : Array Value} {s : State} {nm : String} {f : Nat → Int32} {A : Nat → Prop} (hl : (Cond.laysStatic RX6 nm "[I").before args s = true) (hini : (Cond.initialized RX6).before args s = true) (harr : (Cond.arrayOf (.static RX6 nm "[I") .int).before args s = true) (hex : (Cond.exactly (.static RX6 nm "[I") "[I").before args s = true)
    (hlen : (Term.length (.static RX6 nm "[I")).eval args s none [] s = some (.int 8)) (hel : ∀ j : Nat, j < 8 → (Term.elem (.static RX6 nm "[I") (.int (Int32.ofNat j))).eval args s none [] s = some (.int (f j))) (hA : ∀ a : Nat, a < s.heap.size → ¬ A a) : kS1 nm f A s s.heap := by
  obtain ⟨t, ht, hT⟩ := va_Tof (N := 8) (f := fun j => .int (f j)) (by decide) harr hlen hel hA
  obtain ⟨cell, h1, h2, h3, h4, h5, h6, h7⟩ := hT
  obtain ⟨a2, c, cell2, k2, q1, q2, q3, q4, q5, q6, -⟩ := Cond.exactly_spec hex
  cases ht.symm.trans q1
  cases h1.symm.trans q3
  obtain ⟨b9, cell9, ht9, hat9, -⟩ := Term.length_spec hlen
  cases ht.symm.trans ht9
  obtain ⟨hcell9, -, -, -⟩ := State.arrayAt?_spec hat9
  cases h1.symm.trans hcell9
  have hsz : cell.slots.size < 2 ^ 31 := e_len hlen ht hat9
  have h8 : cell.slots.size = 8 := by
    have h9 := congrArg Int32.toInt h5
    have e1 : (Nat.toInt32 cell.slots.size) = nI cell.slots.size := rfl
    rw [e1, nI_toInt hsz] at h9
    have e2 : (Int32.ofNat 8).toInt = 8 := by decide
    rw [e2] at h9
    omega
  refine ⟨t, va_Zref hl hini ht hA, cell, h1, h2.1, h3, h2, by rw [q6]; exact q2, ?_, h7⟩
  apply Array.ext_getElem?
  intro i
  by_cases hi : i < 8
  · rw [h6 i hi]
    simp [hi]
  · rw [Array.getElem?_eq_none (by omega)]
    simp [hi]
theorem e_w0 : (.methodLinkNest RX2 28 yX4_init "MeshRouting" : Cond) ∈ lw_tbl := (show (.methodLinkNest RX2 28 yX4_init "MeshRouting" : Cond) ∈ k2_sels lw_privs ++ (tables_1_1 ++ (tables_1_2 ++ (tables_1_3 ++ (tables_1_4 ++ (tables_1_5 ++ tables_1_6))))) from (List.mem_append_right _ (List.mem_append_left _ (List.mem_of_getElem? (i := 49) (by first | rfl | decide +kernel)))))
theorem e_w1 : (.methodLinkNest RX4 15 yX6_filledRow "MeshRouting" : Cond) ∈ lw_tbl := (show (.methodLinkNest RX4 15 yX6_filledRow "MeshRouting" : Cond) ∈ k2_sels lw_privs ++ (tables_1_1 ++ (tables_1_2 ++ (tables_1_3 ++ (tables_1_4 ++ (tables_1_5 ++ tables_1_6))))) from (List.mem_append_right _ (List.mem_append_left _ (List.mem_of_getElem? (i := 53) (by first | rfl | decide +kernel)))))
theorem e_w2 : (.methodLinkNest RX2 35 yX5_init "MeshRouting" : Cond) ∈ lw_tbl := (show (.methodLinkNest RX2 35 yX5_init "MeshRouting" : Cond) ∈ k2_sels lw_privs ++ (tables_1_1 ++ (tables_1_2 ++ (tables_1_3 ++ (tables_1_4 ++ (tables_1_5 ++ tables_1_6))))) from (List.mem_append_right _ (List.mem_append_left _ (List.mem_of_getElem? (i := 91) (by first | rfl | decide +kernel)))))
theorem e_w3 : (.methodLinkNest RX5 15 yX6_filledRow "MeshRouting" : Cond) ∈ lw_tbl := (show (.methodLinkNest RX5 15 yX6_filledRow "MeshRouting" : Cond) ∈ k2_sels lw_privs ++ (tables_1_1 ++ (tables_1_2 ++ (tables_1_3 ++ (tables_1_4 ++ (tables_1_5 ++ tables_1_6))))) from (List.mem_append_right _ (List.mem_append_left _ (List.mem_of_getElem? (i := 95) (by first | rfl | decide +kernel)))))
theorem e_w4 : (.methodLinkNest RX2 42 yX3_init "MeshRouting" : Cond) ∈ lw_tbl := (show (.methodLinkNest RX2 42 yX3_init "MeshRouting" : Cond) ∈ k2_sels lw_privs ++ (tables_1_1 ++ (tables_1_2 ++ (tables_1_3 ++ (tables_1_4 ++ (tables_1_5 ++ tables_1_6))))) from (List.mem_append_right _ (List.mem_append_left _ (List.mem_of_getElem? (i := 128) (by first | rfl | decide +kernel)))))
theorem e_w5 : (.methodLinkNest RX3 30 yX6_filledRow "MeshRouting" : Cond) ∈ lw_tbl := (show (.methodLinkNest RX3 30 yX6_filledRow "MeshRouting" : Cond) ∈ k2_sels lw_privs ++ (tables_1_1 ++ (tables_1_2 ++ (tables_1_3 ++ (tables_1_4 ++ (tables_1_5 ++ tables_1_6))))) from (List.mem_append_right _ (List.mem_append_left _ (List.mem_of_getElem? (i := 132) (by first | rfl | decide +kernel)))))
theorem e_w6 : (.methodLinkNest RX2 52 yX1_init "MeshRouting" : Cond) ∈ lw_tbl := (show (.methodLinkNest RX2 52 yX1_init "MeshRouting" : Cond) ∈ k2_sels lw_privs ++ (tables_1_1 ++ (tables_1_2 ++ (tables_1_3 ++ (tables_1_4 ++ (tables_1_5 ++ tables_1_6))))) from (List.mem_append_right _ (List.mem_append_left _ (List.mem_of_getElem? (i := 176) (by first | rfl | decide +kernel)))))
theorem e_w7 : (.methodLinkNest RX2 198 yX6_cellOf "MeshRouting" : Cond) ∈ lw_tbl := (show (.methodLinkNest RX2 198 yX6_cellOf "MeshRouting" : Cond) ∈ k2_sels lw_privs ++ (tables_1_1 ++ (tables_1_2 ++ (tables_1_3 ++ (tables_1_4 ++ (tables_1_5 ++ tables_1_6))))) from (List.mem_append_right _ (List.mem_append_right _ (List.mem_append_left _ (List.mem_of_getElem? (i := 148) (by first | rfl | decide +kernel))))))
theorem e_w8 : (.methodLinkNest RX0 40 yX1_init "MeshRouting" : Cond) ∈ lw_tbl := (show (.methodLinkNest RX0 40 yX1_init "MeshRouting" : Cond) ∈ k2_sels lw_privs ++ (tables_1_1 ++ (tables_1_2 ++ (tables_1_3 ++ (tables_1_4 ++ (tables_1_5 ++ tables_1_6))))) from (List.mem_append_right _ (List.mem_append_right _ (List.mem_append_left _ (List.mem_of_getElem? (i := 167) (by first | rfl | decide +kernel))))))
theorem e_w9 : (.methodLinkNest RX2 73 yX6_copyRow "MeshRouting" : Cond) ∈ lw_tbl := (show (.methodLinkNest RX2 73 yX6_copyRow "MeshRouting" : Cond) ∈ k2_sels lw_privs ++ (tables_1_1 ++ (tables_1_2 ++ (tables_1_3 ++ (tables_1_4 ++ (tables_1_5 ++ tables_1_6))))) from (List.mem_append_right _ (List.mem_append_right _ (List.mem_append_right _ (List.mem_append_left _ (List.mem_of_getElem? (i := 94) (by first | rfl | decide +kernel)))))))
theorem e_w10 : (.methodLinkNest RX0 76 yX6_copyRow "MeshRouting" : Cond) ∈ lw_tbl := (show (.methodLinkNest RX0 76 yX6_copyRow "MeshRouting" : Cond) ∈ k2_sels lw_privs ++ (tables_1_1 ++ (tables_1_2 ++ (tables_1_3 ++ (tables_1_4 ++ (tables_1_5 ++ tables_1_6))))) from (List.mem_append_right _ (List.mem_append_right _ (List.mem_append_right _ (List.mem_append_left _ (List.mem_of_getElem? (i := 102) (by first | rfl | decide +kernel)))))))
theorem e_w11 : (.methodLinkNest RX4 48 yX6_copyRow "MeshRouting" : Cond) ∈ lw_tbl := (show (.methodLinkNest RX4 48 yX6_copyRow "MeshRouting" : Cond) ∈ k2_sels lw_privs ++ (tables_1_1 ++ (tables_1_2 ++ (tables_1_3 ++ (tables_1_4 ++ (tables_1_5 ++ tables_1_6))))) from (List.mem_append_right _ (List.mem_append_right _ (List.mem_append_right _ (List.mem_append_left _ (List.mem_of_getElem? (i := 113) (by first | rfl | decide +kernel)))))))
theorem e_w12 : (.methodLinkNest RX5 51 yX6_copyRow "MeshRouting" : Cond) ∈ lw_tbl := (show (.methodLinkNest RX5 51 yX6_copyRow "MeshRouting" : Cond) ∈ k2_sels lw_privs ++ (tables_1_1 ++ (tables_1_2 ++ (tables_1_3 ++ (tables_1_4 ++ (tables_1_5 ++ tables_1_6))))) from (List.mem_append_right _ (List.mem_append_right _ (List.mem_append_right _ (List.mem_append_left _ (List.mem_of_getElem? (i := 118) (by first | rfl | decide +kernel)))))))
theorem e_w13 : (.methodLinkNest RX3 44 yX6_copyRow "MeshRouting" : Cond) ∈ lw_tbl := (show (.methodLinkNest RX3 44 yX6_copyRow "MeshRouting" : Cond) ∈ k2_sels lw_privs ++ (tables_1_1 ++ (tables_1_2 ++ (tables_1_3 ++ (tables_1_4 ++ (tables_1_5 ++ tables_1_6))))) from (List.mem_append_right _ (List.mem_append_right _ (List.mem_append_right _ (List.mem_append_left _ (List.mem_of_getElem? (i := 123) (by first | rfl | decide +kernel)))))))
theorem e_w14 : (.fieldLinkNest RX2 9 "MeshRouting" "FIRST_VALUES" "[I" "MeshRouting" : Cond) ∈ lw_tbl := (show (.fieldLinkNest RX2 9 "MeshRouting" "FIRST_VALUES" "[I" "MeshRouting" : Cond) ∈ k2_sels lw_privs ++ (tables_1_1 ++ (tables_1_2 ++ (tables_1_3 ++ (tables_1_4 ++ (tables_1_5 ++ tables_1_6))))) from (List.mem_append_right _ (List.mem_append_left _ (List.mem_of_getElem? (i := 38) (by first | rfl | decide +kernel)))))
theorem e_w15 : (.arrayOver (.object "MeshRouting$Message") : Cond) ∈ lw_tbl := (show (.arrayOver (.object "MeshRouting$Message") : Cond) ∈ k2_sels lw_privs ++ (tables_1_1 ++ (tables_1_2 ++ (tables_1_3 ++ (tables_1_4 ++ (tables_1_5 ++ tables_1_6))))) from (List.mem_append_right _ (List.mem_append_right _ (List.mem_append_left _ (List.mem_of_getElem? (i := 3) (by first | rfl | decide +kernel))))))
theorem e_w16 : (.arrayOver (.array .int) : Cond) ∈ lw_tbl := (show (.arrayOver (.array .int) : Cond) ∈ k2_sels lw_privs ++ (tables_1_1 ++ (tables_1_2 ++ (tables_1_3 ++ (tables_1_4 ++ (tables_1_5 ++ tables_1_6))))) from (List.mem_append_right _ (List.mem_append_right _ (List.mem_append_left _ (List.mem_of_getElem? (i := 1) (by first | rfl | decide +kernel))))))
theorem e_w17 : (.castable "[I" "java/lang/Cloneable" : Cond) ∈ lw_tbl := (show (.castable "[I" "java/lang/Cloneable" : Cond) ∈ k2_sels lw_privs ++ (tables_1_1 ++ (tables_1_2 ++ (tables_1_3 ++ (tables_1_4 ++ (tables_1_5 ++ tables_1_6))))) from (List.mem_append_right _ (List.mem_append_left _ (List.mem_of_getElem? (i := 45) (by first | rfl | decide +kernel)))))
theorem e_kN {args : Array Value} {s : State} (hts : ∀ w ∈ lw_tbl, w.before args s = true) : kN s := ⟨va_Nw.of rfl (hts _ e_w0), va_Nw.of rfl (hts _ e_w1), va_Nw.of rfl (hts _ e_w2), va_Nw.of rfl (hts _ e_w3), va_Nw.of rfl (hts _ e_w4), va_Nw.of rfl (hts _ e_w5), va_Nw.of rfl (hts _ e_w6), va_Nw.of rfl (hts _ e_w7), va_Nw.of rfl (hts _ e_w8), va_Nw.of rfl (hts _ e_w9), va_Nw.of rfl (hts _ e_w10), va_Nw.of rfl (hts _ e_w11), va_Nw.of rfl (hts _ e_w12), va_Nw.of rfl (hts _ e_w13), va_Nw.of rfl (hts _ e_w14), va_AO.of (hts _ e_w15), va_AOA.of (hts _ e_w16), va_Nw.of rfl (hts _ e_w17), trivial⟩
theorem e_w18 : (.arrayClass .int : Cond) ∈ lw_tbl := (show (.arrayClass .int : Cond) ∈ k2_sels lw_privs ++ (tables_1_1 ++ (tables_1_2 ++ (tables_1_3 ++ (tables_1_4 ++ (tables_1_5 ++ tables_1_6))))) from (List.mem_append_right _ (List.mem_append_left _ (List.mem_of_getElem? (i := 88) (by first | rfl | decide +kernel)))))
theorem e_w19 : (.arrayClass .long : Cond) ∈ lw_tbl := (show (.arrayClass .long : Cond) ∈ k2_sels lw_privs ++ (tables_1_1 ++ (tables_1_2 ++ (tables_1_3 ++ (tables_1_4 ++ (tables_1_5 ++ tables_1_6))))) from (List.mem_append_right _ (List.mem_append_right _ (List.mem_append_right _ (List.mem_append_right _ (List.mem_append_right _ (List.mem_append_left _ (List.mem_of_getElem? (i := 64) (by first | rfl | decide +kernel)))))))))
theorem e_w20 : (.instantiable RX0 7 : Cond) ∈ lw_tbl := (show (.instantiable RX0 7 : Cond) ∈ k2_sels lw_privs ++ (tables_1_1 ++ (tables_1_2 ++ (tables_1_3 ++ (tables_1_4 ++ (tables_1_5 ++ tables_1_6))))) from (List.mem_append_right _ (List.mem_append_left _ (List.mem_of_getElem? (i := 235) (by first | rfl | decide +kernel)))))
theorem e_w21 : (.instantiable RX1 13 : Cond) ∈ lw_tbl := (show (.instantiable RX1 13 : Cond) ∈ k2_sels lw_privs ++ (tables_1_1 ++ (tables_1_2 ++ (tables_1_3 ++ (tables_1_4 ++ (tables_1_5 ++ tables_1_6))))) from (List.mem_append_right _ (List.mem_append_left _ (List.mem_of_getElem? (i := 175) (by first | rfl | decide +kernel)))))
theorem e_w22 : (.instantiable RX2 12 : Cond) ∈ lw_tbl := (show (.instantiable RX2 12 : Cond) ∈ k2_sels lw_privs ++ (tables_1_1 ++ (tables_1_2 ++ (tables_1_3 ++ (tables_1_4 ++ (tables_1_5 ++ tables_1_6))))) from (List.mem_append_right _ (List.mem_append_left _ (List.mem_of_getElem? (i := 33) (by first | rfl | decide +kernel)))))
theorem e_w23 : (.instantiable RX3 9 : Cond) ∈ lw_tbl := (show (.instantiable RX3 9 : Cond) ∈ k2_sels lw_privs ++ (tables_1_1 ++ (tables_1_2 ++ (tables_1_3 ++ (tables_1_4 ++ (tables_1_5 ++ tables_1_6))))) from (List.mem_append_right _ (List.mem_append_left _ (List.mem_of_getElem? (i := 127) (by first | rfl | decide +kernel)))))
theorem e_w24 : (.instantiable RX4 6 : Cond) ∈ lw_tbl := (show (.instantiable RX4 6 : Cond) ∈ k2_sels lw_privs ++ (tables_1_1 ++ (tables_1_2 ++ (tables_1_3 ++ (tables_1_4 ++ (tables_1_5 ++ tables_1_6))))) from (List.mem_append_right _ (List.mem_append_left _ (List.mem_of_getElem? (i := 48) (by first | rfl | decide +kernel)))))
theorem e_w25 : (.instantiable RX5 7 : Cond) ∈ lw_tbl := (show (.instantiable RX5 7 : Cond) ∈ k2_sels lw_privs ++ (tables_1_1 ++ (tables_1_2 ++ (tables_1_3 ++ (tables_1_4 ++ (tables_1_5 ++ tables_1_6))))) from (List.mem_append_right _ (List.mem_append_left _ (List.mem_of_getElem? (i := 90) (by first | rfl | decide +kernel)))))
theorem e_w26 : (.instantiable RX6 5 : Cond) ∈ lw_tbl := (show (.instantiable RX6 5 : Cond) ∈ k2_sels lw_privs ++ (tables_1_1 ++ (tables_1_2 ++ (tables_1_3 ++ (tables_1_4 ++ (tables_1_5 ++ tables_1_6))))) from (List.mem_append_right _ (List.mem_append_left _ (List.mem_of_getElem? (i := 19) (by first | rfl | decide +kernel)))))
theorem e_w27 : (.instantiable RX7 6 : Cond) ∈ lw_tbl := (show (.instantiable RX7 6 : Cond) ∈ k2_sels lw_privs ++ (tables_1_1 ++ (tables_1_2 ++ (tables_1_3 ++ (tables_1_4 ++ (tables_1_5 ++ tables_1_6))))) from (List.mem_append_right _ (List.mem_append_right _ (List.mem_append_right _ (List.mem_append_right _ (List.mem_append_right _ (List.mem_append_left _ (List.mem_of_getElem? (i := 32) (by first | rfl | decide +kernel)))))))))
theorem e_w28 : (.stringRef RX6 217 "out of its range" : Cond) ∈ lw_tbl := (show (.stringRef RX6 217 "out of its range" : Cond) ∈ k2_sels lw_privs ++ (tables_1_1 ++ (tables_1_2 ++ (tables_1_3 ++ (tables_1_4 ++ (tables_1_5 ++ tables_1_6))))) from (List.mem_append_right _ (List.mem_append_right _ (List.mem_append_right _ (List.mem_append_left _ (List.mem_of_getElem? (i := 213) (by first | rfl | decide +kernel)))))))
theorem e_w29 : (.stringRef RX6 212 "both nodes are the same" : Cond) ∈ lw_tbl := (show (.stringRef RX6 212 "both nodes are the same" : Cond) ∈ k2_sels lw_privs ++ (tables_1_1 ++ (tables_1_2 ++ (tables_1_3 ++ (tables_1_4 ++ (tables_1_5 ++ tables_1_6))))) from (List.mem_append_right _ (List.mem_append_right _ (List.mem_append_right _ (List.mem_append_right _ (List.mem_append_left _ (List.mem_of_getElem? (i := 9) (by first | rfl | decide +kernel))))))))
theorem e_w30 : (.stringRef RX6 193 "nothing was kept" : Cond) ∈ lw_tbl := (show (.stringRef RX6 193 "nothing was kept" : Cond) ∈ k2_sels lw_privs ++ (tables_1_1 ++ (tables_1_2 ++ (tables_1_3 ++ (tables_1_4 ++ (tables_1_5 ++ tables_1_6))))) from (List.mem_append_right _ (List.mem_append_right _ (List.mem_append_right _ (List.mem_append_right _ (List.mem_append_right _ (List.mem_append_left _ (List.mem_of_getElem? (i := 30) (by first | rfl | decide +kernel)))))))))
theorem e_w31 : (.declares (Bundle.initS "java/lang/RuntimeException") : Cond) ∈ lw_tbl := (show (.declares (Bundle.initS "java/lang/RuntimeException") : Cond) ∈ k2_sels lw_privs ++ (tables_1_1 ++ (tables_1_2 ++ (tables_1_3 ++ (tables_1_4 ++ (tables_1_5 ++ tables_1_6))))) from (List.mem_append_right _ (List.mem_append_right _ (List.mem_append_right _ (List.mem_append_left _ (List.mem_of_getElem? (i := 176) (by first | rfl | decide +kernel)))))))
theorem e_w32 : (.declares (Bundle.initS "java/lang/Exception") : Cond) ∈ lw_tbl := (show (.declares (Bundle.initS "java/lang/Exception") : Cond) ∈ k2_sels lw_privs ++ (tables_1_1 ++ (tables_1_2 ++ (tables_1_3 ++ (tables_1_4 ++ (tables_1_5 ++ tables_1_6))))) from (List.mem_append_right _ (List.mem_append_right _ (List.mem_append_right _ (List.mem_append_left _ (List.mem_of_getElem? (i := 178) (by first | rfl | decide +kernel)))))))
theorem e_w33 : (.declares (Bundle.initS Bundle.tN) : Cond) ∈ lw_tbl := (show (.declares (Bundle.initS Bundle.tN) : Cond) ∈ k2_sels lw_privs ++ (tables_1_1 ++ (tables_1_2 ++ (tables_1_3 ++ (tables_1_4 ++ (tables_1_5 ++ tables_1_6))))) from (List.mem_append_right _ (List.mem_append_right _ (List.mem_append_right _ (List.mem_append_left _ (List.mem_of_getElem? (i := 180) (by first | rfl | decide +kernel)))))))
theorem e_w34 : (.castable "java/lang/IndexOutOfBoundsException" "java/lang/IndexOutOfBoundsException" : Cond) ∈ lw_tbl := (show (.castable "java/lang/IndexOutOfBoundsException" "java/lang/IndexOutOfBoundsException" : Cond) ∈ k2_sels lw_privs ++ (tables_1_1 ++ (tables_1_2 ++ (tables_1_3 ++ (tables_1_4 ++ (tables_1_5 ++ tables_1_6))))) from (List.mem_append_right _ (List.mem_append_right _ (List.mem_append_right _ (List.mem_append_left _ (List.mem_of_getElem? (i := 174) (by first | rfl | decide +kernel)))))))
theorem e_w35 : (.castable "java/lang/IllegalArgumentException" "java/lang/IllegalArgumentException" : Cond) ∈ lw_tbl := (show (.castable "java/lang/IllegalArgumentException" "java/lang/IllegalArgumentException" : Cond) ∈ k2_sels lw_privs ++ (tables_1_1 ++ (tables_1_2 ++ (tables_1_3 ++ (tables_1_4 ++ (tables_1_5 ++ tables_1_6))))) from (List.mem_append_right _ (List.mem_append_right _ (List.mem_append_right _ (List.mem_append_right _ (List.mem_append_left _ (List.mem_of_getElem? (i := 2) (by first | rfl | decide +kernel))))))))
theorem e_w36 : (.castable "java/lang/IllegalStateException" "java/lang/IllegalStateException" : Cond) ∈ lw_tbl := (show (.castable "java/lang/IllegalStateException" "java/lang/IllegalStateException" : Cond) ∈ k2_sels lw_privs ++ (tables_1_1 ++ (tables_1_2 ++ (tables_1_3 ++ (tables_1_4 ++ (tables_1_5 ++ tables_1_6))))) from (List.mem_append_right _ (List.mem_append_right _ (List.mem_append_right _ (List.mem_append_right _ (List.mem_append_left _ (List.mem_of_getElem? (i := 72) (by first | rfl | decide +kernel))))))))
theorem e_w37 : (.laysStatic Bundle.tN "UNASSIGNED_STACK" Bundle.steD : Cond) ∈ lw_tbl := (show (.laysStatic Bundle.tN "UNASSIGNED_STACK" Bundle.steD : Cond) ∈ k2_sels lw_privs ++ (tables_1_1 ++ (tables_1_2 ++ (tables_1_3 ++ (tables_1_4 ++ (tables_1_5 ++ tables_1_6))))) from (List.mem_append_right _ (List.mem_append_right _ (List.mem_append_right _ (List.mem_append_left _ (List.mem_of_getElem? (i := 199) (by first | rfl | decide +kernel)))))))
theorem e_w38 : (.laysStatic Bundle.tN "SUPPRESSED_SENTINEL" Bundle.listD : Cond) ∈ lw_tbl := (show (.laysStatic Bundle.tN "SUPPRESSED_SENTINEL" Bundle.listD : Cond) ∈ k2_sels lw_privs ++ (tables_1_1 ++ (tables_1_2 ++ (tables_1_3 ++ (tables_1_4 ++ (tables_1_5 ++ tables_1_6))))) from (List.mem_append_right _ (List.mem_append_right _ (List.mem_append_right _ (List.mem_append_left _ (List.mem_of_getElem? (i := 201) (by first | rfl | decide +kernel)))))))
theorem e_w39 : (.initialized Bundle.tN : Cond) ∈ lw_tbl := (show (.initialized Bundle.tN : Cond) ∈ k2_sels lw_privs ++ (tables_1_1 ++ (tables_1_2 ++ (tables_1_3 ++ (tables_1_4 ++ (tables_1_5 ++ tables_1_6))))) from (List.mem_append_right _ (List.mem_append_left _ (List.mem_of_getElem? (i := 11) (by first | rfl | decide +kernel)))))
theorem e_w40 : (.initialized RX6 : Cond) ∈ lw_tbl := (show (.initialized RX6 : Cond) ∈ k2_sels lw_privs ++ (tables_1_1 ++ (tables_1_2 ++ (tables_1_3 ++ (tables_1_4 ++ (tables_1_5 ++ tables_1_6))))) from (List.mem_append_right _ (List.mem_append_left _ (List.mem_of_getElem? (i := 1) (by first | rfl | decide +kernel)))))
theorem e_w41 : (.laysStatic RX6 "LEAST_VALUES" "[I" : Cond) ∈ lw_tbl := (show (.laysStatic RX6 "LEAST_VALUES" "[I" : Cond) ∈ k2_sels lw_privs ++ (tables_1_1 ++ (tables_1_2 ++ (tables_1_3 ++ (tables_1_4 ++ (tables_1_5 ++ tables_1_6))))) from (List.mem_append_right _ (List.mem_append_right _ (List.mem_append_right _ (List.mem_append_right _ (List.mem_append_left _ (List.mem_of_getElem? (i := 59) (by first | rfl | decide +kernel))))))))
theorem e_w42 : (.laysStatic RX6 "MOST_VALUES" "[I" : Cond) ∈ lw_tbl := (show (.laysStatic RX6 "MOST_VALUES" "[I" : Cond) ∈ k2_sels lw_privs ++ (tables_1_1 ++ (tables_1_2 ++ (tables_1_3 ++ (tables_1_4 ++ (tables_1_5 ++ tables_1_6))))) from (List.mem_append_right _ (List.mem_append_right _ (List.mem_append_right _ (List.mem_append_right _ (List.mem_append_left _ (List.mem_of_getElem? (i := 61) (by first | rfl | decide +kernel))))))))
theorem e_w43 : (.laysStatic RX6 "FIRST_VALUES" "[I" : Cond) ∈ lw_tbl := (show (.laysStatic RX6 "FIRST_VALUES" "[I" : Cond) ∈ k2_sels lw_privs ++ (tables_1_1 ++ (tables_1_2 ++ (tables_1_3 ++ (tables_1_4 ++ (tables_1_5 ++ tables_1_6))))) from (List.mem_append_right _ (List.mem_append_left _ (List.mem_of_getElem? (i := 39) (by first | rfl | decide +kernel)))))
theorem e_K {args : Array Value} {s : State} (hts : ∀ w ∈ lw_tbl, w.before args s = true) : ∃ (D : va_G) (cI cJ cM cG : ClassId), va_K D vwCl [(cI, .int), (cJ, .long), (cM, .object "MeshRouting$Message"), (cG, .array .int)] s := by
  obtain ⟨cI, i1, i2⟩ := e_I (hts _ e_w18)
  obtain ⟨cJ, j1, j2⟩ := e_J (hts _ e_w19)
  obtain ⟨cM, m1, m2⟩ := e_M (va_AO.of (hts _ e_w15))
  obtain ⟨cG, g1, g2⟩ := e_G (va_AOA.of (hts _ e_w16))
  have hk : ∀ w ∈ kBig, w.before args s = true := fun w h => hts w (List.mem_filter.mp h).1
  obtain ⟨c0, s0, u0⟩ := u_known (C := RX0) (T := TX0) (N := 7) hk inb0 (hts _ e_w20)
  obtain ⟨c1, s1, u1⟩ := u_known (C := RX1) (T := TX1) (N := 13) hk inb1 (hts _ e_w21)
  obtain ⟨c2, s2, u2⟩ := u_known (C := RX2) (T := TX2) (N := 12) hk inb2 (hts _ e_w22)
  obtain ⟨c3, s3, u3⟩ := u_known (C := RX3) (T := TX3) (N := 9) hk inb3 (hts _ e_w23)
  obtain ⟨c4, s4, u4⟩ := u_known (C := RX4) (T := TX4) (N := 6) hk inb4 (hts _ e_w24)
  obtain ⟨c5, s5, u5⟩ := u_known (C := RX5) (T := TX5) (N := 7) hk inb5 (hts _ e_w25)
  obtain ⟨c6, s6, u6⟩ := u_known (C := RX6) (T := TX6) (N := 5) hk inb6 (hts _ e_w26)
  obtain ⟨c7, s7, u7⟩ := u_known (C := RX7) (T := TX7) (N := 6) hk inb7 (hts _ e_w27)
  refine ⟨(fun k => match k with | 0 => c0 | 1 => c1 | 2 => c2 | 3 => c3 | 4 => c4 | 5 => c5 | 6 => c6 | 7 => c7 | _ => c0, fun k => match k with | 0 => s0 | 1 => s1 | 2 => s2 | 3 => s3 | 4 => s4 | 5 => s5 | 6 => s6 | 7 => s7 | _ => s0), cI, cJ, cM, cG, ?_, ?_⟩
  · intro k q hq
    match k, hq with
    | 0, hq => cases hq; exact u0
    | 1, hq => cases hq; exact u1
    | 2, hq => cases hq; exact u2
    | 3, hq => cases hq; exact u3
    | 4, hq => cases hq; exact u4
    | 5, hq => cases hq; exact u5
    | 6, hq => cases hq; exact u6
    | 7, hq => cases hq; exact u7
    | n + 8, hq => exact absurd (List.getElem?_eq_some_iff.mp hq).1 (by show ¬ n + 8 < 8; omega)
  · intro k q hq
    match k, hq with
    | 0, hq => cases hq; exact ⟨i1, i2⟩
    | 1, hq => cases hq; exact ⟨j1, j2⟩
    | 2, hq => cases hq; exact ⟨m1, m2⟩
    | 3, hq => cases hq; exact ⟨g1, g2⟩
    | n + 4, hq => exact absurd (List.getElem?_eq_some_iff.mp hq).1 (by show ¬ n + 4 < 4; omega)
theorem e_str217 {args : Array Value} {s : State} (hts : ∀ w ∈ lw_tbl, w.before args s = true) (hgv : (Jvm.Cond.and given_1 narrow_1).before args s = true) : ∃ a, vk_R RX6 217 "out of its range" a s := by
  have h : (Cond.exactly (.string "MeshRouting" 217) "java/lang/String").before args s = true := flat_of_before _ hgv _ (by decide +kernel)
  obtain ⟨a, -, -, -, q1, -⟩ := Cond.exactly_spec h
  exact ⟨a, vk_R.of (hts _ e_w28) q1⟩
theorem e_str212 {args : Array Value} {s : State} (hts : ∀ w ∈ lw_tbl, w.before args s = true) (hgv : (Jvm.Cond.and given_1 narrow_1).before args s = true) : ∃ a, vk_R RX6 212 "both nodes are the same" a s := by
  have h : (Cond.exactly (.string "MeshRouting" 212) "java/lang/String").before args s = true := flat_of_before _ hgv _ (by decide +kernel)
  obtain ⟨a, -, -, -, q1, -⟩ := Cond.exactly_spec h
  exact ⟨a, vk_R.of (hts _ e_w29) q1⟩
theorem e_str193 {args : Array Value} {s : State} (hts : ∀ w ∈ lw_tbl, w.before args s = true) (hgv : (Jvm.Cond.and given_1 narrow_1).before args s = true) : ∃ a, vk_R RX6 193 "nothing was kept" a s := by
  have h : (Cond.exactly (.string "MeshRouting" 193) "java/lang/String").before args s = true := flat_of_before _ hgv _ (by decide +kernel)
  obtain ⟨a, -, -, -, q1, -⟩ := Cond.exactly_spec h
  exact ⟨a, vk_R.of (hts _ e_w30) q1⟩
theorem e_kR {args : Array Value} {s : State} (hts : ∀ w ∈ lw_tbl, w.before args s = true) (hgv : (Jvm.Cond.and given_1 narrow_1).before args s = true) : kR s := ⟨e_str217 hts hgv, e_str212 hts hgv, e_str193 hts hgv, va_Nc.of (args := args) (flat_of_before _ hgv _ (by decide +kernel)), va_Nw.of rfl (hts _ e_w31), va_Nw.of rfl (hts _ e_w32), va_Nw.of rfl (hts _ e_w33), va_Nw.of rfl (hts _ e_w34), va_Nw.of rfl (hts _ e_w35), va_Nw.of rfl (hts _ e_w36)⟩
theorem e_kZ {args : Array Value} {s : State} {A : Nat → Prop} (hA : ∀ a : Nat, a < s.heap.size → ¬ A a) (hts : ∀ w ∈ lw_tbl, w.before args s = true) (hgv : (Jvm.Cond.and given_1 narrow_1).before args s = true) : kZ A s s.heap := by
  have h1 : (Cond.isRef (.static Bundle.tN "UNASSIGNED_STACK" Bundle.steD)).before args s = true := flat_of_before _ hgv _ (by decide +kernel)
  have h2 : (Cond.isRef (.static Bundle.tN "SUPPRESSED_SENTINEL" Bundle.listD)).before args s = true := flat_of_before _ hgv _ (by decide +kernel)
  exact ⟨vx_Zqof (hts _ e_w37) (hts _ e_w39) h1 hA, vx_Zqof (hts _ e_w38) (hts _ e_w39) h2 hA⟩
theorem e_LEAST_VALUES {args : Array Value} {s : State} {A : Nat → Prop} (hA : ∀ a : Nat, a < s.heap.size → ¬ A a) (hts : ∀ w ∈ lw_tbl, w.before args s = true) (hgv : (Jvm.Cond.and given_1 narrow_1).before args s = true) : kS1 "LEAST_VALUES" (fun j => nI (kLo j)) A s s.heap := by
  refine e_tab (hts _ e_w41) (hts _ e_w40) (args := args) (flat_of_before _ hgv _ (by decide +kernel)) (flat_of_before _ hgv _ (by decide +kernel)) (e_eqi (flat_of_before _ hgv _ (by decide +kernel))) (fun j hj => ?_) hA
  have g0 : (Cond.eq (.elem (.static RX6 "LEAST_VALUES" "[I") (.int 0)) (.int 1)).before args s = true := flat_of_before _ hgv _ (by decide +kernel)
  have g1 : (Cond.eq (.elem (.static RX6 "LEAST_VALUES" "[I") (.int 1)) (.int 1)).before args s = true := flat_of_before _ hgv _ (by decide +kernel)
  have g2 : (Cond.eq (.elem (.static RX6 "LEAST_VALUES" "[I") (.int 2)) (.int 1)).before args s = true := flat_of_before _ hgv _ (by decide +kernel)
  have g3 : (Cond.eq (.elem (.static RX6 "LEAST_VALUES" "[I") (.int 3)) (.int 1)).before args s = true := flat_of_before _ hgv _ (by decide +kernel)
  have g4 : (Cond.eq (.elem (.static RX6 "LEAST_VALUES" "[I") (.int 4)) (.int 1)).before args s = true := flat_of_before _ hgv _ (by decide +kernel)
  have g5 : (Cond.eq (.elem (.static RX6 "LEAST_VALUES" "[I") (.int 5)) (.int 1)).before args s = true := flat_of_before _ hgv _ (by decide +kernel)
  have g6 : (Cond.eq (.elem (.static RX6 "LEAST_VALUES" "[I") (.int 6)) (.int 1)).before args s = true := flat_of_before _ hgv _ (by decide +kernel)
  have g7 : (Cond.eq (.elem (.static RX6 "LEAST_VALUES" "[I") (.int 7)) (.int 0)).before args s = true := flat_of_before _ hgv _ (by decide +kernel)
  match j, hj with
  | 0, _ => exact e_eqi g0
  | 1, _ => exact e_eqi g1
  | 2, _ => exact e_eqi g2
  | 3, _ => exact e_eqi g3
  | 4, _ => exact e_eqi g4
  | 5, _ => exact e_eqi g5
  | 6, _ => exact e_eqi g6
  | 7, _ => exact e_eqi g7
  | n + 8, hj => exact absurd hj (by omega)
theorem e_MOST_VALUES {args : Array Value} {s : State} {A : Nat → Prop} (hA : ∀ a : Nat, a < s.heap.size → ¬ A a) (hts : ∀ w ∈ lw_tbl, w.before args s = true) (hgv : (Jvm.Cond.and given_1 narrow_1).before args s = true) : kS1 "MOST_VALUES" (fun j => nI (kHi j)) A s s.heap := by
  refine e_tab (hts _ e_w42) (hts _ e_w40) (args := args) (flat_of_before _ hgv _ (by decide +kernel)) (flat_of_before _ hgv _ (by decide +kernel)) (e_eqi (flat_of_before _ hgv _ (by decide +kernel))) (fun j hj => ?_) hA
  have g0 : (Cond.eq (.elem (.static RX6 "MOST_VALUES" "[I") (.int 0)) (.int 1000)).before args s = true := flat_of_before _ hgv _ (by decide +kernel)
  have g1 : (Cond.eq (.elem (.static RX6 "MOST_VALUES" "[I") (.int 1)) (.int 10)).before args s = true := flat_of_before _ hgv _ (by decide +kernel)
  have g2 : (Cond.eq (.elem (.static RX6 "MOST_VALUES" "[I") (.int 2)) (.int 10)).before args s = true := flat_of_before _ hgv _ (by decide +kernel)
  have g3 : (Cond.eq (.elem (.static RX6 "MOST_VALUES" "[I") (.int 3)) (.int 10)).before args s = true := flat_of_before _ hgv _ (by decide +kernel)
  have g4 : (Cond.eq (.elem (.static RX6 "MOST_VALUES" "[I") (.int 4)) (.int 15)).before args s = true := flat_of_before _ hgv _ (by decide +kernel)
  have g5 : (Cond.eq (.elem (.static RX6 "MOST_VALUES" "[I") (.int 5)) (.int 3)).before args s = true := flat_of_before _ hgv _ (by decide +kernel)
  have g6 : (Cond.eq (.elem (.static RX6 "MOST_VALUES" "[I") (.int 6)) (.int 50)).before args s = true := flat_of_before _ hgv _ (by decide +kernel)
  have g7 : (Cond.eq (.elem (.static RX6 "MOST_VALUES" "[I") (.int 7)) (.int 10)).before args s = true := flat_of_before _ hgv _ (by decide +kernel)
  match j, hj with
  | 0, _ => exact e_eqi g0
  | 1, _ => exact e_eqi g1
  | 2, _ => exact e_eqi g2
  | 3, _ => exact e_eqi g3
  | 4, _ => exact e_eqi g4
  | 5, _ => exact e_eqi g5
  | 6, _ => exact e_eqi g6
  | 7, _ => exact e_eqi g7
  | n + 8, hj => exact absurd hj (by omega)
theorem e_FIRST_VALUES {args : Array Value} {s : State} {A : Nat → Prop} (hA : ∀ a : Nat, a < s.heap.size → ¬ A a) (hts : ∀ w ∈ lw_tbl, w.before args s = true) (hgv : (Jvm.Cond.and given_1 narrow_1).before args s = true) : kS1 "FIRST_VALUES" (kPar) A s s.heap := by
  refine e_tab (hts _ e_w43) (hts _ e_w40) (args := args) (flat_of_before _ hgv _ (by decide +kernel)) (flat_of_before _ hgv _ (by decide +kernel)) (e_eqi (flat_of_before _ hgv _ (by decide +kernel))) (fun j hj => ?_) hA
  have g0 : (Cond.eq (.elem (.static RX6 "FIRST_VALUES" "[I") (.int 0)) (.int 60)).before args s = true := flat_of_before _ hgv _ (by decide +kernel)
  have g1 : (Cond.eq (.elem (.static RX6 "FIRST_VALUES" "[I") (.int 1)) (.int 1)).before args s = true := flat_of_before _ hgv _ (by decide +kernel)
  have g2 : (Cond.eq (.elem (.static RX6 "FIRST_VALUES" "[I") (.int 2)) (.int 2)).before args s = true := flat_of_before _ hgv _ (by decide +kernel)
  have g3 : (Cond.eq (.elem (.static RX6 "FIRST_VALUES" "[I") (.int 3)) (.int 5)).before args s = true := flat_of_before _ hgv _ (by decide +kernel)
  have g4 : (Cond.eq (.elem (.static RX6 "FIRST_VALUES" "[I") (.int 4)) (.int 10)).before args s = true := flat_of_before _ hgv _ (by decide +kernel)
  have g5 : (Cond.eq (.elem (.static RX6 "FIRST_VALUES" "[I") (.int 5)) (.int 2)).before args s = true := flat_of_before _ hgv _ (by decide +kernel)
  have g6 : (Cond.eq (.elem (.static RX6 "FIRST_VALUES" "[I") (.int 6)) (.int 20)).before args s = true := flat_of_before _ hgv _ (by decide +kernel)
  have g7 : (Cond.eq (.elem (.static RX6 "FIRST_VALUES" "[I") (.int 7)) (.int 3)).before args s = true := flat_of_before _ hgv _ (by decide +kernel)
  match j, hj with
  | 0, _ => exact e_eqi g0
  | 1, _ => exact e_eqi g1
  | 2, _ => exact e_eqi g2
  | 3, _ => exact e_eqi g3
  | 4, _ => exact e_eqi g4
  | 5, _ => exact e_eqi g5
  | 6, _ => exact e_eqi g6
  | 7, _ => exact e_eqi g7
  | n + 8, hj => exact absurd hj (by omega)
theorem e_kS {args : Array Value} {s : State} {A : Nat → Prop} (hA : ∀ a : Nat, a < s.heap.size → ¬ A a) (hts : ∀ w ∈ lw_tbl, w.before args s = true) (hgv : (Jvm.Cond.and given_1 narrow_1).before args s = true) : kS A s s.heap := ⟨e_LEAST_VALUES hA hts hgv, e_MOST_VALUES hA hts hgv, e_FIRST_VALUES hA hts hgv⟩
theorem e_flag {l : Launch} (h : l.flags = flags0) : l.stackTraces = false := by
  unfold Launch.stackTraces
  rw [h]
  decide +kernel
