set_option maxHeartbeats 4000000 in
set_option maxRecDepth 100000 in
theorem x_checkIndex (l : Launch) (hl9 : l.stackTraces = false) (D : va_G) (cI cJ cM cG : ClassId) (x : Int32) (k : Nat) (sz : Nat) (hb0 : x < 0 ∨ nI k ≤ x) : vx_Met l yX6_checkIndex (Cond.code yX6_checkIndex cX6_checkIndex 2 none :: kBig) ({ frames := 6, cells := 1, slots := 6, locals := 82 }) (va_Pc [.int x, .int (nI k)] (kX D [(cI, .int), (cJ, .long), (cM, .object "MeshRouting$Message"), (cG, .array .int)] [] sz)) (fun _ _ _ _ => False) (kE "java/lang/IndexOutOfBoundsException" (va_A [] sz)) 1 6 (va_A [] sz) := by
  refine vx_ofW (cc := cX6_checkIndex) (maxL := 2) (ret := none) (by decide) rfl ?_
  intro p e s m args below meth c s₁ B hml htab hv
  obtain ⟨rfl, ⟨hsz, hP, hK, hD0, hKN⟩, hZ, hR⟩ := hv
  have hx := B.exec
  have hb := B.bytes
  have hr := B.returns
  have hts := atoms_spec (ws := (Cond.code yX6_checkIndex cX6_checkIndex 2 none :: kBig)) B.pre
  have hown : s.vm.findClass RX6 = some m.cls := findClass_of_methodNamed B.named
  have hlocks := B.notSynchronized
  obtain ⟨⟨as217, hs217⟩, ⟨as212, hs212⟩, ⟨as193, hs193⟩, hRest⟩ := id hR
  subst hsz
  have hD := hD0.self (sz := s.heap.size)
  generalize hAe : va_A [] s.heap.size = A at hD hZ ⊢
  have hA : ∀ q : Nat, s.heap.size ≤ q → A q := fun q h => by rw [← hAe]; exact Or.inr h
  have hS : va_S A s.heap s.heap [] := va_S.rf
  have hl := lv_entry ([.int x, .int (nI k)]) (n := 2) (Nat.le_of_ble_eq_true rfl)
  rw [lg_entry_eq]
  generalize (lg_sl ([.int x, .int (nI k)]) ++ List.replicate (2 - (lg_sl ([.int x, .int (nI k)])).length) Slot.unset).toArray = ls at hl ⊢
  have hl : lv_has ls 2 [(0, .int x), (1, .int (nI k))] := hl
  refine lv_iload_n hx hb dX6_checkIndex_0 rfl (lv_at hl 0 rfl) ?_
  refine lv_if_lt (tgt := 9) hx hb dX6_checkIndex_1 (by decide) (fun hc => ?_) (fun hc => ?_)
  · exact vx_throwS (own := RX6) (cls := "java/lang/IndexOutOfBoundsException") (text := "out of its range") (names := ["java/lang/RuntimeException", "java/lang/Exception"]) (ik := 215) (is := 217) (ic := 219) (A := A) hx hb hl9 hown (by decide +kernel) (by decide +kernel) (hts (.classLink RX6 215 "java/lang/IndexOutOfBoundsException") (List.mem_cons_of_mem _ q_22)) (hts (.initialized "java/lang/IndexOutOfBoundsException") (List.mem_cons_of_mem _ q_23)) hs217 (x_hat219 (fun w h => hts w (List.mem_cons_of_mem _ h)) hR) (x_good219 q_22 q_23) hZ.1 hZ.2 hS (hml.trans hl.1.symm).symm dX6_checkIndex_9 dX6_checkIndex_12 dX6_checkIndex_13 dX6_checkIndex_15 dX6_checkIndex_18 (fun x h => (htab x h).elim) (Nat.le_of_ble_eq_true rfl) (Nat.le_of_ble_eq_true rfl) (Nat.le_of_ble_eq_true rfl) (Nat.le_of_ble_eq_true rfl) hlocks (k_xhx hS) hS.2.2 (Nat.le_of_ble_eq_true rfl) (Nat.le_of_ble_eq_true rfl)
  · refine lv_iload_n hx hb dX6_checkIndex_4 rfl (lv_at hl 0 rfl) ?_
    refine lv_iload_n hx hb dX6_checkIndex_5 rfl (lv_at hl 1 rfl) ?_
    refine lv_icmp_lt (tgt := 19) hx hb dX6_checkIndex_6 (by decide) (fun h9 => absurd h9 (Int32.not_lt.mpr (hb0.resolve_left hc))) (fun _ => ?_)
    exact vx_throwS (own := RX6) (cls := "java/lang/IndexOutOfBoundsException") (text := "out of its range") (names := ["java/lang/RuntimeException", "java/lang/Exception"]) (ik := 215) (is := 217) (ic := 219) (A := A) hx hb hl9 hown (by decide +kernel) (by decide +kernel) (hts (.classLink RX6 215 "java/lang/IndexOutOfBoundsException") (List.mem_cons_of_mem _ q_22)) (hts (.initialized "java/lang/IndexOutOfBoundsException") (List.mem_cons_of_mem _ q_23)) hs217 (x_hat219 (fun w h => hts w (List.mem_cons_of_mem _ h)) hR) (x_good219 q_22 q_23) hZ.1 hZ.2 hS (hml.trans hl.1.symm).symm dX6_checkIndex_9 dX6_checkIndex_12 dX6_checkIndex_13 dX6_checkIndex_15 dX6_checkIndex_18 (fun x h => (htab x h).elim) (Nat.le_of_ble_eq_true rfl) (Nat.le_of_ble_eq_true rfl) (Nat.le_of_ble_eq_true rfl) (Nat.le_of_ble_eq_true rfl) hlocks (k_xhx hS) hS.2.2 (Nat.le_of_ble_eq_true rfl) (Nat.le_of_ble_eq_true rfl)

set_option maxHeartbeats 4000000 in
set_option maxRecDepth 100000 in
theorem x_checkRange (l : Launch) (hl9 : l.stackTraces = false) (D : va_G) (cI cJ cM cG : ClassId) (x : Int32) (lo : Nat) (hi9 : Nat) (sz : Nat) (hhi : hi9 < 2 ^ 30) (hb0 : x < nI lo ∨ nI (hi9 + 1) ≤ x) : vx_Met l yX6_checkRange (Cond.code yX6_checkRange cX6_checkRange 3 none :: kBig) ({ frames := 6, cells := 1, slots := 6, locals := 82 }) (va_Pc [.int x, .int (nI lo), .int (nI hi9)] (kX D [(cI, .int), (cJ, .long), (cM, .object "MeshRouting$Message"), (cG, .array .int)] [] sz)) (fun _ _ _ _ => False) (kE "java/lang/IllegalArgumentException" (va_A [] sz)) 1 6 (va_A [] sz) := by
  refine vx_ofW (cc := cX6_checkRange) (maxL := 3) (ret := none) (by decide) rfl ?_
  intro p e s m args below meth c s₁ B hml htab hv
  obtain ⟨rfl, ⟨hsz, hP, hK, hD0, hKN⟩, hZ, hR⟩ := hv
  have hx := B.exec
  have hb := B.bytes
  have hr := B.returns
  have hts := atoms_spec (ws := (Cond.code yX6_checkRange cX6_checkRange 3 none :: kBig)) B.pre
  have hown : s.vm.findClass RX6 = some m.cls := findClass_of_methodNamed B.named
  have hlocks := B.notSynchronized
  obtain ⟨⟨as217, hs217⟩, ⟨as212, hs212⟩, ⟨as193, hs193⟩, hRest⟩ := id hR
  subst hsz
  have hD := hD0.self (sz := s.heap.size)
  generalize hAe : va_A [] s.heap.size = A at hD hZ ⊢
  have hA : ∀ q : Nat, s.heap.size ≤ q → A q := fun q h => by rw [← hAe]; exact Or.inr h
  have hS : va_S A s.heap s.heap [] := va_S.rf
  have hl := lv_entry ([.int x, .int (nI lo), .int (nI hi9)]) (n := 3) (Nat.le_of_ble_eq_true rfl)
  rw [lg_entry_eq]
  generalize (lg_sl ([.int x, .int (nI lo), .int (nI hi9)]) ++ List.replicate (3 - (lg_sl ([.int x, .int (nI lo), .int (nI hi9)])).length) Slot.unset).toArray = ls at hl ⊢
  have hl : lv_has ls 3 [(0, .int x), (1, .int (nI lo)), (2, .int (nI hi9))] := hl
  refine lv_iload_n hx hb dX6_checkRange_0 rfl (lv_at hl 0 rfl) ?_
  refine lv_iload_n hx hb dX6_checkRange_1 rfl (lv_at hl 1 rfl) ?_
  refine lv_icmp_lt (tgt := 10) hx hb dX6_checkRange_2 (by decide) (fun hc => ?_) (fun hc => ?_)
  · exact vx_throwS (own := RX6) (cls := "java/lang/IllegalArgumentException") (text := "out of its range") (names := ["java/lang/RuntimeException", "java/lang/Exception"]) (ik := 210) (is := 217) (ic := 214) (A := A) hx hb hl9 hown (by decide +kernel) (by decide +kernel) (hts (.classLink RX6 210 "java/lang/IllegalArgumentException") (List.mem_cons_of_mem _ q_41)) (hts (.initialized "java/lang/IllegalArgumentException") (List.mem_cons_of_mem _ q_42)) hs217 (x_hat214 (fun w h => hts w (List.mem_cons_of_mem _ h)) hR) (x_good214 q_41 q_42) hZ.1 hZ.2 hS (hml.trans hl.1.symm).symm dX6_checkRange_10 dX6_checkRange_13 dX6_checkRange_14 dX6_checkRange_16 dX6_checkRange_19 (fun x h => (htab x h).elim) (Nat.le_of_ble_eq_true rfl) (Nat.le_of_ble_eq_true rfl) (Nat.le_of_ble_eq_true rfl) (Nat.le_of_ble_eq_true rfl) hlocks (k_xhx hS) hS.2.2 (Nat.le_of_ble_eq_true rfl) (Nat.le_of_ble_eq_true rfl)
  · refine lv_iload_n hx hb dX6_checkRange_5 rfl (lv_at hl 0 rfl) ?_
    refine lv_iload_n hx hb dX6_checkRange_6 rfl (lv_at hl 2 rfl) ?_
    refine lv_icmp_le (tgt := 20) hx hb dX6_checkRange_7 (by decide) (fun h9 => absurd h9 (k_nle hhi (hb0.resolve_left hc))) (fun _ => ?_)
    exact vx_throwS (own := RX6) (cls := "java/lang/IllegalArgumentException") (text := "out of its range") (names := ["java/lang/RuntimeException", "java/lang/Exception"]) (ik := 210) (is := 217) (ic := 214) (A := A) hx hb hl9 hown (by decide +kernel) (by decide +kernel) (hts (.classLink RX6 210 "java/lang/IllegalArgumentException") (List.mem_cons_of_mem _ q_41)) (hts (.initialized "java/lang/IllegalArgumentException") (List.mem_cons_of_mem _ q_42)) hs217 (x_hat214 (fun w h => hts w (List.mem_cons_of_mem _ h)) hR) (x_good214 q_41 q_42) hZ.1 hZ.2 hS (hml.trans hl.1.symm).symm dX6_checkRange_10 dX6_checkRange_13 dX6_checkRange_14 dX6_checkRange_16 dX6_checkRange_19 (fun x h => (htab x h).elim) (Nat.le_of_ble_eq_true rfl) (Nat.le_of_ble_eq_true rfl) (Nat.le_of_ble_eq_true rfl) (Nat.le_of_ble_eq_true rfl) hlocks (k_xhx hS) hS.2.2 (Nat.le_of_ble_eq_true rfl) (Nat.le_of_ble_eq_true rfl)

set_option maxHeartbeats 4000000 in
set_option maxRecDepth 100000 in
theorem x_checkNodes0 (l : Launch) (hl9 : l.stackTraces = false) (D : va_G) (cI cJ cM cG : ClassId) (x0 : Nat) (n : Nat → Nat) (q : Nat → Nat) (tr : Nat → Nat) (N : Nat) (x : Int32) (y : Int32) (sz : Nat) (hN : N ≤ 10) (hb2 : kBad2 N x y) : vx_Met l yX6_checkNodes (Cond.code yX6_checkNodes cX6_checkNodes 3 none :: kBig) ({ frames := 7, cells := 1, slots := 6, locals := 103 }) (va_Pc [.ref x0, .int x, .int y] (kX D [(cI, .int), (cJ, .long), (cM, .object "MeshRouting$Message"), (cG, .array .int)] [(x0, .inr (6, [.int (nI N), .ref (n 0), .ref (q 0), .ref (tr 0), .int (nI 0)]))] sz)) (fun _ _ _ _ => False) (kE "java/lang/IndexOutOfBoundsException" (va_A [(x0, .inr (6, [.int (nI N), .ref (n 0), .ref (q 0), .ref (tr 0), .int (nI 0)]))] sz)) 1 6 (va_A [(x0, .inr (6, [.int (nI N), .ref (n 0), .ref (q 0), .ref (tr 0), .int (nI 0)]))] sz) := by
  refine vx_ofW (cc := cX6_checkNodes) (maxL := 3) (ret := none) (by decide) rfl ?_
  intro p e s m args below meth c s₁ B hml htab hv
  obtain ⟨rfl, ⟨hsz, hP, hK, hD0, hKN⟩, hZ, hR⟩ := hv
  have hx := B.exec
  have hb := B.bytes
  have hr := B.returns
  have hts := atoms_spec (ws := (Cond.code yX6_checkNodes cX6_checkNodes 3 none :: kBig)) B.pre
  have hown : s.vm.findClass RX6 = some m.cls := findClass_of_methodNamed B.named
  have hlocks := B.notSynchronized
  obtain ⟨⟨as217, hs217⟩, ⟨as212, hs212⟩, ⟨as193, hs193⟩, hRest⟩ := id hR
  have hin6 : ∀ w ∈ u_ws RX6 TX6 5, w ∈ (Cond.code yX6_checkNodes cX6_checkNodes 3 none :: kBig) := fun w h => List.mem_cons_of_mem _ (inb6 w h)
  subst hsz
  have hD := hD0.self (sz := s.heap.size)
  generalize hAe : va_A [(x0, .inr (6, [.int (nI N), .ref (n 0), .ref (q 0), .ref (tr 0), .int (nI 0)]))] s.heap.size = A at hD hZ ⊢
  have hA : ∀ q : Nat, s.heap.size ≤ q → A q := fun q h => by rw [← hAe]; exact Or.inr h
  have hS : va_S A s.heap s.heap [] := va_S.rf
  have hl := lv_entry ([.ref x0, .int x, .int y]) (n := 3) (Nat.le_of_ble_eq_true rfl)
  rw [lg_entry_eq]
  generalize (lg_sl ([.ref x0, .int x, .int y]) ++ List.replicate (3 - (lg_sl ([.ref x0, .int x, .int y])).length) Slot.unset).toArray = ls at hl ⊢
  have hl : lv_has ls 3 [(0, .ref x0), (1, .int x), (2, .int y)] := hl
  rcases hb2 with hb1 | ⟨⟨j1, hj1, rfl⟩, hb1⟩
  · refine lv_iload_n hx hb dX6_checkNodes_0 rfl (lv_at hl 1 rfl) ?_
    refine lv_aload_n hx hb dX6_checkNodes_1 rfl (lv_at hl 0 rfl) ?_
    refine va_get (D := D) (ci := 6) (v := .int (nI N)) (C := RX6) (T := TX6) (N := 5) hx hb hts hin6 hown hK hP 0 rfl rfl 0 (by decide) (hts (.fieldLink RX6 18 "MeshRouting" "nodes" "I") (List.mem_cons_of_mem _ q_18)) (fun _ h9 => h9) rfl dX6_checkNodes_2 ?_
    exact k_xr (vx_runS (As := [.int x, .int (nI N)]) (rest := []) ⟨hx, hb, hml, hown, hts⟩ (x_checkIndex l hl9 D cI cJ cM cG x N s.heap.size (hb1)) (va_cwS 2 hts (kB_S (fun _ => List.mem_cons_of_mem _) q_19 q_20 q_9 (kB_c q_21)) rfl rfl rfl (by decide +kernel) ⟨Nat.le_of_ble_eq_true rfl, Nat.le_of_ble_eq_true rfl⟩) (k_preSX hZ hR hS hA hP hD hK hKN [] rfl rfl) rfl rfl hl.1 rfl (lv_room (Nat.le_of_ble_eq_true rfl)) dX6_checkNodes_5 ⟨Nat.le_of_ble_eq_true rfl, Nat.le_of_ble_eq_true rfl⟩) hD hS hA [] rfl htab hlocks (Nat.le_of_ble_eq_true rfl) (Nat.le_of_ble_eq_true rfl)
  · refine lv_iload_n hx hb dX6_checkNodes_0 rfl (lv_at hl 1 rfl) ?_
    refine lv_aload_n hx hb dX6_checkNodes_1 rfl (lv_at hl 0 rfl) ?_
    refine va_get (D := D) (ci := 6) (v := .int (nI N)) (C := RX6) (T := TX6) (N := 5) hx hb hts hin6 hown hK hP 0 rfl rfl 0 (by decide) (hts (.fieldLink RX6 18 "MeshRouting" "nodes" "I") (List.mem_cons_of_mem _ q_18)) (fun _ h9 => h9) rfl dX6_checkNodes_2 ?_
    refine k_cv (wr := [(x0, .inr (6, [.int (nI N), .ref (n 0), .ref (q 0), .ref (tr 0), .int (nI 0)]))]) (w1 := []) (va_runS (As := [.int (nI j1), .int (nI N)]) (rest := []) ⟨hx, hb, hml, hown, hts⟩ (c_X6_checkIndex l D cI cJ cM cG j1 N s.heap.size (hj1) (by omega)) (va_cwS 2 hts (kB_S (fun _ => List.mem_cons_of_mem _) q_19 q_20 q_9 (kB_c q_21)) rfl rfl rfl (by decide +kernel) ⟨Nat.le_of_ble_eq_true rfl, Nat.le_of_ble_eq_true rfl⟩) (k_preS hP hD hK hKN [] rfl rfl) rfl rfl hl.1 rfl (lv_room (Nat.le_of_ble_eq_true rfl)) dX6_checkNodes_5 ⟨Nat.le_of_ble_eq_true rfl, Nat.le_of_ble_eq_true rfl⟩) hP hD hS hA [] [0] rfl rfl rfl (by decide) (fun H locs hw5 hP hD hS => ?_)
    replace hP : va_P D vwCl [(x0, .inr (6, [.int (nI N), .ref (n 0), .ref (q 0), .ref (tr 0), .int (nI 0)]))] H := hP
    replace hD : va_D A [(x0, .inr (6, [.int (nI N), .ref (n 0), .ref (q 0), .ref (tr 0), .int (nI 0)]))] := hD
    refine lv_iload_n hx hb dX6_checkNodes_8 rfl (lv_at hl 2 rfl) ?_
    refine lv_aload_n hx hb dX6_checkNodes_9 rfl (lv_at hl 0 rfl) ?_
    refine va_get (D := D) (ci := 6) (v := .int (nI N)) (C := RX6) (T := TX6) (N := 5) hx hb hts hin6 hown hK hP 0 rfl rfl 0 (by decide) (hts (.fieldLink RX6 18 "MeshRouting" "nodes" "I") (List.mem_cons_of_mem _ q_18)) (fun _ h9 => h9) rfl dX6_checkNodes_10 ?_
    exact k_xr (vx_runS (As := [.int y, .int (nI N)]) (rest := []) ⟨hx, hb, hml, hown, hts⟩ (x_checkIndex l hl9 D cI cJ cM cG y N H.size (hb1)) (va_cwS 2 hts (kB_S (fun _ => List.mem_cons_of_mem _) q_19 q_20 q_9 (kB_c q_21)) rfl rfl rfl (by decide +kernel) ⟨Nat.le_of_ble_eq_true rfl, Nat.le_of_ble_eq_true rfl⟩) (k_preSX hZ hR hS hA hP hD hK hKN [] rfl rfl) rfl rfl hl.1 rfl (lv_room (Nat.le_of_ble_eq_true rfl)) dX6_checkNodes_13 ⟨Nat.le_of_ble_eq_true rfl, Nat.le_of_ble_eq_true rfl⟩) hD hS hA [] rfl htab hlocks (Nat.le_of_ble_eq_true rfl) (Nat.le_of_ble_eq_true rfl)

set_option maxHeartbeats 4000000 in
set_option maxRecDepth 100000 in
theorem x_checkTwoNodes0 (l : Launch) (hl9 : l.stackTraces = false) (D : va_G) (cI cJ cM cG : ClassId) (x0 : Nat) (n : Nat → Nat) (q : Nat → Nat) (tr : Nat → Nat) (N : Nat) (x : Int32) (y : Int32) (sz : Nat) (hN : N ≤ 10) (hb2 : kBad2 N x y) : vx_Met l yX6_checkTwoNodes (Cond.code yX6_checkTwoNodes cX6_checkTwoNodes 3 none :: kBig) ({ frames := 8, cells := 1, slots := 6, locals := 125 }) (va_Pc [.ref x0, .int x, .int y] (kX D [(cI, .int), (cJ, .long), (cM, .object "MeshRouting$Message"), (cG, .array .int)] [(x0, .inr (6, [.int (nI N), .ref (n 0), .ref (q 0), .ref (tr 0), .int (nI 0)]))] sz)) (fun _ _ _ _ => False) (kE "java/lang/IndexOutOfBoundsException" (va_A [(x0, .inr (6, [.int (nI N), .ref (n 0), .ref (q 0), .ref (tr 0), .int (nI 0)]))] sz)) 1 6 (va_A [(x0, .inr (6, [.int (nI N), .ref (n 0), .ref (q 0), .ref (tr 0), .int (nI 0)]))] sz) := by
  refine vx_ofW (cc := cX6_checkTwoNodes) (maxL := 3) (ret := none) (by decide) rfl ?_
  intro p e s m args below meth c s₁ B hml htab hv
  obtain ⟨rfl, ⟨hsz, hP, hK, hD0, hKN⟩, hZ, hR⟩ := hv
  have hx := B.exec
  have hb := B.bytes
  have hr := B.returns
  have hts := atoms_spec (ws := (Cond.code yX6_checkTwoNodes cX6_checkTwoNodes 3 none :: kBig)) B.pre
  have hown : s.vm.findClass RX6 = some m.cls := findClass_of_methodNamed B.named
  have hlocks := B.notSynchronized
  obtain ⟨⟨as217, hs217⟩, ⟨as212, hs212⟩, ⟨as193, hs193⟩, hRest⟩ := id hR
  subst hsz
  have hD := hD0.self (sz := s.heap.size)
  generalize hAe : va_A [(x0, .inr (6, [.int (nI N), .ref (n 0), .ref (q 0), .ref (tr 0), .int (nI 0)]))] s.heap.size = A at hD hZ ⊢
  have hA : ∀ q : Nat, s.heap.size ≤ q → A q := fun q h => by rw [← hAe]; exact Or.inr h
  have hS : va_S A s.heap s.heap [] := va_S.rf
  have hl := lv_entry ([.ref x0, .int x, .int y]) (n := 3) (Nat.le_of_ble_eq_true rfl)
  rw [lg_entry_eq]
  generalize (lg_sl ([.ref x0, .int x, .int y]) ++ List.replicate (3 - (lg_sl ([.ref x0, .int x, .int y])).length) Slot.unset).toArray = ls at hl ⊢
  have hl : lv_has ls 3 [(0, .ref x0), (1, .int x), (2, .int y)] := hl
  refine lv_aload_n hx hb dX6_checkTwoNodes_0 rfl (lv_at hl 0 rfl) ?_
  refine lv_iload_n hx hb dX6_checkTwoNodes_1 rfl (lv_at hl 1 rfl) ?_
  refine lv_iload_n hx hb dX6_checkTwoNodes_2 rfl (lv_at hl 2 rfl) ?_
  exact k_xr (vx_runV (As := [.int x, .int y]) (rest := []) ⟨hx, hb, hml, hown, hts⟩ (x_checkNodes0 l hl9 D cI cJ cM cG x0 n q tr N x y s.heap.size (hN) (hb2)) (cwV 2 hts (kB_V (fun _ => List.mem_cons_of_mem _) q_14 q_15 q_16 q_9 (kB_c q_17)) rfl rfl rfl (by decide +kernel) ⟨Nat.le_of_ble_eq_true rfl, Nat.le_of_ble_eq_true rfl⟩) (k_preVX (T := TX6) hZ hR hS hA hP hD hK hKN [0] rfl rfl (ci := 6) rfl (q0 := 0) rfl) rfl rfl hl.1 rfl (lv_room (Nat.le_of_ble_eq_true rfl)) dX6_checkTwoNodes_3 ⟨Nat.le_of_ble_eq_true rfl, Nat.le_of_ble_eq_true rfl⟩) hD hS hA [0] rfl htab hlocks (Nat.le_of_ble_eq_true rfl) (Nat.le_of_ble_eq_true rfl)

set_option maxHeartbeats 4000000 in
set_option maxRecDepth 100000 in
theorem x_checkTwoNodes2 (l : Launch) (hl9 : l.stackTraces = false) (D : va_G) (cI cJ cM cG : ClassId) (x0 : Nat) (n : Nat → Nat) (q : Nat → Nat) (tr : Nat → Nat) (N : Nat) (a : Nat) (sz : Nat) (hN : N ≤ 10) (ha : a < N) : vx_Met l yX6_checkTwoNodes (Cond.code yX6_checkTwoNodes cX6_checkTwoNodes 3 none :: kBig) ({ frames := 6, cells := 1, slots := 6, locals := 82 }) (va_Pc [.ref x0, .int (nI a), .int (nI a)] (kX D [(cI, .int), (cJ, .long), (cM, .object "MeshRouting$Message"), (cG, .array .int)] [(x0, .inr (6, [.int (nI N), .ref (n 0), .ref (q 0), .ref (tr 0), .int (nI 0)]))] sz)) (fun _ _ _ _ => False) (kE "java/lang/IllegalArgumentException" (va_A [(x0, .inr (6, [.int (nI N), .ref (n 0), .ref (q 0), .ref (tr 0), .int (nI 0)]))] sz)) 1 6 (va_A [(x0, .inr (6, [.int (nI N), .ref (n 0), .ref (q 0), .ref (tr 0), .int (nI 0)]))] sz) := by
  refine vx_ofW (cc := cX6_checkTwoNodes) (maxL := 3) (ret := none) (by decide) rfl ?_
  intro p e s m args below meth c s₁ B hml htab hv
  obtain ⟨rfl, ⟨hsz, hP, hK, hD0, hKN⟩, hZ, hR⟩ := hv
  have hx := B.exec
  have hb := B.bytes
  have hr := B.returns
  have hts := atoms_spec (ws := (Cond.code yX6_checkTwoNodes cX6_checkTwoNodes 3 none :: kBig)) B.pre
  have hown : s.vm.findClass RX6 = some m.cls := findClass_of_methodNamed B.named
  have hlocks := B.notSynchronized
  obtain ⟨⟨as217, hs217⟩, ⟨as212, hs212⟩, ⟨as193, hs193⟩, hRest⟩ := id hR
  subst hsz
  have hD := hD0.self (sz := s.heap.size)
  generalize hAe : va_A [(x0, .inr (6, [.int (nI N), .ref (n 0), .ref (q 0), .ref (tr 0), .int (nI 0)]))] s.heap.size = A at hD hZ ⊢
  have hA : ∀ q : Nat, s.heap.size ≤ q → A q := fun q h => by rw [← hAe]; exact Or.inr h
  have hS : va_S A s.heap s.heap [] := va_S.rf
  have hl := lv_entry ([.ref x0, .int (nI a), .int (nI a)]) (n := 3) (Nat.le_of_ble_eq_true rfl)
  rw [lg_entry_eq]
  generalize (lg_sl ([.ref x0, .int (nI a), .int (nI a)]) ++ List.replicate (3 - (lg_sl ([.ref x0, .int (nI a), .int (nI a)])).length) Slot.unset).toArray = ls at hl ⊢
  have hl : lv_has ls 3 [(0, .ref x0), (1, .int (nI a)), (2, .int (nI a))] := hl
  refine lv_aload_n hx hb dX6_checkTwoNodes_0 rfl (lv_at hl 0 rfl) ?_
  refine lv_iload_n hx hb dX6_checkTwoNodes_1 rfl (lv_at hl 1 rfl) ?_
  refine lv_iload_n hx hb dX6_checkTwoNodes_2 rfl (lv_at hl 2 rfl) ?_
  refine k_cv (wr := []) (w1 := [(x0, .inr (6, [.int (nI N), .ref (n 0), .ref (q 0), .ref (tr 0), .int (nI 0)]))]) (va_runV (As := [.int (nI a), .int (nI a)]) (rest := []) ⟨hx, hb, hml, hown, hts⟩ (c_X6_checkNodes l D cI cJ cM cG x0 n q tr N a a s.heap.size (ha) (ha) (hN)) (cwV 2 hts (kB_V (fun _ => List.mem_cons_of_mem _) q_14 q_15 q_16 q_9 (kB_c q_17)) rfl rfl rfl (by decide +kernel) ⟨Nat.le_of_ble_eq_true rfl, Nat.le_of_ble_eq_true rfl⟩) (k_preV (T := TX6) hP hD hK hKN [0] rfl rfl (ci := 6) rfl (q0 := 0) rfl) rfl rfl hl.1 rfl (lv_room (Nat.le_of_ble_eq_true rfl)) dX6_checkTwoNodes_3 ⟨Nat.le_of_ble_eq_true rfl, Nat.le_of_ble_eq_true rfl⟩) hP hD hS hA [0] [] rfl rfl rfl (by decide) (fun H locs hw3 hP hD hS => ?_)
  replace hP : va_P D vwCl [(x0, .inr (6, [.int (nI N), .ref (n 0), .ref (q 0), .ref (tr 0), .int (nI 0)]))] H := hP
  replace hD : va_D A [(x0, .inr (6, [.int (nI N), .ref (n 0), .ref (q 0), .ref (tr 0), .int (nI 0)]))] := hD
  refine lv_iload_n hx hb dX6_checkTwoNodes_6 rfl (lv_at hl 1 rfl) ?_
  refine lv_iload_n hx hb dX6_checkTwoNodes_7 rfl (lv_at hl 2 rfl) ?_
  refine k_icmp_ne (tgt := 21) hx hb dX6_checkTwoNodes_8 (by decide) (by omega) (by omega) (fun h9 => absurd h9 (by omega)) (fun _ => ?_)
  exact vx_throwS (own := RX6) (cls := "java/lang/IllegalArgumentException") (text := "both nodes are the same") (names := ["java/lang/RuntimeException", "java/lang/Exception"]) (ik := 210) (is := 212) (ic := 214) (A := A) hx hb hl9 hown (by decide +kernel) (by decide +kernel) (hts (.classLink RX6 210 "java/lang/IllegalArgumentException") (List.mem_cons_of_mem _ q_41)) (hts (.initialized "java/lang/IllegalArgumentException") (List.mem_cons_of_mem _ q_42)) hs212 (x_hat214 (fun w h => hts w (List.mem_cons_of_mem _ h)) hR) (x_good214 q_41 q_42) hZ.1 hZ.2 hS (hml.trans hl.1.symm).symm dX6_checkTwoNodes_11 dX6_checkTwoNodes_14 dX6_checkTwoNodes_15 dX6_checkTwoNodes_17 dX6_checkTwoNodes_20 (fun x h => (htab x h).elim) (Nat.le_of_ble_eq_true rfl) (Nat.le_of_ble_eq_true rfl) (Nat.le_of_ble_eq_true rfl) (Nat.le_of_ble_eq_true rfl) hlocks (k_xhx hS) hS.2.2 (Nat.le_of_ble_eq_true rfl) (Nat.le_of_ble_eq_true rfl)

set_option maxHeartbeats 4000000 in
set_option maxRecDepth 100000 in
theorem x_link0 (l : Launch) (hl9 : l.stackTraces = false) (D : va_G) (cI cJ cM cG : ClassId) (x0 : Nat) (n : Nat → Nat) (q : Nat → Nat) (tr : Nat → Nat) (N : Nat) (x : Int32) (y : Int32) (sz : Nat) (hN : N ≤ 10) (hb2 : kBad2 N x y) : vx_Met l yX6_link (Cond.code yX6_link cX6_link 3 (some .int) :: kBig) ({ frames := 8, cells := 1, slots := 6, locals := 125 }) (va_Pc [.ref x0, .int x, .int y] (kX D [(cI, .int), (cJ, .long), (cM, .object "MeshRouting$Message"), (cG, .array .int)] [(x0, .inr (6, [.int (nI N), .ref (n 0), .ref (q 0), .ref (tr 0), .int (nI 0)]))] sz)) (fun _ _ _ _ => False) (kE "java/lang/IndexOutOfBoundsException" (va_A [(x0, .inr (6, [.int (nI N), .ref (n 0), .ref (q 0), .ref (tr 0), .int (nI 0)]))] sz)) 1 6 (va_A [(x0, .inr (6, [.int (nI N), .ref (n 0), .ref (q 0), .ref (tr 0), .int (nI 0)]))] sz) := by
  refine vx_ofW (cc := cX6_link) (maxL := 3) (ret := (some .int)) (by decide) rfl ?_
  intro p e s m args below meth c s₁ B hml htab hv
  obtain ⟨rfl, ⟨hsz, hP, hK, hD0, hKN⟩, hZ, hR⟩ := hv
  have hx := B.exec
  have hb := B.bytes
  have hr := B.returns
  have hts := atoms_spec (ws := (Cond.code yX6_link cX6_link 3 (some .int) :: kBig)) B.pre
  have hown : s.vm.findClass RX6 = some m.cls := findClass_of_methodNamed B.named
  have hlocks := B.notSynchronized
  obtain ⟨⟨as217, hs217⟩, ⟨as212, hs212⟩, ⟨as193, hs193⟩, hRest⟩ := id hR
  subst hsz
  have hD := hD0.self (sz := s.heap.size)
  generalize hAe : va_A [(x0, .inr (6, [.int (nI N), .ref (n 0), .ref (q 0), .ref (tr 0), .int (nI 0)]))] s.heap.size = A at hD hZ ⊢
  have hA : ∀ q : Nat, s.heap.size ≤ q → A q := fun q h => by rw [← hAe]; exact Or.inr h
  have hS : va_S A s.heap s.heap [] := va_S.rf
  have hl := lv_entry ([.ref x0, .int x, .int y]) (n := 3) (Nat.le_of_ble_eq_true rfl)
  rw [lg_entry_eq]
  generalize (lg_sl ([.ref x0, .int x, .int y]) ++ List.replicate (3 - (lg_sl ([.ref x0, .int x, .int y])).length) Slot.unset).toArray = ls at hl ⊢
  have hl : lv_has ls 3 [(0, .ref x0), (1, .int x), (2, .int y)] := hl
  refine lv_aload_n hx hb dX6_link_0 rfl (lv_at hl 0 rfl) ?_
  refine lv_iload_n hx hb dX6_link_1 rfl (lv_at hl 1 rfl) ?_
  refine lv_iload_n hx hb dX6_link_2 rfl (lv_at hl 2 rfl) ?_
  exact k_xr (vx_runV (As := [.int x, .int y]) (rest := []) ⟨hx, hb, hml, hown, hts⟩ (x_checkNodes0 l hl9 D cI cJ cM cG x0 n q tr N x y s.heap.size (hN) (hb2)) (cwV 2 hts (kB_V (fun _ => List.mem_cons_of_mem _) q_14 q_15 q_16 q_9 (kB_c q_17)) rfl rfl rfl (by decide +kernel) ⟨Nat.le_of_ble_eq_true rfl, Nat.le_of_ble_eq_true rfl⟩) (k_preVX (T := TX6) hZ hR hS hA hP hD hK hKN [0] rfl rfl (ci := 6) rfl (q0 := 0) rfl) rfl rfl hl.1 rfl (lv_room (Nat.le_of_ble_eq_true rfl)) dX6_link_3 ⟨Nat.le_of_ble_eq_true rfl, Nat.le_of_ble_eq_true rfl⟩) hD hS hA [0] rfl htab hlocks (Nat.le_of_ble_eq_true rfl) (Nat.le_of_ble_eq_true rfl)

set_option maxHeartbeats 4000000 in
set_option maxRecDepth 100000 in
theorem x_isValid0 (l : Launch) (hl9 : l.stackTraces = false) (D : va_G) (cI cJ cM cG : ClassId) (x0 : Nat) (n : Nat → Nat) (q : Nat → Nat) (tr : Nat → Nat) (N : Nat) (x : Int32) (y : Int32) (sz : Nat) (hN : N ≤ 10) (hb2 : kBad2 N x y) : vx_Met l yX6_isValid (Cond.code yX6_isValid cX6_isValid 3 (some .boolean) :: kBig) ({ frames := 8, cells := 1, slots := 6, locals := 125 }) (va_Pc [.ref x0, .int x, .int y] (kX D [(cI, .int), (cJ, .long), (cM, .object "MeshRouting$Message"), (cG, .array .int)] [(x0, .inr (6, [.int (nI N), .ref (n 0), .ref (q 0), .ref (tr 0), .int (nI 0)]))] sz)) (fun _ _ _ _ => False) (kE "java/lang/IndexOutOfBoundsException" (va_A [(x0, .inr (6, [.int (nI N), .ref (n 0), .ref (q 0), .ref (tr 0), .int (nI 0)]))] sz)) 1 6 (va_A [(x0, .inr (6, [.int (nI N), .ref (n 0), .ref (q 0), .ref (tr 0), .int (nI 0)]))] sz) := by
  refine vx_ofW (cc := cX6_isValid) (maxL := 3) (ret := (some .boolean)) (by decide) rfl ?_
  intro p e s m args below meth c s₁ B hml htab hv
  obtain ⟨rfl, ⟨hsz, hP, hK, hD0, hKN⟩, hZ, hR⟩ := hv
  have hx := B.exec
  have hb := B.bytes
  have hr := B.returns
  have hts := atoms_spec (ws := (Cond.code yX6_isValid cX6_isValid 3 (some .boolean) :: kBig)) B.pre
  have hown : s.vm.findClass RX6 = some m.cls := findClass_of_methodNamed B.named
  have hlocks := B.notSynchronized
  obtain ⟨⟨as217, hs217⟩, ⟨as212, hs212⟩, ⟨as193, hs193⟩, hRest⟩ := id hR
  subst hsz
  have hD := hD0.self (sz := s.heap.size)
  generalize hAe : va_A [(x0, .inr (6, [.int (nI N), .ref (n 0), .ref (q 0), .ref (tr 0), .int (nI 0)]))] s.heap.size = A at hD hZ ⊢
  have hA : ∀ q : Nat, s.heap.size ≤ q → A q := fun q h => by rw [← hAe]; exact Or.inr h
  have hS : va_S A s.heap s.heap [] := va_S.rf
  have hl := lv_entry ([.ref x0, .int x, .int y]) (n := 3) (Nat.le_of_ble_eq_true rfl)
  rw [lg_entry_eq]
  generalize (lg_sl ([.ref x0, .int x, .int y]) ++ List.replicate (3 - (lg_sl ([.ref x0, .int x, .int y])).length) Slot.unset).toArray = ls at hl ⊢
  have hl : lv_has ls 3 [(0, .ref x0), (1, .int x), (2, .int y)] := hl
  refine lv_aload_n hx hb dX6_isValid_0 rfl (lv_at hl 0 rfl) ?_
  refine lv_iload_n hx hb dX6_isValid_1 rfl (lv_at hl 1 rfl) ?_
  refine lv_iload_n hx hb dX6_isValid_2 rfl (lv_at hl 2 rfl) ?_
  exact k_xr (vx_runV (As := [.int x, .int y]) (rest := []) ⟨hx, hb, hml, hown, hts⟩ (x_checkNodes0 l hl9 D cI cJ cM cG x0 n q tr N x y s.heap.size (hN) (hb2)) (cwV 2 hts (kB_V (fun _ => List.mem_cons_of_mem _) q_14 q_15 q_16 q_9 (kB_c q_17)) rfl rfl rfl (by decide +kernel) ⟨Nat.le_of_ble_eq_true rfl, Nat.le_of_ble_eq_true rfl⟩) (k_preVX (T := TX6) hZ hR hS hA hP hD hK hKN [0] rfl rfl (ci := 6) rfl (q0 := 0) rfl) rfl rfl hl.1 rfl (lv_room (Nat.le_of_ble_eq_true rfl)) dX6_isValid_3 ⟨Nat.le_of_ble_eq_true rfl, Nat.le_of_ble_eq_true rfl⟩) hD hS hA [0] rfl htab hlocks (Nat.le_of_ble_eq_true rfl) (Nat.le_of_ble_eq_true rfl)

set_option maxHeartbeats 4000000 in
set_option maxRecDepth 100000 in
theorem x_nextNode0 (l : Launch) (hl9 : l.stackTraces = false) (D : va_G) (cI cJ cM cG : ClassId) (x0 : Nat) (n : Nat → Nat) (q : Nat → Nat) (tr : Nat → Nat) (N : Nat) (x : Int32) (y : Int32) (sz : Nat) (hN : N ≤ 10) (hb2 : kBad2 N x y) : vx_Met l yX6_nextNode (Cond.code yX6_nextNode cX6_nextNode 3 (some .int) :: kBig) ({ frames := 8, cells := 1, slots := 6, locals := 125 }) (va_Pc [.ref x0, .int x, .int y] (kX D [(cI, .int), (cJ, .long), (cM, .object "MeshRouting$Message"), (cG, .array .int)] [(x0, .inr (6, [.int (nI N), .ref (n 0), .ref (q 0), .ref (tr 0), .int (nI 0)]))] sz)) (fun _ _ _ _ => False) (kE "java/lang/IndexOutOfBoundsException" (va_A [(x0, .inr (6, [.int (nI N), .ref (n 0), .ref (q 0), .ref (tr 0), .int (nI 0)]))] sz)) 1 6 (va_A [(x0, .inr (6, [.int (nI N), .ref (n 0), .ref (q 0), .ref (tr 0), .int (nI 0)]))] sz) := by
  refine vx_ofW (cc := cX6_nextNode) (maxL := 3) (ret := (some .int)) (by decide) rfl ?_
  intro p e s m args below meth c s₁ B hml htab hv
  obtain ⟨rfl, ⟨hsz, hP, hK, hD0, hKN⟩, hZ, hR⟩ := hv
  have hx := B.exec
  have hb := B.bytes
  have hr := B.returns
  have hts := atoms_spec (ws := (Cond.code yX6_nextNode cX6_nextNode 3 (some .int) :: kBig)) B.pre
  have hown : s.vm.findClass RX6 = some m.cls := findClass_of_methodNamed B.named
  have hlocks := B.notSynchronized
  obtain ⟨⟨as217, hs217⟩, ⟨as212, hs212⟩, ⟨as193, hs193⟩, hRest⟩ := id hR
  subst hsz
  have hD := hD0.self (sz := s.heap.size)
  generalize hAe : va_A [(x0, .inr (6, [.int (nI N), .ref (n 0), .ref (q 0), .ref (tr 0), .int (nI 0)]))] s.heap.size = A at hD hZ ⊢
  have hA : ∀ q : Nat, s.heap.size ≤ q → A q := fun q h => by rw [← hAe]; exact Or.inr h
  have hS : va_S A s.heap s.heap [] := va_S.rf
  have hl := lv_entry ([.ref x0, .int x, .int y]) (n := 3) (Nat.le_of_ble_eq_true rfl)
  rw [lg_entry_eq]
  generalize (lg_sl ([.ref x0, .int x, .int y]) ++ List.replicate (3 - (lg_sl ([.ref x0, .int x, .int y])).length) Slot.unset).toArray = ls at hl ⊢
  have hl : lv_has ls 3 [(0, .ref x0), (1, .int x), (2, .int y)] := hl
  refine lv_aload_n hx hb dX6_nextNode_0 rfl (lv_at hl 0 rfl) ?_
  refine lv_iload_n hx hb dX6_nextNode_1 rfl (lv_at hl 1 rfl) ?_
  refine lv_iload_n hx hb dX6_nextNode_2 rfl (lv_at hl 2 rfl) ?_
  exact k_xr (vx_runV (As := [.int x, .int y]) (rest := []) ⟨hx, hb, hml, hown, hts⟩ (x_checkNodes0 l hl9 D cI cJ cM cG x0 n q tr N x y s.heap.size (hN) (hb2)) (cwV 2 hts (kB_V (fun _ => List.mem_cons_of_mem _) q_14 q_15 q_16 q_9 (kB_c q_17)) rfl rfl rfl (by decide +kernel) ⟨Nat.le_of_ble_eq_true rfl, Nat.le_of_ble_eq_true rfl⟩) (k_preVX (T := TX6) hZ hR hS hA hP hD hK hKN [0] rfl rfl (ci := 6) rfl (q0 := 0) rfl) rfl rfl hl.1 rfl (lv_room (Nat.le_of_ble_eq_true rfl)) dX6_nextNode_3 ⟨Nat.le_of_ble_eq_true rfl, Nat.le_of_ble_eq_true rfl⟩) hD hS hA [0] rfl htab hlocks (Nat.le_of_ble_eq_true rfl) (Nat.le_of_ble_eq_true rfl)

set_option maxHeartbeats 4000000 in
set_option maxRecDepth 100000 in
theorem x_hops0 (l : Launch) (hl9 : l.stackTraces = false) (D : va_G) (cI cJ cM cG : ClassId) (x0 : Nat) (n : Nat → Nat) (q : Nat → Nat) (tr : Nat → Nat) (N : Nat) (x : Int32) (y : Int32) (sz : Nat) (hN : N ≤ 10) (hb2 : kBad2 N x y) : vx_Met l yX6_hops (Cond.code yX6_hops cX6_hops 3 (some .int) :: kBig) ({ frames := 8, cells := 1, slots := 6, locals := 125 }) (va_Pc [.ref x0, .int x, .int y] (kX D [(cI, .int), (cJ, .long), (cM, .object "MeshRouting$Message"), (cG, .array .int)] [(x0, .inr (6, [.int (nI N), .ref (n 0), .ref (q 0), .ref (tr 0), .int (nI 0)]))] sz)) (fun _ _ _ _ => False) (kE "java/lang/IndexOutOfBoundsException" (va_A [(x0, .inr (6, [.int (nI N), .ref (n 0), .ref (q 0), .ref (tr 0), .int (nI 0)]))] sz)) 1 6 (va_A [(x0, .inr (6, [.int (nI N), .ref (n 0), .ref (q 0), .ref (tr 0), .int (nI 0)]))] sz) := by
  refine vx_ofW (cc := cX6_hops) (maxL := 3) (ret := (some .int)) (by decide) rfl ?_
  intro p e s m args below meth c s₁ B hml htab hv
  obtain ⟨rfl, ⟨hsz, hP, hK, hD0, hKN⟩, hZ, hR⟩ := hv
  have hx := B.exec
  have hb := B.bytes
  have hr := B.returns
  have hts := atoms_spec (ws := (Cond.code yX6_hops cX6_hops 3 (some .int) :: kBig)) B.pre
  have hown : s.vm.findClass RX6 = some m.cls := findClass_of_methodNamed B.named
  have hlocks := B.notSynchronized
  obtain ⟨⟨as217, hs217⟩, ⟨as212, hs212⟩, ⟨as193, hs193⟩, hRest⟩ := id hR
  subst hsz
  have hD := hD0.self (sz := s.heap.size)
  generalize hAe : va_A [(x0, .inr (6, [.int (nI N), .ref (n 0), .ref (q 0), .ref (tr 0), .int (nI 0)]))] s.heap.size = A at hD hZ ⊢
  have hA : ∀ q : Nat, s.heap.size ≤ q → A q := fun q h => by rw [← hAe]; exact Or.inr h
  have hS : va_S A s.heap s.heap [] := va_S.rf
  have hl := lv_entry ([.ref x0, .int x, .int y]) (n := 3) (Nat.le_of_ble_eq_true rfl)
  rw [lg_entry_eq]
  generalize (lg_sl ([.ref x0, .int x, .int y]) ++ List.replicate (3 - (lg_sl ([.ref x0, .int x, .int y])).length) Slot.unset).toArray = ls at hl ⊢
  have hl : lv_has ls 3 [(0, .ref x0), (1, .int x), (2, .int y)] := hl
  refine lv_aload_n hx hb dX6_hops_0 rfl (lv_at hl 0 rfl) ?_
  refine lv_iload_n hx hb dX6_hops_1 rfl (lv_at hl 1 rfl) ?_
  refine lv_iload_n hx hb dX6_hops_2 rfl (lv_at hl 2 rfl) ?_
  exact k_xr (vx_runV (As := [.int x, .int y]) (rest := []) ⟨hx, hb, hml, hown, hts⟩ (x_checkNodes0 l hl9 D cI cJ cM cG x0 n q tr N x y s.heap.size (hN) (hb2)) (cwV 2 hts (kB_V (fun _ => List.mem_cons_of_mem _) q_14 q_15 q_16 q_9 (kB_c q_17)) rfl rfl rfl (by decide +kernel) ⟨Nat.le_of_ble_eq_true rfl, Nat.le_of_ble_eq_true rfl⟩) (k_preVX (T := TX6) hZ hR hS hA hP hD hK hKN [0] rfl rfl (ci := 6) rfl (q0 := 0) rfl) rfl rfl hl.1 rfl (lv_room (Nat.le_of_ble_eq_true rfl)) dX6_hops_3 ⟨Nat.le_of_ble_eq_true rfl, Nat.le_of_ble_eq_true rfl⟩) hD hS hA [0] rfl htab hlocks (Nat.le_of_ble_eq_true rfl) (Nat.le_of_ble_eq_true rfl)

set_option maxHeartbeats 4000000 in
set_option maxRecDepth 100000 in
theorem x_sequence0 (l : Launch) (hl9 : l.stackTraces = false) (D : va_G) (cI cJ cM cG : ClassId) (x0 : Nat) (n : Nat → Nat) (q : Nat → Nat) (tr : Nat → Nat) (N : Nat) (x : Int32) (y : Int32) (sz : Nat) (hN : N ≤ 10) (hb2 : kBad2 N x y) : vx_Met l yX6_sequence (Cond.code yX6_sequence cX6_sequence 3 (some .int) :: kBig) ({ frames := 8, cells := 1, slots := 6, locals := 125 }) (va_Pc [.ref x0, .int x, .int y] (kX D [(cI, .int), (cJ, .long), (cM, .object "MeshRouting$Message"), (cG, .array .int)] [(x0, .inr (6, [.int (nI N), .ref (n 0), .ref (q 0), .ref (tr 0), .int (nI 0)]))] sz)) (fun _ _ _ _ => False) (kE "java/lang/IndexOutOfBoundsException" (va_A [(x0, .inr (6, [.int (nI N), .ref (n 0), .ref (q 0), .ref (tr 0), .int (nI 0)]))] sz)) 1 6 (va_A [(x0, .inr (6, [.int (nI N), .ref (n 0), .ref (q 0), .ref (tr 0), .int (nI 0)]))] sz) := by
  refine vx_ofW (cc := cX6_sequence) (maxL := 3) (ret := (some .int)) (by decide) rfl ?_
  intro p e s m args below meth c s₁ B hml htab hv
  obtain ⟨rfl, ⟨hsz, hP, hK, hD0, hKN⟩, hZ, hR⟩ := hv
  have hx := B.exec
  have hb := B.bytes
  have hr := B.returns
  have hts := atoms_spec (ws := (Cond.code yX6_sequence cX6_sequence 3 (some .int) :: kBig)) B.pre
  have hown : s.vm.findClass RX6 = some m.cls := findClass_of_methodNamed B.named
  have hlocks := B.notSynchronized
  obtain ⟨⟨as217, hs217⟩, ⟨as212, hs212⟩, ⟨as193, hs193⟩, hRest⟩ := id hR
  subst hsz
  have hD := hD0.self (sz := s.heap.size)
  generalize hAe : va_A [(x0, .inr (6, [.int (nI N), .ref (n 0), .ref (q 0), .ref (tr 0), .int (nI 0)]))] s.heap.size = A at hD hZ ⊢
  have hA : ∀ q : Nat, s.heap.size ≤ q → A q := fun q h => by rw [← hAe]; exact Or.inr h
  have hS : va_S A s.heap s.heap [] := va_S.rf
  have hl := lv_entry ([.ref x0, .int x, .int y]) (n := 3) (Nat.le_of_ble_eq_true rfl)
  rw [lg_entry_eq]
  generalize (lg_sl ([.ref x0, .int x, .int y]) ++ List.replicate (3 - (lg_sl ([.ref x0, .int x, .int y])).length) Slot.unset).toArray = ls at hl ⊢
  have hl : lv_has ls 3 [(0, .ref x0), (1, .int x), (2, .int y)] := hl
  refine lv_aload_n hx hb dX6_sequence_0 rfl (lv_at hl 0 rfl) ?_
  refine lv_iload_n hx hb dX6_sequence_1 rfl (lv_at hl 1 rfl) ?_
  refine lv_iload_n hx hb dX6_sequence_2 rfl (lv_at hl 2 rfl) ?_
  exact k_xr (vx_runV (As := [.int x, .int y]) (rest := []) ⟨hx, hb, hml, hown, hts⟩ (x_checkNodes0 l hl9 D cI cJ cM cG x0 n q tr N x y s.heap.size (hN) (hb2)) (cwV 2 hts (kB_V (fun _ => List.mem_cons_of_mem _) q_14 q_15 q_16 q_9 (kB_c q_17)) rfl rfl rfl (by decide +kernel) ⟨Nat.le_of_ble_eq_true rfl, Nat.le_of_ble_eq_true rfl⟩) (k_preVX (T := TX6) hZ hR hS hA hP hD hK hKN [0] rfl rfl (ci := 6) rfl (q0 := 0) rfl) rfl rfl hl.1 rfl (lv_room (Nat.le_of_ble_eq_true rfl)) dX6_sequence_3 ⟨Nat.le_of_ble_eq_true rfl, Nat.le_of_ble_eq_true rfl⟩) hD hS hA [0] rfl htab hlocks (Nat.le_of_ble_eq_true rfl) (Nat.le_of_ble_eq_true rfl)

set_option maxHeartbeats 4000000 in
set_option maxRecDepth 100000 in
theorem x_expiry0 (l : Launch) (hl9 : l.stackTraces = false) (D : va_G) (cI cJ cM cG : ClassId) (x0 : Nat) (n : Nat → Nat) (q : Nat → Nat) (tr : Nat → Nat) (N : Nat) (x : Int32) (y : Int32) (sz : Nat) (hN : N ≤ 10) (hb2 : kBad2 N x y) : vx_Met l yX6_expiry (Cond.code yX6_expiry cX6_expiry 3 (some .int) :: kBig) ({ frames := 8, cells := 1, slots := 6, locals := 125 }) (va_Pc [.ref x0, .int x, .int y] (kX D [(cI, .int), (cJ, .long), (cM, .object "MeshRouting$Message"), (cG, .array .int)] [(x0, .inr (6, [.int (nI N), .ref (n 0), .ref (q 0), .ref (tr 0), .int (nI 0)]))] sz)) (fun _ _ _ _ => False) (kE "java/lang/IndexOutOfBoundsException" (va_A [(x0, .inr (6, [.int (nI N), .ref (n 0), .ref (q 0), .ref (tr 0), .int (nI 0)]))] sz)) 1 6 (va_A [(x0, .inr (6, [.int (nI N), .ref (n 0), .ref (q 0), .ref (tr 0), .int (nI 0)]))] sz) := by
  refine vx_ofW (cc := cX6_expiry) (maxL := 3) (ret := (some .int)) (by decide) rfl ?_
  intro p e s m args below meth c s₁ B hml htab hv
  obtain ⟨rfl, ⟨hsz, hP, hK, hD0, hKN⟩, hZ, hR⟩ := hv
  have hx := B.exec
  have hb := B.bytes
  have hr := B.returns
  have hts := atoms_spec (ws := (Cond.code yX6_expiry cX6_expiry 3 (some .int) :: kBig)) B.pre
  have hown : s.vm.findClass RX6 = some m.cls := findClass_of_methodNamed B.named
  have hlocks := B.notSynchronized
  obtain ⟨⟨as217, hs217⟩, ⟨as212, hs212⟩, ⟨as193, hs193⟩, hRest⟩ := id hR
  subst hsz
  have hD := hD0.self (sz := s.heap.size)
  generalize hAe : va_A [(x0, .inr (6, [.int (nI N), .ref (n 0), .ref (q 0), .ref (tr 0), .int (nI 0)]))] s.heap.size = A at hD hZ ⊢
  have hA : ∀ q : Nat, s.heap.size ≤ q → A q := fun q h => by rw [← hAe]; exact Or.inr h
  have hS : va_S A s.heap s.heap [] := va_S.rf
  have hl := lv_entry ([.ref x0, .int x, .int y]) (n := 3) (Nat.le_of_ble_eq_true rfl)
  rw [lg_entry_eq]
  generalize (lg_sl ([.ref x0, .int x, .int y]) ++ List.replicate (3 - (lg_sl ([.ref x0, .int x, .int y])).length) Slot.unset).toArray = ls at hl ⊢
  have hl : lv_has ls 3 [(0, .ref x0), (1, .int x), (2, .int y)] := hl
  refine lv_aload_n hx hb dX6_expiry_0 rfl (lv_at hl 0 rfl) ?_
  refine lv_iload_n hx hb dX6_expiry_1 rfl (lv_at hl 1 rfl) ?_
  refine lv_iload_n hx hb dX6_expiry_2 rfl (lv_at hl 2 rfl) ?_
  exact k_xr (vx_runV (As := [.int x, .int y]) (rest := []) ⟨hx, hb, hml, hown, hts⟩ (x_checkNodes0 l hl9 D cI cJ cM cG x0 n q tr N x y s.heap.size (hN) (hb2)) (cwV 2 hts (kB_V (fun _ => List.mem_cons_of_mem _) q_14 q_15 q_16 q_9 (kB_c q_17)) rfl rfl rfl (by decide +kernel) ⟨Nat.le_of_ble_eq_true rfl, Nat.le_of_ble_eq_true rfl⟩) (k_preVX (T := TX6) hZ hR hS hA hP hD hK hKN [0] rfl rfl (ci := 6) rfl (q0 := 0) rfl) rfl rfl hl.1 rfl (lv_room (Nat.le_of_ble_eq_true rfl)) dX6_expiry_3 ⟨Nat.le_of_ble_eq_true rfl, Nat.le_of_ble_eq_true rfl⟩) hD hS hA [0] rfl htab hlocks (Nat.le_of_ble_eq_true rfl) (Nat.le_of_ble_eq_true rfl)

set_option maxHeartbeats 4000000 in
set_option maxRecDepth 100000 in
theorem x_users0 (l : Launch) (hl9 : l.stackTraces = false) (D : va_G) (cI cJ cM cG : ClassId) (x0 : Nat) (n : Nat → Nat) (q : Nat → Nat) (tr : Nat → Nat) (N : Nat) (x : Int32) (y : Int32) (sz : Nat) (hN : N ≤ 10) (hb2 : kBad2 N x y) : vx_Met l yX6_users (Cond.code yX6_users cX6_users 3 (some .int) :: kBig) ({ frames := 8, cells := 1, slots := 6, locals := 125 }) (va_Pc [.ref x0, .int x, .int y] (kX D [(cI, .int), (cJ, .long), (cM, .object "MeshRouting$Message"), (cG, .array .int)] [(x0, .inr (6, [.int (nI N), .ref (n 0), .ref (q 0), .ref (tr 0), .int (nI 0)]))] sz)) (fun _ _ _ _ => False) (kE "java/lang/IndexOutOfBoundsException" (va_A [(x0, .inr (6, [.int (nI N), .ref (n 0), .ref (q 0), .ref (tr 0), .int (nI 0)]))] sz)) 1 6 (va_A [(x0, .inr (6, [.int (nI N), .ref (n 0), .ref (q 0), .ref (tr 0), .int (nI 0)]))] sz) := by
  refine vx_ofW (cc := cX6_users) (maxL := 3) (ret := (some .int)) (by decide) rfl ?_
  intro p e s m args below meth c s₁ B hml htab hv
  obtain ⟨rfl, ⟨hsz, hP, hK, hD0, hKN⟩, hZ, hR⟩ := hv
  have hx := B.exec
  have hb := B.bytes
  have hr := B.returns
  have hts := atoms_spec (ws := (Cond.code yX6_users cX6_users 3 (some .int) :: kBig)) B.pre
  have hown : s.vm.findClass RX6 = some m.cls := findClass_of_methodNamed B.named
  have hlocks := B.notSynchronized
  obtain ⟨⟨as217, hs217⟩, ⟨as212, hs212⟩, ⟨as193, hs193⟩, hRest⟩ := id hR
  subst hsz
  have hD := hD0.self (sz := s.heap.size)
  generalize hAe : va_A [(x0, .inr (6, [.int (nI N), .ref (n 0), .ref (q 0), .ref (tr 0), .int (nI 0)]))] s.heap.size = A at hD hZ ⊢
  have hA : ∀ q : Nat, s.heap.size ≤ q → A q := fun q h => by rw [← hAe]; exact Or.inr h
  have hS : va_S A s.heap s.heap [] := va_S.rf
  have hl := lv_entry ([.ref x0, .int x, .int y]) (n := 3) (Nat.le_of_ble_eq_true rfl)
  rw [lg_entry_eq]
  generalize (lg_sl ([.ref x0, .int x, .int y]) ++ List.replicate (3 - (lg_sl ([.ref x0, .int x, .int y])).length) Slot.unset).toArray = ls at hl ⊢
  have hl : lv_has ls 3 [(0, .ref x0), (1, .int x), (2, .int y)] := hl
  refine lv_aload_n hx hb dX6_users_0 rfl (lv_at hl 0 rfl) ?_
  refine lv_iload_n hx hb dX6_users_1 rfl (lv_at hl 1 rfl) ?_
  refine lv_iload_n hx hb dX6_users_2 rfl (lv_at hl 2 rfl) ?_
  exact k_xr (vx_runV (As := [.int x, .int y]) (rest := []) ⟨hx, hb, hml, hown, hts⟩ (x_checkNodes0 l hl9 D cI cJ cM cG x0 n q tr N x y s.heap.size (hN) (hb2)) (cwV 2 hts (kB_V (fun _ => List.mem_cons_of_mem _) q_14 q_15 q_16 q_9 (kB_c q_17)) rfl rfl rfl (by decide +kernel) ⟨Nat.le_of_ble_eq_true rfl, Nat.le_of_ble_eq_true rfl⟩) (k_preVX (T := TX6) hZ hR hS hA hP hD hK hKN [0] rfl rfl (ci := 6) rfl (q0 := 0) rfl) rfl rfl hl.1 rfl (lv_room (Nat.le_of_ble_eq_true rfl)) dX6_users_3 ⟨Nat.le_of_ble_eq_true rfl, Nat.le_of_ble_eq_true rfl⟩) hD hS hA [0] rfl htab hlocks (Nat.le_of_ble_eq_true rfl) (Nat.le_of_ble_eq_true rfl)

set_option maxHeartbeats 4000000 in
set_option maxRecDepth 100000 in
theorem x_searching0 (l : Launch) (hl9 : l.stackTraces = false) (D : va_G) (cI cJ cM cG : ClassId) (x0 : Nat) (n : Nat → Nat) (q : Nat → Nat) (tr : Nat → Nat) (N : Nat) (x : Int32) (y : Int32) (sz : Nat) (hN : N ≤ 10) (hb2 : kBad2 N x y) : vx_Met l yX6_searching (Cond.code yX6_searching cX6_searching 3 (some .int) :: kBig) ({ frames := 8, cells := 1, slots := 6, locals := 125 }) (va_Pc [.ref x0, .int x, .int y] (kX D [(cI, .int), (cJ, .long), (cM, .object "MeshRouting$Message"), (cG, .array .int)] [(x0, .inr (6, [.int (nI N), .ref (n 0), .ref (q 0), .ref (tr 0), .int (nI 0)]))] sz)) (fun _ _ _ _ => False) (kE "java/lang/IndexOutOfBoundsException" (va_A [(x0, .inr (6, [.int (nI N), .ref (n 0), .ref (q 0), .ref (tr 0), .int (nI 0)]))] sz)) 1 6 (va_A [(x0, .inr (6, [.int (nI N), .ref (n 0), .ref (q 0), .ref (tr 0), .int (nI 0)]))] sz) := by
  refine vx_ofW (cc := cX6_searching) (maxL := 3) (ret := (some .int)) (by decide) rfl ?_
  intro p e s m args below meth c s₁ B hml htab hv
  obtain ⟨rfl, ⟨hsz, hP, hK, hD0, hKN⟩, hZ, hR⟩ := hv
  have hx := B.exec
  have hb := B.bytes
  have hr := B.returns
  have hts := atoms_spec (ws := (Cond.code yX6_searching cX6_searching 3 (some .int) :: kBig)) B.pre
  have hown : s.vm.findClass RX6 = some m.cls := findClass_of_methodNamed B.named
  have hlocks := B.notSynchronized
  obtain ⟨⟨as217, hs217⟩, ⟨as212, hs212⟩, ⟨as193, hs193⟩, hRest⟩ := id hR
  subst hsz
  have hD := hD0.self (sz := s.heap.size)
  generalize hAe : va_A [(x0, .inr (6, [.int (nI N), .ref (n 0), .ref (q 0), .ref (tr 0), .int (nI 0)]))] s.heap.size = A at hD hZ ⊢
  have hA : ∀ q : Nat, s.heap.size ≤ q → A q := fun q h => by rw [← hAe]; exact Or.inr h
  have hS : va_S A s.heap s.heap [] := va_S.rf
  have hl := lv_entry ([.ref x0, .int x, .int y]) (n := 3) (Nat.le_of_ble_eq_true rfl)
  rw [lg_entry_eq]
  generalize (lg_sl ([.ref x0, .int x, .int y]) ++ List.replicate (3 - (lg_sl ([.ref x0, .int x, .int y])).length) Slot.unset).toArray = ls at hl ⊢
  have hl : lv_has ls 3 [(0, .ref x0), (1, .int x), (2, .int y)] := hl
  refine lv_aload_n hx hb dX6_searching_0 rfl (lv_at hl 0 rfl) ?_
  refine lv_iload_n hx hb dX6_searching_1 rfl (lv_at hl 1 rfl) ?_
  refine lv_iload_n hx hb dX6_searching_2 rfl (lv_at hl 2 rfl) ?_
  exact k_xr (vx_runV (As := [.int x, .int y]) (rest := []) ⟨hx, hb, hml, hown, hts⟩ (x_checkNodes0 l hl9 D cI cJ cM cG x0 n q tr N x y s.heap.size (hN) (hb2)) (cwV 2 hts (kB_V (fun _ => List.mem_cons_of_mem _) q_14 q_15 q_16 q_9 (kB_c q_17)) rfl rfl rfl (by decide +kernel) ⟨Nat.le_of_ble_eq_true rfl, Nat.le_of_ble_eq_true rfl⟩) (k_preVX (T := TX6) hZ hR hS hA hP hD hK hKN [0] rfl rfl (ci := 6) rfl (q0 := 0) rfl) rfl rfl hl.1 rfl (lv_room (Nat.le_of_ble_eq_true rfl)) dX6_searching_3 ⟨Nat.le_of_ble_eq_true rfl, Nat.le_of_ble_eq_true rfl⟩) hD hS hA [0] rfl htab hlocks (Nat.le_of_ble_eq_true rfl) (Nat.le_of_ble_eq_true rfl)

set_option maxHeartbeats 4000000 in
set_option maxRecDepth 100000 in
theorem x_timeout0 (l : Launch) (hl9 : l.stackTraces = false) (D : va_G) (cI cJ cM cG : ClassId) (x0 : Nat) (n : Nat → Nat) (q : Nat → Nat) (tr : Nat → Nat) (N : Nat) (x : Int32) (y : Int32) (sz : Nat) (hN : N ≤ 10) (hb2 : kBad2 N x y) : vx_Met l yX6_timeout (Cond.code yX6_timeout cX6_timeout 3 (some .int) :: kBig) ({ frames := 8, cells := 1, slots := 6, locals := 125 }) (va_Pc [.ref x0, .int x, .int y] (kX D [(cI, .int), (cJ, .long), (cM, .object "MeshRouting$Message"), (cG, .array .int)] [(x0, .inr (6, [.int (nI N), .ref (n 0), .ref (q 0), .ref (tr 0), .int (nI 0)]))] sz)) (fun _ _ _ _ => False) (kE "java/lang/IndexOutOfBoundsException" (va_A [(x0, .inr (6, [.int (nI N), .ref (n 0), .ref (q 0), .ref (tr 0), .int (nI 0)]))] sz)) 1 6 (va_A [(x0, .inr (6, [.int (nI N), .ref (n 0), .ref (q 0), .ref (tr 0), .int (nI 0)]))] sz) := by
  refine vx_ofW (cc := cX6_timeout) (maxL := 3) (ret := (some .int)) (by decide) rfl ?_
  intro p e s m args below meth c s₁ B hml htab hv
  obtain ⟨rfl, ⟨hsz, hP, hK, hD0, hKN⟩, hZ, hR⟩ := hv
  have hx := B.exec
  have hb := B.bytes
  have hr := B.returns
  have hts := atoms_spec (ws := (Cond.code yX6_timeout cX6_timeout 3 (some .int) :: kBig)) B.pre
  have hown : s.vm.findClass RX6 = some m.cls := findClass_of_methodNamed B.named
  have hlocks := B.notSynchronized
  obtain ⟨⟨as217, hs217⟩, ⟨as212, hs212⟩, ⟨as193, hs193⟩, hRest⟩ := id hR
  subst hsz
  have hD := hD0.self (sz := s.heap.size)
  generalize hAe : va_A [(x0, .inr (6, [.int (nI N), .ref (n 0), .ref (q 0), .ref (tr 0), .int (nI 0)]))] s.heap.size = A at hD hZ ⊢
  have hA : ∀ q : Nat, s.heap.size ≤ q → A q := fun q h => by rw [← hAe]; exact Or.inr h
  have hS : va_S A s.heap s.heap [] := va_S.rf
  have hl := lv_entry ([.ref x0, .int x, .int y]) (n := 3) (Nat.le_of_ble_eq_true rfl)
  rw [lg_entry_eq]
  generalize (lg_sl ([.ref x0, .int x, .int y]) ++ List.replicate (3 - (lg_sl ([.ref x0, .int x, .int y])).length) Slot.unset).toArray = ls at hl ⊢
  have hl : lv_has ls 3 [(0, .ref x0), (1, .int x), (2, .int y)] := hl
  refine lv_aload_n hx hb dX6_timeout_0 rfl (lv_at hl 0 rfl) ?_
  refine lv_iload_n hx hb dX6_timeout_1 rfl (lv_at hl 1 rfl) ?_
  refine lv_iload_n hx hb dX6_timeout_2 rfl (lv_at hl 2 rfl) ?_
  exact k_xr (vx_runV (As := [.int x, .int y]) (rest := []) ⟨hx, hb, hml, hown, hts⟩ (x_checkNodes0 l hl9 D cI cJ cM cG x0 n q tr N x y s.heap.size (hN) (hb2)) (cwV 2 hts (kB_V (fun _ => List.mem_cons_of_mem _) q_14 q_15 q_16 q_9 (kB_c q_17)) rfl rfl rfl (by decide +kernel) ⟨Nat.le_of_ble_eq_true rfl, Nat.le_of_ble_eq_true rfl⟩) (k_preVX (T := TX6) hZ hR hS hA hP hD hK hKN [0] rfl rfl (ci := 6) rfl (q0 := 0) rfl) rfl rfl hl.1 rfl (lv_room (Nat.le_of_ble_eq_true rfl)) dX6_timeout_3 ⟨Nat.le_of_ble_eq_true rfl, Nat.le_of_ble_eq_true rfl⟩) hD hS hA [0] rfl htab hlocks (Nat.le_of_ble_eq_true rfl) (Nat.le_of_ble_eq_true rfl)

set_option maxHeartbeats 4000000 in
set_option maxRecDepth 100000 in
theorem x_buffered0 (l : Launch) (hl9 : l.stackTraces = false) (D : va_G) (cI cJ cM cG : ClassId) (x0 : Nat) (n : Nat → Nat) (q : Nat → Nat) (tr : Nat → Nat) (N : Nat) (x : Int32) (y : Int32) (sz : Nat) (hN : N ≤ 10) (hb2 : kBad2 N x y) : vx_Met l yX6_buffered (Cond.code yX6_buffered cX6_buffered 3 (some .int) :: kBig) ({ frames := 8, cells := 1, slots := 6, locals := 125 }) (va_Pc [.ref x0, .int x, .int y] (kX D [(cI, .int), (cJ, .long), (cM, .object "MeshRouting$Message"), (cG, .array .int)] [(x0, .inr (6, [.int (nI N), .ref (n 0), .ref (q 0), .ref (tr 0), .int (nI 0)]))] sz)) (fun _ _ _ _ => False) (kE "java/lang/IndexOutOfBoundsException" (va_A [(x0, .inr (6, [.int (nI N), .ref (n 0), .ref (q 0), .ref (tr 0), .int (nI 0)]))] sz)) 1 6 (va_A [(x0, .inr (6, [.int (nI N), .ref (n 0), .ref (q 0), .ref (tr 0), .int (nI 0)]))] sz) := by
  refine vx_ofW (cc := cX6_buffered) (maxL := 3) (ret := (some .int)) (by decide) rfl ?_
  intro p e s m args below meth c s₁ B hml htab hv
  obtain ⟨rfl, ⟨hsz, hP, hK, hD0, hKN⟩, hZ, hR⟩ := hv
  have hx := B.exec
  have hb := B.bytes
  have hr := B.returns
  have hts := atoms_spec (ws := (Cond.code yX6_buffered cX6_buffered 3 (some .int) :: kBig)) B.pre
  have hown : s.vm.findClass RX6 = some m.cls := findClass_of_methodNamed B.named
  have hlocks := B.notSynchronized
  obtain ⟨⟨as217, hs217⟩, ⟨as212, hs212⟩, ⟨as193, hs193⟩, hRest⟩ := id hR
  subst hsz
  have hD := hD0.self (sz := s.heap.size)
  generalize hAe : va_A [(x0, .inr (6, [.int (nI N), .ref (n 0), .ref (q 0), .ref (tr 0), .int (nI 0)]))] s.heap.size = A at hD hZ ⊢
  have hA : ∀ q : Nat, s.heap.size ≤ q → A q := fun q h => by rw [← hAe]; exact Or.inr h
  have hS : va_S A s.heap s.heap [] := va_S.rf
  have hl := lv_entry ([.ref x0, .int x, .int y]) (n := 3) (Nat.le_of_ble_eq_true rfl)
  rw [lg_entry_eq]
  generalize (lg_sl ([.ref x0, .int x, .int y]) ++ List.replicate (3 - (lg_sl ([.ref x0, .int x, .int y])).length) Slot.unset).toArray = ls at hl ⊢
  have hl : lv_has ls 3 [(0, .ref x0), (1, .int x), (2, .int y)] := hl
  refine lv_aload_n hx hb dX6_buffered_0 rfl (lv_at hl 0 rfl) ?_
  refine lv_iload_n hx hb dX6_buffered_1 rfl (lv_at hl 1 rfl) ?_
  refine lv_iload_n hx hb dX6_buffered_2 rfl (lv_at hl 2 rfl) ?_
  exact k_xr (vx_runV (As := [.int x, .int y]) (rest := []) ⟨hx, hb, hml, hown, hts⟩ (x_checkNodes0 l hl9 D cI cJ cM cG x0 n q tr N x y s.heap.size (hN) (hb2)) (cwV 2 hts (kB_V (fun _ => List.mem_cons_of_mem _) q_14 q_15 q_16 q_9 (kB_c q_17)) rfl rfl rfl (by decide +kernel) ⟨Nat.le_of_ble_eq_true rfl, Nat.le_of_ble_eq_true rfl⟩) (k_preVX (T := TX6) hZ hR hS hA hP hD hK hKN [0] rfl rfl (ci := 6) rfl (q0 := 0) rfl) rfl rfl hl.1 rfl (lv_room (Nat.le_of_ble_eq_true rfl)) dX6_buffered_3 ⟨Nat.le_of_ble_eq_true rfl, Nat.le_of_ble_eq_true rfl⟩) hD hS hA [0] rfl htab hlocks (Nat.le_of_ble_eq_true rfl) (Nat.le_of_ble_eq_true rfl)

set_option maxHeartbeats 4000000 in
set_option maxRecDepth 100000 in
theorem x_follow0 (l : Launch) (hl9 : l.stackTraces = false) (D : va_G) (cI cJ cM cG : ClassId) (x0 : Nat) (n : Nat → Nat) (q : Nat → Nat) (tr : Nat → Nat) (N : Nat) (x : Int32) (y : Int32) (sz : Nat) (hN : N ≤ 10) (hb2 : kBad2 N x y) : vx_Met l yX6_follow (Cond.code yX6_follow cX6_follow 3 (some .int) :: kBig) ({ frames := 8, cells := 1, slots := 6, locals := 125 }) (va_Pc [.ref x0, .int x, .int y] (kX D [(cI, .int), (cJ, .long), (cM, .object "MeshRouting$Message"), (cG, .array .int)] [(x0, .inr (6, [.int (nI N), .ref (n 0), .ref (q 0), .ref (tr 0), .int (nI 0)]))] sz)) (fun _ _ _ _ => False) (kE "java/lang/IndexOutOfBoundsException" (va_A [(x0, .inr (6, [.int (nI N), .ref (n 0), .ref (q 0), .ref (tr 0), .int (nI 0)]))] sz)) 1 6 (va_A [(x0, .inr (6, [.int (nI N), .ref (n 0), .ref (q 0), .ref (tr 0), .int (nI 0)]))] sz) := by
  refine vx_ofW (cc := cX6_follow) (maxL := 3) (ret := (some .int)) (by decide) rfl ?_
  intro p e s m args below meth c s₁ B hml htab hv
  obtain ⟨rfl, ⟨hsz, hP, hK, hD0, hKN⟩, hZ, hR⟩ := hv
  have hx := B.exec
  have hb := B.bytes
  have hr := B.returns
  have hts := atoms_spec (ws := (Cond.code yX6_follow cX6_follow 3 (some .int) :: kBig)) B.pre
  have hown : s.vm.findClass RX6 = some m.cls := findClass_of_methodNamed B.named
  have hlocks := B.notSynchronized
  obtain ⟨⟨as217, hs217⟩, ⟨as212, hs212⟩, ⟨as193, hs193⟩, hRest⟩ := id hR
  subst hsz
  have hD := hD0.self (sz := s.heap.size)
  generalize hAe : va_A [(x0, .inr (6, [.int (nI N), .ref (n 0), .ref (q 0), .ref (tr 0), .int (nI 0)]))] s.heap.size = A at hD hZ ⊢
  have hA : ∀ q : Nat, s.heap.size ≤ q → A q := fun q h => by rw [← hAe]; exact Or.inr h
  have hS : va_S A s.heap s.heap [] := va_S.rf
  have hl := lv_entry ([.ref x0, .int x, .int y]) (n := 3) (Nat.le_of_ble_eq_true rfl)
  rw [lg_entry_eq]
  generalize (lg_sl ([.ref x0, .int x, .int y]) ++ List.replicate (3 - (lg_sl ([.ref x0, .int x, .int y])).length) Slot.unset).toArray = ls at hl ⊢
  have hl : lv_has ls 3 [(0, .ref x0), (1, .int x), (2, .int y)] := hl
  refine lv_aload_n hx hb dX6_follow_0 rfl (lv_at hl 0 rfl) ?_
  refine lv_iload_n hx hb dX6_follow_1 rfl (lv_at hl 1 rfl) ?_
  refine lv_iload_n hx hb dX6_follow_2 rfl (lv_at hl 2 rfl) ?_
  exact k_xr (vx_runV (As := [.int x, .int y]) (rest := []) ⟨hx, hb, hml, hown, hts⟩ (x_checkNodes0 l hl9 D cI cJ cM cG x0 n q tr N x y s.heap.size (hN) (hb2)) (cwV 2 hts (kB_V (fun _ => List.mem_cons_of_mem _) q_14 q_15 q_16 q_9 (kB_c q_17)) rfl rfl rfl (by decide +kernel) ⟨Nat.le_of_ble_eq_true rfl, Nat.le_of_ble_eq_true rfl⟩) (k_preVX (T := TX6) hZ hR hS hA hP hD hK hKN [0] rfl rfl (ci := 6) rfl (q0 := 0) rfl) rfl rfl hl.1 rfl (lv_room (Nat.le_of_ble_eq_true rfl)) dX6_follow_3 ⟨Nat.le_of_ble_eq_true rfl, Nat.le_of_ble_eq_true rfl⟩) hD hS hA [0] rfl htab hlocks (Nat.le_of_ble_eq_true rfl) (Nat.le_of_ble_eq_true rfl)

set_option maxHeartbeats 4000000 in
set_option maxRecDepth 100000 in
theorem x_distance0 (l : Launch) (hl9 : l.stackTraces = false) (D : va_G) (cI cJ cM cG : ClassId) (x0 : Nat) (n : Nat → Nat) (q : Nat → Nat) (tr : Nat → Nat) (N : Nat) (x : Int32) (y : Int32) (sz : Nat) (hN : N ≤ 10) (hb2 : kBad2 N x y) : vx_Met l yX6_distance (Cond.code yX6_distance cX6_distance 3 (some .int) :: kBig) ({ frames := 8, cells := 1, slots := 6, locals := 125 }) (va_Pc [.ref x0, .int x, .int y] (kX D [(cI, .int), (cJ, .long), (cM, .object "MeshRouting$Message"), (cG, .array .int)] [(x0, .inr (6, [.int (nI N), .ref (n 0), .ref (q 0), .ref (tr 0), .int (nI 0)]))] sz)) (fun _ _ _ _ => False) (kE "java/lang/IndexOutOfBoundsException" (va_A [(x0, .inr (6, [.int (nI N), .ref (n 0), .ref (q 0), .ref (tr 0), .int (nI 0)]))] sz)) 1 6 (va_A [(x0, .inr (6, [.int (nI N), .ref (n 0), .ref (q 0), .ref (tr 0), .int (nI 0)]))] sz) := by
  refine vx_ofW (cc := cX6_distance) (maxL := 3) (ret := (some .int)) (by decide) rfl ?_
  intro p e s m args below meth c s₁ B hml htab hv
  obtain ⟨rfl, ⟨hsz, hP, hK, hD0, hKN⟩, hZ, hR⟩ := hv
  have hx := B.exec
  have hb := B.bytes
  have hr := B.returns
  have hts := atoms_spec (ws := (Cond.code yX6_distance cX6_distance 3 (some .int) :: kBig)) B.pre
  have hown : s.vm.findClass RX6 = some m.cls := findClass_of_methodNamed B.named
  have hlocks := B.notSynchronized
  obtain ⟨⟨as217, hs217⟩, ⟨as212, hs212⟩, ⟨as193, hs193⟩, hRest⟩ := id hR
  subst hsz
  have hD := hD0.self (sz := s.heap.size)
  generalize hAe : va_A [(x0, .inr (6, [.int (nI N), .ref (n 0), .ref (q 0), .ref (tr 0), .int (nI 0)]))] s.heap.size = A at hD hZ ⊢
  have hA : ∀ q : Nat, s.heap.size ≤ q → A q := fun q h => by rw [← hAe]; exact Or.inr h
  have hS : va_S A s.heap s.heap [] := va_S.rf
  have hl := lv_entry ([.ref x0, .int x, .int y]) (n := 3) (Nat.le_of_ble_eq_true rfl)
  rw [lg_entry_eq]
  generalize (lg_sl ([.ref x0, .int x, .int y]) ++ List.replicate (3 - (lg_sl ([.ref x0, .int x, .int y])).length) Slot.unset).toArray = ls at hl ⊢
  have hl : lv_has ls 3 [(0, .ref x0), (1, .int x), (2, .int y)] := hl
  refine lv_aload_n hx hb dX6_distance_0 rfl (lv_at hl 0 rfl) ?_
  refine lv_iload_n hx hb dX6_distance_1 rfl (lv_at hl 1 rfl) ?_
  refine lv_iload_n hx hb dX6_distance_2 rfl (lv_at hl 2 rfl) ?_
  exact k_xr (vx_runV (As := [.int x, .int y]) (rest := []) ⟨hx, hb, hml, hown, hts⟩ (x_checkNodes0 l hl9 D cI cJ cM cG x0 n q tr N x y s.heap.size (hN) (hb2)) (cwV 2 hts (kB_V (fun _ => List.mem_cons_of_mem _) q_14 q_15 q_16 q_9 (kB_c q_17)) rfl rfl rfl (by decide +kernel) ⟨Nat.le_of_ble_eq_true rfl, Nat.le_of_ble_eq_true rfl⟩) (k_preVX (T := TX6) hZ hR hS hA hP hD hK hKN [0] rfl rfl (ci := 6) rfl (q0 := 0) rfl) rfl rfl hl.1 rfl (lv_room (Nat.le_of_ble_eq_true rfl)) dX6_distance_3 ⟨Nat.le_of_ble_eq_true rfl, Nat.le_of_ble_eq_true rfl⟩) hD hS hA [0] rfl htab hlocks (Nat.le_of_ble_eq_true rfl) (Nat.le_of_ble_eq_true rfl)

set_option maxHeartbeats 4000000 in
set_option maxRecDepth 100000 in
theorem x_setLink0 (l : Launch) (hl9 : l.stackTraces = false) (D : va_G) (cI cJ cM cG : ClassId) (x0 : Nat) (n : Nat → Nat) (q : Nat → Nat) (tr : Nat → Nat) (N : Nat) (x : Int32) (y : Int32) (z3 : Int32) (sz : Nat) (hN : N ≤ 10) (hb2 : kBad2 N x y) : vx_Met l yX6_setLink (Cond.code yX6_setLink cX6_setLink 4 (some .int) :: kBig) ({ frames := 9, cells := 1, slots := 6, locals := 147 }) (va_Pc [.ref x0, .int x, .int y, .int z3] (kX D [(cI, .int), (cJ, .long), (cM, .object "MeshRouting$Message"), (cG, .array .int)] [(x0, .inr (6, [.int (nI N), .ref (n 0), .ref (q 0), .ref (tr 0), .int (nI 0)]))] sz)) (fun _ _ _ _ => False) (kE "java/lang/IndexOutOfBoundsException" (va_A [(x0, .inr (6, [.int (nI N), .ref (n 0), .ref (q 0), .ref (tr 0), .int (nI 0)]))] sz)) 1 6 (va_A [(x0, .inr (6, [.int (nI N), .ref (n 0), .ref (q 0), .ref (tr 0), .int (nI 0)]))] sz) := by
  refine vx_ofW (cc := cX6_setLink) (maxL := 4) (ret := (some .int)) (by decide) rfl ?_
  intro p e s m args below meth c s₁ B hml htab hv
  obtain ⟨rfl, ⟨hsz, hP, hK, hD0, hKN⟩, hZ, hR⟩ := hv
  have hx := B.exec
  have hb := B.bytes
  have hr := B.returns
  have hts := atoms_spec (ws := (Cond.code yX6_setLink cX6_setLink 4 (some .int) :: kBig)) B.pre
  have hown : s.vm.findClass RX6 = some m.cls := findClass_of_methodNamed B.named
  have hlocks := B.notSynchronized
  obtain ⟨⟨as217, hs217⟩, ⟨as212, hs212⟩, ⟨as193, hs193⟩, hRest⟩ := id hR
  subst hsz
  have hD := hD0.self (sz := s.heap.size)
  generalize hAe : va_A [(x0, .inr (6, [.int (nI N), .ref (n 0), .ref (q 0), .ref (tr 0), .int (nI 0)]))] s.heap.size = A at hD hZ ⊢
  have hA : ∀ q : Nat, s.heap.size ≤ q → A q := fun q h => by rw [← hAe]; exact Or.inr h
  have hS : va_S A s.heap s.heap [] := va_S.rf
  have hl := lv_entry ([.ref x0, .int x, .int y, .int z3]) (n := 4) (Nat.le_of_ble_eq_true rfl)
  rw [lg_entry_eq]
  generalize (lg_sl ([.ref x0, .int x, .int y, .int z3]) ++ List.replicate (4 - (lg_sl ([.ref x0, .int x, .int y, .int z3])).length) Slot.unset).toArray = ls at hl ⊢
  have hl : lv_has ls 4 [(0, .ref x0), (1, .int x), (2, .int y), (3, .int z3)] := hl
  refine lv_aload_n hx hb dX6_setLink_0 rfl (lv_at hl 0 rfl) ?_
  refine lv_iload_n hx hb dX6_setLink_1 rfl (lv_at hl 1 rfl) ?_
  refine lv_iload_n hx hb dX6_setLink_2 rfl (lv_at hl 2 rfl) ?_
  exact k_xr (vx_runV (As := [.int x, .int y]) (rest := []) ⟨hx, hb, hml, hown, hts⟩ (x_checkTwoNodes0 l hl9 D cI cJ cM cG x0 n q tr N x y s.heap.size (hN) (hb2)) (cwV 2 hts (kB_V (fun _ => List.mem_cons_of_mem _) q_37 q_38 q_39 q_9 (kB_c q_40)) rfl rfl rfl (by decide +kernel) ⟨Nat.le_of_ble_eq_true rfl, Nat.le_of_ble_eq_true rfl⟩) (k_preVX (T := TX6) hZ hR hS hA hP hD hK hKN [0] rfl rfl (ci := 6) rfl (q0 := 0) rfl) rfl rfl hl.1 rfl (lv_room (Nat.le_of_ble_eq_true rfl)) dX6_setLink_3 ⟨Nat.le_of_ble_eq_true rfl, Nat.le_of_ble_eq_true rfl⟩) hD hS hA [0] rfl htab hlocks (Nat.le_of_ble_eq_true rfl) (Nat.le_of_ble_eq_true rfl)

set_option maxHeartbeats 4000000 in
set_option maxRecDepth 100000 in
theorem x_setLink2 (l : Launch) (hl9 : l.stackTraces = false) (D : va_G) (cI cJ cM cG : ClassId) (x0 : Nat) (n : Nat → Nat) (q : Nat → Nat) (tr : Nat → Nat) (N : Nat) (a : Nat) (z3 : Int32) (sz : Nat) (hN : N ≤ 10) (ha : a < N) : vx_Met l yX6_setLink (Cond.code yX6_setLink cX6_setLink 4 (some .int) :: kBig) ({ frames := 7, cells := 1, slots := 6, locals := 104 }) (va_Pc [.ref x0, .int (nI a), .int (nI a), .int z3] (kX D [(cI, .int), (cJ, .long), (cM, .object "MeshRouting$Message"), (cG, .array .int)] [(x0, .inr (6, [.int (nI N), .ref (n 0), .ref (q 0), .ref (tr 0), .int (nI 0)]))] sz)) (fun _ _ _ _ => False) (kE "java/lang/IllegalArgumentException" (va_A [(x0, .inr (6, [.int (nI N), .ref (n 0), .ref (q 0), .ref (tr 0), .int (nI 0)]))] sz)) 1 6 (va_A [(x0, .inr (6, [.int (nI N), .ref (n 0), .ref (q 0), .ref (tr 0), .int (nI 0)]))] sz) := by
  refine vx_ofW (cc := cX6_setLink) (maxL := 4) (ret := (some .int)) (by decide) rfl ?_
  intro p e s m args below meth c s₁ B hml htab hv
  obtain ⟨rfl, ⟨hsz, hP, hK, hD0, hKN⟩, hZ, hR⟩ := hv
  have hx := B.exec
  have hb := B.bytes
  have hr := B.returns
  have hts := atoms_spec (ws := (Cond.code yX6_setLink cX6_setLink 4 (some .int) :: kBig)) B.pre
  have hown : s.vm.findClass RX6 = some m.cls := findClass_of_methodNamed B.named
  have hlocks := B.notSynchronized
  obtain ⟨⟨as217, hs217⟩, ⟨as212, hs212⟩, ⟨as193, hs193⟩, hRest⟩ := id hR
  subst hsz
  have hD := hD0.self (sz := s.heap.size)
  generalize hAe : va_A [(x0, .inr (6, [.int (nI N), .ref (n 0), .ref (q 0), .ref (tr 0), .int (nI 0)]))] s.heap.size = A at hD hZ ⊢
  have hA : ∀ q : Nat, s.heap.size ≤ q → A q := fun q h => by rw [← hAe]; exact Or.inr h
  have hS : va_S A s.heap s.heap [] := va_S.rf
  have hl := lv_entry ([.ref x0, .int (nI a), .int (nI a), .int z3]) (n := 4) (Nat.le_of_ble_eq_true rfl)
  rw [lg_entry_eq]
  generalize (lg_sl ([.ref x0, .int (nI a), .int (nI a), .int z3]) ++ List.replicate (4 - (lg_sl ([.ref x0, .int (nI a), .int (nI a), .int z3])).length) Slot.unset).toArray = ls at hl ⊢
  have hl : lv_has ls 4 [(0, .ref x0), (1, .int (nI a)), (2, .int (nI a)), (3, .int z3)] := hl
  refine lv_aload_n hx hb dX6_setLink_0 rfl (lv_at hl 0 rfl) ?_
  refine lv_iload_n hx hb dX6_setLink_1 rfl (lv_at hl 1 rfl) ?_
  refine lv_iload_n hx hb dX6_setLink_2 rfl (lv_at hl 2 rfl) ?_
  exact k_xr (vx_runV (As := [.int (nI a), .int (nI a)]) (rest := []) ⟨hx, hb, hml, hown, hts⟩ (x_checkTwoNodes2 l hl9 D cI cJ cM cG x0 n q tr N a s.heap.size (hN) (ha)) (cwV 2 hts (kB_V (fun _ => List.mem_cons_of_mem _) q_37 q_38 q_39 q_9 (kB_c q_40)) rfl rfl rfl (by decide +kernel) ⟨Nat.le_of_ble_eq_true rfl, Nat.le_of_ble_eq_true rfl⟩) (k_preVX (T := TX6) hZ hR hS hA hP hD hK hKN [0] rfl rfl (ci := 6) rfl (q0 := 0) rfl) rfl rfl hl.1 rfl (lv_room (Nat.le_of_ble_eq_true rfl)) dX6_setLink_3 ⟨Nat.le_of_ble_eq_true rfl, Nat.le_of_ble_eq_true rfl⟩) hD hS hA [0] rfl htab hlocks (Nat.le_of_ble_eq_true rfl) (Nat.le_of_ble_eq_true rfl)

set_option maxHeartbeats 4000000 in
set_option maxRecDepth 100000 in
theorem x_setLink3 (l : Launch) (hl9 : l.stackTraces = false) (D : va_G) (cI cJ cM cG : ClassId) (x0 : Nat) (n : Nat → Nat) (q : Nat → Nat) (tr : Nat → Nat) (N : Nat) (a : Nat) (b : Nat) (z3 : Int32) (sz : Nat) (hN : N ≤ 10) (ha : a < N) (hb9 : b < N) (hab : a ≠ b) (hz3 : z3 < 0 ∨ nI (9 + 1) ≤ z3) : vx_Met l yX6_setLink (Cond.code yX6_setLink cX6_setLink 4 (some .int) :: kBig) ({ frames := 7, cells := 1, slots := 6, locals := 104 }) (va_Pc [.ref x0, .int (nI a), .int (nI b), .int z3] (kX D [(cI, .int), (cJ, .long), (cM, .object "MeshRouting$Message"), (cG, .array .int)] [(x0, .inr (6, [.int (nI N), .ref (n 0), .ref (q 0), .ref (tr 0), .int (nI 0)]))] sz)) (fun _ _ _ _ => False) (kE "java/lang/IllegalArgumentException" (va_A [(x0, .inr (6, [.int (nI N), .ref (n 0), .ref (q 0), .ref (tr 0), .int (nI 0)]))] sz)) 1 6 (va_A [(x0, .inr (6, [.int (nI N), .ref (n 0), .ref (q 0), .ref (tr 0), .int (nI 0)]))] sz) := by
  refine vx_ofW (cc := cX6_setLink) (maxL := 4) (ret := (some .int)) (by decide) rfl ?_
  intro p e s m args below meth c s₁ B hml htab hv
  obtain ⟨rfl, ⟨hsz, hP, hK, hD0, hKN⟩, hZ, hR⟩ := hv
  have hx := B.exec
  have hb := B.bytes
  have hr := B.returns
  have hts := atoms_spec (ws := (Cond.code yX6_setLink cX6_setLink 4 (some .int) :: kBig)) B.pre
  have hown : s.vm.findClass RX6 = some m.cls := findClass_of_methodNamed B.named
  have hlocks := B.notSynchronized
  obtain ⟨⟨as217, hs217⟩, ⟨as212, hs212⟩, ⟨as193, hs193⟩, hRest⟩ := id hR
  subst hsz
  have hD := hD0.self (sz := s.heap.size)
  generalize hAe : va_A [(x0, .inr (6, [.int (nI N), .ref (n 0), .ref (q 0), .ref (tr 0), .int (nI 0)]))] s.heap.size = A at hD hZ ⊢
  have hA : ∀ q : Nat, s.heap.size ≤ q → A q := fun q h => by rw [← hAe]; exact Or.inr h
  have hS : va_S A s.heap s.heap [] := va_S.rf
  have hl := lv_entry ([.ref x0, .int (nI a), .int (nI b), .int z3]) (n := 4) (Nat.le_of_ble_eq_true rfl)
  rw [lg_entry_eq]
  generalize (lg_sl ([.ref x0, .int (nI a), .int (nI b), .int z3]) ++ List.replicate (4 - (lg_sl ([.ref x0, .int (nI a), .int (nI b), .int z3])).length) Slot.unset).toArray = ls at hl ⊢
  have hl : lv_has ls 4 [(0, .ref x0), (1, .int (nI a)), (2, .int (nI b)), (3, .int z3)] := hl
  refine lv_aload_n hx hb dX6_setLink_0 rfl (lv_at hl 0 rfl) ?_
  refine lv_iload_n hx hb dX6_setLink_1 rfl (lv_at hl 1 rfl) ?_
  refine lv_iload_n hx hb dX6_setLink_2 rfl (lv_at hl 2 rfl) ?_
  refine k_cv (wr := []) (w1 := [(x0, .inr (6, [.int (nI N), .ref (n 0), .ref (q 0), .ref (tr 0), .int (nI 0)]))]) (va_runV (As := [.int (nI a), .int (nI b)]) (rest := []) ⟨hx, hb, hml, hown, hts⟩ (c_X6_checkTwoNodes l D cI cJ cM cG x0 n q tr N a b s.heap.size (ha) (hb9) (hN) (hab)) (cwV 2 hts (kB_V (fun _ => List.mem_cons_of_mem _) q_37 q_38 q_39 q_9 (kB_c q_40)) rfl rfl rfl (by decide +kernel) ⟨Nat.le_of_ble_eq_true rfl, Nat.le_of_ble_eq_true rfl⟩) (k_preV (T := TX6) hP hD hK hKN [0] rfl rfl (ci := 6) rfl (q0 := 0) rfl) rfl rfl hl.1 rfl (lv_room (Nat.le_of_ble_eq_true rfl)) dX6_setLink_3 ⟨Nat.le_of_ble_eq_true rfl, Nat.le_of_ble_eq_true rfl⟩) hP hD hS hA [0] [] rfl rfl rfl (by decide) (fun H locs hw3 hP hD hS => ?_)
  replace hP : va_P D vwCl [(x0, .inr (6, [.int (nI N), .ref (n 0), .ref (q 0), .ref (tr 0), .int (nI 0)]))] H := hP
  replace hD : va_D A [(x0, .inr (6, [.int (nI N), .ref (n 0), .ref (q 0), .ref (tr 0), .int (nI 0)]))] := hD
  refine lv_iload_n hx hb dX6_setLink_6 rfl (lv_at hl 3 rfl) ?_
  refine lv_iconst (v := nI 0) hx hb dX6_setLink_7 (by decide) ?_
  refine lv_bipush (v := nI 9) hx hb dX6_setLink_8 (by decide) ?_
  exact k_xr (vx_runS (As := [.int z3, .int (nI 0), .int (nI 9)]) (rest := []) ⟨hx, hb, hml, hown, hts⟩ (x_checkRange l hl9 D cI cJ cM cG z3 0 9 H.size (by omega) (by rw [nI_0]; exact hz3)) (va_cwS 3 hts (kB_S (fun _ => List.mem_cons_of_mem _) q_43 q_44 q_9 (kB_c q_45)) rfl rfl rfl (by decide +kernel) ⟨Nat.le_of_ble_eq_true rfl, Nat.le_of_ble_eq_true rfl⟩) (k_preSX hZ hR hS hA hP hD hK hKN [] rfl rfl) rfl rfl hl.1 rfl (lv_room (Nat.le_of_ble_eq_true rfl)) dX6_setLink_10 ⟨Nat.le_of_ble_eq_true rfl, Nat.le_of_ble_eq_true rfl⟩) hD hS hA [] rfl htab hlocks (Nat.le_of_ble_eq_true rfl) (Nat.le_of_ble_eq_true rfl)

set_option maxHeartbeats 4000000 in
set_option maxRecDepth 100000 in
theorem x_send0 (l : Launch) (hl9 : l.stackTraces = false) (D : va_G) (cI cJ cM cG : ClassId) (x0 : Nat) (n : Nat → Nat) (q : Nat → Nat) (tr : Nat → Nat) (N : Nat) (x : Int32) (y : Int32) (sz : Nat) (hN : N ≤ 10) (hb2 : kBad2 N x y) : vx_Met l yX6_send (Cond.code yX6_send cX6_send 3 (some .int) :: kBig) ({ frames := 9, cells := 1, slots := 6, locals := 147 }) (va_Pc [.ref x0, .int x, .int y] (kX D [(cI, .int), (cJ, .long), (cM, .object "MeshRouting$Message"), (cG, .array .int)] [(x0, .inr (6, [.int (nI N), .ref (n 0), .ref (q 0), .ref (tr 0), .int (nI 0)]))] sz)) (fun _ _ _ _ => False) (kE "java/lang/IndexOutOfBoundsException" (va_A [(x0, .inr (6, [.int (nI N), .ref (n 0), .ref (q 0), .ref (tr 0), .int (nI 0)]))] sz)) 1 6 (va_A [(x0, .inr (6, [.int (nI N), .ref (n 0), .ref (q 0), .ref (tr 0), .int (nI 0)]))] sz) := by
  refine vx_ofW (cc := cX6_send) (maxL := 3) (ret := (some .int)) (by decide) rfl ?_
  intro p e s m args below meth c s₁ B hml htab hv
  obtain ⟨rfl, ⟨hsz, hP, hK, hD0, hKN⟩, hZ, hR⟩ := hv
  have hx := B.exec
  have hb := B.bytes
  have hr := B.returns
  have hts := atoms_spec (ws := (Cond.code yX6_send cX6_send 3 (some .int) :: kBig)) B.pre
  have hown : s.vm.findClass RX6 = some m.cls := findClass_of_methodNamed B.named
  have hlocks := B.notSynchronized
  obtain ⟨⟨as217, hs217⟩, ⟨as212, hs212⟩, ⟨as193, hs193⟩, hRest⟩ := id hR
  subst hsz
  have hD := hD0.self (sz := s.heap.size)
  generalize hAe : va_A [(x0, .inr (6, [.int (nI N), .ref (n 0), .ref (q 0), .ref (tr 0), .int (nI 0)]))] s.heap.size = A at hD hZ ⊢
  have hA : ∀ q : Nat, s.heap.size ≤ q → A q := fun q h => by rw [← hAe]; exact Or.inr h
  have hS : va_S A s.heap s.heap [] := va_S.rf
  have hl := lv_entry ([.ref x0, .int x, .int y]) (n := 3) (Nat.le_of_ble_eq_true rfl)
  rw [lg_entry_eq]
  generalize (lg_sl ([.ref x0, .int x, .int y]) ++ List.replicate (3 - (lg_sl ([.ref x0, .int x, .int y])).length) Slot.unset).toArray = ls at hl ⊢
  have hl : lv_has ls 3 [(0, .ref x0), (1, .int x), (2, .int y)] := hl
  refine lv_aload_n hx hb dX6_send_0 rfl (lv_at hl 0 rfl) ?_
  refine lv_iload_n hx hb dX6_send_1 rfl (lv_at hl 1 rfl) ?_
  refine lv_iload_n hx hb dX6_send_2 rfl (lv_at hl 2 rfl) ?_
  exact k_xr (vx_runV (As := [.int x, .int y]) (rest := []) ⟨hx, hb, hml, hown, hts⟩ (x_checkTwoNodes0 l hl9 D cI cJ cM cG x0 n q tr N x y s.heap.size (hN) (hb2)) (cwV 2 hts (kB_V (fun _ => List.mem_cons_of_mem _) q_37 q_38 q_39 q_9 (kB_c q_40)) rfl rfl rfl (by decide +kernel) ⟨Nat.le_of_ble_eq_true rfl, Nat.le_of_ble_eq_true rfl⟩) (k_preVX (T := TX6) hZ hR hS hA hP hD hK hKN [0] rfl rfl (ci := 6) rfl (q0 := 0) rfl) rfl rfl hl.1 rfl (lv_room (Nat.le_of_ble_eq_true rfl)) dX6_send_3 ⟨Nat.le_of_ble_eq_true rfl, Nat.le_of_ble_eq_true rfl⟩) hD hS hA [0] rfl htab hlocks (Nat.le_of_ble_eq_true rfl) (Nat.le_of_ble_eq_true rfl)

set_option maxHeartbeats 4000000 in
set_option maxRecDepth 100000 in
theorem x_send2 (l : Launch) (hl9 : l.stackTraces = false) (D : va_G) (cI cJ cM cG : ClassId) (x0 : Nat) (n : Nat → Nat) (q : Nat → Nat) (tr : Nat → Nat) (N : Nat) (a : Nat) (sz : Nat) (hN : N ≤ 10) (ha : a < N) : vx_Met l yX6_send (Cond.code yX6_send cX6_send 3 (some .int) :: kBig) ({ frames := 7, cells := 1, slots := 6, locals := 104 }) (va_Pc [.ref x0, .int (nI a), .int (nI a)] (kX D [(cI, .int), (cJ, .long), (cM, .object "MeshRouting$Message"), (cG, .array .int)] [(x0, .inr (6, [.int (nI N), .ref (n 0), .ref (q 0), .ref (tr 0), .int (nI 0)]))] sz)) (fun _ _ _ _ => False) (kE "java/lang/IllegalArgumentException" (va_A [(x0, .inr (6, [.int (nI N), .ref (n 0), .ref (q 0), .ref (tr 0), .int (nI 0)]))] sz)) 1 6 (va_A [(x0, .inr (6, [.int (nI N), .ref (n 0), .ref (q 0), .ref (tr 0), .int (nI 0)]))] sz) := by
  refine vx_ofW (cc := cX6_send) (maxL := 3) (ret := (some .int)) (by decide) rfl ?_
  intro p e s m args below meth c s₁ B hml htab hv
  obtain ⟨rfl, ⟨hsz, hP, hK, hD0, hKN⟩, hZ, hR⟩ := hv
  have hx := B.exec
  have hb := B.bytes
  have hr := B.returns
  have hts := atoms_spec (ws := (Cond.code yX6_send cX6_send 3 (some .int) :: kBig)) B.pre
  have hown : s.vm.findClass RX6 = some m.cls := findClass_of_methodNamed B.named
  have hlocks := B.notSynchronized
  obtain ⟨⟨as217, hs217⟩, ⟨as212, hs212⟩, ⟨as193, hs193⟩, hRest⟩ := id hR
  subst hsz
  have hD := hD0.self (sz := s.heap.size)
  generalize hAe : va_A [(x0, .inr (6, [.int (nI N), .ref (n 0), .ref (q 0), .ref (tr 0), .int (nI 0)]))] s.heap.size = A at hD hZ ⊢
  have hA : ∀ q : Nat, s.heap.size ≤ q → A q := fun q h => by rw [← hAe]; exact Or.inr h
  have hS : va_S A s.heap s.heap [] := va_S.rf
  have hl := lv_entry ([.ref x0, .int (nI a), .int (nI a)]) (n := 3) (Nat.le_of_ble_eq_true rfl)
  rw [lg_entry_eq]
  generalize (lg_sl ([.ref x0, .int (nI a), .int (nI a)]) ++ List.replicate (3 - (lg_sl ([.ref x0, .int (nI a), .int (nI a)])).length) Slot.unset).toArray = ls at hl ⊢
  have hl : lv_has ls 3 [(0, .ref x0), (1, .int (nI a)), (2, .int (nI a))] := hl
  refine lv_aload_n hx hb dX6_send_0 rfl (lv_at hl 0 rfl) ?_
  refine lv_iload_n hx hb dX6_send_1 rfl (lv_at hl 1 rfl) ?_
  refine lv_iload_n hx hb dX6_send_2 rfl (lv_at hl 2 rfl) ?_
  exact k_xr (vx_runV (As := [.int (nI a), .int (nI a)]) (rest := []) ⟨hx, hb, hml, hown, hts⟩ (x_checkTwoNodes2 l hl9 D cI cJ cM cG x0 n q tr N a s.heap.size (hN) (ha)) (cwV 2 hts (kB_V (fun _ => List.mem_cons_of_mem _) q_37 q_38 q_39 q_9 (kB_c q_40)) rfl rfl rfl (by decide +kernel) ⟨Nat.le_of_ble_eq_true rfl, Nat.le_of_ble_eq_true rfl⟩) (k_preVX (T := TX6) hZ hR hS hA hP hD hK hKN [0] rfl rfl (ci := 6) rfl (q0 := 0) rfl) rfl rfl hl.1 rfl (lv_room (Nat.le_of_ble_eq_true rfl)) dX6_send_3 ⟨Nat.le_of_ble_eq_true rfl, Nat.le_of_ble_eq_true rfl⟩) hD hS hA [0] rfl htab hlocks (Nat.le_of_ble_eq_true rfl) (Nat.le_of_ble_eq_true rfl)

set_option maxHeartbeats 4000000 in
set_option maxRecDepth 100000 in
theorem x_forecast0 (l : Launch) (hl9 : l.stackTraces = false) (D : va_G) (cI cJ cM cG : ClassId) (x0 : Nat) (n : Nat → Nat) (q : Nat → Nat) (tr : Nat → Nat) (N : Nat) (x : Int32) (y : Int32) (z3 : Int32) (sz : Nat) (hN : N ≤ 10) (hb2 : kBad2 N x y) : vx_Met l yX6_forecast (Cond.code yX6_forecast cX6_forecast 5 (some .int) :: kBig) ({ frames := 9, cells := 1, slots := 6, locals := 147 }) (va_Pc [.ref x0, .int x, .int y, .int z3] (kX D [(cI, .int), (cJ, .long), (cM, .object "MeshRouting$Message"), (cG, .array .int)] [(x0, .inr (6, [.int (nI N), .ref (n 0), .ref (q 0), .ref (tr 0), .int (nI 0)]))] sz)) (fun _ _ _ _ => False) (kE "java/lang/IndexOutOfBoundsException" (va_A [(x0, .inr (6, [.int (nI N), .ref (n 0), .ref (q 0), .ref (tr 0), .int (nI 0)]))] sz)) 1 6 (va_A [(x0, .inr (6, [.int (nI N), .ref (n 0), .ref (q 0), .ref (tr 0), .int (nI 0)]))] sz) := by
  refine vx_ofW (cc := cX6_forecast) (maxL := 5) (ret := (some .int)) (by decide) rfl ?_
  intro p e s m args below meth c s₁ B hml htab hv
  obtain ⟨rfl, ⟨hsz, hP, hK, hD0, hKN⟩, hZ, hR⟩ := hv
  have hx := B.exec
  have hb := B.bytes
  have hr := B.returns
  have hts := atoms_spec (ws := (Cond.code yX6_forecast cX6_forecast 5 (some .int) :: kBig)) B.pre
  have hown : s.vm.findClass RX6 = some m.cls := findClass_of_methodNamed B.named
  have hlocks := B.notSynchronized
  obtain ⟨⟨as217, hs217⟩, ⟨as212, hs212⟩, ⟨as193, hs193⟩, hRest⟩ := id hR
  subst hsz
  have hD := hD0.self (sz := s.heap.size)
  generalize hAe : va_A [(x0, .inr (6, [.int (nI N), .ref (n 0), .ref (q 0), .ref (tr 0), .int (nI 0)]))] s.heap.size = A at hD hZ ⊢
  have hA : ∀ q : Nat, s.heap.size ≤ q → A q := fun q h => by rw [← hAe]; exact Or.inr h
  have hS : va_S A s.heap s.heap [] := va_S.rf
  have hl := lv_entry ([.ref x0, .int x, .int y, .int z3]) (n := 5) (Nat.le_of_ble_eq_true rfl)
  rw [lg_entry_eq]
  generalize (lg_sl ([.ref x0, .int x, .int y, .int z3]) ++ List.replicate (5 - (lg_sl ([.ref x0, .int x, .int y, .int z3])).length) Slot.unset).toArray = ls at hl ⊢
  have hl : lv_has ls 5 [(0, .ref x0), (1, .int x), (2, .int y), (3, .int z3)] := hl
  refine lv_aload_n hx hb dX6_forecast_0 rfl (lv_at hl 0 rfl) ?_
  refine lv_iload_n hx hb dX6_forecast_1 rfl (lv_at hl 1 rfl) ?_
  refine lv_iload_n hx hb dX6_forecast_2 rfl (lv_at hl 2 rfl) ?_
  exact k_xr (vx_runV (As := [.int x, .int y]) (rest := []) ⟨hx, hb, hml, hown, hts⟩ (x_checkTwoNodes0 l hl9 D cI cJ cM cG x0 n q tr N x y s.heap.size (hN) (hb2)) (cwV 2 hts (kB_V (fun _ => List.mem_cons_of_mem _) q_37 q_38 q_39 q_9 (kB_c q_40)) rfl rfl rfl (by decide +kernel) ⟨Nat.le_of_ble_eq_true rfl, Nat.le_of_ble_eq_true rfl⟩) (k_preVX (T := TX6) hZ hR hS hA hP hD hK hKN [0] rfl rfl (ci := 6) rfl (q0 := 0) rfl) rfl rfl hl.1 rfl (lv_room (Nat.le_of_ble_eq_true rfl)) dX6_forecast_3 ⟨Nat.le_of_ble_eq_true rfl, Nat.le_of_ble_eq_true rfl⟩) hD hS hA [0] rfl htab hlocks (Nat.le_of_ble_eq_true rfl) (Nat.le_of_ble_eq_true rfl)

set_option maxHeartbeats 4000000 in
set_option maxRecDepth 100000 in
theorem x_forecast2 (l : Launch) (hl9 : l.stackTraces = false) (D : va_G) (cI cJ cM cG : ClassId) (x0 : Nat) (n : Nat → Nat) (q : Nat → Nat) (tr : Nat → Nat) (N : Nat) (a : Nat) (z3 : Int32) (sz : Nat) (hN : N ≤ 10) (ha : a < N) : vx_Met l yX6_forecast (Cond.code yX6_forecast cX6_forecast 5 (some .int) :: kBig) ({ frames := 7, cells := 1, slots := 6, locals := 104 }) (va_Pc [.ref x0, .int (nI a), .int (nI a), .int z3] (kX D [(cI, .int), (cJ, .long), (cM, .object "MeshRouting$Message"), (cG, .array .int)] [(x0, .inr (6, [.int (nI N), .ref (n 0), .ref (q 0), .ref (tr 0), .int (nI 0)]))] sz)) (fun _ _ _ _ => False) (kE "java/lang/IllegalArgumentException" (va_A [(x0, .inr (6, [.int (nI N), .ref (n 0), .ref (q 0), .ref (tr 0), .int (nI 0)]))] sz)) 1 6 (va_A [(x0, .inr (6, [.int (nI N), .ref (n 0), .ref (q 0), .ref (tr 0), .int (nI 0)]))] sz) := by
  refine vx_ofW (cc := cX6_forecast) (maxL := 5) (ret := (some .int)) (by decide) rfl ?_
  intro p e s m args below meth c s₁ B hml htab hv
  obtain ⟨rfl, ⟨hsz, hP, hK, hD0, hKN⟩, hZ, hR⟩ := hv
  have hx := B.exec
  have hb := B.bytes
  have hr := B.returns
  have hts := atoms_spec (ws := (Cond.code yX6_forecast cX6_forecast 5 (some .int) :: kBig)) B.pre
  have hown : s.vm.findClass RX6 = some m.cls := findClass_of_methodNamed B.named
  have hlocks := B.notSynchronized
  obtain ⟨⟨as217, hs217⟩, ⟨as212, hs212⟩, ⟨as193, hs193⟩, hRest⟩ := id hR
  subst hsz
  have hD := hD0.self (sz := s.heap.size)
  generalize hAe : va_A [(x0, .inr (6, [.int (nI N), .ref (n 0), .ref (q 0), .ref (tr 0), .int (nI 0)]))] s.heap.size = A at hD hZ ⊢
  have hA : ∀ q : Nat, s.heap.size ≤ q → A q := fun q h => by rw [← hAe]; exact Or.inr h
  have hS : va_S A s.heap s.heap [] := va_S.rf
  have hl := lv_entry ([.ref x0, .int (nI a), .int (nI a), .int z3]) (n := 5) (Nat.le_of_ble_eq_true rfl)
  rw [lg_entry_eq]
  generalize (lg_sl ([.ref x0, .int (nI a), .int (nI a), .int z3]) ++ List.replicate (5 - (lg_sl ([.ref x0, .int (nI a), .int (nI a), .int z3])).length) Slot.unset).toArray = ls at hl ⊢
  have hl : lv_has ls 5 [(0, .ref x0), (1, .int (nI a)), (2, .int (nI a)), (3, .int z3)] := hl
  refine lv_aload_n hx hb dX6_forecast_0 rfl (lv_at hl 0 rfl) ?_
  refine lv_iload_n hx hb dX6_forecast_1 rfl (lv_at hl 1 rfl) ?_
  refine lv_iload_n hx hb dX6_forecast_2 rfl (lv_at hl 2 rfl) ?_
  exact k_xr (vx_runV (As := [.int (nI a), .int (nI a)]) (rest := []) ⟨hx, hb, hml, hown, hts⟩ (x_checkTwoNodes2 l hl9 D cI cJ cM cG x0 n q tr N a s.heap.size (hN) (ha)) (cwV 2 hts (kB_V (fun _ => List.mem_cons_of_mem _) q_37 q_38 q_39 q_9 (kB_c q_40)) rfl rfl rfl (by decide +kernel) ⟨Nat.le_of_ble_eq_true rfl, Nat.le_of_ble_eq_true rfl⟩) (k_preVX (T := TX6) hZ hR hS hA hP hD hK hKN [0] rfl rfl (ci := 6) rfl (q0 := 0) rfl) rfl rfl hl.1 rfl (lv_room (Nat.le_of_ble_eq_true rfl)) dX6_forecast_3 ⟨Nat.le_of_ble_eq_true rfl, Nat.le_of_ble_eq_true rfl⟩) hD hS hA [0] rfl htab hlocks (Nat.le_of_ble_eq_true rfl) (Nat.le_of_ble_eq_true rfl)

set_option maxHeartbeats 4000000 in
set_option maxRecDepth 100000 in
theorem x_forecast3 (l : Launch) (hl9 : l.stackTraces = false) (D : va_G) (cI cJ cM cG : ClassId) (x0 : Nat) (n : Nat → Nat) (q : Nat → Nat) (tr : Nat → Nat) (N : Nat) (a : Nat) (b : Nat) (z3 : Int32) (sz : Nat) (hN : N ≤ 10) (ha : a < N) (hb9 : b < N) (hab : a ≠ b) (hz3 : z3 < 0 ∨ nI (100000 + 1) ≤ z3) : vx_Met l yX6_forecast (Cond.code yX6_forecast cX6_forecast 5 (some .int) :: kBig) ({ frames := 7, cells := 1, slots := 6, locals := 104 }) (va_Pc [.ref x0, .int (nI a), .int (nI b), .int z3] (kX D [(cI, .int), (cJ, .long), (cM, .object "MeshRouting$Message"), (cG, .array .int)] [(x0, .inr (6, [.int (nI N), .ref (n 0), .ref (q 0), .ref (tr 0), .int (nI 0)]))] sz)) (fun _ _ _ _ => False) (kE "java/lang/IllegalArgumentException" (va_A [(x0, .inr (6, [.int (nI N), .ref (n 0), .ref (q 0), .ref (tr 0), .int (nI 0)]))] sz)) 1 6 (va_A [(x0, .inr (6, [.int (nI N), .ref (n 0), .ref (q 0), .ref (tr 0), .int (nI 0)]))] sz) := by
  refine vx_ofW (cc := cX6_forecast) (maxL := 5) (ret := (some .int)) (by decide) rfl ?_
  intro p e s m args below meth c s₁ B hml htab hv
  obtain ⟨rfl, ⟨hsz, hP, hK, hD0, hKN⟩, hZ, hR⟩ := hv
  have hx := B.exec
  have hb := B.bytes
  have hr := B.returns
  have hts := atoms_spec (ws := (Cond.code yX6_forecast cX6_forecast 5 (some .int) :: kBig)) B.pre
  have hown : s.vm.findClass RX6 = some m.cls := findClass_of_methodNamed B.named
  have hlocks := B.notSynchronized
  obtain ⟨⟨as217, hs217⟩, ⟨as212, hs212⟩, ⟨as193, hs193⟩, hRest⟩ := id hR
  subst hsz
  have hD := hD0.self (sz := s.heap.size)
  generalize hAe : va_A [(x0, .inr (6, [.int (nI N), .ref (n 0), .ref (q 0), .ref (tr 0), .int (nI 0)]))] s.heap.size = A at hD hZ ⊢
  have hA : ∀ q : Nat, s.heap.size ≤ q → A q := fun q h => by rw [← hAe]; exact Or.inr h
  have hS : va_S A s.heap s.heap [] := va_S.rf
  have hl := lv_entry ([.ref x0, .int (nI a), .int (nI b), .int z3]) (n := 5) (Nat.le_of_ble_eq_true rfl)
  rw [lg_entry_eq]
  generalize (lg_sl ([.ref x0, .int (nI a), .int (nI b), .int z3]) ++ List.replicate (5 - (lg_sl ([.ref x0, .int (nI a), .int (nI b), .int z3])).length) Slot.unset).toArray = ls at hl ⊢
  have hl : lv_has ls 5 [(0, .ref x0), (1, .int (nI a)), (2, .int (nI b)), (3, .int z3)] := hl
  refine lv_aload_n hx hb dX6_forecast_0 rfl (lv_at hl 0 rfl) ?_
  refine lv_iload_n hx hb dX6_forecast_1 rfl (lv_at hl 1 rfl) ?_
  refine lv_iload_n hx hb dX6_forecast_2 rfl (lv_at hl 2 rfl) ?_
  refine k_cv (wr := []) (w1 := [(x0, .inr (6, [.int (nI N), .ref (n 0), .ref (q 0), .ref (tr 0), .int (nI 0)]))]) (va_runV (As := [.int (nI a), .int (nI b)]) (rest := []) ⟨hx, hb, hml, hown, hts⟩ (c_X6_checkTwoNodes l D cI cJ cM cG x0 n q tr N a b s.heap.size (ha) (hb9) (hN) (hab)) (cwV 2 hts (kB_V (fun _ => List.mem_cons_of_mem _) q_37 q_38 q_39 q_9 (kB_c q_40)) rfl rfl rfl (by decide +kernel) ⟨Nat.le_of_ble_eq_true rfl, Nat.le_of_ble_eq_true rfl⟩) (k_preV (T := TX6) hP hD hK hKN [0] rfl rfl (ci := 6) rfl (q0 := 0) rfl) rfl rfl hl.1 rfl (lv_room (Nat.le_of_ble_eq_true rfl)) dX6_forecast_3 ⟨Nat.le_of_ble_eq_true rfl, Nat.le_of_ble_eq_true rfl⟩) hP hD hS hA [0] [] rfl rfl rfl (by decide) (fun H locs hw3 hP hD hS => ?_)
  replace hP : va_P D vwCl [(x0, .inr (6, [.int (nI N), .ref (n 0), .ref (q 0), .ref (tr 0), .int (nI 0)]))] H := hP
  replace hD : va_D A [(x0, .inr (6, [.int (nI N), .ref (n 0), .ref (q 0), .ref (tr 0), .int (nI 0)]))] := hD
  refine lv_iload_n hx hb dX6_forecast_6 rfl (lv_at hl 3 rfl) ?_
  refine lv_iconst (v := nI 0) hx hb dX6_forecast_7 (by decide) ?_
  refine lv_ldc (v := 100000) hx hb hown (by exact hts (.constant RX6 98 (100000)) (List.mem_cons_of_mem _ q_34)) dX6_forecast_8 ?_
  refine k_ti (show (100000) = (nI 100000) from by decide) ?_
  exact k_xr (vx_runS (As := [.int z3, .int (nI 0), .int (nI 100000)]) (rest := []) ⟨hx, hb, hml, hown, hts⟩ (x_checkRange l hl9 D cI cJ cM cG z3 0 100000 H.size (by omega) (by rw [nI_0]; exact hz3)) (va_cwS 3 hts (kB_S (fun _ => List.mem_cons_of_mem _) q_43 q_44 q_9 (kB_c q_45)) rfl rfl rfl (by decide +kernel) ⟨Nat.le_of_ble_eq_true rfl, Nat.le_of_ble_eq_true rfl⟩) (k_preSX hZ hR hS hA hP hD hK hKN [] rfl rfl) rfl rfl hl.1 rfl (lv_room (Nat.le_of_ble_eq_true rfl)) dX6_forecast_10 ⟨Nat.le_of_ble_eq_true rfl, Nat.le_of_ble_eq_true rfl⟩) hD hS hA [] rfl htab hlocks (Nat.le_of_ble_eq_true rfl) (Nat.le_of_ble_eq_true rfl)

set_option maxHeartbeats 4000000 in
set_option maxRecDepth 100000 in
theorem x_damage0 (l : Launch) (hl9 : l.stackTraces = false) (D : va_G) (cI cJ cM cG : ClassId) (x0 : Nat) (n : Nat → Nat) (q : Nat → Nat) (tr : Nat → Nat) (N : Nat) (x : Int32) (y : Int32) (z3 : Int32) (sz : Nat) (hN : N ≤ 10) (hb2 : kBad2 N x y) : vx_Met l yX6_damage (Cond.code yX6_damage cX6_damage 4 (some .int) :: kBig) ({ frames := 9, cells := 1, slots := 6, locals := 147 }) (va_Pc [.ref x0, .int x, .int y, .int z3] (kX D [(cI, .int), (cJ, .long), (cM, .object "MeshRouting$Message"), (cG, .array .int)] [(x0, .inr (6, [.int (nI N), .ref (n 0), .ref (q 0), .ref (tr 0), .int (nI 0)]))] sz)) (fun _ _ _ _ => False) (kE "java/lang/IndexOutOfBoundsException" (va_A [(x0, .inr (6, [.int (nI N), .ref (n 0), .ref (q 0), .ref (tr 0), .int (nI 0)]))] sz)) 1 6 (va_A [(x0, .inr (6, [.int (nI N), .ref (n 0), .ref (q 0), .ref (tr 0), .int (nI 0)]))] sz) := by
  refine vx_ofW (cc := cX6_damage) (maxL := 4) (ret := (some .int)) (by decide) rfl ?_
  intro p e s m args below meth c s₁ B hml htab hv
  obtain ⟨rfl, ⟨hsz, hP, hK, hD0, hKN⟩, hZ, hR⟩ := hv
  have hx := B.exec
  have hb := B.bytes
  have hr := B.returns
  have hts := atoms_spec (ws := (Cond.code yX6_damage cX6_damage 4 (some .int) :: kBig)) B.pre
  have hown : s.vm.findClass RX6 = some m.cls := findClass_of_methodNamed B.named
  have hlocks := B.notSynchronized
  obtain ⟨⟨as217, hs217⟩, ⟨as212, hs212⟩, ⟨as193, hs193⟩, hRest⟩ := id hR
  subst hsz
  have hD := hD0.self (sz := s.heap.size)
  generalize hAe : va_A [(x0, .inr (6, [.int (nI N), .ref (n 0), .ref (q 0), .ref (tr 0), .int (nI 0)]))] s.heap.size = A at hD hZ ⊢
  have hA : ∀ q : Nat, s.heap.size ≤ q → A q := fun q h => by rw [← hAe]; exact Or.inr h
  have hS : va_S A s.heap s.heap [] := va_S.rf
  have hl := lv_entry ([.ref x0, .int x, .int y, .int z3]) (n := 4) (Nat.le_of_ble_eq_true rfl)
  rw [lg_entry_eq]
  generalize (lg_sl ([.ref x0, .int x, .int y, .int z3]) ++ List.replicate (4 - (lg_sl ([.ref x0, .int x, .int y, .int z3])).length) Slot.unset).toArray = ls at hl ⊢
  have hl : lv_has ls 4 [(0, .ref x0), (1, .int x), (2, .int y), (3, .int z3)] := hl
  refine lv_aload_n hx hb dX6_damage_0 rfl (lv_at hl 0 rfl) ?_
  refine lv_iload_n hx hb dX6_damage_1 rfl (lv_at hl 1 rfl) ?_
  refine lv_iload_n hx hb dX6_damage_2 rfl (lv_at hl 2 rfl) ?_
  exact k_xr (vx_runV (As := [.int x, .int y]) (rest := []) ⟨hx, hb, hml, hown, hts⟩ (x_checkTwoNodes0 l hl9 D cI cJ cM cG x0 n q tr N x y s.heap.size (hN) (hb2)) (cwV 2 hts (kB_V (fun _ => List.mem_cons_of_mem _) q_37 q_38 q_39 q_9 (kB_c q_40)) rfl rfl rfl (by decide +kernel) ⟨Nat.le_of_ble_eq_true rfl, Nat.le_of_ble_eq_true rfl⟩) (k_preVX (T := TX6) hZ hR hS hA hP hD hK hKN [0] rfl rfl (ci := 6) rfl (q0 := 0) rfl) rfl rfl hl.1 rfl (lv_room (Nat.le_of_ble_eq_true rfl)) dX6_damage_3 ⟨Nat.le_of_ble_eq_true rfl, Nat.le_of_ble_eq_true rfl⟩) hD hS hA [0] rfl htab hlocks (Nat.le_of_ble_eq_true rfl) (Nat.le_of_ble_eq_true rfl)

set_option maxHeartbeats 4000000 in
set_option maxRecDepth 100000 in
theorem x_damage2 (l : Launch) (hl9 : l.stackTraces = false) (D : va_G) (cI cJ cM cG : ClassId) (x0 : Nat) (n : Nat → Nat) (q : Nat → Nat) (tr : Nat → Nat) (N : Nat) (a : Nat) (z3 : Int32) (sz : Nat) (hN : N ≤ 10) (ha : a < N) : vx_Met l yX6_damage (Cond.code yX6_damage cX6_damage 4 (some .int) :: kBig) ({ frames := 7, cells := 1, slots := 6, locals := 104 }) (va_Pc [.ref x0, .int (nI a), .int (nI a), .int z3] (kX D [(cI, .int), (cJ, .long), (cM, .object "MeshRouting$Message"), (cG, .array .int)] [(x0, .inr (6, [.int (nI N), .ref (n 0), .ref (q 0), .ref (tr 0), .int (nI 0)]))] sz)) (fun _ _ _ _ => False) (kE "java/lang/IllegalArgumentException" (va_A [(x0, .inr (6, [.int (nI N), .ref (n 0), .ref (q 0), .ref (tr 0), .int (nI 0)]))] sz)) 1 6 (va_A [(x0, .inr (6, [.int (nI N), .ref (n 0), .ref (q 0), .ref (tr 0), .int (nI 0)]))] sz) := by
  refine vx_ofW (cc := cX6_damage) (maxL := 4) (ret := (some .int)) (by decide) rfl ?_
  intro p e s m args below meth c s₁ B hml htab hv
  obtain ⟨rfl, ⟨hsz, hP, hK, hD0, hKN⟩, hZ, hR⟩ := hv
  have hx := B.exec
  have hb := B.bytes
  have hr := B.returns
  have hts := atoms_spec (ws := (Cond.code yX6_damage cX6_damage 4 (some .int) :: kBig)) B.pre
  have hown : s.vm.findClass RX6 = some m.cls := findClass_of_methodNamed B.named
  have hlocks := B.notSynchronized
  obtain ⟨⟨as217, hs217⟩, ⟨as212, hs212⟩, ⟨as193, hs193⟩, hRest⟩ := id hR
  subst hsz
  have hD := hD0.self (sz := s.heap.size)
  generalize hAe : va_A [(x0, .inr (6, [.int (nI N), .ref (n 0), .ref (q 0), .ref (tr 0), .int (nI 0)]))] s.heap.size = A at hD hZ ⊢
  have hA : ∀ q : Nat, s.heap.size ≤ q → A q := fun q h => by rw [← hAe]; exact Or.inr h
  have hS : va_S A s.heap s.heap [] := va_S.rf
  have hl := lv_entry ([.ref x0, .int (nI a), .int (nI a), .int z3]) (n := 4) (Nat.le_of_ble_eq_true rfl)
  rw [lg_entry_eq]
  generalize (lg_sl ([.ref x0, .int (nI a), .int (nI a), .int z3]) ++ List.replicate (4 - (lg_sl ([.ref x0, .int (nI a), .int (nI a), .int z3])).length) Slot.unset).toArray = ls at hl ⊢
  have hl : lv_has ls 4 [(0, .ref x0), (1, .int (nI a)), (2, .int (nI a)), (3, .int z3)] := hl
  refine lv_aload_n hx hb dX6_damage_0 rfl (lv_at hl 0 rfl) ?_
  refine lv_iload_n hx hb dX6_damage_1 rfl (lv_at hl 1 rfl) ?_
  refine lv_iload_n hx hb dX6_damage_2 rfl (lv_at hl 2 rfl) ?_
  exact k_xr (vx_runV (As := [.int (nI a), .int (nI a)]) (rest := []) ⟨hx, hb, hml, hown, hts⟩ (x_checkTwoNodes2 l hl9 D cI cJ cM cG x0 n q tr N a s.heap.size (hN) (ha)) (cwV 2 hts (kB_V (fun _ => List.mem_cons_of_mem _) q_37 q_38 q_39 q_9 (kB_c q_40)) rfl rfl rfl (by decide +kernel) ⟨Nat.le_of_ble_eq_true rfl, Nat.le_of_ble_eq_true rfl⟩) (k_preVX (T := TX6) hZ hR hS hA hP hD hK hKN [0] rfl rfl (ci := 6) rfl (q0 := 0) rfl) rfl rfl hl.1 rfl (lv_room (Nat.le_of_ble_eq_true rfl)) dX6_damage_3 ⟨Nat.le_of_ble_eq_true rfl, Nat.le_of_ble_eq_true rfl⟩) hD hS hA [0] rfl htab hlocks (Nat.le_of_ble_eq_true rfl) (Nat.le_of_ble_eq_true rfl)

set_option maxHeartbeats 4000000 in
set_option maxRecDepth 100000 in
theorem x_damage3 (l : Launch) (hl9 : l.stackTraces = false) (D : va_G) (cI cJ cM cG : ClassId) (x0 : Nat) (n : Nat → Nat) (q : Nat → Nat) (tr : Nat → Nat) (N : Nat) (a : Nat) (b : Nat) (z3 : Int32) (sz : Nat) (hN : N ≤ 10) (ha : a < N) (hb9 : b < N) (hab : a ≠ b) (hz3 : z3 < 0 ∨ nI (100000 + 1) ≤ z3) : vx_Met l yX6_damage (Cond.code yX6_damage cX6_damage 4 (some .int) :: kBig) ({ frames := 7, cells := 1, slots := 6, locals := 104 }) (va_Pc [.ref x0, .int (nI a), .int (nI b), .int z3] (kX D [(cI, .int), (cJ, .long), (cM, .object "MeshRouting$Message"), (cG, .array .int)] [(x0, .inr (6, [.int (nI N), .ref (n 0), .ref (q 0), .ref (tr 0), .int (nI 0)]))] sz)) (fun _ _ _ _ => False) (kE "java/lang/IllegalArgumentException" (va_A [(x0, .inr (6, [.int (nI N), .ref (n 0), .ref (q 0), .ref (tr 0), .int (nI 0)]))] sz)) 1 6 (va_A [(x0, .inr (6, [.int (nI N), .ref (n 0), .ref (q 0), .ref (tr 0), .int (nI 0)]))] sz) := by
  refine vx_ofW (cc := cX6_damage) (maxL := 4) (ret := (some .int)) (by decide) rfl ?_
  intro p e s m args below meth c s₁ B hml htab hv
  obtain ⟨rfl, ⟨hsz, hP, hK, hD0, hKN⟩, hZ, hR⟩ := hv
  have hx := B.exec
  have hb := B.bytes
  have hr := B.returns
  have hts := atoms_spec (ws := (Cond.code yX6_damage cX6_damage 4 (some .int) :: kBig)) B.pre
  have hown : s.vm.findClass RX6 = some m.cls := findClass_of_methodNamed B.named
  have hlocks := B.notSynchronized
  obtain ⟨⟨as217, hs217⟩, ⟨as212, hs212⟩, ⟨as193, hs193⟩, hRest⟩ := id hR
  subst hsz
  have hD := hD0.self (sz := s.heap.size)
  generalize hAe : va_A [(x0, .inr (6, [.int (nI N), .ref (n 0), .ref (q 0), .ref (tr 0), .int (nI 0)]))] s.heap.size = A at hD hZ ⊢
  have hA : ∀ q : Nat, s.heap.size ≤ q → A q := fun q h => by rw [← hAe]; exact Or.inr h
  have hS : va_S A s.heap s.heap [] := va_S.rf
  have hl := lv_entry ([.ref x0, .int (nI a), .int (nI b), .int z3]) (n := 4) (Nat.le_of_ble_eq_true rfl)
  rw [lg_entry_eq]
  generalize (lg_sl ([.ref x0, .int (nI a), .int (nI b), .int z3]) ++ List.replicate (4 - (lg_sl ([.ref x0, .int (nI a), .int (nI b), .int z3])).length) Slot.unset).toArray = ls at hl ⊢
  have hl : lv_has ls 4 [(0, .ref x0), (1, .int (nI a)), (2, .int (nI b)), (3, .int z3)] := hl
  refine lv_aload_n hx hb dX6_damage_0 rfl (lv_at hl 0 rfl) ?_
  refine lv_iload_n hx hb dX6_damage_1 rfl (lv_at hl 1 rfl) ?_
  refine lv_iload_n hx hb dX6_damage_2 rfl (lv_at hl 2 rfl) ?_
  refine k_cv (wr := []) (w1 := [(x0, .inr (6, [.int (nI N), .ref (n 0), .ref (q 0), .ref (tr 0), .int (nI 0)]))]) (va_runV (As := [.int (nI a), .int (nI b)]) (rest := []) ⟨hx, hb, hml, hown, hts⟩ (c_X6_checkTwoNodes l D cI cJ cM cG x0 n q tr N a b s.heap.size (ha) (hb9) (hN) (hab)) (cwV 2 hts (kB_V (fun _ => List.mem_cons_of_mem _) q_37 q_38 q_39 q_9 (kB_c q_40)) rfl rfl rfl (by decide +kernel) ⟨Nat.le_of_ble_eq_true rfl, Nat.le_of_ble_eq_true rfl⟩) (k_preV (T := TX6) hP hD hK hKN [0] rfl rfl (ci := 6) rfl (q0 := 0) rfl) rfl rfl hl.1 rfl (lv_room (Nat.le_of_ble_eq_true rfl)) dX6_damage_3 ⟨Nat.le_of_ble_eq_true rfl, Nat.le_of_ble_eq_true rfl⟩) hP hD hS hA [0] [] rfl rfl rfl (by decide) (fun H locs hw3 hP hD hS => ?_)
  replace hP : va_P D vwCl [(x0, .inr (6, [.int (nI N), .ref (n 0), .ref (q 0), .ref (tr 0), .int (nI 0)]))] H := hP
  replace hD : va_D A [(x0, .inr (6, [.int (nI N), .ref (n 0), .ref (q 0), .ref (tr 0), .int (nI 0)]))] := hD
  refine lv_iload_n hx hb dX6_damage_6 rfl (lv_at hl 3 rfl) ?_
  refine lv_iconst (v := nI 0) hx hb dX6_damage_7 (by decide) ?_
  refine lv_ldc (v := 100000) hx hb hown (by exact hts (.constant RX6 98 (100000)) (List.mem_cons_of_mem _ q_34)) dX6_damage_8 ?_
  refine k_ti (show (100000) = (nI 100000) from by decide) ?_
  exact k_xr (vx_runS (As := [.int z3, .int (nI 0), .int (nI 100000)]) (rest := []) ⟨hx, hb, hml, hown, hts⟩ (x_checkRange l hl9 D cI cJ cM cG z3 0 100000 H.size (by omega) (by rw [nI_0]; exact hz3)) (va_cwS 3 hts (kB_S (fun _ => List.mem_cons_of_mem _) q_43 q_44 q_9 (kB_c q_45)) rfl rfl rfl (by decide +kernel) ⟨Nat.le_of_ble_eq_true rfl, Nat.le_of_ble_eq_true rfl⟩) (k_preSX hZ hR hS hA hP hD hK hKN [] rfl rfl) rfl rfl hl.1 rfl (lv_room (Nat.le_of_ble_eq_true rfl)) dX6_damage_10 ⟨Nat.le_of_ble_eq_true rfl, Nat.le_of_ble_eq_true rfl⟩) hD hS hA [] rfl htab hlocks (Nat.le_of_ble_eq_true rfl) (Nat.le_of_ble_eq_true rfl)

set_option maxHeartbeats 4000000 in
set_option maxRecDepth 100000 in
theorem x_run0 (l : Launch) (hl9 : l.stackTraces = false) (D : va_G) (cI cJ cM cG : ClassId) (x0 : Nat) (n : Nat → Nat) (q : Nat → Nat) (tr : Nat → Nat) (N : Nat) (z3 : Int32) (sz : Nat) (hN : N ≤ 10) (hz3 : z3 < 0 ∨ nI (100000 + 1) ≤ z3) : vx_Met l yX6_run (Cond.code yX6_run cX6_run 2 (some .int) :: kBig) ({ frames := 7, cells := 1, slots := 6, locals := 104 }) (va_Pc [.ref x0, .int z3] (kX D [(cI, .int), (cJ, .long), (cM, .object "MeshRouting$Message"), (cG, .array .int)] [(x0, .inr (6, [.int (nI N), .ref (n 0), .ref (q 0), .ref (tr 0), .int (nI 0)]))] sz)) (fun _ _ _ _ => False) (kE "java/lang/IllegalArgumentException" (va_A [(x0, .inr (6, [.int (nI N), .ref (n 0), .ref (q 0), .ref (tr 0), .int (nI 0)]))] sz)) 1 6 (va_A [(x0, .inr (6, [.int (nI N), .ref (n 0), .ref (q 0), .ref (tr 0), .int (nI 0)]))] sz) := by
  refine vx_ofW (cc := cX6_run) (maxL := 2) (ret := (some .int)) (by decide) rfl ?_
  intro p e s m args below meth c s₁ B hml htab hv
  obtain ⟨rfl, ⟨hsz, hP, hK, hD0, hKN⟩, hZ, hR⟩ := hv
  have hx := B.exec
  have hb := B.bytes
  have hr := B.returns
  have hts := atoms_spec (ws := (Cond.code yX6_run cX6_run 2 (some .int) :: kBig)) B.pre
  have hown : s.vm.findClass RX6 = some m.cls := findClass_of_methodNamed B.named
  have hlocks := B.notSynchronized
  obtain ⟨⟨as217, hs217⟩, ⟨as212, hs212⟩, ⟨as193, hs193⟩, hRest⟩ := id hR
  subst hsz
  have hD := hD0.self (sz := s.heap.size)
  generalize hAe : va_A [(x0, .inr (6, [.int (nI N), .ref (n 0), .ref (q 0), .ref (tr 0), .int (nI 0)]))] s.heap.size = A at hD hZ ⊢
  have hA : ∀ q : Nat, s.heap.size ≤ q → A q := fun q h => by rw [← hAe]; exact Or.inr h
  have hS : va_S A s.heap s.heap [] := va_S.rf
  have hl := lv_entry ([.ref x0, .int z3]) (n := 2) (Nat.le_of_ble_eq_true rfl)
  rw [lg_entry_eq]
  generalize (lg_sl ([.ref x0, .int z3]) ++ List.replicate (2 - (lg_sl ([.ref x0, .int z3])).length) Slot.unset).toArray = ls at hl ⊢
  have hl : lv_has ls 2 [(0, .ref x0), (1, .int z3)] := hl
  refine lv_iload_n hx hb dX6_run_0 rfl (lv_at hl 1 rfl) ?_
  refine lv_iconst (v := nI 0) hx hb dX6_run_1 (by decide) ?_
  refine lv_ldc (v := 100000) hx hb hown (by exact hts (.constant RX6 98 (100000)) (List.mem_cons_of_mem _ q_34)) dX6_run_2 ?_
  refine k_ti (show (100000) = (nI 100000) from by decide) ?_
  exact k_xr (vx_runS (As := [.int z3, .int (nI 0), .int (nI 100000)]) (rest := []) ⟨hx, hb, hml, hown, hts⟩ (x_checkRange l hl9 D cI cJ cM cG z3 0 100000 s.heap.size (by omega) (by rw [nI_0]; exact hz3)) (va_cwS 3 hts (kB_S (fun _ => List.mem_cons_of_mem _) q_43 q_44 q_9 (kB_c q_45)) rfl rfl rfl (by decide +kernel) ⟨Nat.le_of_ble_eq_true rfl, Nat.le_of_ble_eq_true rfl⟩) (k_preSX hZ hR hS hA hP hD hK hKN [] rfl rfl) rfl rfl hl.1 rfl (lv_room (Nat.le_of_ble_eq_true rfl)) dX6_run_4 ⟨Nat.le_of_ble_eq_true rfl, Nat.le_of_ble_eq_true rfl⟩) hD hS hA [] rfl htab hlocks (Nat.le_of_ble_eq_true rfl) (Nat.le_of_ble_eq_true rfl)

set_option maxHeartbeats 4000000 in
set_option maxRecDepth 100000 in
theorem x_inFlight0 (l : Launch) (hl9 : l.stackTraces = false) (D : va_G) (cI cJ cM cG : ClassId) (x0 : Nat) (n : Nat → Nat) (q : Nat → Nat) (tr : Nat → Nat) (N : Nat) (z3 : Int32) (sz : Nat) (hN : N ≤ 10) (hz3 : z3 < 0 ∨ nI (3 + 1) ≤ z3) : vx_Met l yX6_inFlight (Cond.code yX6_inFlight cX6_inFlight 2 (some .int) :: kBig) ({ frames := 7, cells := 1, slots := 6, locals := 103 }) (va_Pc [.ref x0, .int z3] (kX D [(cI, .int), (cJ, .long), (cM, .object "MeshRouting$Message"), (cG, .array .int)] [(x0, .inr (6, [.int (nI N), .ref (n 0), .ref (q 0), .ref (tr 0), .int (nI 0)]))] sz)) (fun _ _ _ _ => False) (kE "java/lang/IndexOutOfBoundsException" (va_A [(x0, .inr (6, [.int (nI N), .ref (n 0), .ref (q 0), .ref (tr 0), .int (nI 0)]))] sz)) 1 6 (va_A [(x0, .inr (6, [.int (nI N), .ref (n 0), .ref (q 0), .ref (tr 0), .int (nI 0)]))] sz) := by
  refine vx_ofW (cc := cX6_inFlight) (maxL := 2) (ret := (some .int)) (by decide) rfl ?_
  intro p e s m args below meth c s₁ B hml htab hv
  obtain ⟨rfl, ⟨hsz, hP, hK, hD0, hKN⟩, hZ, hR⟩ := hv
  have hx := B.exec
  have hb := B.bytes
  have hr := B.returns
  have hts := atoms_spec (ws := (Cond.code yX6_inFlight cX6_inFlight 2 (some .int) :: kBig)) B.pre
  have hown : s.vm.findClass RX6 = some m.cls := findClass_of_methodNamed B.named
  have hlocks := B.notSynchronized
  obtain ⟨⟨as217, hs217⟩, ⟨as212, hs212⟩, ⟨as193, hs193⟩, hRest⟩ := id hR
  subst hsz
  have hD := hD0.self (sz := s.heap.size)
  generalize hAe : va_A [(x0, .inr (6, [.int (nI N), .ref (n 0), .ref (q 0), .ref (tr 0), .int (nI 0)]))] s.heap.size = A at hD hZ ⊢
  have hA : ∀ q : Nat, s.heap.size ≤ q → A q := fun q h => by rw [← hAe]; exact Or.inr h
  have hS : va_S A s.heap s.heap [] := va_S.rf
  have hl := lv_entry ([.ref x0, .int z3]) (n := 2) (Nat.le_of_ble_eq_true rfl)
  rw [lg_entry_eq]
  generalize (lg_sl ([.ref x0, .int z3]) ++ List.replicate (2 - (lg_sl ([.ref x0, .int z3])).length) Slot.unset).toArray = ls at hl ⊢
  have hl : lv_has ls 2 [(0, .ref x0), (1, .int z3)] := hl
  refine lv_iload_n hx hb dX6_inFlight_0 rfl (lv_at hl 1 rfl) ?_
  refine lv_iconst (v := nI 4) hx hb dX6_inFlight_1 (by decide) ?_
  exact k_xr (vx_runS (As := [.int z3, .int (nI 4)]) (rest := []) ⟨hx, hb, hml, hown, hts⟩ (x_checkIndex l hl9 D cI cJ cM cG z3 4 s.heap.size (hz3)) (va_cwS 2 hts (kB_S (fun _ => List.mem_cons_of_mem _) q_19 q_20 q_9 (kB_c q_21)) rfl rfl rfl (by decide +kernel) ⟨Nat.le_of_ble_eq_true rfl, Nat.le_of_ble_eq_true rfl⟩) (k_preSX hZ hR hS hA hP hD hK hKN [] rfl rfl) rfl rfl hl.1 rfl (lv_room (Nat.le_of_ble_eq_true rfl)) dX6_inFlight_2 ⟨Nat.le_of_ble_eq_true rfl, Nat.le_of_ble_eq_true rfl⟩) hD hS hA [] rfl htab hlocks (Nat.le_of_ble_eq_true rfl) (Nat.le_of_ble_eq_true rfl)

set_option maxHeartbeats 4000000 in
set_option maxRecDepth 100000 in
theorem x_sent0 (l : Launch) (hl9 : l.stackTraces = false) (D : va_G) (cI cJ cM cG : ClassId) (x0 : Nat) (n : Nat → Nat) (q : Nat → Nat) (tr : Nat → Nat) (N : Nat) (z3 : Int32) (sz : Nat) (hN : N ≤ 10) (hz3 : z3 < 0 ∨ nI (3 + 1) ≤ z3) : vx_Met l yX6_sent (Cond.code yX6_sent cX6_sent 2 (some .int) :: kBig) ({ frames := 7, cells := 1, slots := 6, locals := 103 }) (va_Pc [.ref x0, .int z3] (kX D [(cI, .int), (cJ, .long), (cM, .object "MeshRouting$Message"), (cG, .array .int)] [(x0, .inr (6, [.int (nI N), .ref (n 0), .ref (q 0), .ref (tr 0), .int (nI 0)]))] sz)) (fun _ _ _ _ => False) (kE "java/lang/IndexOutOfBoundsException" (va_A [(x0, .inr (6, [.int (nI N), .ref (n 0), .ref (q 0), .ref (tr 0), .int (nI 0)]))] sz)) 1 6 (va_A [(x0, .inr (6, [.int (nI N), .ref (n 0), .ref (q 0), .ref (tr 0), .int (nI 0)]))] sz) := by
  refine vx_ofW (cc := cX6_sent) (maxL := 2) (ret := (some .int)) (by decide) rfl ?_
  intro p e s m args below meth c s₁ B hml htab hv
  obtain ⟨rfl, ⟨hsz, hP, hK, hD0, hKN⟩, hZ, hR⟩ := hv
  have hx := B.exec
  have hb := B.bytes
  have hr := B.returns
  have hts := atoms_spec (ws := (Cond.code yX6_sent cX6_sent 2 (some .int) :: kBig)) B.pre
  have hown : s.vm.findClass RX6 = some m.cls := findClass_of_methodNamed B.named
  have hlocks := B.notSynchronized
  obtain ⟨⟨as217, hs217⟩, ⟨as212, hs212⟩, ⟨as193, hs193⟩, hRest⟩ := id hR
  subst hsz
  have hD := hD0.self (sz := s.heap.size)
  generalize hAe : va_A [(x0, .inr (6, [.int (nI N), .ref (n 0), .ref (q 0), .ref (tr 0), .int (nI 0)]))] s.heap.size = A at hD hZ ⊢
  have hA : ∀ q : Nat, s.heap.size ≤ q → A q := fun q h => by rw [← hAe]; exact Or.inr h
  have hS : va_S A s.heap s.heap [] := va_S.rf
  have hl := lv_entry ([.ref x0, .int z3]) (n := 2) (Nat.le_of_ble_eq_true rfl)
  rw [lg_entry_eq]
  generalize (lg_sl ([.ref x0, .int z3]) ++ List.replicate (2 - (lg_sl ([.ref x0, .int z3])).length) Slot.unset).toArray = ls at hl ⊢
  have hl : lv_has ls 2 [(0, .ref x0), (1, .int z3)] := hl
  refine lv_iload_n hx hb dX6_sent_0 rfl (lv_at hl 1 rfl) ?_
  refine lv_iconst (v := nI 4) hx hb dX6_sent_1 (by decide) ?_
  exact k_xr (vx_runS (As := [.int z3, .int (nI 4)]) (rest := []) ⟨hx, hb, hml, hown, hts⟩ (x_checkIndex l hl9 D cI cJ cM cG z3 4 s.heap.size (hz3)) (va_cwS 2 hts (kB_S (fun _ => List.mem_cons_of_mem _) q_19 q_20 q_9 (kB_c q_21)) rfl rfl rfl (by decide +kernel) ⟨Nat.le_of_ble_eq_true rfl, Nat.le_of_ble_eq_true rfl⟩) (k_preSX hZ hR hS hA hP hD hK hKN [] rfl rfl) rfl rfl hl.1 rfl (lv_room (Nat.le_of_ble_eq_true rfl)) dX6_sent_2 ⟨Nat.le_of_ble_eq_true rfl, Nat.le_of_ble_eq_true rfl⟩) hD hS hA [] rfl htab hlocks (Nat.le_of_ble_eq_true rfl) (Nat.le_of_ble_eq_true rfl)

set_option maxHeartbeats 4000000 in
set_option maxRecDepth 100000 in
theorem x_packets0 (l : Launch) (hl9 : l.stackTraces = false) (D : va_G) (cI cJ cM cG : ClassId) (x0 : Nat) (n : Nat → Nat) (q : Nat → Nat) (tr : Nat → Nat) (N : Nat) (z3 : Int32) (sz : Nat) (hN : N ≤ 10) (hz3 : z3 < 0 ∨ nI (3 + 1) ≤ z3) : vx_Met l yX6_packets (Cond.code yX6_packets cX6_packets 2 (some .int) :: kBig) ({ frames := 7, cells := 1, slots := 6, locals := 103 }) (va_Pc [.ref x0, .int z3] (kX D [(cI, .int), (cJ, .long), (cM, .object "MeshRouting$Message"), (cG, .array .int)] [(x0, .inr (6, [.int (nI N), .ref (n 0), .ref (q 0), .ref (tr 0), .int (nI 0)]))] sz)) (fun _ _ _ _ => False) (kE "java/lang/IndexOutOfBoundsException" (va_A [(x0, .inr (6, [.int (nI N), .ref (n 0), .ref (q 0), .ref (tr 0), .int (nI 0)]))] sz)) 1 6 (va_A [(x0, .inr (6, [.int (nI N), .ref (n 0), .ref (q 0), .ref (tr 0), .int (nI 0)]))] sz) := by
  refine vx_ofW (cc := cX6_packets) (maxL := 2) (ret := (some .int)) (by decide) rfl ?_
  intro p e s m args below meth c s₁ B hml htab hv
  obtain ⟨rfl, ⟨hsz, hP, hK, hD0, hKN⟩, hZ, hR⟩ := hv
  have hx := B.exec
  have hb := B.bytes
  have hr := B.returns
  have hts := atoms_spec (ws := (Cond.code yX6_packets cX6_packets 2 (some .int) :: kBig)) B.pre
  have hown : s.vm.findClass RX6 = some m.cls := findClass_of_methodNamed B.named
  have hlocks := B.notSynchronized
  obtain ⟨⟨as217, hs217⟩, ⟨as212, hs212⟩, ⟨as193, hs193⟩, hRest⟩ := id hR
  subst hsz
  have hD := hD0.self (sz := s.heap.size)
  generalize hAe : va_A [(x0, .inr (6, [.int (nI N), .ref (n 0), .ref (q 0), .ref (tr 0), .int (nI 0)]))] s.heap.size = A at hD hZ ⊢
  have hA : ∀ q : Nat, s.heap.size ≤ q → A q := fun q h => by rw [← hAe]; exact Or.inr h
  have hS : va_S A s.heap s.heap [] := va_S.rf
  have hl := lv_entry ([.ref x0, .int z3]) (n := 2) (Nat.le_of_ble_eq_true rfl)
  rw [lg_entry_eq]
  generalize (lg_sl ([.ref x0, .int z3]) ++ List.replicate (2 - (lg_sl ([.ref x0, .int z3])).length) Slot.unset).toArray = ls at hl ⊢
  have hl : lv_has ls 2 [(0, .ref x0), (1, .int z3)] := hl
  refine lv_iload_n hx hb dX6_packets_0 rfl (lv_at hl 1 rfl) ?_
  refine lv_iconst (v := nI 4) hx hb dX6_packets_1 (by decide) ?_
  exact k_xr (vx_runS (As := [.int z3, .int (nI 4)]) (rest := []) ⟨hx, hb, hml, hown, hts⟩ (x_checkIndex l hl9 D cI cJ cM cG z3 4 s.heap.size (hz3)) (va_cwS 2 hts (kB_S (fun _ => List.mem_cons_of_mem _) q_19 q_20 q_9 (kB_c q_21)) rfl rfl rfl (by decide +kernel) ⟨Nat.le_of_ble_eq_true rfl, Nat.le_of_ble_eq_true rfl⟩) (k_preSX hZ hR hS hA hP hD hK hKN [] rfl rfl) rfl rfl hl.1 rfl (lv_room (Nat.le_of_ble_eq_true rfl)) dX6_packets_2 ⟨Nat.le_of_ble_eq_true rfl, Nat.le_of_ble_eq_true rfl⟩) hD hS hA [] rfl htab hlocks (Nat.le_of_ble_eq_true rfl) (Nat.le_of_ble_eq_true rfl)

set_option maxHeartbeats 4000000 in
set_option maxRecDepth 100000 in
theorem x_stateOf0 (l : Launch) (hl9 : l.stackTraces = false) (D : va_G) (cI cJ cM cG : ClassId) (x0 : Nat) (n : Nat → Nat) (q : Nat → Nat) (tr : Nat → Nat) (N : Nat) (z3 : Int32) (sz : Nat) (hN : N ≤ 10) : vx_Met l yX6_stateOf (Cond.code yX6_stateOf cX6_stateOf 2 (some .int) :: kBig) ({ frames := 7, cells := 1, slots := 6, locals := 103 }) (va_Pc [.ref x0, .int z3] (kX D [(cI, .int), (cJ, .long), (cM, .object "MeshRouting$Message"), (cG, .array .int)] [(x0, .inr (6, [.int (nI N), .ref (n 0), .ref (q 0), .ref (tr 0), .int (nI 0)])), (n 0, .inr (2, [.int (nI N), .int (nI 0), .ref (n 1), .ref (n 2), .ref (n 3), .ref (n 9), .ref (n 16), .ref (n 23), .int (nI 0), .ref (n 32), .int (nI 0), .ref (n 33)])), (n 23, .inr (3, [.int (nI 0), .ref (n 24), .ref (n 25), .ref (n 26), .ref (n 27), .ref (n 28), .ref (n 29), .ref (n 30), .ref (n 31)]))] sz)) (fun _ _ _ _ => False) (kE "java/lang/IndexOutOfBoundsException" (va_A [(x0, .inr (6, [.int (nI N), .ref (n 0), .ref (q 0), .ref (tr 0), .int (nI 0)])), (n 0, .inr (2, [.int (nI N), .int (nI 0), .ref (n 1), .ref (n 2), .ref (n 3), .ref (n 9), .ref (n 16), .ref (n 23), .int (nI 0), .ref (n 32), .int (nI 0), .ref (n 33)])), (n 23, .inr (3, [.int (nI 0), .ref (n 24), .ref (n 25), .ref (n 26), .ref (n 27), .ref (n 28), .ref (n 29), .ref (n 30), .ref (n 31)]))] sz)) 1 6 (va_A [(x0, .inr (6, [.int (nI N), .ref (n 0), .ref (q 0), .ref (tr 0), .int (nI 0)])), (n 0, .inr (2, [.int (nI N), .int (nI 0), .ref (n 1), .ref (n 2), .ref (n 3), .ref (n 9), .ref (n 16), .ref (n 23), .int (nI 0), .ref (n 32), .int (nI 0), .ref (n 33)])), (n 23, .inr (3, [.int (nI 0), .ref (n 24), .ref (n 25), .ref (n 26), .ref (n 27), .ref (n 28), .ref (n 29), .ref (n 30), .ref (n 31)]))] sz) := by
  refine vx_ofW (cc := cX6_stateOf) (maxL := 2) (ret := (some .int)) (by decide) rfl ?_
  intro p e s m args below meth c s₁ B hml htab hv
  obtain ⟨rfl, ⟨hsz, hP, hK, hD0, hKN⟩, hZ, hR⟩ := hv
  have hx := B.exec
  have hb := B.bytes
  have hr := B.returns
  have hts := atoms_spec (ws := (Cond.code yX6_stateOf cX6_stateOf 2 (some .int) :: kBig)) B.pre
  have hown : s.vm.findClass RX6 = some m.cls := findClass_of_methodNamed B.named
  have hlocks := B.notSynchronized
  obtain ⟨⟨as217, hs217⟩, ⟨as212, hs212⟩, ⟨as193, hs193⟩, hRest⟩ := id hR
  have hin2 : ∀ w ∈ u_ws RX2 TX2 12, w ∈ (Cond.code yX6_stateOf cX6_stateOf 2 (some .int) :: kBig) := fun w h => List.mem_cons_of_mem _ (inb2 w h)
  have hin3 : ∀ w ∈ u_ws RX3 TX3 9, w ∈ (Cond.code yX6_stateOf cX6_stateOf 2 (some .int) :: kBig) := fun w h => List.mem_cons_of_mem _ (inb3 w h)
  have hin6 : ∀ w ∈ u_ws RX6 TX6 5, w ∈ (Cond.code yX6_stateOf cX6_stateOf 2 (some .int) :: kBig) := fun w h => List.mem_cons_of_mem _ (inb6 w h)
  subst hsz
  have hD := hD0.self (sz := s.heap.size)
  generalize hAe : va_A [(x0, .inr (6, [.int (nI N), .ref (n 0), .ref (q 0), .ref (tr 0), .int (nI 0)])), (n 0, .inr (2, [.int (nI N), .int (nI 0), .ref (n 1), .ref (n 2), .ref (n 3), .ref (n 9), .ref (n 16), .ref (n 23), .int (nI 0), .ref (n 32), .int (nI 0), .ref (n 33)])), (n 23, .inr (3, [.int (nI 0), .ref (n 24), .ref (n 25), .ref (n 26), .ref (n 27), .ref (n 28), .ref (n 29), .ref (n 30), .ref (n 31)]))] s.heap.size = A at hD hZ ⊢
  have hA : ∀ q : Nat, s.heap.size ≤ q → A q := fun q h => by rw [← hAe]; exact Or.inr h
  have hS : va_S A s.heap s.heap [] := va_S.rf
  have hl := lv_entry ([.ref x0, .int z3]) (n := 2) (Nat.le_of_ble_eq_true rfl)
  rw [lg_entry_eq]
  generalize (lg_sl ([.ref x0, .int z3]) ++ List.replicate (2 - (lg_sl ([.ref x0, .int z3])).length) Slot.unset).toArray = ls at hl ⊢
  have hl : lv_has ls 2 [(0, .ref x0), (1, .int z3)] := hl
  refine lv_iload_n hx hb dX6_stateOf_0 rfl (lv_at hl 1 rfl) ?_
  refine lv_aload_n hx hb dX6_stateOf_1 rfl (lv_at hl 0 rfl) ?_
  refine va_get (D := D) (ci := 6) (v := .ref (n 0)) (C := RX6) (T := TX6) (N := 5) hx hb hts hin6 hown hK hP 0 rfl rfl 1 (by decide) (hts (.fieldLink RX6 27 "MeshRouting" "present" "LMeshRouting$Network;") (List.mem_cons_of_mem _ q_11)) (fun _ h9 => h9) rfl dX6_stateOf_2 ?_
  refine va_get (D := D) (ci := 2) (v := .ref (n 23)) (C := RX2) (T := TX2) (N := 12) hx hb hts hin2 hown hK hP 1 rfl rfl 7 (by decide) (hts (.fieldLink RX6 75 "MeshRouting$Network" "packets" "LMeshRouting$Packets;") (List.mem_cons_of_mem _ q_36)) (fun _ h9 => h9) rfl dX6_stateOf_5 ?_
  refine va_get (D := D) (ci := 3) (v := .int (nI 0)) (C := RX3) (T := TX3) (N := 9) hx hb hts hin3 hown hK hP 2 rfl rfl 0 (by decide) (hts (.fieldLink RX6 79 "MeshRouting$Packets" "count" "I") (List.mem_cons_of_mem _ q_446)) (fun _ h9 => h9) rfl dX6_stateOf_8 ?_
  exact k_xr (vx_runS (As := [.int z3, .int (nI 0)]) (rest := []) ⟨hx, hb, hml, hown, hts⟩ (x_checkIndex l hl9 D cI cJ cM cG z3 0 s.heap.size (k_lt0 z3)) (va_cwS 2 hts (kB_S (fun _ => List.mem_cons_of_mem _) q_19 q_20 q_9 (kB_c q_21)) rfl rfl rfl (by decide +kernel) ⟨Nat.le_of_ble_eq_true rfl, Nat.le_of_ble_eq_true rfl⟩) (k_preSX hZ hR hS hA hP hD hK hKN [] rfl rfl) rfl rfl hl.1 rfl (lv_room (Nat.le_of_ble_eq_true rfl)) dX6_stateOf_11 ⟨Nat.le_of_ble_eq_true rfl, Nat.le_of_ble_eq_true rfl⟩) hD hS hA [] rfl htab hlocks (Nat.le_of_ble_eq_true rfl) (Nat.le_of_ble_eq_true rfl)

set_option maxHeartbeats 4000000 in
set_option maxRecDepth 100000 in
theorem x_nodeOf0 (l : Launch) (hl9 : l.stackTraces = false) (D : va_G) (cI cJ cM cG : ClassId) (x0 : Nat) (n : Nat → Nat) (q : Nat → Nat) (tr : Nat → Nat) (N : Nat) (z3 : Int32) (sz : Nat) (hN : N ≤ 10) : vx_Met l yX6_nodeOf (Cond.code yX6_nodeOf cX6_nodeOf 2 (some .int) :: kBig) ({ frames := 7, cells := 1, slots := 6, locals := 103 }) (va_Pc [.ref x0, .int z3] (kX D [(cI, .int), (cJ, .long), (cM, .object "MeshRouting$Message"), (cG, .array .int)] [(x0, .inr (6, [.int (nI N), .ref (n 0), .ref (q 0), .ref (tr 0), .int (nI 0)])), (n 0, .inr (2, [.int (nI N), .int (nI 0), .ref (n 1), .ref (n 2), .ref (n 3), .ref (n 9), .ref (n 16), .ref (n 23), .int (nI 0), .ref (n 32), .int (nI 0), .ref (n 33)])), (n 23, .inr (3, [.int (nI 0), .ref (n 24), .ref (n 25), .ref (n 26), .ref (n 27), .ref (n 28), .ref (n 29), .ref (n 30), .ref (n 31)]))] sz)) (fun _ _ _ _ => False) (kE "java/lang/IndexOutOfBoundsException" (va_A [(x0, .inr (6, [.int (nI N), .ref (n 0), .ref (q 0), .ref (tr 0), .int (nI 0)])), (n 0, .inr (2, [.int (nI N), .int (nI 0), .ref (n 1), .ref (n 2), .ref (n 3), .ref (n 9), .ref (n 16), .ref (n 23), .int (nI 0), .ref (n 32), .int (nI 0), .ref (n 33)])), (n 23, .inr (3, [.int (nI 0), .ref (n 24), .ref (n 25), .ref (n 26), .ref (n 27), .ref (n 28), .ref (n 29), .ref (n 30), .ref (n 31)]))] sz)) 1 6 (va_A [(x0, .inr (6, [.int (nI N), .ref (n 0), .ref (q 0), .ref (tr 0), .int (nI 0)])), (n 0, .inr (2, [.int (nI N), .int (nI 0), .ref (n 1), .ref (n 2), .ref (n 3), .ref (n 9), .ref (n 16), .ref (n 23), .int (nI 0), .ref (n 32), .int (nI 0), .ref (n 33)])), (n 23, .inr (3, [.int (nI 0), .ref (n 24), .ref (n 25), .ref (n 26), .ref (n 27), .ref (n 28), .ref (n 29), .ref (n 30), .ref (n 31)]))] sz) := by
  refine vx_ofW (cc := cX6_nodeOf) (maxL := 2) (ret := (some .int)) (by decide) rfl ?_
  intro p e s m args below meth c s₁ B hml htab hv
  obtain ⟨rfl, ⟨hsz, hP, hK, hD0, hKN⟩, hZ, hR⟩ := hv
  have hx := B.exec
  have hb := B.bytes
  have hr := B.returns
  have hts := atoms_spec (ws := (Cond.code yX6_nodeOf cX6_nodeOf 2 (some .int) :: kBig)) B.pre
  have hown : s.vm.findClass RX6 = some m.cls := findClass_of_methodNamed B.named
  have hlocks := B.notSynchronized
  obtain ⟨⟨as217, hs217⟩, ⟨as212, hs212⟩, ⟨as193, hs193⟩, hRest⟩ := id hR
  have hin2 : ∀ w ∈ u_ws RX2 TX2 12, w ∈ (Cond.code yX6_nodeOf cX6_nodeOf 2 (some .int) :: kBig) := fun w h => List.mem_cons_of_mem _ (inb2 w h)
  have hin3 : ∀ w ∈ u_ws RX3 TX3 9, w ∈ (Cond.code yX6_nodeOf cX6_nodeOf 2 (some .int) :: kBig) := fun w h => List.mem_cons_of_mem _ (inb3 w h)
  have hin6 : ∀ w ∈ u_ws RX6 TX6 5, w ∈ (Cond.code yX6_nodeOf cX6_nodeOf 2 (some .int) :: kBig) := fun w h => List.mem_cons_of_mem _ (inb6 w h)
  subst hsz
  have hD := hD0.self (sz := s.heap.size)
  generalize hAe : va_A [(x0, .inr (6, [.int (nI N), .ref (n 0), .ref (q 0), .ref (tr 0), .int (nI 0)])), (n 0, .inr (2, [.int (nI N), .int (nI 0), .ref (n 1), .ref (n 2), .ref (n 3), .ref (n 9), .ref (n 16), .ref (n 23), .int (nI 0), .ref (n 32), .int (nI 0), .ref (n 33)])), (n 23, .inr (3, [.int (nI 0), .ref (n 24), .ref (n 25), .ref (n 26), .ref (n 27), .ref (n 28), .ref (n 29), .ref (n 30), .ref (n 31)]))] s.heap.size = A at hD hZ ⊢
  have hA : ∀ q : Nat, s.heap.size ≤ q → A q := fun q h => by rw [← hAe]; exact Or.inr h
  have hS : va_S A s.heap s.heap [] := va_S.rf
  have hl := lv_entry ([.ref x0, .int z3]) (n := 2) (Nat.le_of_ble_eq_true rfl)
  rw [lg_entry_eq]
  generalize (lg_sl ([.ref x0, .int z3]) ++ List.replicate (2 - (lg_sl ([.ref x0, .int z3])).length) Slot.unset).toArray = ls at hl ⊢
  have hl : lv_has ls 2 [(0, .ref x0), (1, .int z3)] := hl
  refine lv_iload_n hx hb dX6_nodeOf_0 rfl (lv_at hl 1 rfl) ?_
  refine lv_aload_n hx hb dX6_nodeOf_1 rfl (lv_at hl 0 rfl) ?_
  refine va_get (D := D) (ci := 6) (v := .ref (n 0)) (C := RX6) (T := TX6) (N := 5) hx hb hts hin6 hown hK hP 0 rfl rfl 1 (by decide) (hts (.fieldLink RX6 27 "MeshRouting" "present" "LMeshRouting$Network;") (List.mem_cons_of_mem _ q_11)) (fun _ h9 => h9) rfl dX6_nodeOf_2 ?_
  refine va_get (D := D) (ci := 2) (v := .ref (n 23)) (C := RX2) (T := TX2) (N := 12) hx hb hts hin2 hown hK hP 1 rfl rfl 7 (by decide) (hts (.fieldLink RX6 75 "MeshRouting$Network" "packets" "LMeshRouting$Packets;") (List.mem_cons_of_mem _ q_36)) (fun _ h9 => h9) rfl dX6_nodeOf_5 ?_
  refine va_get (D := D) (ci := 3) (v := .int (nI 0)) (C := RX3) (T := TX3) (N := 9) hx hb hts hin3 hown hK hP 2 rfl rfl 0 (by decide) (hts (.fieldLink RX6 79 "MeshRouting$Packets" "count" "I") (List.mem_cons_of_mem _ q_446)) (fun _ h9 => h9) rfl dX6_nodeOf_8 ?_
  exact k_xr (vx_runS (As := [.int z3, .int (nI 0)]) (rest := []) ⟨hx, hb, hml, hown, hts⟩ (x_checkIndex l hl9 D cI cJ cM cG z3 0 s.heap.size (k_lt0 z3)) (va_cwS 2 hts (kB_S (fun _ => List.mem_cons_of_mem _) q_19 q_20 q_9 (kB_c q_21)) rfl rfl rfl (by decide +kernel) ⟨Nat.le_of_ble_eq_true rfl, Nat.le_of_ble_eq_true rfl⟩) (k_preSX hZ hR hS hA hP hD hK hKN [] rfl rfl) rfl rfl hl.1 rfl (lv_room (Nat.le_of_ble_eq_true rfl)) dX6_nodeOf_11 ⟨Nat.le_of_ble_eq_true rfl, Nat.le_of_ble_eq_true rfl⟩) hD hS hA [] rfl htab hlocks (Nat.le_of_ble_eq_true rfl) (Nat.le_of_ble_eq_true rfl)

set_option maxHeartbeats 4000000 in
set_option maxRecDepth 100000 in
theorem x_hopsOf0 (l : Launch) (hl9 : l.stackTraces = false) (D : va_G) (cI cJ cM cG : ClassId) (x0 : Nat) (n : Nat → Nat) (q : Nat → Nat) (tr : Nat → Nat) (N : Nat) (z3 : Int32) (sz : Nat) (hN : N ≤ 10) : vx_Met l yX6_hopsOf (Cond.code yX6_hopsOf cX6_hopsOf 2 (some .int) :: kBig) ({ frames := 7, cells := 1, slots := 6, locals := 103 }) (va_Pc [.ref x0, .int z3] (kX D [(cI, .int), (cJ, .long), (cM, .object "MeshRouting$Message"), (cG, .array .int)] [(x0, .inr (6, [.int (nI N), .ref (n 0), .ref (q 0), .ref (tr 0), .int (nI 0)])), (n 0, .inr (2, [.int (nI N), .int (nI 0), .ref (n 1), .ref (n 2), .ref (n 3), .ref (n 9), .ref (n 16), .ref (n 23), .int (nI 0), .ref (n 32), .int (nI 0), .ref (n 33)])), (n 23, .inr (3, [.int (nI 0), .ref (n 24), .ref (n 25), .ref (n 26), .ref (n 27), .ref (n 28), .ref (n 29), .ref (n 30), .ref (n 31)]))] sz)) (fun _ _ _ _ => False) (kE "java/lang/IndexOutOfBoundsException" (va_A [(x0, .inr (6, [.int (nI N), .ref (n 0), .ref (q 0), .ref (tr 0), .int (nI 0)])), (n 0, .inr (2, [.int (nI N), .int (nI 0), .ref (n 1), .ref (n 2), .ref (n 3), .ref (n 9), .ref (n 16), .ref (n 23), .int (nI 0), .ref (n 32), .int (nI 0), .ref (n 33)])), (n 23, .inr (3, [.int (nI 0), .ref (n 24), .ref (n 25), .ref (n 26), .ref (n 27), .ref (n 28), .ref (n 29), .ref (n 30), .ref (n 31)]))] sz)) 1 6 (va_A [(x0, .inr (6, [.int (nI N), .ref (n 0), .ref (q 0), .ref (tr 0), .int (nI 0)])), (n 0, .inr (2, [.int (nI N), .int (nI 0), .ref (n 1), .ref (n 2), .ref (n 3), .ref (n 9), .ref (n 16), .ref (n 23), .int (nI 0), .ref (n 32), .int (nI 0), .ref (n 33)])), (n 23, .inr (3, [.int (nI 0), .ref (n 24), .ref (n 25), .ref (n 26), .ref (n 27), .ref (n 28), .ref (n 29), .ref (n 30), .ref (n 31)]))] sz) := by
  refine vx_ofW (cc := cX6_hopsOf) (maxL := 2) (ret := (some .int)) (by decide) rfl ?_
  intro p e s m args below meth c s₁ B hml htab hv
  obtain ⟨rfl, ⟨hsz, hP, hK, hD0, hKN⟩, hZ, hR⟩ := hv
  have hx := B.exec
  have hb := B.bytes
  have hr := B.returns
  have hts := atoms_spec (ws := (Cond.code yX6_hopsOf cX6_hopsOf 2 (some .int) :: kBig)) B.pre
  have hown : s.vm.findClass RX6 = some m.cls := findClass_of_methodNamed B.named
  have hlocks := B.notSynchronized
  obtain ⟨⟨as217, hs217⟩, ⟨as212, hs212⟩, ⟨as193, hs193⟩, hRest⟩ := id hR
  have hin2 : ∀ w ∈ u_ws RX2 TX2 12, w ∈ (Cond.code yX6_hopsOf cX6_hopsOf 2 (some .int) :: kBig) := fun w h => List.mem_cons_of_mem _ (inb2 w h)
  have hin3 : ∀ w ∈ u_ws RX3 TX3 9, w ∈ (Cond.code yX6_hopsOf cX6_hopsOf 2 (some .int) :: kBig) := fun w h => List.mem_cons_of_mem _ (inb3 w h)
  have hin6 : ∀ w ∈ u_ws RX6 TX6 5, w ∈ (Cond.code yX6_hopsOf cX6_hopsOf 2 (some .int) :: kBig) := fun w h => List.mem_cons_of_mem _ (inb6 w h)
  subst hsz
  have hD := hD0.self (sz := s.heap.size)
  generalize hAe : va_A [(x0, .inr (6, [.int (nI N), .ref (n 0), .ref (q 0), .ref (tr 0), .int (nI 0)])), (n 0, .inr (2, [.int (nI N), .int (nI 0), .ref (n 1), .ref (n 2), .ref (n 3), .ref (n 9), .ref (n 16), .ref (n 23), .int (nI 0), .ref (n 32), .int (nI 0), .ref (n 33)])), (n 23, .inr (3, [.int (nI 0), .ref (n 24), .ref (n 25), .ref (n 26), .ref (n 27), .ref (n 28), .ref (n 29), .ref (n 30), .ref (n 31)]))] s.heap.size = A at hD hZ ⊢
  have hA : ∀ q : Nat, s.heap.size ≤ q → A q := fun q h => by rw [← hAe]; exact Or.inr h
  have hS : va_S A s.heap s.heap [] := va_S.rf
  have hl := lv_entry ([.ref x0, .int z3]) (n := 2) (Nat.le_of_ble_eq_true rfl)
  rw [lg_entry_eq]
  generalize (lg_sl ([.ref x0, .int z3]) ++ List.replicate (2 - (lg_sl ([.ref x0, .int z3])).length) Slot.unset).toArray = ls at hl ⊢
  have hl : lv_has ls 2 [(0, .ref x0), (1, .int z3)] := hl
  refine lv_iload_n hx hb dX6_hopsOf_0 rfl (lv_at hl 1 rfl) ?_
  refine lv_aload_n hx hb dX6_hopsOf_1 rfl (lv_at hl 0 rfl) ?_
  refine va_get (D := D) (ci := 6) (v := .ref (n 0)) (C := RX6) (T := TX6) (N := 5) hx hb hts hin6 hown hK hP 0 rfl rfl 1 (by decide) (hts (.fieldLink RX6 27 "MeshRouting" "present" "LMeshRouting$Network;") (List.mem_cons_of_mem _ q_11)) (fun _ h9 => h9) rfl dX6_hopsOf_2 ?_
  refine va_get (D := D) (ci := 2) (v := .ref (n 23)) (C := RX2) (T := TX2) (N := 12) hx hb hts hin2 hown hK hP 1 rfl rfl 7 (by decide) (hts (.fieldLink RX6 75 "MeshRouting$Network" "packets" "LMeshRouting$Packets;") (List.mem_cons_of_mem _ q_36)) (fun _ h9 => h9) rfl dX6_hopsOf_5 ?_
  refine va_get (D := D) (ci := 3) (v := .int (nI 0)) (C := RX3) (T := TX3) (N := 9) hx hb hts hin3 hown hK hP 2 rfl rfl 0 (by decide) (hts (.fieldLink RX6 79 "MeshRouting$Packets" "count" "I") (List.mem_cons_of_mem _ q_446)) (fun _ h9 => h9) rfl dX6_hopsOf_8 ?_
  exact k_xr (vx_runS (As := [.int z3, .int (nI 0)]) (rest := []) ⟨hx, hb, hml, hown, hts⟩ (x_checkIndex l hl9 D cI cJ cM cG z3 0 s.heap.size (k_lt0 z3)) (va_cwS 2 hts (kB_S (fun _ => List.mem_cons_of_mem _) q_19 q_20 q_9 (kB_c q_21)) rfl rfl rfl (by decide +kernel) ⟨Nat.le_of_ble_eq_true rfl, Nat.le_of_ble_eq_true rfl⟩) (k_preSX hZ hR hS hA hP hD hK hKN [] rfl rfl) rfl rfl hl.1 rfl (lv_room (Nat.le_of_ble_eq_true rfl)) dX6_hopsOf_11 ⟨Nat.le_of_ble_eq_true rfl, Nat.le_of_ble_eq_true rfl⟩) hD hS hA [] rfl htab hlocks (Nat.le_of_ble_eq_true rfl) (Nat.le_of_ble_eq_true rfl)

set_option maxHeartbeats 4000000 in
set_option maxRecDepth 100000 in
theorem x_endOf0 (l : Launch) (hl9 : l.stackTraces = false) (D : va_G) (cI cJ cM cG : ClassId) (x0 : Nat) (n : Nat → Nat) (q : Nat → Nat) (tr : Nat → Nat) (N : Nat) (z3 : Int32) (sz : Nat) (hN : N ≤ 10) : vx_Met l yX6_endOf (Cond.code yX6_endOf cX6_endOf 2 (some .int) :: kBig) ({ frames := 7, cells := 1, slots := 6, locals := 103 }) (va_Pc [.ref x0, .int z3] (kX D [(cI, .int), (cJ, .long), (cM, .object "MeshRouting$Message"), (cG, .array .int)] [(x0, .inr (6, [.int (nI N), .ref (n 0), .ref (q 0), .ref (tr 0), .int (nI 0)])), (n 0, .inr (2, [.int (nI N), .int (nI 0), .ref (n 1), .ref (n 2), .ref (n 3), .ref (n 9), .ref (n 16), .ref (n 23), .int (nI 0), .ref (n 32), .int (nI 0), .ref (n 33)])), (n 23, .inr (3, [.int (nI 0), .ref (n 24), .ref (n 25), .ref (n 26), .ref (n 27), .ref (n 28), .ref (n 29), .ref (n 30), .ref (n 31)]))] sz)) (fun _ _ _ _ => False) (kE "java/lang/IndexOutOfBoundsException" (va_A [(x0, .inr (6, [.int (nI N), .ref (n 0), .ref (q 0), .ref (tr 0), .int (nI 0)])), (n 0, .inr (2, [.int (nI N), .int (nI 0), .ref (n 1), .ref (n 2), .ref (n 3), .ref (n 9), .ref (n 16), .ref (n 23), .int (nI 0), .ref (n 32), .int (nI 0), .ref (n 33)])), (n 23, .inr (3, [.int (nI 0), .ref (n 24), .ref (n 25), .ref (n 26), .ref (n 27), .ref (n 28), .ref (n 29), .ref (n 30), .ref (n 31)]))] sz)) 1 6 (va_A [(x0, .inr (6, [.int (nI N), .ref (n 0), .ref (q 0), .ref (tr 0), .int (nI 0)])), (n 0, .inr (2, [.int (nI N), .int (nI 0), .ref (n 1), .ref (n 2), .ref (n 3), .ref (n 9), .ref (n 16), .ref (n 23), .int (nI 0), .ref (n 32), .int (nI 0), .ref (n 33)])), (n 23, .inr (3, [.int (nI 0), .ref (n 24), .ref (n 25), .ref (n 26), .ref (n 27), .ref (n 28), .ref (n 29), .ref (n 30), .ref (n 31)]))] sz) := by
  refine vx_ofW (cc := cX6_endOf) (maxL := 2) (ret := (some .int)) (by decide) rfl ?_
  intro p e s m args below meth c s₁ B hml htab hv
  obtain ⟨rfl, ⟨hsz, hP, hK, hD0, hKN⟩, hZ, hR⟩ := hv
  have hx := B.exec
  have hb := B.bytes
  have hr := B.returns
  have hts := atoms_spec (ws := (Cond.code yX6_endOf cX6_endOf 2 (some .int) :: kBig)) B.pre
  have hown : s.vm.findClass RX6 = some m.cls := findClass_of_methodNamed B.named
  have hlocks := B.notSynchronized
  obtain ⟨⟨as217, hs217⟩, ⟨as212, hs212⟩, ⟨as193, hs193⟩, hRest⟩ := id hR
  have hin2 : ∀ w ∈ u_ws RX2 TX2 12, w ∈ (Cond.code yX6_endOf cX6_endOf 2 (some .int) :: kBig) := fun w h => List.mem_cons_of_mem _ (inb2 w h)
  have hin3 : ∀ w ∈ u_ws RX3 TX3 9, w ∈ (Cond.code yX6_endOf cX6_endOf 2 (some .int) :: kBig) := fun w h => List.mem_cons_of_mem _ (inb3 w h)
  have hin6 : ∀ w ∈ u_ws RX6 TX6 5, w ∈ (Cond.code yX6_endOf cX6_endOf 2 (some .int) :: kBig) := fun w h => List.mem_cons_of_mem _ (inb6 w h)
  subst hsz
  have hD := hD0.self (sz := s.heap.size)
  generalize hAe : va_A [(x0, .inr (6, [.int (nI N), .ref (n 0), .ref (q 0), .ref (tr 0), .int (nI 0)])), (n 0, .inr (2, [.int (nI N), .int (nI 0), .ref (n 1), .ref (n 2), .ref (n 3), .ref (n 9), .ref (n 16), .ref (n 23), .int (nI 0), .ref (n 32), .int (nI 0), .ref (n 33)])), (n 23, .inr (3, [.int (nI 0), .ref (n 24), .ref (n 25), .ref (n 26), .ref (n 27), .ref (n 28), .ref (n 29), .ref (n 30), .ref (n 31)]))] s.heap.size = A at hD hZ ⊢
  have hA : ∀ q : Nat, s.heap.size ≤ q → A q := fun q h => by rw [← hAe]; exact Or.inr h
  have hS : va_S A s.heap s.heap [] := va_S.rf
  have hl := lv_entry ([.ref x0, .int z3]) (n := 2) (Nat.le_of_ble_eq_true rfl)
  rw [lg_entry_eq]
  generalize (lg_sl ([.ref x0, .int z3]) ++ List.replicate (2 - (lg_sl ([.ref x0, .int z3])).length) Slot.unset).toArray = ls at hl ⊢
  have hl : lv_has ls 2 [(0, .ref x0), (1, .int z3)] := hl
  refine lv_iload_n hx hb dX6_endOf_0 rfl (lv_at hl 1 rfl) ?_
  refine lv_aload_n hx hb dX6_endOf_1 rfl (lv_at hl 0 rfl) ?_
  refine va_get (D := D) (ci := 6) (v := .ref (n 0)) (C := RX6) (T := TX6) (N := 5) hx hb hts hin6 hown hK hP 0 rfl rfl 1 (by decide) (hts (.fieldLink RX6 27 "MeshRouting" "present" "LMeshRouting$Network;") (List.mem_cons_of_mem _ q_11)) (fun _ h9 => h9) rfl dX6_endOf_2 ?_
  refine va_get (D := D) (ci := 2) (v := .ref (n 23)) (C := RX2) (T := TX2) (N := 12) hx hb hts hin2 hown hK hP 1 rfl rfl 7 (by decide) (hts (.fieldLink RX6 75 "MeshRouting$Network" "packets" "LMeshRouting$Packets;") (List.mem_cons_of_mem _ q_36)) (fun _ h9 => h9) rfl dX6_endOf_5 ?_
  refine va_get (D := D) (ci := 3) (v := .int (nI 0)) (C := RX3) (T := TX3) (N := 9) hx hb hts hin3 hown hK hP 2 rfl rfl 0 (by decide) (hts (.fieldLink RX6 79 "MeshRouting$Packets" "count" "I") (List.mem_cons_of_mem _ q_446)) (fun _ h9 => h9) rfl dX6_endOf_8 ?_
  exact k_xr (vx_runS (As := [.int z3, .int (nI 0)]) (rest := []) ⟨hx, hb, hml, hown, hts⟩ (x_checkIndex l hl9 D cI cJ cM cG z3 0 s.heap.size (k_lt0 z3)) (va_cwS 2 hts (kB_S (fun _ => List.mem_cons_of_mem _) q_19 q_20 q_9 (kB_c q_21)) rfl rfl rfl (by decide +kernel) ⟨Nat.le_of_ble_eq_true rfl, Nat.le_of_ble_eq_true rfl⟩) (k_preSX hZ hR hS hA hP hD hK hKN [] rfl rfl) rfl rfl hl.1 rfl (lv_room (Nat.le_of_ble_eq_true rfl)) dX6_endOf_11 ⟨Nat.le_of_ble_eq_true rfl, Nat.le_of_ble_eq_true rfl⟩) hD hS hA [] rfl htab hlocks (Nat.le_of_ble_eq_true rfl) (Nat.le_of_ble_eq_true rfl)

set_option maxHeartbeats 4000000 in
set_option maxRecDepth 100000 in
theorem x_whyDropped0 (l : Launch) (hl9 : l.stackTraces = false) (D : va_G) (cI cJ cM cG : ClassId) (x0 : Nat) (n : Nat → Nat) (q : Nat → Nat) (tr : Nat → Nat) (N : Nat) (z3 : Int32) (z4 : Int32) (sz : Nat) (hN : N ≤ 10) : vx_Met l yX6_whyDropped (Cond.code yX6_whyDropped cX6_whyDropped 4 (some .int) :: kBig) ({ frames := 7, cells := 1, slots := 6, locals := 103 }) (va_Pc [.ref x0, .int z3, .int z4] (kX D [(cI, .int), (cJ, .long), (cM, .object "MeshRouting$Message"), (cG, .array .int)] [(x0, .inr (6, [.int (nI N), .ref (n 0), .ref (q 0), .ref (tr 0), .int (nI 0)])), (n 0, .inr (2, [.int (nI N), .int (nI 0), .ref (n 1), .ref (n 2), .ref (n 3), .ref (n 9), .ref (n 16), .ref (n 23), .int (nI 0), .ref (n 32), .int (nI 0), .ref (n 33)])), (n 23, .inr (3, [.int (nI 0), .ref (n 24), .ref (n 25), .ref (n 26), .ref (n 27), .ref (n 28), .ref (n 29), .ref (n 30), .ref (n 31)]))] sz)) (fun _ _ _ _ => False) (kE "java/lang/IndexOutOfBoundsException" (va_A [(x0, .inr (6, [.int (nI N), .ref (n 0), .ref (q 0), .ref (tr 0), .int (nI 0)])), (n 0, .inr (2, [.int (nI N), .int (nI 0), .ref (n 1), .ref (n 2), .ref (n 3), .ref (n 9), .ref (n 16), .ref (n 23), .int (nI 0), .ref (n 32), .int (nI 0), .ref (n 33)])), (n 23, .inr (3, [.int (nI 0), .ref (n 24), .ref (n 25), .ref (n 26), .ref (n 27), .ref (n 28), .ref (n 29), .ref (n 30), .ref (n 31)]))] sz)) 1 6 (va_A [(x0, .inr (6, [.int (nI N), .ref (n 0), .ref (q 0), .ref (tr 0), .int (nI 0)])), (n 0, .inr (2, [.int (nI N), .int (nI 0), .ref (n 1), .ref (n 2), .ref (n 3), .ref (n 9), .ref (n 16), .ref (n 23), .int (nI 0), .ref (n 32), .int (nI 0), .ref (n 33)])), (n 23, .inr (3, [.int (nI 0), .ref (n 24), .ref (n 25), .ref (n 26), .ref (n 27), .ref (n 28), .ref (n 29), .ref (n 30), .ref (n 31)]))] sz) := by
  refine vx_ofW (cc := cX6_whyDropped) (maxL := 4) (ret := (some .int)) (by decide) rfl ?_
  intro p e s m args below meth c s₁ B hml htab hv
  obtain ⟨rfl, ⟨hsz, hP, hK, hD0, hKN⟩, hZ, hR⟩ := hv
  have hx := B.exec
  have hb := B.bytes
  have hr := B.returns
  have hts := atoms_spec (ws := (Cond.code yX6_whyDropped cX6_whyDropped 4 (some .int) :: kBig)) B.pre
  have hown : s.vm.findClass RX6 = some m.cls := findClass_of_methodNamed B.named
  have hlocks := B.notSynchronized
  obtain ⟨⟨as217, hs217⟩, ⟨as212, hs212⟩, ⟨as193, hs193⟩, hRest⟩ := id hR
  have hin2 : ∀ w ∈ u_ws RX2 TX2 12, w ∈ (Cond.code yX6_whyDropped cX6_whyDropped 4 (some .int) :: kBig) := fun w h => List.mem_cons_of_mem _ (inb2 w h)
  have hin3 : ∀ w ∈ u_ws RX3 TX3 9, w ∈ (Cond.code yX6_whyDropped cX6_whyDropped 4 (some .int) :: kBig) := fun w h => List.mem_cons_of_mem _ (inb3 w h)
  have hin6 : ∀ w ∈ u_ws RX6 TX6 5, w ∈ (Cond.code yX6_whyDropped cX6_whyDropped 4 (some .int) :: kBig) := fun w h => List.mem_cons_of_mem _ (inb6 w h)
  subst hsz
  have hD := hD0.self (sz := s.heap.size)
  generalize hAe : va_A [(x0, .inr (6, [.int (nI N), .ref (n 0), .ref (q 0), .ref (tr 0), .int (nI 0)])), (n 0, .inr (2, [.int (nI N), .int (nI 0), .ref (n 1), .ref (n 2), .ref (n 3), .ref (n 9), .ref (n 16), .ref (n 23), .int (nI 0), .ref (n 32), .int (nI 0), .ref (n 33)])), (n 23, .inr (3, [.int (nI 0), .ref (n 24), .ref (n 25), .ref (n 26), .ref (n 27), .ref (n 28), .ref (n 29), .ref (n 30), .ref (n 31)]))] s.heap.size = A at hD hZ ⊢
  have hA : ∀ q : Nat, s.heap.size ≤ q → A q := fun q h => by rw [← hAe]; exact Or.inr h
  have hS : va_S A s.heap s.heap [] := va_S.rf
  have hl := lv_entry ([.ref x0, .int z3, .int z4]) (n := 4) (Nat.le_of_ble_eq_true rfl)
  rw [lg_entry_eq]
  generalize (lg_sl ([.ref x0, .int z3, .int z4]) ++ List.replicate (4 - (lg_sl ([.ref x0, .int z3, .int z4])).length) Slot.unset).toArray = ls at hl ⊢
  have hl : lv_has ls 4 [(0, .ref x0), (1, .int z3), (2, .int z4)] := hl
  refine lv_iload_n hx hb dX6_whyDropped_0 rfl (lv_at hl 1 rfl) ?_
  refine lv_aload_n hx hb dX6_whyDropped_1 rfl (lv_at hl 0 rfl) ?_
  refine va_get (D := D) (ci := 6) (v := .ref (n 0)) (C := RX6) (T := TX6) (N := 5) hx hb hts hin6 hown hK hP 0 rfl rfl 1 (by decide) (hts (.fieldLink RX6 27 "MeshRouting" "present" "LMeshRouting$Network;") (List.mem_cons_of_mem _ q_11)) (fun _ h9 => h9) rfl dX6_whyDropped_2 ?_
  refine va_get (D := D) (ci := 2) (v := .ref (n 23)) (C := RX2) (T := TX2) (N := 12) hx hb hts hin2 hown hK hP 1 rfl rfl 7 (by decide) (hts (.fieldLink RX6 75 "MeshRouting$Network" "packets" "LMeshRouting$Packets;") (List.mem_cons_of_mem _ q_36)) (fun _ h9 => h9) rfl dX6_whyDropped_5 ?_
  refine va_get (D := D) (ci := 3) (v := .int (nI 0)) (C := RX3) (T := TX3) (N := 9) hx hb hts hin3 hown hK hP 2 rfl rfl 0 (by decide) (hts (.fieldLink RX6 79 "MeshRouting$Packets" "count" "I") (List.mem_cons_of_mem _ q_446)) (fun _ h9 => h9) rfl dX6_whyDropped_8 ?_
  exact k_xr (vx_runS (As := [.int z3, .int (nI 0)]) (rest := []) ⟨hx, hb, hml, hown, hts⟩ (x_checkIndex l hl9 D cI cJ cM cG z3 0 s.heap.size (k_lt0 z3)) (va_cwS 2 hts (kB_S (fun _ => List.mem_cons_of_mem _) q_19 q_20 q_9 (kB_c q_21)) rfl rfl rfl (by decide +kernel) ⟨Nat.le_of_ble_eq_true rfl, Nat.le_of_ble_eq_true rfl⟩) (k_preSX hZ hR hS hA hP hD hK hKN [] rfl rfl) rfl rfl hl.1 rfl (lv_room (Nat.le_of_ble_eq_true rfl)) dX6_whyDropped_11 ⟨Nat.le_of_ble_eq_true rfl, Nat.le_of_ble_eq_true rfl⟩) hD hS hA [] rfl htab hlocks (Nat.le_of_ble_eq_true rfl) (Nat.le_of_ble_eq_true rfl)

set_option maxHeartbeats 4000000 in
set_option maxRecDepth 100000 in
theorem x_setParameter0 (l : Launch) (hl9 : l.stackTraces = false) (D : va_G) (cI cJ cM cG : ClassId) (x0 : Nat) (n : Nat → Nat) (q : Nat → Nat) (tr : Nat → Nat) (N : Nat) (z3 : Int32) (z4 : Int32) (sz : Nat) (hN : N ≤ 10) (hz3 : z3 < 0 ∨ nI (7 + 1) ≤ z3) : vx_Met l yX6_setParameter (Cond.code yX6_setParameter cX6_setParameter 4 (some .int) :: kBig) ({ frames := 7, cells := 1, slots := 6, locals := 103 }) (va_Pc [.ref x0, .int z3, .int z4] (kX D [(cI, .int), (cJ, .long), (cM, .object "MeshRouting$Message"), (cG, .array .int)] [(x0, .inr (6, [.int (nI N), .ref (n 0), .ref (q 0), .ref (tr 0), .int (nI 0)]))] sz)) (fun _ _ _ _ => False) (kE "java/lang/IndexOutOfBoundsException" (va_A [(x0, .inr (6, [.int (nI N), .ref (n 0), .ref (q 0), .ref (tr 0), .int (nI 0)]))] sz)) 1 6 (va_A [(x0, .inr (6, [.int (nI N), .ref (n 0), .ref (q 0), .ref (tr 0), .int (nI 0)]))] sz) := by
  refine vx_ofW (cc := cX6_setParameter) (maxL := 4) (ret := (some .int)) (by decide) rfl ?_
  intro p e s m args below meth c s₁ B hml htab hv
  obtain ⟨rfl, ⟨hsz, hP, hK, hD0, hKN⟩, hZ, hR⟩ := hv
  have hx := B.exec
  have hb := B.bytes
  have hr := B.returns
  have hts := atoms_spec (ws := (Cond.code yX6_setParameter cX6_setParameter 4 (some .int) :: kBig)) B.pre
  have hown : s.vm.findClass RX6 = some m.cls := findClass_of_methodNamed B.named
  have hlocks := B.notSynchronized
  obtain ⟨⟨as217, hs217⟩, ⟨as212, hs212⟩, ⟨as193, hs193⟩, hRest⟩ := id hR
  subst hsz
  have hD := hD0.self (sz := s.heap.size)
  generalize hAe : va_A [(x0, .inr (6, [.int (nI N), .ref (n 0), .ref (q 0), .ref (tr 0), .int (nI 0)]))] s.heap.size = A at hD hZ ⊢
  have hA : ∀ q : Nat, s.heap.size ≤ q → A q := fun q h => by rw [← hAe]; exact Or.inr h
  have hS : va_S A s.heap s.heap [] := va_S.rf
  have hl := lv_entry ([.ref x0, .int z3, .int z4]) (n := 4) (Nat.le_of_ble_eq_true rfl)
  rw [lg_entry_eq]
  generalize (lg_sl ([.ref x0, .int z3, .int z4]) ++ List.replicate (4 - (lg_sl ([.ref x0, .int z3, .int z4])).length) Slot.unset).toArray = ls at hl ⊢
  have hl : lv_has ls 4 [(0, .ref x0), (1, .int z3), (2, .int z4)] := hl
  refine lv_iload_n hx hb dX6_setParameter_0 rfl (lv_at hl 1 rfl) ?_
  refine lv_bipush (v := nI 8) hx hb dX6_setParameter_1 (by decide) ?_
  exact k_xr (vx_runS (As := [.int z3, .int (nI 8)]) (rest := []) ⟨hx, hb, hml, hown, hts⟩ (x_checkIndex l hl9 D cI cJ cM cG z3 8 s.heap.size (hz3)) (va_cwS 2 hts (kB_S (fun _ => List.mem_cons_of_mem _) q_19 q_20 q_9 (kB_c q_21)) rfl rfl rfl (by decide +kernel) ⟨Nat.le_of_ble_eq_true rfl, Nat.le_of_ble_eq_true rfl⟩) (k_preSX hZ hR hS hA hP hD hK hKN [] rfl rfl) rfl rfl hl.1 rfl (lv_room (Nat.le_of_ble_eq_true rfl)) dX6_setParameter_3 ⟨Nat.le_of_ble_eq_true rfl, Nat.le_of_ble_eq_true rfl⟩) hD hS hA [] rfl htab hlocks (Nat.le_of_ble_eq_true rfl) (Nat.le_of_ble_eq_true rfl)

set_option maxHeartbeats 4000000 in
set_option maxRecDepth 100000 in
theorem x_restore0 (l : Launch) (hl9 : l.stackTraces = false) (D : va_G) (cI cJ cM cG : ClassId) (x0 : Nat) (n : Nat → Nat) (q : Nat → Nat) (tr : Nat → Nat) (N : Nat) (sz : Nat) (hN : N ≤ 10) : vx_Met l yX6_restore (Cond.code yX6_restore cX6_restore 1 (some .int) :: kBig) ({ frames := 6, cells := 1, slots := 6, locals := 82 }) (va_Pc [.ref x0] (kX D [(cI, .int), (cJ, .long), (cM, .object "MeshRouting$Message"), (cG, .array .int)] [(x0, .inr (6, [.int (nI N), .ref (n 0), .ref (q 0), .ref (tr 0), .int (nI 0)]))] sz)) (fun _ _ _ _ => False) (kE "java/lang/IllegalStateException" (va_A [(x0, .inr (6, [.int (nI N), .ref (n 0), .ref (q 0), .ref (tr 0), .int (nI 0)]))] sz)) 1 6 (va_A [(x0, .inr (6, [.int (nI N), .ref (n 0), .ref (q 0), .ref (tr 0), .int (nI 0)]))] sz) := by
  refine vx_ofW (cc := cX6_restore) (maxL := 1) (ret := (some .int)) (by decide) rfl ?_
  intro p e s m args below meth c s₁ B hml htab hv
  obtain ⟨rfl, ⟨hsz, hP, hK, hD0, hKN⟩, hZ, hR⟩ := hv
  have hx := B.exec
  have hb := B.bytes
  have hr := B.returns
  have hts := atoms_spec (ws := (Cond.code yX6_restore cX6_restore 1 (some .int) :: kBig)) B.pre
  have hown : s.vm.findClass RX6 = some m.cls := findClass_of_methodNamed B.named
  have hlocks := B.notSynchronized
  obtain ⟨⟨as217, hs217⟩, ⟨as212, hs212⟩, ⟨as193, hs193⟩, hRest⟩ := id hR
  have hin6 : ∀ w ∈ u_ws RX6 TX6 5, w ∈ (Cond.code yX6_restore cX6_restore 1 (some .int) :: kBig) := fun w h => List.mem_cons_of_mem _ (inb6 w h)
  subst hsz
  have hD := hD0.self (sz := s.heap.size)
  generalize hAe : va_A [(x0, .inr (6, [.int (nI N), .ref (n 0), .ref (q 0), .ref (tr 0), .int (nI 0)]))] s.heap.size = A at hD hZ ⊢
  have hA : ∀ q : Nat, s.heap.size ≤ q → A q := fun q h => by rw [← hAe]; exact Or.inr h
  have hS : va_S A s.heap s.heap [] := va_S.rf
  have hl := lv_entry ([.ref x0]) (n := 1) (Nat.le_of_ble_eq_true rfl)
  rw [lg_entry_eq]
  generalize (lg_sl ([.ref x0]) ++ List.replicate (1 - (lg_sl ([.ref x0])).length) Slot.unset).toArray = ls at hl ⊢
  have hl : lv_has ls 1 [(0, .ref x0)] := hl
  refine lv_aload_n hx hb dX6_restore_0 rfl (lv_at hl 0 rfl) ?_
  refine va_get (D := D) (ci := 6) (v := .int (nI 0)) (C := RX6) (T := TX6) (N := 5) hx hb hts hin6 hown hK hP 0 rfl rfl 4 (by decide) (hts (.fieldLink RX6 189 "MeshRouting" "hasCheckpoint" "Z") (List.mem_cons_of_mem _ q_530)) (fun _ h9 => h9) rfl dX6_restore_1 ?_
  refine k_if_ne (tgt := 17) hx hb dX6_restore_4 (by decide) (by omega) (fun h9 => absurd h9 (by omega)) (fun _ => ?_)
  exact vx_throwS (own := RX6) (cls := "java/lang/IllegalStateException") (text := "nothing was kept") (names := ["java/lang/RuntimeException", "java/lang/Exception"]) (ik := 84) (is := 193) (ic := 88) (A := A) hx hb hl9 hown (by decide +kernel) (by decide +kernel) (hts (.classLink RX6 84 "java/lang/IllegalStateException") (List.mem_cons_of_mem _ q_528)) (hts (.initialized "java/lang/IllegalStateException") (List.mem_cons_of_mem _ q_529)) hs193 (x_hat88 (fun w h => hts w (List.mem_cons_of_mem _ h)) hR) (x_good88 q_528 q_529) hZ.1 hZ.2 hS (hml.trans hl.1.symm).symm dX6_restore_7 dX6_restore_10 dX6_restore_11 dX6_restore_13 dX6_restore_16 (fun x h => (htab x h).elim) (Nat.le_of_ble_eq_true rfl) (Nat.le_of_ble_eq_true rfl) (Nat.le_of_ble_eq_true rfl) (Nat.le_of_ble_eq_true rfl) hlocks (k_xhx hS) hS.2.2 (Nat.le_of_ble_eq_true rfl) (Nat.le_of_ble_eq_true rfl)
