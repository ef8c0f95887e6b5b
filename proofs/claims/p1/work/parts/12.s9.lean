set_option maxHeartbeats 4000000 in
set_option maxRecDepth 100000 in
theorem c_X7_in1 (l : Launch) (D : va_G) (cI cJ cM cG : ClassId) (x : Int64) (lo : Int64) (hi9 : Int64) (sz : Nat) (h1 : ¬ x < lo) (h2 : ¬ hi9 < x) : Met l yX7_in (Cond.code yX7_in cX7_in 6 (some .boolean) :: kBig) ({ frames := 0, cells := 0, slots := 0, locals := 0 }) (va_Pc [.long x, .long lo, .long hi9] (kP D [(cI, .int), (cJ, .long), (cM, .object "MeshRouting$Message"), (cG, .array .int)] [] sz)) (va_Qi (fun (r : Int32) (_ : Unit) => r = nI 1) (fun _ t9 => kB D (va_A [] sz) [] t9) (va_A [] sz)) 0 0 (va_A [] sz) := by
  refine Met.ofW (cc := cX7_in) (maxL := 6) (ret := (some .boolean)) (by decide) rfl ?_
  intro p e s m args below meth c s₁ B hml hv
  obtain ⟨rfl, hsz, hP, hK, hD0, hKN⟩ := hv
  have hx := B.exec
  have hb := B.bytes
  have hr := B.returns
  have hts := atoms_spec (ws := (Cond.code yX7_in cX7_in 6 (some .boolean) :: kBig)) B.pre
  have hown : s.vm.findClass RX7 = some m.cls := findClass_of_methodNamed B.named
  have hlocks := B.notSynchronized
  subst hsz
  have hD := hD0.self (sz := s.heap.size)
  generalize hAe : va_A [] s.heap.size = A at hD ⊢
  have hA : ∀ q : Nat, s.heap.size ≤ q → A q := fun q h => by rw [← hAe]; exact Or.inr h
  have hS : va_S A s.heap s.heap [] := va_S.rf
  have hl := lv_entry ([.long x, .long lo, .long hi9]) (n := 6) (Nat.le_of_ble_eq_true rfl)
  rw [lg_entry_eq]
  generalize (lg_sl ([.long x, .long lo, .long hi9]) ++ List.replicate (6 - (lg_sl ([.long x, .long lo, .long hi9])).length) Slot.unset).toArray = ls at hl ⊢
  have hl : lv_has ls 6 [(0, .long x), (2, .long lo), (4, .long hi9)] := hl
  refine lv_lload_n hx hb dX7_in_0 rfl (lv_at hl 0 rfl) ?_
  refine lv_lload_n hx hb dX7_in_1 rfl (lv_at hl 1 rfl) ?_
  refine W.lcmp hx hb dX7_in_2 ?_
  refine lv_if_lt (tgt := 17) hx hb dX7_in_3 (by decide) (fun h9 => absurd h9 (fun q => h1 ((lg_cmp_lt _ _).mp q))) (fun _ => ?_)
  refine lv_lload_n hx hb dX7_in_6 rfl (lv_at hl 0 rfl) ?_
  refine lv_lload hx hb dX7_in_7 (lv_at hl 2 rfl) ?_
  refine W.lcmp hx hb dX7_in_9 ?_
  refine lv_if_gt (tgt := 17) hx hb dX7_in_10 (by decide) (fun h9 => absurd h9 (fun q => h2 ((lg_cmp_gt _ _).mp q))) (fun _ => ?_)
  refine lv_iconst (v := nI 1) hx hb dX7_in_13 (by decide) ?_
  refine lv_goto (tgt := 18) hx hb dX7_in_14 (by decide) ?_
  have hP9 := hP.sub (ws' := []) [] rfl
  have hD9 := hD.sub (ws' := []) [] rfl rfl
  exact W.zret (v := nI 1) hx hb hr (by decide) (fun t9 ht9 hW9 => ⟨⟨nI 1, (), rfl, rfl, by rw [ht9]; exact hP9, hD9⟩, hS.F ht9⟩) hS.2.2 dX7_in_18

set_option maxHeartbeats 4000000 in
set_option maxRecDepth 100000 in
theorem c_X7_in0 (l : Launch) (D : va_G) (cI cJ cM cG : ClassId) (x : Int64) (lo : Int64) (hi9 : Int64) (sz : Nat) (h1 : x < lo ∨ hi9 < x) : Met l yX7_in (Cond.code yX7_in cX7_in 6 (some .boolean) :: kBig) ({ frames := 0, cells := 0, slots := 0, locals := 0 }) (va_Pc [.long x, .long lo, .long hi9] (kP D [(cI, .int), (cJ, .long), (cM, .object "MeshRouting$Message"), (cG, .array .int)] [] sz)) (va_Qi (fun (r : Int32) (_ : Unit) => r = nI 0) (fun _ t9 => kB D (va_A [] sz) [] t9) (va_A [] sz)) 0 0 (va_A [] sz) := by
  refine Met.ofW (cc := cX7_in) (maxL := 6) (ret := (some .boolean)) (by decide) rfl ?_
  intro p e s m args below meth c s₁ B hml hv
  obtain ⟨rfl, hsz, hP, hK, hD0, hKN⟩ := hv
  have hx := B.exec
  have hb := B.bytes
  have hr := B.returns
  have hts := atoms_spec (ws := (Cond.code yX7_in cX7_in 6 (some .boolean) :: kBig)) B.pre
  have hown : s.vm.findClass RX7 = some m.cls := findClass_of_methodNamed B.named
  have hlocks := B.notSynchronized
  subst hsz
  have hD := hD0.self (sz := s.heap.size)
  generalize hAe : va_A [] s.heap.size = A at hD ⊢
  have hA : ∀ q : Nat, s.heap.size ≤ q → A q := fun q h => by rw [← hAe]; exact Or.inr h
  have hS : va_S A s.heap s.heap [] := va_S.rf
  have hl := lv_entry ([.long x, .long lo, .long hi9]) (n := 6) (Nat.le_of_ble_eq_true rfl)
  rw [lg_entry_eq]
  generalize (lg_sl ([.long x, .long lo, .long hi9]) ++ List.replicate (6 - (lg_sl ([.long x, .long lo, .long hi9])).length) Slot.unset).toArray = ls at hl ⊢
  have hl : lv_has ls 6 [(0, .long x), (2, .long lo), (4, .long hi9)] := hl
  refine lv_lload_n hx hb dX7_in_0 rfl (lv_at hl 0 rfl) ?_
  refine lv_lload_n hx hb dX7_in_1 rfl (lv_at hl 1 rfl) ?_
  refine W.lcmp hx hb dX7_in_2 ?_
  refine lv_if_lt (tgt := 17) hx hb dX7_in_3 (by decide) (fun hc => ?_) (fun hc => ?_)
  · refine lv_iconst (v := nI 0) hx hb dX7_in_17 (by decide) ?_
    have hP9 := hP.sub (ws' := []) [] rfl
    have hD9 := hD.sub (ws' := []) [] rfl rfl
    exact W.zret (v := nI 0) hx hb hr (by decide) (fun t9 ht9 hW9 => ⟨⟨nI 0, (), rfl, rfl, by rw [ht9]; exact hP9, hD9⟩, hS.F ht9⟩) hS.2.2 dX7_in_18
  · refine lv_lload_n hx hb dX7_in_6 rfl (lv_at hl 0 rfl) ?_
    refine lv_lload hx hb dX7_in_7 (lv_at hl 2 rfl) ?_
    refine W.lcmp hx hb dX7_in_9 ?_
    refine lv_if_gt (tgt := 17) hx hb dX7_in_10 (by decide) (fun _ => ?_) (fun h9 => absurd ((lg_cmp_gt _ _).mpr (h1.resolve_left (fun q => hc ((lg_cmp_lt _ _).mpr q)))) h9)
    refine lv_iconst (v := nI 0) hx hb dX7_in_17 (by decide) ?_
    have hP9 := hP.sub (ws' := []) [] rfl
    have hD9 := hD.sub (ws' := []) [] rfl rfl
    exact W.zret (v := nI 0) hx hb hr (by decide) (fun t9 ht9 hW9 => ⟨⟨nI 0, (), rfl, rfl, by rw [ht9]; exact hP9, hD9⟩, hS.F ht9⟩) hS.2.2 dX7_in_18

set_option maxHeartbeats 4000000 in
set_option maxRecDepth 100000 in
theorem c_X7_entry (l : Launch) (D : va_G) (cI cJ cM cG : ClassId) (i : Nat) (d : Nat) (sz : Nat)  : Met l yX7_entry (Cond.code yX7_entry cX7_entry 2 (some .int) :: kBig) ({ frames := 0, cells := 0, slots := 0, locals := 0 }) (va_Pc [.int (nI i), .int (nI d)] (kP D [(cI, .int), (cJ, .long), (cM, .object "MeshRouting$Message"), (cG, .array .int)] [] sz)) (va_Qi (fun (r : Int32) (_ : Unit) => r = nI (200 + 8 * (10 * i + d))) (fun _ t9 => kB D (va_A [] sz) [] t9) (va_A [] sz)) 0 0 (va_A [] sz) := by
  refine Met.ofW (cc := cX7_entry) (maxL := 2) (ret := (some .int)) (by decide) rfl ?_
  intro p e s m args below meth c s₁ B hml hv
  obtain ⟨rfl, hsz, hP, hK, hD0, hKN⟩ := hv
  have hx := B.exec
  have hb := B.bytes
  have hr := B.returns
  have hts := atoms_spec (ws := (Cond.code yX7_entry cX7_entry 2 (some .int) :: kBig)) B.pre
  have hown : s.vm.findClass RX7 = some m.cls := findClass_of_methodNamed B.named
  have hlocks := B.notSynchronized
  subst hsz
  have hD := hD0.self (sz := s.heap.size)
  generalize hAe : va_A [] s.heap.size = A at hD ⊢
  have hA : ∀ q : Nat, s.heap.size ≤ q → A q := fun q h => by rw [← hAe]; exact Or.inr h
  have hS : va_S A s.heap s.heap [] := va_S.rf
  have hl := lv_entry ([.int (nI i), .int (nI d)]) (n := 2) (Nat.le_of_ble_eq_true rfl)
  rw [lg_entry_eq]
  generalize (lg_sl ([.int (nI i), .int (nI d)]) ++ List.replicate (2 - (lg_sl ([.int (nI i), .int (nI d)])).length) Slot.unset).toArray = ls at hl ⊢
  have hl : lv_has ls 2 [(0, .int (nI i)), (1, .int (nI d))] := hl
  refine lv_sipush (v := nI 200) hx hb dX7_entry_0 (by decide) ?_
  refine lv_bipush (v := nI 8) hx hb dX7_entry_3 (by decide) ?_
  refine lv_bipush (v := nI 10) hx hb dX7_entry_5 (by decide) ?_
  refine lv_iload_n hx hb dX7_entry_7 rfl (lv_at hl 0 rfl) ?_
  refine lv_imul hx hb dX7_entry_8 ?_
  refine k_ti (show ((nI 10) * (nI i)) = (nI (10 * i)) from pk_mul _ _) ?_
  refine lv_iload_n hx hb dX7_entry_9 rfl (lv_at hl 1 rfl) ?_
  refine lv_iadd hx hb dX7_entry_10 ?_
  refine k_ti (show ((nI (10 * i)) + (nI d)) = (nI (10 * i + d)) from nI_add _ _) ?_
  refine lv_imul hx hb dX7_entry_11 ?_
  refine k_ti (show ((nI 8) * (nI (10 * i + d))) = (nI (8 * (10 * i + d))) from pk_mul _ _) ?_
  refine lv_iadd hx hb dX7_entry_12 ?_
  refine k_ti (show ((nI 200) + (nI (8 * (10 * i + d)))) = (nI (200 + 8 * (10 * i + d))) from nI_add _ _) ?_
  have hP9 := hP.sub (ws' := []) [] rfl
  have hD9 := hD.sub (ws' := []) [] rfl rfl
  exact W.iret (v := nI (200 + 8 * (10 * i + d))) hx hb hr (fun t9 ht9 hW9 => ⟨⟨nI (200 + 8 * (10 * i + d)), (), rfl, rfl, by rw [ht9]; exact hP9, hD9⟩, hS.F ht9⟩) hS.2.2 dX7_entry_13

set_option maxHeartbeats 4000000 in
set_option maxRecDepth 100000 in
theorem c_X7_search (l : Launch) (D : va_G) (cI cJ cM cG : ClassId) (i : Nat) (d : Nat) (sz : Nat)  : Met l yX7_search (Cond.code yX7_search cX7_search 2 (some .int) :: kBig) ({ frames := 0, cells := 0, slots := 0, locals := 0 }) (va_Pc [.int (nI i), .int (nI d)] (kP D [(cI, .int), (cJ, .long), (cM, .object "MeshRouting$Message"), (cG, .array .int)] [] sz)) (va_Qi (fun (r : Int32) (_ : Unit) => r = nI (1000 + 4 * (10 * i + d))) (fun _ t9 => kB D (va_A [] sz) [] t9) (va_A [] sz)) 0 0 (va_A [] sz) := by
  refine Met.ofW (cc := cX7_search) (maxL := 2) (ret := (some .int)) (by decide) rfl ?_
  intro p e s m args below meth c s₁ B hml hv
  obtain ⟨rfl, hsz, hP, hK, hD0, hKN⟩ := hv
  have hx := B.exec
  have hb := B.bytes
  have hr := B.returns
  have hts := atoms_spec (ws := (Cond.code yX7_search cX7_search 2 (some .int) :: kBig)) B.pre
  have hown : s.vm.findClass RX7 = some m.cls := findClass_of_methodNamed B.named
  have hlocks := B.notSynchronized
  subst hsz
  have hD := hD0.self (sz := s.heap.size)
  generalize hAe : va_A [] s.heap.size = A at hD ⊢
  have hA : ∀ q : Nat, s.heap.size ≤ q → A q := fun q h => by rw [← hAe]; exact Or.inr h
  have hS : va_S A s.heap s.heap [] := va_S.rf
  have hl := lv_entry ([.int (nI i), .int (nI d)]) (n := 2) (Nat.le_of_ble_eq_true rfl)
  rw [lg_entry_eq]
  generalize (lg_sl ([.int (nI i), .int (nI d)]) ++ List.replicate (2 - (lg_sl ([.int (nI i), .int (nI d)])).length) Slot.unset).toArray = ls at hl ⊢
  have hl : lv_has ls 2 [(0, .int (nI i)), (1, .int (nI d))] := hl
  refine lv_sipush (v := nI 1000) hx hb dX7_search_0 (by decide) ?_
  refine lv_iconst (v := nI 4) hx hb dX7_search_3 (by decide) ?_
  refine lv_bipush (v := nI 10) hx hb dX7_search_4 (by decide) ?_
  refine lv_iload_n hx hb dX7_search_6 rfl (lv_at hl 0 rfl) ?_
  refine lv_imul hx hb dX7_search_7 ?_
  refine k_ti (show ((nI 10) * (nI i)) = (nI (10 * i)) from pk_mul _ _) ?_
  refine lv_iload_n hx hb dX7_search_8 rfl (lv_at hl 1 rfl) ?_
  refine lv_iadd hx hb dX7_search_9 ?_
  refine k_ti (show ((nI (10 * i)) + (nI d)) = (nI (10 * i + d)) from nI_add _ _) ?_
  refine lv_imul hx hb dX7_search_10 ?_
  refine k_ti (show ((nI 4) * (nI (10 * i + d))) = (nI (4 * (10 * i + d))) from pk_mul _ _) ?_
  refine lv_iadd hx hb dX7_search_11 ?_
  refine k_ti (show ((nI 1000) + (nI (4 * (10 * i + d)))) = (nI (1000 + 4 * (10 * i + d))) from nI_add _ _) ?_
  have hP9 := hP.sub (ws' := []) [] rfl
  have hD9 := hD.sub (ws' := []) [] rfl rfl
  exact W.iret (v := nI (1000 + 4 * (10 * i + d))) hx hb hr (fun t9 ht9 hW9 => ⟨⟨nI (1000 + 4 * (10 * i + d)), (), rfl, rfl, by rw [ht9]; exact hP9, hD9⟩, hS.F ht9⟩) hS.2.2 dX7_search_12

set_option maxHeartbeats 4000000 in
set_option maxRecDepth 100000 in
theorem c_X7_buffer (l : Launch) (D : va_G) (cI cJ cM cG : ClassId) (i : Nat) (d : Nat) (sz : Nat)  : Met l yX7_buffer (Cond.code yX7_buffer cX7_buffer 2 (some .int) :: kBig) ({ frames := 0, cells := 0, slots := 0, locals := 0 }) (va_Pc [.int (nI i), .int (nI d)] (kP D [(cI, .int), (cJ, .long), (cM, .object "MeshRouting$Message"), (cG, .array .int)] [] sz)) (va_Qi (fun (r : Int32) (_ : Unit) => r = nI (1400 + 9 * (10 * i + d))) (fun _ t9 => kB D (va_A [] sz) [] t9) (va_A [] sz)) 0 0 (va_A [] sz) := by
  refine Met.ofW (cc := cX7_buffer) (maxL := 2) (ret := (some .int)) (by decide) rfl ?_
  intro p e s m args below meth c s₁ B hml hv
  obtain ⟨rfl, hsz, hP, hK, hD0, hKN⟩ := hv
  have hx := B.exec
  have hb := B.bytes
  have hr := B.returns
  have hts := atoms_spec (ws := (Cond.code yX7_buffer cX7_buffer 2 (some .int) :: kBig)) B.pre
  have hown : s.vm.findClass RX7 = some m.cls := findClass_of_methodNamed B.named
  have hlocks := B.notSynchronized
  subst hsz
  have hD := hD0.self (sz := s.heap.size)
  generalize hAe : va_A [] s.heap.size = A at hD ⊢
  have hA : ∀ q : Nat, s.heap.size ≤ q → A q := fun q h => by rw [← hAe]; exact Or.inr h
  have hS : va_S A s.heap s.heap [] := va_S.rf
  have hl := lv_entry ([.int (nI i), .int (nI d)]) (n := 2) (Nat.le_of_ble_eq_true rfl)
  rw [lg_entry_eq]
  generalize (lg_sl ([.int (nI i), .int (nI d)]) ++ List.replicate (2 - (lg_sl ([.int (nI i), .int (nI d)])).length) Slot.unset).toArray = ls at hl ⊢
  have hl : lv_has ls 2 [(0, .int (nI i)), (1, .int (nI d))] := hl
  refine lv_sipush (v := nI 1400) hx hb dX7_buffer_0 (by decide) ?_
  refine lv_bipush (v := nI 9) hx hb dX7_buffer_3 (by decide) ?_
  refine lv_bipush (v := nI 10) hx hb dX7_buffer_5 (by decide) ?_
  refine lv_iload_n hx hb dX7_buffer_7 rfl (lv_at hl 0 rfl) ?_
  refine lv_imul hx hb dX7_buffer_8 ?_
  refine k_ti (show ((nI 10) * (nI i)) = (nI (10 * i)) from pk_mul _ _) ?_
  refine lv_iload_n hx hb dX7_buffer_9 rfl (lv_at hl 1 rfl) ?_
  refine lv_iadd hx hb dX7_buffer_10 ?_
  refine k_ti (show ((nI (10 * i)) + (nI d)) = (nI (10 * i + d)) from nI_add _ _) ?_
  refine lv_imul hx hb dX7_buffer_11 ?_
  refine k_ti (show ((nI 9) * (nI (10 * i + d))) = (nI (9 * (10 * i + d))) from pk_mul _ _) ?_
  refine lv_iadd hx hb dX7_buffer_12 ?_
  refine k_ti (show ((nI 1400) + (nI (9 * (10 * i + d)))) = (nI (1400 + 9 * (10 * i + d))) from nI_add _ _) ?_
  have hP9 := hP.sub (ws' := []) [] rfl
  have hD9 := hD.sub (ws' := []) [] rfl rfl
  exact W.iret (v := nI (1400 + 9 * (10 * i + d))) hx hb hr (fun t9 ht9 hW9 => ⟨⟨nI (1400 + 9 * (10 * i + d)), (), rfl, rfl, by rw [ht9]; exact hP9, hD9⟩, hS.F ht9⟩) hS.2.2 dX7_buffer_13

set_option maxHeartbeats 4000000 in
set_option maxRecDepth 100000 in
theorem c_X7_packet (l : Launch) (D : va_G) (cI cJ cM cG : ClassId) (q : Nat) (sz : Nat)  : Met l yX7_packet (Cond.code yX7_packet cX7_packet 1 (some .int) :: kBig) ({ frames := 0, cells := 0, slots := 0, locals := 0 }) (va_Pc [.int (nI q)] (kP D [(cI, .int), (cJ, .long), (cM, .object "MeshRouting$Message"), (cG, .array .int)] [] sz)) (va_Qi (fun (r : Int32) (_ : Unit) => r = nI (2300 + 8 * q)) (fun _ t9 => kB D (va_A [] sz) [] t9) (va_A [] sz)) 0 0 (va_A [] sz) := by
  refine Met.ofW (cc := cX7_packet) (maxL := 1) (ret := (some .int)) (by decide) rfl ?_
  intro p e s m args below meth c s₁ B hml hv
  obtain ⟨rfl, hsz, hP, hK, hD0, hKN⟩ := hv
  have hx := B.exec
  have hb := B.bytes
  have hr := B.returns
  have hts := atoms_spec (ws := (Cond.code yX7_packet cX7_packet 1 (some .int) :: kBig)) B.pre
  have hown : s.vm.findClass RX7 = some m.cls := findClass_of_methodNamed B.named
  have hlocks := B.notSynchronized
  subst hsz
  have hD := hD0.self (sz := s.heap.size)
  generalize hAe : va_A [] s.heap.size = A at hD ⊢
  have hA : ∀ q : Nat, s.heap.size ≤ q → A q := fun q h => by rw [← hAe]; exact Or.inr h
  have hS : va_S A s.heap s.heap [] := va_S.rf
  have hl := lv_entry ([.int (nI q)]) (n := 1) (Nat.le_of_ble_eq_true rfl)
  rw [lg_entry_eq]
  generalize (lg_sl ([.int (nI q)]) ++ List.replicate (1 - (lg_sl ([.int (nI q)])).length) Slot.unset).toArray = ls at hl ⊢
  have hl : lv_has ls 1 [(0, .int (nI q))] := hl
  refine lv_sipush (v := nI 2300) hx hb dX7_packet_0 (by decide) ?_
  refine lv_bipush (v := nI 8) hx hb dX7_packet_3 (by decide) ?_
  refine lv_iload_n hx hb dX7_packet_5 rfl (lv_at hl 0 rfl) ?_
  refine lv_imul hx hb dX7_packet_6 ?_
  refine k_ti (show ((nI 8) * (nI q)) = (nI (8 * q)) from pk_mul _ _) ?_
  refine lv_iadd hx hb dX7_packet_7 ?_
  refine k_ti (show ((nI 2300) + (nI (8 * q))) = (nI (2300 + 8 * q)) from nI_add _ _) ?_
  have hP9 := hP.sub (ws' := []) [] rfl
  have hD9 := hD.sub (ws' := []) [] rfl rfl
  exact W.iret (v := nI (2300 + 8 * q)) hx hb hr (fun t9 ht9 hW9 => ⟨⟨nI (2300 + 8 * q), (), rfl, rfl, by rw [ht9]; exact hP9, hD9⟩, hS.F ht9⟩) hS.2.2 dX7_packet_8

set_option maxHeartbeats 4000000 in
set_option maxRecDepth 100000 in
theorem c_X7_seenAt (l : Launch) (D : va_G) (cI cJ cM cG : ClassId) (i : Nat) (o : Nat) (a : Nat) (sz : Nat) (ha : a < 64) : Met l yX7_seenAt (Cond.code yX7_seenAt cX7_seenAt 4 (some .int) :: kBig) ({ frames := 0, cells := 0, slots := 0, locals := 0 }) (va_Pc [.int (nI i), .int (nI o), .long (lN a)] (kP D [(cI, .int), (cJ, .long), (cM, .object "MeshRouting$Message"), (cG, .array .int)] [] sz)) (va_Qi (fun (r : Int32) (_ : Unit) => r = nI (4000 + 128 * (10 * i + o))) (fun _ t9 => kB D (va_A [] sz) [] t9) (va_A [] sz)) 0 0 (va_A [] sz) := by
  refine Met.ofW (cc := cX7_seenAt) (maxL := 4) (ret := (some .int)) (by decide) rfl ?_
  intro p e s m args below meth c s₁ B hml hv
  obtain ⟨rfl, hsz, hP, hK, hD0, hKN⟩ := hv
  have hx := B.exec
  have hb := B.bytes
  have hr := B.returns
  have hts := atoms_spec (ws := (Cond.code yX7_seenAt cX7_seenAt 4 (some .int) :: kBig)) B.pre
  have hown : s.vm.findClass RX7 = some m.cls := findClass_of_methodNamed B.named
  have hlocks := B.notSynchronized
  subst hsz
  have hD := hD0.self (sz := s.heap.size)
  generalize hAe : va_A [] s.heap.size = A at hD ⊢
  have hA : ∀ q : Nat, s.heap.size ≤ q → A q := fun q h => by rw [← hAe]; exact Or.inr h
  have hS : va_S A s.heap s.heap [] := va_S.rf
  have hl := lv_entry ([.int (nI i), .int (nI o), .long (lN a)]) (n := 4) (Nat.le_of_ble_eq_true rfl)
  rw [lg_entry_eq]
  generalize (lg_sl ([.int (nI i), .int (nI o), .long (lN a)]) ++ List.replicate (4 - (lg_sl ([.int (nI i), .int (nI o), .long (lN a)])).length) Slot.unset).toArray = ls at hl ⊢
  have hl : lv_has ls 4 [(0, .int (nI i)), (1, .int (nI o)), (2, .long (lN a))] := hl
  refine lv_sipush (v := nI 4000) hx hb dX7_seenAt_0 (by decide) ?_
  refine lv_sipush (v := nI 128) hx hb dX7_seenAt_3 (by decide) ?_
  refine lv_bipush (v := nI 10) hx hb dX7_seenAt_6 (by decide) ?_
  refine lv_iload_n hx hb dX7_seenAt_8 rfl (lv_at hl 0 rfl) ?_
  refine lv_imul hx hb dX7_seenAt_9 ?_
  refine k_ti (show ((nI 10) * (nI i)) = (nI (10 * i)) from pk_mul _ _) ?_
  refine lv_iload_n hx hb dX7_seenAt_10 rfl (lv_at hl 1 rfl) ?_
  refine lv_iadd hx hb dX7_seenAt_11 ?_
  refine k_ti (show ((nI (10 * i)) + (nI o)) = (nI (10 * i + o)) from nI_add _ _) ?_
  refine lv_imul hx hb dX7_seenAt_12 ?_
  refine k_ti (show ((nI 128) * (nI (10 * i + o))) = (nI (128 * (10 * i + o))) from pk_mul _ _) ?_
  refine lv_iadd hx hb dX7_seenAt_13 ?_
  refine k_ti (show ((nI 4000) + (nI (128 * (10 * i + o)))) = (nI (4000 + 128 * (10 * i + o))) from nI_add _ _) ?_
  refine lv_lload_n hx hb dX7_seenAt_14 rfl (lv_at hl 2 rfl) ?_
  refine lv_bipush (v := nI 6) hx hb dX7_seenAt_15 (by decide) ?_
  refine lv_lshr (v := lN 0) hx hb dX7_seenAt_17 (k_sh6 a ha) ?_
  refine lv_ldc2 (v := 127) hx hb hown (by exact hts (.constantLong RX7 66 (127)) (List.mem_cons_of_mem _ q_676)) dX7_seenAt_18 ?_
  refine k_tl (show (127) = (lN 127) from by decide) ?_
  refine lv_land hx hb dX7_seenAt_21 ?_
  refine k_tl (show ((lN 0) &&& (lN 127)) = (lN 0) from k_and127) ?_
  refine lv_l2i (v := nI 0) hx hb dX7_seenAt_22 (by decide) ?_
  refine lv_iadd hx hb dX7_seenAt_23 ?_
  refine k_ti (show ((nI (4000 + 128 * (10 * i + o))) + (nI 0)) = (nI (4000 + 128 * (10 * i + o))) from nI_add _ 0) ?_
  have hP9 := hP.sub (ws' := []) [] rfl
  have hD9 := hD.sub (ws' := []) [] rfl rfl
  exact W.iret (v := nI (4000 + 128 * (10 * i + o))) hx hb hr (fun t9 ht9 hW9 => ⟨⟨nI (4000 + 128 * (10 * i + o)), (), rfl, rfl, by rw [ht9]; exact hP9, hD9⟩, hS.F ht9⟩) hS.2.2 dX7_seenAt_24

set_option maxHeartbeats 4000000 in
set_option maxRecDepth 100000 in
theorem c_X7_headOf (l : Launch) (D : va_G) (cI cJ cM cG : ClassId) (x0 : Int64) (x1 : Int64) (x2 : Int64) (x3 : Int64) (sz : Nat)  : Met l yX7_headOf (Cond.code yX7_headOf cX7_headOf 8 (some .long) :: kBig) ({ frames := 0, cells := 0, slots := 0, locals := 0 }) (va_Pc [.long x0, .long x1, .long x2, .long x3] (kP D [(cI, .int), (cJ, .long), (cM, .object "MeshRouting$Message"), (cG, .array .int)] [] sz)) (va_Ql (fun (r : Int64) (_ : Unit) => True) (fun _ t9 => kB D (va_A [] sz) [] t9) (va_A [] sz)) 0 0 (va_A [] sz) := by
  refine Met.ofW (cc := cX7_headOf) (maxL := 8) (ret := (some .long)) (by decide) rfl ?_
  intro p e s m args below meth c s₁ B hml hv
  obtain ⟨rfl, hsz, hP, hK, hD0, hKN⟩ := hv
  have hx := B.exec
  have hb := B.bytes
  have hr := B.returns
  have hts := atoms_spec (ws := (Cond.code yX7_headOf cX7_headOf 8 (some .long) :: kBig)) B.pre
  have hown : s.vm.findClass RX7 = some m.cls := findClass_of_methodNamed B.named
  have hlocks := B.notSynchronized
  subst hsz
  have hD := hD0.self (sz := s.heap.size)
  generalize hAe : va_A [] s.heap.size = A at hD ⊢
  have hA : ∀ q : Nat, s.heap.size ≤ q → A q := fun q h => by rw [← hAe]; exact Or.inr h
  have hS : va_S A s.heap s.heap [] := va_S.rf
  have hl := lv_entry ([.long x0, .long x1, .long x2, .long x3]) (n := 8) (Nat.le_of_ble_eq_true rfl)
  rw [lg_entry_eq]
  generalize (lg_sl ([.long x0, .long x1, .long x2, .long x3]) ++ List.replicate (8 - (lg_sl ([.long x0, .long x1, .long x2, .long x3])).length) Slot.unset).toArray = ls at hl ⊢
  have hl : lv_has ls 8 [(0, .long x0), (2, .long x1), (4, .long x2), (6, .long x3)] := hl
  refine lv_lload_n hx hb dX7_headOf_0 rfl (lv_at hl 0 rfl) ?_
  refine lv_bipush (v := nI 37) hx hb dX7_headOf_1 (by decide) ?_
  refine lv_lshl (v := x0 <<< ((nI 37).toInt64 &&& 63)) hx hb dX7_headOf_3 (rfl) ?_
  refine lv_lload_n hx hb dX7_headOf_4 rfl (lv_at hl 1 rfl) ?_
  refine lv_bipush (v := nI 41) hx hb dX7_headOf_5 (by decide) ?_
  refine lv_lshl (v := x1 <<< ((nI 41).toInt64 &&& 63)) hx hb dX7_headOf_7 (rfl) ?_
  refine lv_lor hx hb dX7_headOf_8 ?_
  refine lv_lload hx hb dX7_headOf_9 (lv_at hl 2 rfl) ?_
  refine lv_bipush (v := nI 45) hx hb dX7_headOf_11 (by decide) ?_
  refine lv_lshl (v := x2 <<< ((nI 45).toInt64 &&& 63)) hx hb dX7_headOf_13 (rfl) ?_
  refine lv_lor hx hb dX7_headOf_14 ?_
  refine lv_lload hx hb dX7_headOf_15 (lv_at hl 3 rfl) ?_
  refine lv_bipush (v := nI 57) hx hb dX7_headOf_17 (by decide) ?_
  refine lv_lshl (v := x3 <<< ((nI 57).toInt64 &&& 63)) hx hb dX7_headOf_19 (rfl) ?_
  refine lv_lor hx hb dX7_headOf_20 ?_
  have hP9 := hP.sub (ws' := []) [] rfl
  have hD9 := hD.sub (ws' := []) [] rfl rfl
  exact W.lret (v := (((x0 <<< ((nI 37).toInt64 &&& 63)) ||| (x1 <<< ((nI 41).toInt64 &&& 63))) ||| (x2 <<< ((nI 45).toInt64 &&& 63))) ||| (x3 <<< ((nI 57).toInt64 &&& 63))) hx hb hr (fun t9 ht9 hW9 => ⟨⟨(((x0 <<< ((nI 37).toInt64 &&& 63)) ||| (x1 <<< ((nI 41).toInt64 &&& 63))) ||| (x2 <<< ((nI 45).toInt64 &&& 63))) ||| (x3 <<< ((nI 57).toInt64 &&& 63)), (), rfl, trivial, by rw [ht9]; exact hP9, hD9⟩, hS.F ht9⟩) hS.2.2 dX7_headOf_21

set_option maxHeartbeats 4000000 in
set_option maxRecDepth 100000 in
theorem c_X7_bodyOf (l : Launch) (D : va_G) (cI cJ cM cG : ClassId) (x0 : Int64) (x1 : Int64) (x2 : Int64) (sz : Nat)  : Met l yX7_bodyOf (Cond.code yX7_bodyOf cX7_bodyOf 6 (some .long) :: kBig) ({ frames := 0, cells := 0, slots := 0, locals := 0 }) (va_Pc [.long x0, .long x1, .long x2] (kP D [(cI, .int), (cJ, .long), (cM, .object "MeshRouting$Message"), (cG, .array .int)] [] sz)) (va_Ql (fun (r : Int64) (_ : Unit) => True) (fun _ t9 => kB D (va_A [] sz) [] t9) (va_A [] sz)) 0 0 (va_A [] sz) := by
  refine Met.ofW (cc := cX7_bodyOf) (maxL := 6) (ret := (some .long)) (by decide) rfl ?_
  intro p e s m args below meth c s₁ B hml hv
  obtain ⟨rfl, hsz, hP, hK, hD0, hKN⟩ := hv
  have hx := B.exec
  have hb := B.bytes
  have hr := B.returns
  have hts := atoms_spec (ws := (Cond.code yX7_bodyOf cX7_bodyOf 6 (some .long) :: kBig)) B.pre
  have hown : s.vm.findClass RX7 = some m.cls := findClass_of_methodNamed B.named
  have hlocks := B.notSynchronized
  subst hsz
  have hD := hD0.self (sz := s.heap.size)
  generalize hAe : va_A [] s.heap.size = A at hD ⊢
  have hA : ∀ q : Nat, s.heap.size ≤ q → A q := fun q h => by rw [← hAe]; exact Or.inr h
  have hS : va_S A s.heap s.heap [] := va_S.rf
  have hl := lv_entry ([.long x0, .long x1, .long x2]) (n := 6) (Nat.le_of_ble_eq_true rfl)
  rw [lg_entry_eq]
  generalize (lg_sl ([.long x0, .long x1, .long x2]) ++ List.replicate (6 - (lg_sl ([.long x0, .long x1, .long x2])).length) Slot.unset).toArray = ls at hl ⊢
  have hl : lv_has ls 6 [(0, .long x0), (2, .long x1), (4, .long x2)] := hl
  refine lv_lload_n hx hb dX7_bodyOf_0 rfl (lv_at hl 0 rfl) ?_
  refine lv_lload_n hx hb dX7_bodyOf_1 rfl (lv_at hl 1 rfl) ?_
  refine lv_bipush (v := nI 21) hx hb dX7_bodyOf_2 (by decide) ?_
  refine lv_lshl (v := x1 <<< ((nI 21).toInt64 &&& 63)) hx hb dX7_bodyOf_4 (rfl) ?_
  refine lv_lor hx hb dX7_bodyOf_5 ?_
  refine lv_lload hx hb dX7_bodyOf_6 (lv_at hl 2 rfl) ?_
  refine lv_lconst (v := lN 1) hx hb dX7_bodyOf_8 (by decide) ?_
  refine lv_ladd hx hb dX7_bodyOf_9 ?_
  refine lv_bipush (v := nI 42) hx hb dX7_bodyOf_10 (by decide) ?_
  refine lv_lshl (v := (x2 + (lN 1)) <<< ((nI 42).toInt64 &&& 63)) hx hb dX7_bodyOf_12 (rfl) ?_
  refine lv_lor hx hb dX7_bodyOf_13 ?_
  have hP9 := hP.sub (ws' := []) [] rfl
  have hD9 := hD.sub (ws' := []) [] rfl rfl
  exact W.lret (v := (x0 ||| (x1 <<< ((nI 21).toInt64 &&& 63))) ||| ((x2 + (lN 1)) <<< ((nI 42).toInt64 &&& 63))) hx hb hr (fun t9 ht9 hW9 => ⟨⟨(x0 ||| (x1 <<< ((nI 21).toInt64 &&& 63))) ||| ((x2 + (lN 1)) <<< ((nI 42).toInt64 &&& 63)), (), rfl, trivial, by rw [ht9]; exact hP9, hD9⟩, hS.F ht9⟩) hS.2.2 dX7_bodyOf_14

set_option maxHeartbeats 4000000 in
set_option maxRecDepth 100000 in
theorem c_X7_isNode1 (l : Launch) (D : va_G) (cI cJ cM cG : ClassId) (m0 : Nat) (v : Nat) (a1 : Nat) (a2 : Nat) (ik : Int32) (th : Int32) (en : Int32) (f : Nat → Int64) (N : Nat) (j : Nat) (sz : Nat) (hf : f 1 = lN N) (hj : j < N) (hN : N ≤ 10) (hN0 : 0 < N) : Met l yX7_isNode (Cond.code yX7_isNode cX7_isNode 2 (some .boolean) :: kBig) ({ frames := 1, cells := 0, slots := 0, locals := 25 }) (va_Pc [.ref m0, .int (nI j)] (kP D [(cI, .int), (cJ, .long), (cM, .object "MeshRouting$Message"), (cG, .array .int)] [(m0, .inr (7, [.ref v, .ref a1, .ref a2, .int ik, .int th, .int en])), (v, .inl (cJ, 136800, .inr (.inl f)))] sz)) (va_Qi (fun (r : Int32) (_ : Unit) => r = nI 1) (fun _ t9 => kB D (va_A [(m0, .inr (7, [.ref v, .ref a1, .ref a2, .int ik, .int th, .int en])), (v, .inl (cJ, 136800, .inr (.inl f)))] sz) [(m0, .inr (7, [.ref v, .ref a1, .ref a2, .int ik, .int th, .int en])), (v, .inl (cJ, 136800, .inr (.inl f)))] t9) (va_A [(m0, .inr (7, [.ref v, .ref a1, .ref a2, .int ik, .int th, .int en])), (v, .inl (cJ, 136800, .inr (.inl f)))] sz)) 0 0 (va_A [(m0, .inr (7, [.ref v, .ref a1, .ref a2, .int ik, .int th, .int en])), (v, .inl (cJ, 136800, .inr (.inl f)))] sz) := by
  refine Met.ofW (cc := cX7_isNode) (maxL := 2) (ret := (some .boolean)) (by decide) rfl ?_
  intro p e s m args below meth c s₁ B hml hv
  obtain ⟨rfl, hsz, hP, hK, hD0, hKN⟩ := hv
  have hx := B.exec
  have hb := B.bytes
  have hr := B.returns
  have hts := atoms_spec (ws := (Cond.code yX7_isNode cX7_isNode 2 (some .boolean) :: kBig)) B.pre
  have hown : s.vm.findClass RX7 = some m.cls := findClass_of_methodNamed B.named
  have hlocks := B.notSynchronized
  have hin7 : ∀ w ∈ u_ws RX7 TX7 6, w ∈ (Cond.code yX7_isNode cX7_isNode 2 (some .boolean) :: kBig) := fun w h => List.mem_cons_of_mem _ (inb7 w h)
  subst hsz
  have hD := hD0.self (sz := s.heap.size)
  generalize hAe : va_A [(m0, .inr (7, [.ref v, .ref a1, .ref a2, .int ik, .int th, .int en])), (v, .inl (cJ, 136800, .inr (.inl f)))] s.heap.size = A at hD ⊢
  have hA : ∀ q : Nat, s.heap.size ≤ q → A q := fun q h => by rw [← hAe]; exact Or.inr h
  have hS : va_S A s.heap s.heap [] := va_S.rf
  have hl := lv_entry ([.ref m0, .int (nI j)]) (n := 2) (Nat.le_of_ble_eq_true rfl)
  rw [lg_entry_eq]
  generalize (lg_sl ([.ref m0, .int (nI j)]) ++ List.replicate (2 - (lg_sl ([.ref m0, .int (nI j)])).length) Slot.unset).toArray = ls at hl ⊢
  have hl : lv_has ls 2 [(0, .ref m0), (1, .int (nI j))] := hl
  refine lv_iload_n hx hb dX7_isNode_0 rfl (lv_at hl 1 rfl) ?_
  refine lv_i2l (v := lN j) hx hb dX7_isNode_1 (by exact nI_l (by omega)) ?_
  refine lv_lconst (v := lN 0) hx hb dX7_isNode_2 (by decide) ?_
  refine lv_aload_n hx hb dX7_isNode_3 rfl (lv_at hl 0 rfl) ?_
  refine va_get (D := D) (ci := 7) (v := .ref v) (C := RX7) (T := TX7) (N := 6) hx hb hts hin7 hown hK hP 0 rfl rfl 0 (by decide) (hts (.fieldLink RX7 8 "MeshRoutingModel" "v" "[J") (List.mem_cons_of_mem _ q_665)) (fun _ h9 => h9) rfl dX7_isNode_4 ?_
  refine lv_iconst (v := nI 1) hx hb dX7_isNode_7 (by decide) ?_
  refine k_lald (v := lN N) hx hb hK hP 1 1 rfl rfl (by omega) (by omega) (hf) dX7_isNode_8 ?_
  refine lv_lconst (v := lN 1) hx hb dX7_isNode_9 (by decide) ?_
  refine lv_lsub hx hb dX7_isNode_10 ?_
  refine k_tl (show ((lN N) - (lN 1)) = (lN (N - 1)) from lN_sub (by omega)) ?_
  refine k_ci (wr := [(m0, .inr (7, [.ref v, .ref a1, .ref a2, .int ik, .int th, .int en])), (v, .inl (cJ, 136800, .inr (.inl f)))]) (w1 := []) (va_runS (As := [.long (lN j), .long (lN 0), .long (lN (N - 1))]) (rest := []) ⟨hx, hb, hml, hown, hts⟩ (c_X7_in1 l D cI cJ cM cG (lN j) (lN 0) (lN (N - 1)) s.heap.size (fun q => absurd ((pk_lLT (by omega) (by omega)).mp q) (by omega)) (fun q => absurd ((pk_lLT (by omega) (by omega)).mp q) (by omega))) (va_cwS 3 hts (kB_S (fun _ => List.mem_cons_of_mem _) q_765 q_766 q_670 (kB_c q_767)) rfl rfl rfl (by decide +kernel) ⟨Nat.le_of_ble_eq_true rfl, Nat.le_of_ble_eq_true rfl⟩) (k_preS hP hD hK hKN [] rfl rfl) rfl rfl hl.1 rfl (lv_room (Nat.le_of_ble_eq_true rfl)) dX7_isNode_11 ⟨Nat.le_of_ble_eq_true rfl, Nat.le_of_ble_eq_true rfl⟩) hP hD hS hA [] [0, 1] rfl rfl rfl (by decide) (fun r11 H locs hw11 hP hD hS => ?_)
  replace hP : va_P D vwCl [(m0, .inr (7, [.ref v, .ref a1, .ref a2, .int ik, .int th, .int en])), (v, .inl (cJ, 136800, .inr (.inl f)))] H := hP
  replace hD : va_D A [(m0, .inr (7, [.ref v, .ref a1, .ref a2, .int ik, .int th, .int en])), (v, .inl (cJ, 136800, .inr (.inl f)))] := hD
  replace hw11 : r11 = nI 1 := hw11
  refine k_ti hw11 ?_
  have hP9 := hP.sub (ws' := [(m0, .inr (7, [.ref v, .ref a1, .ref a2, .int ik, .int th, .int en])), (v, .inl (cJ, 136800, .inr (.inl f)))]) [0, 1] rfl
  have hD9 := hD.sub (ws' := [(m0, .inr (7, [.ref v, .ref a1, .ref a2, .int ik, .int th, .int en])), (v, .inl (cJ, 136800, .inr (.inl f)))]) [0, 1] rfl rfl
  exact W.zret (v := nI 1) hx hb hr (by decide) (fun t9 ht9 hW9 => ⟨⟨nI 1, (), rfl, rfl, by rw [ht9]; exact hP9, hD9⟩, hS.F ht9⟩) hS.2.2 dX7_isNode_14

set_option maxHeartbeats 4000000 in
set_option maxRecDepth 100000 in
theorem c_X7_isNode0 (l : Launch) (D : va_G) (cI cJ cM cG : ClassId) (m0 : Nat) (v : Nat) (a1 : Nat) (a2 : Nat) (ik : Int32) (th : Int32) (en : Int32) (f : Nat → Int64) (N : Nat) (x : Int32) (sz : Nat) (hf : f 1 = lN N) (hbad : x < 0 ∨ nI N ≤ x) (hN : N ≤ 10) (hN0 : 0 < N) : Met l yX7_isNode (Cond.code yX7_isNode cX7_isNode 2 (some .boolean) :: kBig) ({ frames := 1, cells := 0, slots := 0, locals := 25 }) (va_Pc [.ref m0, .int x] (kP D [(cI, .int), (cJ, .long), (cM, .object "MeshRouting$Message"), (cG, .array .int)] [(m0, .inr (7, [.ref v, .ref a1, .ref a2, .int ik, .int th, .int en])), (v, .inl (cJ, 136800, .inr (.inl f)))] sz)) (va_Qi (fun (r : Int32) (_ : Unit) => r = nI 0) (fun _ t9 => kB D (va_A [(m0, .inr (7, [.ref v, .ref a1, .ref a2, .int ik, .int th, .int en])), (v, .inl (cJ, 136800, .inr (.inl f)))] sz) [(m0, .inr (7, [.ref v, .ref a1, .ref a2, .int ik, .int th, .int en])), (v, .inl (cJ, 136800, .inr (.inl f)))] t9) (va_A [(m0, .inr (7, [.ref v, .ref a1, .ref a2, .int ik, .int th, .int en])), (v, .inl (cJ, 136800, .inr (.inl f)))] sz)) 0 0 (va_A [(m0, .inr (7, [.ref v, .ref a1, .ref a2, .int ik, .int th, .int en])), (v, .inl (cJ, 136800, .inr (.inl f)))] sz) := by
  refine Met.ofW (cc := cX7_isNode) (maxL := 2) (ret := (some .boolean)) (by decide) rfl ?_
  intro p e s m args below meth c s₁ B hml hv
  obtain ⟨rfl, hsz, hP, hK, hD0, hKN⟩ := hv
  have hx := B.exec
  have hb := B.bytes
  have hr := B.returns
  have hts := atoms_spec (ws := (Cond.code yX7_isNode cX7_isNode 2 (some .boolean) :: kBig)) B.pre
  have hown : s.vm.findClass RX7 = some m.cls := findClass_of_methodNamed B.named
  have hlocks := B.notSynchronized
  have hin7 : ∀ w ∈ u_ws RX7 TX7 6, w ∈ (Cond.code yX7_isNode cX7_isNode 2 (some .boolean) :: kBig) := fun w h => List.mem_cons_of_mem _ (inb7 w h)
  subst hsz
  have hD := hD0.self (sz := s.heap.size)
  generalize hAe : va_A [(m0, .inr (7, [.ref v, .ref a1, .ref a2, .int ik, .int th, .int en])), (v, .inl (cJ, 136800, .inr (.inl f)))] s.heap.size = A at hD ⊢
  have hA : ∀ q : Nat, s.heap.size ≤ q → A q := fun q h => by rw [← hAe]; exact Or.inr h
  have hS : va_S A s.heap s.heap [] := va_S.rf
  have hl := lv_entry ([.ref m0, .int x]) (n := 2) (Nat.le_of_ble_eq_true rfl)
  rw [lg_entry_eq]
  generalize (lg_sl ([.ref m0, .int x]) ++ List.replicate (2 - (lg_sl ([.ref m0, .int x])).length) Slot.unset).toArray = ls at hl ⊢
  have hl : lv_has ls 2 [(0, .ref m0), (1, .int x)] := hl
  refine lv_iload_n hx hb dX7_isNode_0 rfl (lv_at hl 1 rfl) ?_
  refine lv_i2l (v := x.toInt64) hx hb dX7_isNode_1 (rfl) ?_
  refine lv_lconst (v := lN 0) hx hb dX7_isNode_2 (by decide) ?_
  refine lv_aload_n hx hb dX7_isNode_3 rfl (lv_at hl 0 rfl) ?_
  refine va_get (D := D) (ci := 7) (v := .ref v) (C := RX7) (T := TX7) (N := 6) hx hb hts hin7 hown hK hP 0 rfl rfl 0 (by decide) (hts (.fieldLink RX7 8 "MeshRoutingModel" "v" "[J") (List.mem_cons_of_mem _ q_665)) (fun _ h9 => h9) rfl dX7_isNode_4 ?_
  refine lv_iconst (v := nI 1) hx hb dX7_isNode_7 (by decide) ?_
  refine k_lald (v := lN N) hx hb hK hP 1 1 rfl rfl (by omega) (by omega) (hf) dX7_isNode_8 ?_
  refine lv_lconst (v := lN 1) hx hb dX7_isNode_9 (by decide) ?_
  refine lv_lsub hx hb dX7_isNode_10 ?_
  refine k_tl (show ((lN N) - (lN 1)) = (lN (N - 1)) from lN_sub (by omega)) ?_
  refine k_ci (wr := [(m0, .inr (7, [.ref v, .ref a1, .ref a2, .int ik, .int th, .int en])), (v, .inl (cJ, 136800, .inr (.inl f)))]) (w1 := []) (va_runS (As := [.long x.toInt64, .long (lN 0), .long (lN (N - 1))]) (rest := []) ⟨hx, hb, hml, hown, hts⟩ (c_X7_in0 l D cI cJ cM cG x.toInt64 (lN 0) (lN (N - 1)) s.heap.size (hbad.imp k_i2l_lt (fun q => k_i2l_ge (by omega) q hN0))) (va_cwS 3 hts (kB_S (fun _ => List.mem_cons_of_mem _) q_765 q_766 q_670 (kB_c q_767)) rfl rfl rfl (by decide +kernel) ⟨Nat.le_of_ble_eq_true rfl, Nat.le_of_ble_eq_true rfl⟩) (k_preS hP hD hK hKN [] rfl rfl) rfl rfl hl.1 rfl (lv_room (Nat.le_of_ble_eq_true rfl)) dX7_isNode_11 ⟨Nat.le_of_ble_eq_true rfl, Nat.le_of_ble_eq_true rfl⟩) hP hD hS hA [] [0, 1] rfl rfl rfl (by decide) (fun r11 H locs hw11 hP hD hS => ?_)
  replace hP : va_P D vwCl [(m0, .inr (7, [.ref v, .ref a1, .ref a2, .int ik, .int th, .int en])), (v, .inl (cJ, 136800, .inr (.inl f)))] H := hP
  replace hD : va_D A [(m0, .inr (7, [.ref v, .ref a1, .ref a2, .int ik, .int th, .int en])), (v, .inl (cJ, 136800, .inr (.inl f)))] := hD
  replace hw11 : r11 = nI 0 := hw11
  refine k_ti hw11 ?_
  have hP9 := hP.sub (ws' := [(m0, .inr (7, [.ref v, .ref a1, .ref a2, .int ik, .int th, .int en])), (v, .inl (cJ, 136800, .inr (.inl f)))]) [0, 1] rfl
  have hD9 := hD.sub (ws' := [(m0, .inr (7, [.ref v, .ref a1, .ref a2, .int ik, .int th, .int en])), (v, .inl (cJ, 136800, .inr (.inl f)))]) [0, 1] rfl rfl
  exact W.zret (v := nI 0) hx hb hr (by decide) (fun t9 ht9 hW9 => ⟨⟨nI 0, (), rfl, rfl, by rw [ht9]; exact hP9, hD9⟩, hS.F ht9⟩) hS.2.2 dX7_isNode_14

set_option maxHeartbeats 4000000 in
set_option maxRecDepth 100000 in
theorem c_X7_fails (l : Launch) (D : va_G) (cI cJ cM cG : ClassId) (m0 : Nat) (v : Nat) (a1 : Nat) (a2 : Nat) (ik : Int32) (th : Int32) (en : Int32) (f : Nat → Int64) (z : Int32) (sz : Nat)  : Met l yX7_fails (Cond.code yX7_fails cX7_fails 2 (some .int) :: kBig) ({ frames := 0, cells := 0, slots := 0, locals := 0 }) (va_Pc [.ref m0, .int z] (kP D [(cI, .int), (cJ, .long), (cM, .object "MeshRouting$Message"), (cG, .array .int)] [(m0, .inr (7, [.ref v, .ref a1, .ref a2, .int ik, .int th, .int en])), (v, .inl (cJ, 136800, .inr (.inl f)))] sz)) (va_Qi (fun (r : Int32) (_ : Unit) => r = nI 0) (fun _ t9 => kB D (va_A [(m0, .inr (7, [.ref v, .ref a1, .ref a2, .int ik, .int th, .int en])), (v, .inl (cJ, 136800, .inr (.inl f)))] sz) [(m0, .inr (7, [.ref v, .ref a1, .ref a2, .int ik, .int z, .int en])), (v, .inl (cJ, 136800, .inr (.inl f)))] t9) (va_A [(m0, .inr (7, [.ref v, .ref a1, .ref a2, .int ik, .int th, .int en])), (v, .inl (cJ, 136800, .inr (.inl f)))] sz)) 0 0 (va_A [(m0, .inr (7, [.ref v, .ref a1, .ref a2, .int ik, .int th, .int en])), (v, .inl (cJ, 136800, .inr (.inl f)))] sz) := by
  refine Met.ofW (cc := cX7_fails) (maxL := 2) (ret := (some .int)) (by decide) rfl ?_
  intro p e s m args below meth c s₁ B hml hv
  obtain ⟨rfl, hsz, hP, hK, hD0, hKN⟩ := hv
  have hx := B.exec
  have hb := B.bytes
  have hr := B.returns
  have hts := atoms_spec (ws := (Cond.code yX7_fails cX7_fails 2 (some .int) :: kBig)) B.pre
  have hown : s.vm.findClass RX7 = some m.cls := findClass_of_methodNamed B.named
  have hlocks := B.notSynchronized
  have hin7 : ∀ w ∈ u_ws RX7 TX7 6, w ∈ (Cond.code yX7_fails cX7_fails 2 (some .int) :: kBig) := fun w h => List.mem_cons_of_mem _ (inb7 w h)
  subst hsz
  have hD := hD0.self (sz := s.heap.size)
  generalize hAe : va_A [(m0, .inr (7, [.ref v, .ref a1, .ref a2, .int ik, .int th, .int en])), (v, .inl (cJ, 136800, .inr (.inl f)))] s.heap.size = A at hD ⊢
  have hA : ∀ q : Nat, s.heap.size ≤ q → A q := fun q h => by rw [← hAe]; exact Or.inr h
  have hS : va_S A s.heap s.heap [] := va_S.rf
  have hl := lv_entry ([.ref m0, .int z]) (n := 2) (Nat.le_of_ble_eq_true rfl)
  rw [lg_entry_eq]
  generalize (lg_sl ([.ref m0, .int z]) ++ List.replicate (2 - (lg_sl ([.ref m0, .int z])).length) Slot.unset).toArray = ls at hl ⊢
  have hl : lv_has ls 2 [(0, .ref m0), (1, .int z)] := hl
  refine lv_aload_n hx hb dX7_fails_0 rfl (lv_at hl 0 rfl) ?_
  refine lv_iload_n hx hb dX7_fails_1 rfl (lv_at hl 1 rfl) ?_
  refine va_put (D := D) (ci := 7) (v := .int z) (ty := .int) (C := RX7) (T := TX7) (N := 6) hx hb hts hin7 tyX7 tyX7_ok nmX7 hown hK hP hD hS 0 rfl rfl 4 (by decide) (hts (.fieldLink RX7 34 "MeshRoutingModel" "thrown" "I") (List.mem_cons_of_mem _ q_760)) (fun _ h9 => h9) rfl (by decide +kernel) rfl rfl (Nat.le_of_ble_eq_true rfl) dX7_fails_2 (fun H locs hP hD hS => ?_)
  replace hP : va_P D vwCl [(m0, .inr (7, [.ref v, .ref a1, .ref a2, .int ik, .int z, .int en])), (v, .inl (cJ, 136800, .inr (.inl f)))] H := hP
  replace hD : va_D A [(m0, .inr (7, [.ref v, .ref a1, .ref a2, .int ik, .int z, .int en])), (v, .inl (cJ, 136800, .inr (.inl f)))] := hD
  refine lv_iconst (v := nI 0) hx hb dX7_fails_5 (by decide) ?_
  have hP9 := hP.sub (ws' := [(m0, .inr (7, [.ref v, .ref a1, .ref a2, .int ik, .int z, .int en])), (v, .inl (cJ, 136800, .inr (.inl f)))]) [0, 1] rfl
  have hD9 := hD.sub (ws' := [(m0, .inr (7, [.ref v, .ref a1, .ref a2, .int ik, .int z, .int en])), (v, .inl (cJ, 136800, .inr (.inl f)))]) [0, 1] rfl rfl
  exact W.iret (v := nI 0) hx hb hr (fun t9 ht9 hW9 => ⟨⟨nI 0, (), rfl, rfl, by rw [ht9]; exact hP9, hD9⟩, hS.F ht9⟩) hS.2.2 dX7_fails_6

set_option maxHeartbeats 4000000 in
set_option maxRecDepth 100000 in
theorem c_X7_isUp (l : Launch) (D : va_G) (cI cJ cM cG : ClassId) (m0 : Nat) (v : Nat) (a1 : Nat) (a2 : Nat) (ik : Int32) (th : Int32) (en : Int32) (f : Nat → Int64) (a : Nat) (b : Nat) (sz : Nat) (ha : a < 10) (hb9 : b < 10) (hf : ∀ j, 100 ≤ j → j < 200 → f j = lN 0) : Met l yX7_isUp (Cond.code yX7_isUp cX7_isUp 3 (some .boolean) :: kBig) ({ frames := 0, cells := 0, slots := 0, locals := 0 }) (va_Pc [.ref m0, .int (nI a), .int (nI b)] (kP D [(cI, .int), (cJ, .long), (cM, .object "MeshRouting$Message"), (cG, .array .int)] [(m0, .inr (7, [.ref v, .ref a1, .ref a2, .int ik, .int th, .int en])), (v, .inl (cJ, 136800, .inr (.inl f)))] sz)) (va_Qi (fun (r : Int32) (_ : Unit) => r = nI 0) (fun _ t9 => kB D (va_A [(m0, .inr (7, [.ref v, .ref a1, .ref a2, .int ik, .int th, .int en])), (v, .inl (cJ, 136800, .inr (.inl f)))] sz) [(m0, .inr (7, [.ref v, .ref a1, .ref a2, .int ik, .int th, .int en])), (v, .inl (cJ, 136800, .inr (.inl f)))] t9) (va_A [(m0, .inr (7, [.ref v, .ref a1, .ref a2, .int ik, .int th, .int en])), (v, .inl (cJ, 136800, .inr (.inl f)))] sz)) 0 0 (va_A [(m0, .inr (7, [.ref v, .ref a1, .ref a2, .int ik, .int th, .int en])), (v, .inl (cJ, 136800, .inr (.inl f)))] sz) := by
  refine Met.ofW (cc := cX7_isUp) (maxL := 3) (ret := (some .boolean)) (by decide) rfl ?_
  intro p e s m args below meth c s₁ B hml hv
  obtain ⟨rfl, hsz, hP, hK, hD0, hKN⟩ := hv
  have hx := B.exec
  have hb := B.bytes
  have hr := B.returns
  have hts := atoms_spec (ws := (Cond.code yX7_isUp cX7_isUp 3 (some .boolean) :: kBig)) B.pre
  have hown : s.vm.findClass RX7 = some m.cls := findClass_of_methodNamed B.named
  have hlocks := B.notSynchronized
  have hin7 : ∀ w ∈ u_ws RX7 TX7 6, w ∈ (Cond.code yX7_isUp cX7_isUp 3 (some .boolean) :: kBig) := fun w h => List.mem_cons_of_mem _ (inb7 w h)
  subst hsz
  have hD := hD0.self (sz := s.heap.size)
  generalize hAe : va_A [(m0, .inr (7, [.ref v, .ref a1, .ref a2, .int ik, .int th, .int en])), (v, .inl (cJ, 136800, .inr (.inl f)))] s.heap.size = A at hD ⊢
  have hA : ∀ q : Nat, s.heap.size ≤ q → A q := fun q h => by rw [← hAe]; exact Or.inr h
  have hS : va_S A s.heap s.heap [] := va_S.rf
  have hl := lv_entry ([.ref m0, .int (nI a), .int (nI b)]) (n := 3) (Nat.le_of_ble_eq_true rfl)
  rw [lg_entry_eq]
  generalize (lg_sl ([.ref m0, .int (nI a), .int (nI b)]) ++ List.replicate (3 - (lg_sl ([.ref m0, .int (nI a), .int (nI b)])).length) Slot.unset).toArray = ls at hl ⊢
  have hl : lv_has ls 3 [(0, .ref m0), (1, .int (nI a)), (2, .int (nI b))] := hl
  refine lv_aload_n hx hb dX7_isUp_0 rfl (lv_at hl 0 rfl) ?_
  refine va_get (D := D) (ci := 7) (v := .ref v) (C := RX7) (T := TX7) (N := 6) hx hb hts hin7 hown hK hP 0 rfl rfl 0 (by decide) (hts (.fieldLink RX7 8 "MeshRoutingModel" "v" "[J") (List.mem_cons_of_mem _ q_665)) (fun _ h9 => h9) rfl dX7_isUp_1 ?_
  refine lv_bipush (v := nI 100) hx hb dX7_isUp_4 (by decide) ?_
  refine lv_bipush (v := nI 10) hx hb dX7_isUp_6 (by decide) ?_
  refine lv_iload_n hx hb dX7_isUp_8 rfl (lv_at hl 1 rfl) ?_
  refine lv_imul hx hb dX7_isUp_9 ?_
  refine k_ti (show ((nI 10) * (nI a)) = (nI (10 * a)) from pk_mul _ _) ?_
  refine lv_iadd hx hb dX7_isUp_10 ?_
  refine k_ti (show ((nI 100) + (nI (10 * a))) = (nI (100 + 10 * a)) from nI_add _ _) ?_
  refine lv_iload_n hx hb dX7_isUp_11 rfl (lv_at hl 2 rfl) ?_
  refine lv_iadd hx hb dX7_isUp_12 ?_
  refine k_ti (show ((nI (100 + 10 * a)) + (nI b)) = (nI (100 + 10 * a + b)) from nI_add _ _) ?_
  refine k_lald (v := lN 0) hx hb hK hP 1 1 rfl rfl (by omega) (by omega) ((hf _ (by omega) (by omega))) dX7_isUp_13 ?_
  refine lv_lconst (v := lN 0) hx hb dX7_isUp_14 (by decide) ?_
  refine W.lcmp hx hb dX7_isUp_15 ?_
  refine k_lif_le (tgt := 23) hx hb dX7_isUp_16 (by decide) (by omega) (by omega) (fun _ => ?_) (fun h9 => absurd h9 (by omega))
  refine lv_iconst (v := nI 0) hx hb dX7_isUp_23 (by decide) ?_
  have hP9 := hP.sub (ws' := [(m0, .inr (7, [.ref v, .ref a1, .ref a2, .int ik, .int th, .int en])), (v, .inl (cJ, 136800, .inr (.inl f)))]) [0, 1] rfl
  have hD9 := hD.sub (ws' := [(m0, .inr (7, [.ref v, .ref a1, .ref a2, .int ik, .int th, .int en])), (v, .inl (cJ, 136800, .inr (.inl f)))]) [0, 1] rfl rfl
  exact W.zret (v := nI 0) hx hb hr (by decide) (fun t9 ht9 hW9 => ⟨⟨nI 0, (), rfl, rfl, by rw [ht9]; exact hP9, hD9⟩, hS.F ht9⟩) hS.2.2 dX7_isUp_24

set_option maxHeartbeats 4000000 in
set_option maxRecDepth 100000 in
theorem c_X7_isGood (l : Launch) (D : va_G) (cI cJ cM cG : ClassId) (m0 : Nat) (v : Nat) (a1 : Nat) (a2 : Nat) (ik : Int32) (th : Int32) (en : Int32) (f : Nat → Int64) (i : Nat) (d : Nat) (sz : Nat) (hi9 : i < 10) (hd : d < 10) (hf : ∀ j, 200 ≤ j → j < 1000 → f j = lN 0) : Met l yX7_isGood (Cond.code yX7_isGood cX7_isGood 4 (some .boolean) :: kBig) ({ frames := 1, cells := 0, slots := 0, locals := 21 }) (va_Pc [.ref m0, .int (nI i), .int (nI d)] (kP D [(cI, .int), (cJ, .long), (cM, .object "MeshRouting$Message"), (cG, .array .int)] [(m0, .inr (7, [.ref v, .ref a1, .ref a2, .int ik, .int th, .int en])), (v, .inl (cJ, 136800, .inr (.inl f)))] sz)) (va_Qi (fun (r : Int32) (_ : Unit) => r = nI 0) (fun _ t9 => kB D (va_A [(m0, .inr (7, [.ref v, .ref a1, .ref a2, .int ik, .int th, .int en])), (v, .inl (cJ, 136800, .inr (.inl f)))] sz) [(m0, .inr (7, [.ref v, .ref a1, .ref a2, .int ik, .int th, .int en])), (v, .inl (cJ, 136800, .inr (.inl f)))] t9) (va_A [(m0, .inr (7, [.ref v, .ref a1, .ref a2, .int ik, .int th, .int en])), (v, .inl (cJ, 136800, .inr (.inl f)))] sz)) 0 0 (va_A [(m0, .inr (7, [.ref v, .ref a1, .ref a2, .int ik, .int th, .int en])), (v, .inl (cJ, 136800, .inr (.inl f)))] sz) := by
  refine Met.ofW (cc := cX7_isGood) (maxL := 4) (ret := (some .boolean)) (by decide) rfl ?_
  intro p e s m args below meth c s₁ B hml hv
  obtain ⟨rfl, hsz, hP, hK, hD0, hKN⟩ := hv
  have hx := B.exec
  have hb := B.bytes
  have hr := B.returns
  have hts := atoms_spec (ws := (Cond.code yX7_isGood cX7_isGood 4 (some .boolean) :: kBig)) B.pre
  have hown : s.vm.findClass RX7 = some m.cls := findClass_of_methodNamed B.named
  have hlocks := B.notSynchronized
  have hin7 : ∀ w ∈ u_ws RX7 TX7 6, w ∈ (Cond.code yX7_isGood cX7_isGood 4 (some .boolean) :: kBig) := fun w h => List.mem_cons_of_mem _ (inb7 w h)
  subst hsz
  have hD := hD0.self (sz := s.heap.size)
  generalize hAe : va_A [(m0, .inr (7, [.ref v, .ref a1, .ref a2, .int ik, .int th, .int en])), (v, .inl (cJ, 136800, .inr (.inl f)))] s.heap.size = A at hD ⊢
  have hA : ∀ q : Nat, s.heap.size ≤ q → A q := fun q h => by rw [← hAe]; exact Or.inr h
  have hS : va_S A s.heap s.heap [] := va_S.rf
  have hl := lv_entry ([.ref m0, .int (nI i), .int (nI d)]) (n := 4) (Nat.le_of_ble_eq_true rfl)
  rw [lg_entry_eq]
  generalize (lg_sl ([.ref m0, .int (nI i), .int (nI d)]) ++ List.replicate (4 - (lg_sl ([.ref m0, .int (nI i), .int (nI d)])).length) Slot.unset).toArray = ls at hl ⊢
  have hl : lv_has ls 4 [(0, .ref m0), (1, .int (nI i)), (2, .int (nI d))] := hl
  refine lv_iload_n hx hb dX7_isGood_0 rfl (lv_at hl 1 rfl) ?_
  refine lv_iload_n hx hb dX7_isGood_1 rfl (lv_at hl 2 rfl) ?_
  refine k_ci (wr := [(m0, .inr (7, [.ref v, .ref a1, .ref a2, .int ik, .int th, .int en])), (v, .inl (cJ, 136800, .inr (.inl f)))]) (w1 := []) (va_runS (As := [.int (nI i), .int (nI d)]) (rest := []) ⟨hx, hb, hml, hown, hts⟩ (c_X7_entry l D cI cJ cM cG i d s.heap.size) (va_cwS 2 hts (kB_S (fun _ => List.mem_cons_of_mem _) q_681 q_682 q_670 (kB_c q_683)) rfl rfl rfl (by decide +kernel) ⟨Nat.le_of_ble_eq_true rfl, Nat.le_of_ble_eq_true rfl⟩) (k_preS hP hD hK hKN [] rfl rfl) rfl rfl hl.1 rfl (lv_room (Nat.le_of_ble_eq_true rfl)) dX7_isGood_2 ⟨Nat.le_of_ble_eq_true rfl, Nat.le_of_ble_eq_true rfl⟩) hP hD hS hA [] [0, 1] rfl rfl rfl (by decide) (fun r2 H locs hw2 hP hD hS => ?_)
  replace hP : va_P D vwCl [(m0, .inr (7, [.ref v, .ref a1, .ref a2, .int ik, .int th, .int en])), (v, .inl (cJ, 136800, .inr (.inl f)))] H := hP
  replace hD : va_D A [(m0, .inr (7, [.ref v, .ref a1, .ref a2, .int ik, .int th, .int en])), (v, .inl (cJ, 136800, .inr (.inl f)))] := hD
  replace hw2 : r2 = nI (200 + 8 * (10 * i + d)) := hw2
  refine k_ti hw2 ?_
  refine lv_istore_n (lv' := [(3, .int (nI (200 + 8 * (10 * i + d)))), (0, .ref m0), (1, .int (nI i)), (2, .int (nI d))]) hx hb dX7_isGood_5 rfl hl (by decide) rfl (fun ls hl => ?_)
  refine lv_iload_n hx hb dX7_isGood_6 rfl (lv_at hl 2 rfl) ?_
  refine lv_iload_n hx hb dX7_isGood_7 rfl (lv_at hl 3 rfl) ?_
  refine k_icmp_eq (tgt := 60) hx hb dX7_isGood_8 (by decide) (by omega) (by omega) (fun hid => ?_) (fun hid => ?_)
  · refine lv_iconst (v := nI 0) hx hb dX7_isGood_60 (by decide) ?_
    have hP9 := hP.sub (ws' := [(m0, .inr (7, [.ref v, .ref a1, .ref a2, .int ik, .int th, .int en])), (v, .inl (cJ, 136800, .inr (.inl f)))]) [0, 1] rfl
    have hD9 := hD.sub (ws' := [(m0, .inr (7, [.ref v, .ref a1, .ref a2, .int ik, .int th, .int en])), (v, .inl (cJ, 136800, .inr (.inl f)))]) [0, 1] rfl rfl
    exact W.zret (v := nI 0) hx hb hr (by decide) (fun t9 ht9 hW9 => ⟨⟨nI 0, (), rfl, rfl, by rw [ht9]; exact hP9, hD9⟩, hS.F ht9⟩) hS.2.2 dX7_isGood_61
  · refine lv_aload_n hx hb dX7_isGood_11 rfl (lv_at hl 1 rfl) ?_
    refine va_get (D := D) (ci := 7) (v := .ref v) (C := RX7) (T := TX7) (N := 6) hx hb hts hin7 hown hK hP 0 rfl rfl 0 (by decide) (hts (.fieldLink RX7 8 "MeshRoutingModel" "v" "[J") (List.mem_cons_of_mem _ q_665)) (fun _ h9 => h9) rfl dX7_isGood_12 ?_
    refine lv_iload_n hx hb dX7_isGood_15 rfl (lv_at hl 0 rfl) ?_
    refine lv_iconst (v := nI 0) hx hb dX7_isGood_16 (by decide) ?_
    refine lv_iadd hx hb dX7_isGood_17 ?_
    refine k_ti (show ((nI (200 + 8 * (10 * i + d))) + (nI 0)) = (nI (200 + 8 * (10 * i + d) + 0)) from nI_add _ _) ?_
    refine k_lald (v := lN 0) hx hb hK hP 1 1 rfl rfl (by omega) (by omega) ((hf _ (by omega) (by omega))) dX7_isGood_18 ?_
    refine lv_lconst (v := lN 1) hx hb dX7_isGood_19 (by decide) ?_
    refine W.lcmp hx hb dX7_isGood_20 ?_
    refine k_lif_ne (tgt := 60) hx hb dX7_isGood_21 (by decide) (by omega) (by omega) (fun _ => ?_) (fun h9 => absurd h9 (by omega))
    refine lv_iconst (v := nI 0) hx hb dX7_isGood_60 (by decide) ?_
    have hP9 := hP.sub (ws' := [(m0, .inr (7, [.ref v, .ref a1, .ref a2, .int ik, .int th, .int en])), (v, .inl (cJ, 136800, .inr (.inl f)))]) [0, 1] rfl
    have hD9 := hD.sub (ws' := [(m0, .inr (7, [.ref v, .ref a1, .ref a2, .int ik, .int th, .int en])), (v, .inl (cJ, 136800, .inr (.inl f)))]) [0, 1] rfl rfl
    exact W.zret (v := nI 0) hx hb hr (by decide) (fun t9 ht9 hW9 => ⟨⟨nI 0, (), rfl, rfl, by rw [ht9]; exact hP9, hD9⟩, hS.F ht9⟩) hS.2.2 dX7_isGood_61

set_option maxHeartbeats 4000000 in
set_option maxRecDepth 100000 in
theorem c_X7_nextArrival (l : Launch) (D : va_G) (cI cJ cM cG : ClassId) (m0 : Nat) (v : Nat) (a1 : Nat) (a2 : Nat) (ik : Int32) (th : Int32) (en : Int32) (f : Nat → Int64) (t : Nat) (sz : Nat) (h0 : f 0 = lN t) (ht : t < 2 ^ 40) (hf : ∀ j, 20 ≤ j → j < 40 → f j = -1) : Met l yX7_nextArrival (Cond.code yX7_nextArrival cX7_nextArrival 2 (some .long) :: kBig) ({ frames := 0, cells := 0, slots := 0, locals := 0 }) (va_Pc [.ref m0] (kP D [(cI, .int), (cJ, .long), (cM, .object "MeshRouting$Message"), (cG, .array .int)] [(m0, .inr (7, [.ref v, .ref a1, .ref a2, .int ik, .int th, .int en])), (v, .inl (cJ, 136800, .inr (.inl f)))] sz)) (va_Ql (fun (r : Int64) (_ : Unit) => r = (-1)) (fun _ t9 => kB D (va_A [(m0, .inr (7, [.ref v, .ref a1, .ref a2, .int ik, .int th, .int en])), (v, .inl (cJ, 136800, .inr (.inl f)))] sz) [(m0, .inr (7, [.ref v, .ref a1, .ref a2, .int ik, .int th, .int en])), (v, .inl (cJ, 136800, .inr (.inl f)))] t9) (va_A [(m0, .inr (7, [.ref v, .ref a1, .ref a2, .int ik, .int th, .int en])), (v, .inl (cJ, 136800, .inr (.inl f)))] sz)) 0 0 (va_A [(m0, .inr (7, [.ref v, .ref a1, .ref a2, .int ik, .int th, .int en])), (v, .inl (cJ, 136800, .inr (.inl f)))] sz) := by
  refine Met.ofW (cc := cX7_nextArrival) (maxL := 2) (ret := (some .long)) (by decide) rfl ?_
  intro p e s m args below meth c s₁ B hml hv
  obtain ⟨rfl, hsz, hP, hK, hD0, hKN⟩ := hv
  have hx := B.exec
  have hb := B.bytes
  have hr := B.returns
  have hts := atoms_spec (ws := (Cond.code yX7_nextArrival cX7_nextArrival 2 (some .long) :: kBig)) B.pre
  have hown : s.vm.findClass RX7 = some m.cls := findClass_of_methodNamed B.named
  have hlocks := B.notSynchronized
  have hin7 : ∀ w ∈ u_ws RX7 TX7 6, w ∈ (Cond.code yX7_nextArrival cX7_nextArrival 2 (some .long) :: kBig) := fun w h => List.mem_cons_of_mem _ (inb7 w h)
  subst hsz
  have hD := hD0.self (sz := s.heap.size)
  generalize hAe : va_A [(m0, .inr (7, [.ref v, .ref a1, .ref a2, .int ik, .int th, .int en])), (v, .inl (cJ, 136800, .inr (.inl f)))] s.heap.size = A at hD ⊢
  have hA : ∀ q : Nat, s.heap.size ≤ q → A q := fun q h => by rw [← hAe]; exact Or.inr h
  have hS : va_S A s.heap s.heap [] := va_S.rf
  have hl := lv_entry ([.ref m0]) (n := 2) (Nat.le_of_ble_eq_true rfl)
  rw [lg_entry_eq]
  generalize (lg_sl ([.ref m0]) ++ List.replicate (2 - (lg_sl ([.ref m0])).length) Slot.unset).toArray = ls at hl ⊢
  have hl : lv_has ls 2 [(0, .ref m0)] := hl
  refine lv_iconst (v := nI 0) hx hb dX7_nextArrival_0 (by decide) ?_
  refine lv_istore_n (lv' := [(1, .int (nI 0)), (0, .ref m0)]) hx hb dX7_nextArrival_1 rfl hl (by decide) rfl (fun ls hl => ?_)
  refine k_loop (nL := 2) (wf := fun k => [(m0, .inr (7, [.ref v, .ref a1, .ref a2, .int ik, .int th, .int en])), (v, .inl (cJ, 136800, .inr (.inl f)))]) (lvf := fun k => [(0, .ref m0), (1, .int (nI k))]) (B := 10) 0 (Nat.zero_le _) hP hD hS (lv_sub hl [1, 0] rfl) (fun H locs ls hP hD hS hl => ?_) (fun k hk9 hk ih H locs ls hP hD hS hl => ?_)
  · replace hP : va_P D vwCl [(m0, .inr (7, [.ref v, .ref a1, .ref a2, .int ik, .int th, .int en])), (v, .inl (cJ, 136800, .inr (.inl f)))] H := hP
    replace hD : va_D A [(m0, .inr (7, [.ref v, .ref a1, .ref a2, .int ik, .int th, .int en])), (v, .inl (cJ, 136800, .inr (.inl f)))] := hD
    replace hl : lv_has ls 2 [(0, .ref m0), (1, .int (nI 10))] := hl
    refine lv_iload_n hx hb dX7_nextArrival_2 rfl (lv_at hl 1 rfl) ?_
    refine lv_bipush (v := nI 10) hx hb dX7_nextArrival_3 (by decide) ?_
    refine k_icmp_ge (tgt := 53) hx hb dX7_nextArrival_5 (by decide) (by omega) (by omega) (fun _ => ?_) (fun h9 => absurd h9 (by omega))
    refine lv_ldc2 (v := -1) hx hb hown (by exact hts (.constantLong RX7 24 (-1)) (List.mem_cons_of_mem _ q_666)) dX7_nextArrival_53 ?_
    refine k_tl (show (-1) = ((-1)) from by decide) ?_
    have hP9 := hP.sub (ws' := [(m0, .inr (7, [.ref v, .ref a1, .ref a2, .int ik, .int th, .int en])), (v, .inl (cJ, 136800, .inr (.inl f)))]) [0, 1] rfl
    have hD9 := hD.sub (ws' := [(m0, .inr (7, [.ref v, .ref a1, .ref a2, .int ik, .int th, .int en])), (v, .inl (cJ, 136800, .inr (.inl f)))]) [0, 1] rfl rfl
    exact W.lret (v := (-1)) hx hb hr (fun t9 ht9 hW9 => ⟨⟨(-1), (), rfl, rfl, by rw [ht9]; exact hP9, hD9⟩, hS.F ht9⟩) hS.2.2 dX7_nextArrival_56
  · replace hP : va_P D vwCl [(m0, .inr (7, [.ref v, .ref a1, .ref a2, .int ik, .int th, .int en])), (v, .inl (cJ, 136800, .inr (.inl f)))] H := hP
    replace hD : va_D A [(m0, .inr (7, [.ref v, .ref a1, .ref a2, .int ik, .int th, .int en])), (v, .inl (cJ, 136800, .inr (.inl f)))] := hD
    replace hl : lv_has ls 2 [(0, .ref m0), (1, .int (nI k))] := hl
    refine lv_iload_n hx hb dX7_nextArrival_2 rfl (lv_at hl 1 rfl) ?_
    refine lv_bipush (v := nI 10) hx hb dX7_nextArrival_3 (by decide) ?_
    refine k_icmp_ge (tgt := 53) hx hb dX7_nextArrival_5 (by decide) (by omega) (by omega) (fun h9 => absurd h9 (by omega)) (fun _ => ?_)
    refine lv_aload_n hx hb dX7_nextArrival_8 rfl (lv_at hl 0 rfl) ?_
    refine va_get (D := D) (ci := 7) (v := .ref v) (C := RX7) (T := TX7) (N := 6) hx hb hts hin7 hown hK hP 0 rfl rfl 0 (by decide) (hts (.fieldLink RX7 8 "MeshRoutingModel" "v" "[J") (List.mem_cons_of_mem _ q_665)) (fun _ h9 => h9) rfl dX7_nextArrival_9 ?_
    refine lv_bipush (v := nI 20) hx hb dX7_nextArrival_12 (by decide) ?_
    refine lv_aload_n hx hb dX7_nextArrival_14 rfl (lv_at hl 0 rfl) ?_
    refine va_get (D := D) (ci := 7) (v := .ref v) (C := RX7) (T := TX7) (N := 6) hx hb hts hin7 hown hK hP 0 rfl rfl 0 (by decide) (hts (.fieldLink RX7 8 "MeshRoutingModel" "v" "[J") (List.mem_cons_of_mem _ q_665)) (fun _ h9 => h9) rfl dX7_nextArrival_15 ?_
    refine lv_iconst (v := nI 0) hx hb dX7_nextArrival_18 (by decide) ?_
    refine k_lald (v := lN t) hx hb hK hP 1 1 rfl rfl (by omega) (by omega) (h0) dX7_nextArrival_19 ?_
    refine lv_iload_n hx hb dX7_nextArrival_20 rfl (lv_at hl 1 rfl) ?_
    refine lv_i2l (v := lN k) hx hb dX7_nextArrival_21 (by exact nI_l (by omega)) ?_
    refine lv_ladd hx hb dX7_nextArrival_22 ?_
    refine k_tl (show ((lN t) + (lN k)) = (lN (t + k)) from lN_add _ _) ?_
    refine lv_ldc2 (v := 10) hx hb hown (by exact hts (.constantLong RX7 22 (10)) (List.mem_cons_of_mem _ q_702)) dX7_nextArrival_23 ?_
    refine k_tl (show (10) = (lN 10) from by decide) ?_
    refine lv_lrem hx hb dX7_nextArrival_26 (by decide) ?_
    refine k_tl (show ((lN (t + k)) - (lN (t + k)) / (lN 10) * (lN 10)) = (lN ((t + k) % 10)) from pk_lRem (by omega) (by omega) (by omega)) ?_
    refine lv_l2i (v := nI ((t + k) % 10)) hx hb dX7_nextArrival_27 (lN_i _) ?_
    refine lv_iadd hx hb dX7_nextArrival_28 ?_
    refine k_ti (show ((nI 20) + (nI ((t + k) % 10))) = (nI (20 + (t + k) % 10)) from nI_add _ _) ?_
    refine k_lald (v := (-1)) hx hb hK hP 1 1 rfl rfl (by omega) (by omega) (hf _ (by omega) (by omega)) dX7_nextArrival_29 ?_
    refine lv_ldc2 (v := -1) hx hb hown (by exact hts (.constantLong RX7 24 (-1)) (List.mem_cons_of_mem _ q_666)) dX7_nextArrival_30 ?_
    refine k_tl (show (-1) = ((-1)) from by decide) ?_
    refine W.lcmp hx hb dX7_nextArrival_33 ?_
    refine lv_if_eq (tgt := 47) hx hb dX7_nextArrival_34 (by decide) (fun _ => ?_) (fun h9 => absurd (by decide) h9)
    refine lv_iinc (v := nI (k + 1)) (lv' := [(1, .int (nI (k + 1))), (0, .ref m0)]) hx hb dX7_nextArrival_47 hl (k := 1) rfl (by exact nI_add k 1) (by decide) rfl (fun ls hl => ?_)
    refine lv_goto (tgt := 2) hx hb dX7_nextArrival_50 (by decide) ?_
    exact ih _ _ _ hP hD hS (lv_sub hl [1, 0] rfl)

set_option maxHeartbeats 4000000 in
set_option maxRecDepth 100000 in
theorem c_X7_remembers (l : Launch) (D : va_G) (cI cJ cM cG : ClassId) (m0 : Nat) (v : Nat) (a1 : Nat) (a2 : Nat) (ik : Int32) (th : Int32) (en : Int32) (f : Nat → Int64) (i : Nat) (o : Nat) (a : Nat) (sz : Nat) (hi9 : i < 10) (ho : o < 10) (ha : a < 64) : Met l yX7_remembers (Cond.code yX7_remembers cX7_remembers 5 none :: kBig) ({ frames := 1, cells := 0, slots := 0, locals := 23 }) (va_Pc [.ref m0, .int (nI i), .int (nI o), .long (lN a)] (kP D [(cI, .int), (cJ, .long), (cM, .object "MeshRouting$Message"), (cG, .array .int)] [(m0, .inr (7, [.ref v, .ref a1, .ref a2, .int ik, .int th, .int en])), (v, .inl (cJ, 136800, .inr (.inl f)))] sz)) (va_Qv (fun u : Nat → Int64 => (∀ j, (j < 4000 ∨ 16800 ≤ j) → u j = f j)) (fun u t9 => kB D (va_A [(m0, .inr (7, [.ref v, .ref a1, .ref a2, .int ik, .int th, .int en])), (v, .inl (cJ, 136800, .inr (.inl f)))] sz) [(m0, .inr (7, [.ref v, .ref a1, .ref a2, .int ik, .int th, .int en])), (v, .inl (cJ, 136800, .inr (.inl u)))] t9) (va_A [(m0, .inr (7, [.ref v, .ref a1, .ref a2, .int ik, .int th, .int en])), (v, .inl (cJ, 136800, .inr (.inl f)))] sz)) 0 0 (va_A [(m0, .inr (7, [.ref v, .ref a1, .ref a2, .int ik, .int th, .int en])), (v, .inl (cJ, 136800, .inr (.inl f)))] sz) := by
  refine Met.ofW (cc := cX7_remembers) (maxL := 5) (ret := none) (by decide) rfl ?_
  intro p e s m args below meth c s₁ B hml hv
  obtain ⟨rfl, hsz, hP, hK, hD0, hKN⟩ := hv
  have hx := B.exec
  have hb := B.bytes
  have hr := B.returns
  have hts := atoms_spec (ws := (Cond.code yX7_remembers cX7_remembers 5 none :: kBig)) B.pre
  have hown : s.vm.findClass RX7 = some m.cls := findClass_of_methodNamed B.named
  have hlocks := B.notSynchronized
  have hin7 : ∀ w ∈ u_ws RX7 TX7 6, w ∈ (Cond.code yX7_remembers cX7_remembers 5 none :: kBig) := fun w h => List.mem_cons_of_mem _ (inb7 w h)
  subst hsz
  have hD := hD0.self (sz := s.heap.size)
  generalize hAe : va_A [(m0, .inr (7, [.ref v, .ref a1, .ref a2, .int ik, .int th, .int en])), (v, .inl (cJ, 136800, .inr (.inl f)))] s.heap.size = A at hD ⊢
  have hA : ∀ q : Nat, s.heap.size ≤ q → A q := fun q h => by rw [← hAe]; exact Or.inr h
  have hS : va_S A s.heap s.heap [] := va_S.rf
  have hl := lv_entry ([.ref m0, .int (nI i), .int (nI o), .long (lN a)]) (n := 5) (Nat.le_of_ble_eq_true rfl)
  rw [lg_entry_eq]
  generalize (lg_sl ([.ref m0, .int (nI i), .int (nI o), .long (lN a)]) ++ List.replicate (5 - (lg_sl ([.ref m0, .int (nI i), .int (nI o), .long (lN a)])).length) Slot.unset).toArray = ls at hl ⊢
  have hl : lv_has ls 5 [(0, .ref m0), (1, .int (nI i)), (2, .int (nI o)), (3, .long (lN a))] := hl
  refine lv_aload_n hx hb dX7_remembers_0 rfl (lv_at hl 0 rfl) ?_
  refine va_get (D := D) (ci := 7) (v := .ref v) (C := RX7) (T := TX7) (N := 6) hx hb hts hin7 hown hK hP 0 rfl rfl 0 (by decide) (hts (.fieldLink RX7 8 "MeshRoutingModel" "v" "[J") (List.mem_cons_of_mem _ q_665)) (fun _ h9 => h9) rfl dX7_remembers_1 ?_
  refine lv_iload_n hx hb dX7_remembers_4 rfl (lv_at hl 1 rfl) ?_
  refine lv_iload_n hx hb dX7_remembers_5 rfl (lv_at hl 2 rfl) ?_
  refine lv_lload_n hx hb dX7_remembers_6 rfl (lv_at hl 3 rfl) ?_
  refine k_ci (wr := [(m0, .inr (7, [.ref v, .ref a1, .ref a2, .int ik, .int th, .int en])), (v, .inl (cJ, 136800, .inr (.inl f)))]) (w1 := []) (va_runS (As := [.int (nI i), .int (nI o), .long (lN a)]) (rest := [.ref v]) ⟨hx, hb, hml, hown, hts⟩ (c_X7_seenAt l D cI cJ cM cG i o a s.heap.size (ha)) (va_cwS 3 hts (kB_S (fun _ => List.mem_cons_of_mem _) q_673 q_674 q_670 (kB_c q_675)) rfl rfl rfl (by decide +kernel) ⟨Nat.le_of_ble_eq_true rfl, Nat.le_of_ble_eq_true rfl⟩) (k_preS hP hD hK hKN [] rfl rfl) rfl rfl hl.1 rfl (lv_room (Nat.le_of_ble_eq_true rfl)) dX7_remembers_7 ⟨Nat.le_of_ble_eq_true rfl, Nat.le_of_ble_eq_true rfl⟩) hP hD hS hA [] [0, 1] rfl rfl rfl (by decide) (fun r7 H locs hw7 hP hD hS => ?_)
  replace hP : va_P D vwCl [(m0, .inr (7, [.ref v, .ref a1, .ref a2, .int ik, .int th, .int en])), (v, .inl (cJ, 136800, .inr (.inl f)))] H := hP
  replace hD : va_D A [(m0, .inr (7, [.ref v, .ref a1, .ref a2, .int ik, .int th, .int en])), (v, .inl (cJ, 136800, .inr (.inl f)))] := hD
  replace hw7 : r7 = nI (4000 + 128 * (10 * i + o)) := hw7
  refine k_ti hw7 ?_
  refine lv_dup2_11 hx hb dX7_remembers_10 rfl rfl ?_
  refine k_lald (v := f (4000 + 128 * (10 * i + o))) hx hb hK hP 1 1 rfl rfl (by omega) (by omega) (rfl) dX7_remembers_11 ?_
  refine lv_lconst (v := lN 1) hx hb dX7_remembers_12 (by decide) ?_
  refine lv_lload_n hx hb dX7_remembers_13 rfl (lv_at hl 3 rfl) ?_
  refine lv_ldc2 (v := 63) hx hb hown (by exact hts (.constantLong RX7 72 (63)) (List.mem_cons_of_mem _ q_672)) dX7_remembers_14 ?_
  refine k_tl (show (63) = (lN 63) from by decide) ?_
  refine lv_land hx hb dX7_remembers_17 ?_
  refine lv_l2i (v := ((lN a) &&& (lN 63)).toInt32) hx hb dX7_remembers_18 (rfl) ?_
  refine lv_lshl (v := (lN 1) <<< ((((lN a) &&& (lN 63)).toInt32).toInt64 &&& 63)) hx hb dX7_remembers_19 (rfl) ?_
  refine lv_lor hx hb dX7_remembers_20 ?_
  refine k_last (f' := vp_updL f (4000 + 128 * (10 * i + o)) ((f (4000 + 128 * (10 * i + o))) ||| ((lN 1) <<< ((((lN a) &&& (lN 63)).toInt32).toInt64 &&& 63)))) hx hb hK hP hD hS 1 1 rfl rfl (by omega) (by omega) (rfl) dX7_remembers_21 (fun H locs hP hD hS => ?_)
  replace hP : va_P D vwCl [(m0, .inr (7, [.ref v, .ref a1, .ref a2, .int ik, .int th, .int en])), (v, .inl (cJ, 136800, .inr (.inl (vp_updL f (4000 + 128 * (10 * i + o)) ((f (4000 + 128 * (10 * i + o))) ||| ((lN 1) <<< ((((lN a) &&& (lN 63)).toInt32).toInt64 &&& 63)))))))] H := hP
  replace hD : va_D A [(m0, .inr (7, [.ref v, .ref a1, .ref a2, .int ik, .int th, .int en])), (v, .inl (cJ, 136800, .inr (.inl (vp_updL f (4000 + 128 * (10 * i + o)) ((f (4000 + 128 * (10 * i + o))) ||| ((lN 1) <<< ((((lN a) &&& (lN 63)).toInt32).toInt64 &&& 63)))))))] := hD
  have hP9 := hP.sub (ws' := [(m0, .inr (7, [.ref v, .ref a1, .ref a2, .int ik, .int th, .int en])), (v, .inl (cJ, 136800, .inr (.inl (vp_updL f (4000 + 128 * (10 * i + o)) ((f (4000 + 128 * (10 * i + o))) ||| ((lN 1) <<< ((((lN a) &&& (lN 63)).toInt32).toInt64 &&& 63)))))))]) [0, 1] rfl
  have hD9 := hD.sub (ws' := [(m0, .inr (7, [.ref v, .ref a1, .ref a2, .int ik, .int th, .int en])), (v, .inl (cJ, 136800, .inr (.inl (vp_updL f (4000 + 128 * (10 * i + o)) ((f (4000 + 128 * (10 * i + o))) ||| ((lN 1) <<< ((((lN a) &&& (lN 63)).toInt32).toInt64 &&& 63)))))))]) [0, 1] rfl rfl
  exact W.vret hx hb hr (fun t9 ht9 hW9 => ⟨⟨vp_updL f (4000 + 128 * (10 * i + o)) ((f (4000 + 128 * (10 * i + o))) ||| ((lN 1) <<< ((((lN a) &&& (lN 63)).toInt32).toInt64 &&& 63))), rfl, fun j hj => pk_uLn (by omega), by rw [ht9]; exact hP9, hD9⟩, hS.F ht9⟩) hS.2.2 dX7_remembers_22

set_option maxHeartbeats 4000000 in
set_option maxRecDepth 100000 in
theorem c_X7_begins (l : Launch) (D : va_G) (cI cJ cM cG : ClassId) (m0 : Nat) (v : Nat) (a1 : Nat) (a2 : Nat) (ik : Int32) (th : Int32) (en : Int32) (f : Nat → Int64) (o : Nat) (a : Nat) (sz : Nat) (ho : o < 10) (ha : a < 64) : Met l yX7_begins (Cond.code yX7_begins cX7_begins 5 none :: kBig) ({ frames := 2, cells := 0, slots := 0, locals := 47 }) (va_Pc [.ref m0, .int (nI o), .long (lN a)] (kP D [(cI, .int), (cJ, .long), (cM, .object "MeshRouting$Message"), (cG, .array .int)] [(m0, .inr (7, [.ref v, .ref a1, .ref a2, .int ik, .int th, .int en])), (v, .inl (cJ, 136800, .inr (.inl f)))] sz)) (va_Qv (fun u : Nat → Int64 => (∀ j, (j < 4000 ∨ 16800 ≤ j) → u j = f j)) (fun u t9 => kB D (va_A [(m0, .inr (7, [.ref v, .ref a1, .ref a2, .int ik, .int th, .int en])), (v, .inl (cJ, 136800, .inr (.inl f)))] sz) [(m0, .inr (7, [.ref v, .ref a1, .ref a2, .int ik, .int th, .int en])), (v, .inl (cJ, 136800, .inr (.inl u)))] t9) (va_A [(m0, .inr (7, [.ref v, .ref a1, .ref a2, .int ik, .int th, .int en])), (v, .inl (cJ, 136800, .inr (.inl f)))] sz)) 0 0 (va_A [(m0, .inr (7, [.ref v, .ref a1, .ref a2, .int ik, .int th, .int en])), (v, .inl (cJ, 136800, .inr (.inl f)))] sz) := by
  refine Met.ofW (cc := cX7_begins) (maxL := 5) (ret := none) (by decide) rfl ?_
  intro p e s m args below meth c s₁ B hml hv
  obtain ⟨rfl, hsz, hP, hK, hD0, hKN⟩ := hv
  have hx := B.exec
  have hb := B.bytes
  have hr := B.returns
  have hts := atoms_spec (ws := (Cond.code yX7_begins cX7_begins 5 none :: kBig)) B.pre
  have hown : s.vm.findClass RX7 = some m.cls := findClass_of_methodNamed B.named
  have hlocks := B.notSynchronized
  have hin7 : ∀ w ∈ u_ws RX7 TX7 6, w ∈ (Cond.code yX7_begins cX7_begins 5 none :: kBig) := fun w h => List.mem_cons_of_mem _ (inb7 w h)
  subst hsz
  have hD := hD0.self (sz := s.heap.size)
  generalize hAe : va_A [(m0, .inr (7, [.ref v, .ref a1, .ref a2, .int ik, .int th, .int en])), (v, .inl (cJ, 136800, .inr (.inl f)))] s.heap.size = A at hD ⊢
  have hA : ∀ q : Nat, s.heap.size ≤ q → A q := fun q h => by rw [← hAe]; exact Or.inr h
  have hS : va_S A s.heap s.heap [] := va_S.rf
  have hl := lv_entry ([.ref m0, .int (nI o), .long (lN a)]) (n := 5) (Nat.le_of_ble_eq_true rfl)
  rw [lg_entry_eq]
  generalize (lg_sl ([.ref m0, .int (nI o), .long (lN a)]) ++ List.replicate (5 - (lg_sl ([.ref m0, .int (nI o), .long (lN a)])).length) Slot.unset).toArray = ls at hl ⊢
  have hl : lv_has ls 5 [(0, .ref m0), (1, .int (nI o)), (2, .long (lN a))] := hl
  refine lv_iconst (v := nI 0) hx hb dX7_begins_0 (by decide) ?_
  refine lv_istore (lv' := [(4, .int (nI 0)), (0, .ref m0), (1, .int (nI o)), (2, .long (lN a))]) hx hb dX7_begins_1 hl (by decide) rfl (fun ls hl => ?_)
  refine k_loop (nL := 5) (wf := fun k => [(m0, .inr (7, [.ref v, .ref a1, .ref a2, .int ik, .int th, .int en])), (v, .inl (cJ, 136800, .inr (.inl (mBeg f o (lN 1 <<< ((lN a &&& lN 63).toInt32.toInt64 &&& 63) ^^^ (-1)) k))))]) (lvf := fun k => [(0, .ref m0), (1, .int (nI o)), (2, .long (lN a)), (4, .int (nI k))]) (B := 10) 0 (Nat.zero_le _) hP hD hS (lv_sub hl [1, 2, 3, 0] rfl) (fun H locs ls hP hD hS hl => ?_) (fun k hk9 hk ih H locs ls hP hD hS hl => ?_)
  · replace hP : va_P D vwCl [(m0, .inr (7, [.ref v, .ref a1, .ref a2, .int ik, .int th, .int en])), (v, .inl (cJ, 136800, .inr (.inl (mBeg f o (lN 1 <<< ((lN a &&& lN 63).toInt32.toInt64 &&& 63) ^^^ (-1)) 10))))] H := hP
    replace hD : va_D A [(m0, .inr (7, [.ref v, .ref a1, .ref a2, .int ik, .int th, .int en])), (v, .inl (cJ, 136800, .inr (.inl (mBeg f o (lN 1 <<< ((lN a &&& lN 63).toInt32.toInt64 &&& 63) ^^^ (-1)) 10))))] := hD
    replace hl : lv_has ls 5 [(0, .ref m0), (1, .int (nI o)), (2, .long (lN a)), (4, .int (nI 10))] := hl
    refine lv_iload hx hb dX7_begins_3 (lv_at hl 3 rfl) ?_
    refine lv_bipush (v := nI 10) hx hb dX7_begins_5 (by decide) ?_
    refine k_icmp_ge (tgt := 43) hx hb dX7_begins_7 (by decide) (by omega) (by omega) (fun _ => ?_) (fun h9 => absurd h9 (by omega))
    refine lv_aload_n hx hb dX7_begins_43 rfl (lv_at hl 0 rfl) ?_
    refine lv_iload_n hx hb dX7_begins_44 rfl (lv_at hl 1 rfl) ?_
    refine lv_iload_n hx hb dX7_begins_45 rfl (lv_at hl 1 rfl) ?_
    refine lv_lload_n hx hb dX7_begins_46 rfl (lv_at hl 2 rfl) ?_
    refine k_cV (wr := []) (w1 := fun u => [(m0, .inr (7, [.ref v, .ref a1, .ref a2, .int ik, .int th, .int en])), (v, .inl (cJ, 136800, .inr (.inl u)))]) (va_runV (As := [.int (nI o), .int (nI o), .long (lN a)]) (rest := []) ⟨hx, hb, hml, hown, hts⟩ (c_X7_remembers l D cI cJ cM cG m0 v a1 a2 ik th en (mBeg f o (lN 1 <<< ((lN a &&& lN 63).toInt32.toInt64 &&& 63) ^^^ (-1)) 10) o o a H.size (ho) (ho) (ha)) (cwV 3 hts (kB_V (fun _ => List.mem_cons_of_mem _) q_677 q_678 q_679 q_670 (kB_c q_680)) rfl rfl rfl (by decide +kernel) ⟨Nat.le_of_ble_eq_true rfl, Nat.le_of_ble_eq_true rfl⟩) (k_preV (T := TX7) hP hD hK hKN [0, 1] rfl rfl (ci := 7) rfl (q0 := 0) rfl) rfl rfl hl.1 rfl (lv_room (Nat.le_of_ble_eq_true rfl)) dX7_begins_47 ⟨Nat.le_of_ble_eq_true rfl, Nat.le_of_ble_eq_true rfl⟩) hP hD hS hA [0, 1] [] rfl rfl rfl (by decide) (fun u47 H locs hw47 hP hD hS => ?_)
    replace hP : va_P D vwCl [(m0, .inr (7, [.ref v, .ref a1, .ref a2, .int ik, .int th, .int en])), (v, .inl (cJ, 136800, .inr (.inl u47)))] H := hP
    replace hD : va_D A [(m0, .inr (7, [.ref v, .ref a1, .ref a2, .int ik, .int th, .int en])), (v, .inl (cJ, 136800, .inr (.inl u47)))] := hD
    have hu47 := hw47
    have hP9 := hP.sub (ws' := [(m0, .inr (7, [.ref v, .ref a1, .ref a2, .int ik, .int th, .int en])), (v, .inl (cJ, 136800, .inr (.inl u47)))]) [0, 1] rfl
    have hD9 := hD.sub (ws' := [(m0, .inr (7, [.ref v, .ref a1, .ref a2, .int ik, .int th, .int en])), (v, .inl (cJ, 136800, .inr (.inl u47)))]) [0, 1] rfl rfl
    exact W.vret hx hb hr (fun t9 ht9 hW9 => ⟨⟨u47, rfl, fun j hj => (hu47 j hj).trans (mBeg_out ho hj 10 (by omega)), by rw [ht9]; exact hP9, hD9⟩, hS.F ht9⟩) hS.2.2 dX7_begins_50
  · replace hP : va_P D vwCl [(m0, .inr (7, [.ref v, .ref a1, .ref a2, .int ik, .int th, .int en])), (v, .inl (cJ, 136800, .inr (.inl (mBeg f o (lN 1 <<< ((lN a &&& lN 63).toInt32.toInt64 &&& 63) ^^^ (-1)) k))))] H := hP
    replace hD : va_D A [(m0, .inr (7, [.ref v, .ref a1, .ref a2, .int ik, .int th, .int en])), (v, .inl (cJ, 136800, .inr (.inl (mBeg f o (lN 1 <<< ((lN a &&& lN 63).toInt32.toInt64 &&& 63) ^^^ (-1)) k))))] := hD
    replace hl : lv_has ls 5 [(0, .ref m0), (1, .int (nI o)), (2, .long (lN a)), (4, .int (nI k))] := hl
    refine lv_iload hx hb dX7_begins_3 (lv_at hl 3 rfl) ?_
    refine lv_bipush (v := nI 10) hx hb dX7_begins_5 (by decide) ?_
    refine k_icmp_ge (tgt := 43) hx hb dX7_begins_7 (by decide) (by omega) (by omega) (fun h9 => absurd h9 (by omega)) (fun _ => ?_)
    refine lv_aload_n hx hb dX7_begins_10 rfl (lv_at hl 0 rfl) ?_
    refine va_get (D := D) (ci := 7) (v := .ref v) (C := RX7) (T := TX7) (N := 6) hx hb hts hin7 hown hK hP 0 rfl rfl 0 (by decide) (hts (.fieldLink RX7 8 "MeshRoutingModel" "v" "[J") (List.mem_cons_of_mem _ q_665)) (fun _ h9 => h9) rfl dX7_begins_11 ?_
    refine lv_iload hx hb dX7_begins_14 (lv_at hl 3 rfl) ?_
    refine lv_iload_n hx hb dX7_begins_16 rfl (lv_at hl 1 rfl) ?_
    refine lv_lload_n hx hb dX7_begins_17 rfl (lv_at hl 2 rfl) ?_
    refine k_ci (wr := [(m0, .inr (7, [.ref v, .ref a1, .ref a2, .int ik, .int th, .int en])), (v, .inl (cJ, 136800, .inr (.inl (mBeg f o (lN 1 <<< ((lN a &&& lN 63).toInt32.toInt64 &&& 63) ^^^ (-1)) k))))]) (w1 := []) (va_runS (As := [.int (nI k), .int (nI o), .long (lN a)]) (rest := [.ref v]) ⟨hx, hb, hml, hown, hts⟩ (c_X7_seenAt l D cI cJ cM cG k o a H.size (ha)) (va_cwS 3 hts (kB_S (fun _ => List.mem_cons_of_mem _) q_673 q_674 q_670 (kB_c q_675)) rfl rfl rfl (by decide +kernel) ⟨Nat.le_of_ble_eq_true rfl, Nat.le_of_ble_eq_true rfl⟩) (k_preS hP hD hK hKN [] rfl rfl) rfl rfl hl.1 rfl (lv_room (Nat.le_of_ble_eq_true rfl)) dX7_begins_18 ⟨Nat.le_of_ble_eq_true rfl, Nat.le_of_ble_eq_true rfl⟩) hP hD hS hA [] [0, 1] rfl rfl rfl (by decide) (fun r18 H locs hw18 hP hD hS => ?_)
    replace hP : va_P D vwCl [(m0, .inr (7, [.ref v, .ref a1, .ref a2, .int ik, .int th, .int en])), (v, .inl (cJ, 136800, .inr (.inl (mBeg f o (lN 1 <<< ((lN a &&& lN 63).toInt32.toInt64 &&& 63) ^^^ (-1)) k))))] H := hP
    replace hD : va_D A [(m0, .inr (7, [.ref v, .ref a1, .ref a2, .int ik, .int th, .int en])), (v, .inl (cJ, 136800, .inr (.inl (mBeg f o (lN 1 <<< ((lN a &&& lN 63).toInt32.toInt64 &&& 63) ^^^ (-1)) k))))] := hD
    replace hw18 : r18 = nI (4000 + 128 * (10 * k + o)) := hw18
    refine k_ti hw18 ?_
    refine lv_dup2_11 hx hb dX7_begins_21 rfl rfl ?_
    refine k_lald (v := (mBeg f o (lN 1 <<< ((lN a &&& lN 63).toInt32.toInt64 &&& 63) ^^^ (-1)) k) (4000 + 128 * (10 * k + o))) hx hb hK hP 1 1 rfl rfl (by omega) (by omega) (rfl) dX7_begins_22 ?_
    refine lv_lconst (v := lN 1) hx hb dX7_begins_23 (by decide) ?_
    refine lv_lload_n hx hb dX7_begins_24 rfl (lv_at hl 2 rfl) ?_
    refine lv_ldc2 (v := 63) hx hb hown (by exact hts (.constantLong RX7 72 (63)) (List.mem_cons_of_mem _ q_672)) dX7_begins_25 ?_
    refine k_tl (show (63) = (lN 63) from by decide) ?_
    refine lv_land hx hb dX7_begins_28 ?_
    refine lv_l2i (v := ((lN a) &&& (lN 63)).toInt32) hx hb dX7_begins_29 (rfl) ?_
    refine lv_lshl (v := (lN 1) <<< ((((lN a) &&& (lN 63)).toInt32).toInt64 &&& 63)) hx hb dX7_begins_30 (rfl) ?_
    refine lv_ldc2 (v := -1) hx hb hown (by exact hts (.constantLong RX7 24 (-1)) (List.mem_cons_of_mem _ q_666)) dX7_begins_31 ?_
    refine k_tl (show (-1) = ((-1)) from by decide) ?_
    refine lv_lxor hx hb dX7_begins_34 ?_
    refine lv_land hx hb dX7_begins_35 ?_
    refine k_last (f' := (mBeg f o (lN 1 <<< ((lN a &&& lN 63).toInt32.toInt64 &&& 63) ^^^ (-1)) (k + 1))) hx hb hK hP hD hS 1 1 rfl rfl (by omega) (by omega) (rfl) dX7_begins_36 (fun H locs hP hD hS => ?_)
    replace hP : va_P D vwCl [(m0, .inr (7, [.ref v, .ref a1, .ref a2, .int ik, .int th, .int en])), (v, .inl (cJ, 136800, .inr (.inl (mBeg f o (lN 1 <<< ((lN a &&& lN 63).toInt32.toInt64 &&& 63) ^^^ (-1)) (k + 1)))))] H := hP
    replace hD : va_D A [(m0, .inr (7, [.ref v, .ref a1, .ref a2, .int ik, .int th, .int en])), (v, .inl (cJ, 136800, .inr (.inl (mBeg f o (lN 1 <<< ((lN a &&& lN 63).toInt32.toInt64 &&& 63) ^^^ (-1)) (k + 1)))))] := hD
    refine lv_iinc (v := nI (k + 1)) (lv' := [(4, .int (nI (k + 1))), (0, .ref m0), (1, .int (nI o)), (2, .long (lN a))]) hx hb dX7_begins_37 hl (k := 3) rfl (by exact nI_add k 1) (by decide) rfl (fun ls hl => ?_)
    refine lv_goto (tgt := 3) hx hb dX7_begins_40 (by decide) ?_
    exact ih _ _ _ hP hD hS (lv_sub hl [1, 2, 3, 0] rfl)

set_option maxHeartbeats 4000000 in
set_option maxRecDepth 100000 in
theorem c_X7_ends (l : Launch) (D : va_G) (cI cJ cM cG : ClassId) (m0 : Nat) (v : Nat) (a1 : Nat) (a2 : Nat) (ik : Int32) (th : Int32) (en : Int32) (f : Nat → Int64) (s9 : Nat) (nd : Nat) (cz : Nat) (t : Nat) (sz : Nat) (h0 : f 0 = lN t) (hs9 : s9 < 4) (hnd : nd < 10) (hcz : cz < 100) : Met l yX7_ends (Cond.code yX7_ends cX7_ends 5 none :: kBig) ({ frames := 1, cells := 0, slots := 0, locals := 20 }) (va_Pc [.ref m0, .int (nI 0), .int (nI s9), .int (nI nd), .int (nI cz)] (kP D [(cI, .int), (cJ, .long), (cM, .object "MeshRouting$Message"), (cG, .array .int)] [(m0, .inr (7, [.ref v, .ref a1, .ref a2, .int ik, .int th, .int en])), (v, .inl (cJ, 136800, .inr (.inl f)))] sz)) (va_Qv (fun u : Nat → Int64 => (u 2302 = lN s9 ∧ ∀ j, j ≠ 2302 → j ≠ 2303 → j ≠ 2305 → j ≠ 2306 → u j = f j)) (fun u t9 => kB D (va_A [(m0, .inr (7, [.ref v, .ref a1, .ref a2, .int ik, .int th, .int en])), (v, .inl (cJ, 136800, .inr (.inl f)))] sz) [(m0, .inr (7, [.ref v, .ref a1, .ref a2, .int ik, .int th, .int en])), (v, .inl (cJ, 136800, .inr (.inl u)))] t9) (va_A [(m0, .inr (7, [.ref v, .ref a1, .ref a2, .int ik, .int th, .int en])), (v, .inl (cJ, 136800, .inr (.inl f)))] sz)) 0 0 (va_A [(m0, .inr (7, [.ref v, .ref a1, .ref a2, .int ik, .int th, .int en])), (v, .inl (cJ, 136800, .inr (.inl f)))] sz) := by
  refine Met.ofW (cc := cX7_ends) (maxL := 5) (ret := none) (by decide) rfl ?_
  intro p e s m args below meth c s₁ B hml hv
  obtain ⟨rfl, hsz, hP, hK, hD0, hKN⟩ := hv
  have hx := B.exec
  have hb := B.bytes
  have hr := B.returns
  have hts := atoms_spec (ws := (Cond.code yX7_ends cX7_ends 5 none :: kBig)) B.pre
  have hown : s.vm.findClass RX7 = some m.cls := findClass_of_methodNamed B.named
  have hlocks := B.notSynchronized
  have hin7 : ∀ w ∈ u_ws RX7 TX7 6, w ∈ (Cond.code yX7_ends cX7_ends 5 none :: kBig) := fun w h => List.mem_cons_of_mem _ (inb7 w h)
  subst hsz
  have hD := hD0.self (sz := s.heap.size)
  generalize hAe : va_A [(m0, .inr (7, [.ref v, .ref a1, .ref a2, .int ik, .int th, .int en])), (v, .inl (cJ, 136800, .inr (.inl f)))] s.heap.size = A at hD ⊢
  have hA : ∀ q : Nat, s.heap.size ≤ q → A q := fun q h => by rw [← hAe]; exact Or.inr h
  have hS : va_S A s.heap s.heap [] := va_S.rf
  have hl := lv_entry ([.ref m0, .int (nI 0), .int (nI s9), .int (nI nd), .int (nI cz)]) (n := 5) (Nat.le_of_ble_eq_true rfl)
  rw [lg_entry_eq]
  generalize (lg_sl ([.ref m0, .int (nI 0), .int (nI s9), .int (nI nd), .int (nI cz)]) ++ List.replicate (5 - (lg_sl ([.ref m0, .int (nI 0), .int (nI s9), .int (nI nd), .int (nI cz)])).length) Slot.unset).toArray = ls at hl ⊢
  have hl : lv_has ls 5 [(0, .ref m0), (1, .int (nI 0)), (2, .int (nI s9)), (3, .int (nI nd)), (4, .int (nI cz))] := hl
  refine lv_aload_n hx hb dX7_ends_0 rfl (lv_at hl 0 rfl) ?_
  refine va_get (D := D) (ci := 7) (v := .ref v) (C := RX7) (T := TX7) (N := 6) hx hb hts hin7 hown hK hP 0 rfl rfl 0 (by decide) (hts (.fieldLink RX7 8 "MeshRoutingModel" "v" "[J") (List.mem_cons_of_mem _ q_665)) (fun _ h9 => h9) rfl dX7_ends_1 ?_
  refine lv_iload_n hx hb dX7_ends_4 rfl (lv_at hl 1 rfl) ?_
  refine k_ci (wr := [(m0, .inr (7, [.ref v, .ref a1, .ref a2, .int ik, .int th, .int en])), (v, .inl (cJ, 136800, .inr (.inl f)))]) (w1 := []) (va_runS (As := [.int (nI 0)]) (rest := [.ref v]) ⟨hx, hb, hml, hown, hts⟩ (c_X7_packet l D cI cJ cM cG 0 s.heap.size) (va_cwS 1 hts (kB_S (fun _ => List.mem_cons_of_mem _) q_711 q_712 q_670 (kB_c q_713)) rfl rfl rfl (by decide +kernel) ⟨Nat.le_of_ble_eq_true rfl, Nat.le_of_ble_eq_true rfl⟩) (k_preS hP hD hK hKN [] rfl rfl) rfl rfl hl.1 rfl (lv_room (Nat.le_of_ble_eq_true rfl)) dX7_ends_5 ⟨Nat.le_of_ble_eq_true rfl, Nat.le_of_ble_eq_true rfl⟩) hP hD hS hA [] [0, 1] rfl rfl rfl (by decide) (fun r5 H locs hw5 hP hD hS => ?_)
  replace hP : va_P D vwCl [(m0, .inr (7, [.ref v, .ref a1, .ref a2, .int ik, .int th, .int en])), (v, .inl (cJ, 136800, .inr (.inl f)))] H := hP
  replace hD : va_D A [(m0, .inr (7, [.ref v, .ref a1, .ref a2, .int ik, .int th, .int en])), (v, .inl (cJ, 136800, .inr (.inl f)))] := hD
  replace hw5 : r5 = nI (2300 + 8 * 0) := hw5
  refine k_ti hw5 ?_
  refine lv_iconst (v := nI 2) hx hb dX7_ends_8 (by decide) ?_
  refine lv_iadd hx hb dX7_ends_9 ?_
  refine k_ti (show ((nI (2300 + 8 * 0)) + (nI 2)) = (nI (2300 + 8 * 0 + 2)) from nI_add _ _) ?_
  refine lv_iload_n hx hb dX7_ends_10 rfl (lv_at hl 2 rfl) ?_
  refine lv_i2l (v := lN s9) hx hb dX7_ends_11 (by exact nI_l (by omega)) ?_
  refine k_last (f' := vp_updL f (2300 + 8 * 0 + 2) (lN s9)) hx hb hK hP hD hS 1 1 rfl rfl (by omega) (by omega) (rfl) dX7_ends_12 (fun H locs hP hD hS => ?_)
  replace hP : va_P D vwCl [(m0, .inr (7, [.ref v, .ref a1, .ref a2, .int ik, .int th, .int en])), (v, .inl (cJ, 136800, .inr (.inl (vp_updL f (2300 + 8 * 0 + 2) (lN s9)))))] H := hP
  replace hD : va_D A [(m0, .inr (7, [.ref v, .ref a1, .ref a2, .int ik, .int th, .int en])), (v, .inl (cJ, 136800, .inr (.inl (vp_updL f (2300 + 8 * 0 + 2) (lN s9)))))] := hD
  refine lv_aload_n hx hb dX7_ends_13 rfl (lv_at hl 0 rfl) ?_
  refine va_get (D := D) (ci := 7) (v := .ref v) (C := RX7) (T := TX7) (N := 6) hx hb hts hin7 hown hK hP 0 rfl rfl 0 (by decide) (hts (.fieldLink RX7 8 "MeshRoutingModel" "v" "[J") (List.mem_cons_of_mem _ q_665)) (fun _ h9 => h9) rfl dX7_ends_14 ?_
  refine lv_iload_n hx hb dX7_ends_17 rfl (lv_at hl 1 rfl) ?_
  refine k_ci (wr := [(m0, .inr (7, [.ref v, .ref a1, .ref a2, .int ik, .int th, .int en])), (v, .inl (cJ, 136800, .inr (.inl (vp_updL f (2300 + 8 * 0 + 2) (lN s9)))))]) (w1 := []) (va_runS (As := [.int (nI 0)]) (rest := [.ref v]) ⟨hx, hb, hml, hown, hts⟩ (c_X7_packet l D cI cJ cM cG 0 H.size) (va_cwS 1 hts (kB_S (fun _ => List.mem_cons_of_mem _) q_711 q_712 q_670 (kB_c q_713)) rfl rfl rfl (by decide +kernel) ⟨Nat.le_of_ble_eq_true rfl, Nat.le_of_ble_eq_true rfl⟩) (k_preS hP hD hK hKN [] rfl rfl) rfl rfl hl.1 rfl (lv_room (Nat.le_of_ble_eq_true rfl)) dX7_ends_18 ⟨Nat.le_of_ble_eq_true rfl, Nat.le_of_ble_eq_true rfl⟩) hP hD hS hA [] [0, 1] rfl rfl rfl (by decide) (fun r18 H locs hw18 hP hD hS => ?_)
  replace hP : va_P D vwCl [(m0, .inr (7, [.ref v, .ref a1, .ref a2, .int ik, .int th, .int en])), (v, .inl (cJ, 136800, .inr (.inl (vp_updL f (2300 + 8 * 0 + 2) (lN s9)))))] H := hP
  replace hD : va_D A [(m0, .inr (7, [.ref v, .ref a1, .ref a2, .int ik, .int th, .int en])), (v, .inl (cJ, 136800, .inr (.inl (vp_updL f (2300 + 8 * 0 + 2) (lN s9)))))] := hD
  replace hw18 : r18 = nI (2300 + 8 * 0) := hw18
  refine k_ti hw18 ?_
  refine lv_iconst (v := nI 3) hx hb dX7_ends_21 (by decide) ?_
  refine lv_iadd hx hb dX7_ends_22 ?_
  refine k_ti (show ((nI (2300 + 8 * 0)) + (nI 3)) = (nI (2300 + 8 * 0 + 3)) from nI_add _ _) ?_
  refine lv_iload_n hx hb dX7_ends_23 rfl (lv_at hl 3 rfl) ?_
  refine lv_i2l (v := lN nd) hx hb dX7_ends_24 (by exact nI_l (by omega)) ?_
  refine k_last (f' := vp_updL (vp_updL f (2300 + 8 * 0 + 2) (lN s9)) (2300 + 8 * 0 + 3) (lN nd)) hx hb hK hP hD hS 1 1 rfl rfl (by omega) (by omega) (rfl) dX7_ends_25 (fun H locs hP hD hS => ?_)
  replace hP : va_P D vwCl [(m0, .inr (7, [.ref v, .ref a1, .ref a2, .int ik, .int th, .int en])), (v, .inl (cJ, 136800, .inr (.inl (vp_updL (vp_updL f (2300 + 8 * 0 + 2) (lN s9)) (2300 + 8 * 0 + 3) (lN nd)))))] H := hP
  replace hD : va_D A [(m0, .inr (7, [.ref v, .ref a1, .ref a2, .int ik, .int th, .int en])), (v, .inl (cJ, 136800, .inr (.inl (vp_updL (vp_updL f (2300 + 8 * 0 + 2) (lN s9)) (2300 + 8 * 0 + 3) (lN nd)))))] := hD
  refine lv_aload_n hx hb dX7_ends_26 rfl (lv_at hl 0 rfl) ?_
  refine va_get (D := D) (ci := 7) (v := .ref v) (C := RX7) (T := TX7) (N := 6) hx hb hts hin7 hown hK hP 0 rfl rfl 0 (by decide) (hts (.fieldLink RX7 8 "MeshRoutingModel" "v" "[J") (List.mem_cons_of_mem _ q_665)) (fun _ h9 => h9) rfl dX7_ends_27 ?_
  refine lv_iload_n hx hb dX7_ends_30 rfl (lv_at hl 1 rfl) ?_
  refine k_ci (wr := [(m0, .inr (7, [.ref v, .ref a1, .ref a2, .int ik, .int th, .int en])), (v, .inl (cJ, 136800, .inr (.inl (vp_updL (vp_updL f (2300 + 8 * 0 + 2) (lN s9)) (2300 + 8 * 0 + 3) (lN nd)))))]) (w1 := []) (va_runS (As := [.int (nI 0)]) (rest := [.ref v]) ⟨hx, hb, hml, hown, hts⟩ (c_X7_packet l D cI cJ cM cG 0 H.size) (va_cwS 1 hts (kB_S (fun _ => List.mem_cons_of_mem _) q_711 q_712 q_670 (kB_c q_713)) rfl rfl rfl (by decide +kernel) ⟨Nat.le_of_ble_eq_true rfl, Nat.le_of_ble_eq_true rfl⟩) (k_preS hP hD hK hKN [] rfl rfl) rfl rfl hl.1 rfl (lv_room (Nat.le_of_ble_eq_true rfl)) dX7_ends_31 ⟨Nat.le_of_ble_eq_true rfl, Nat.le_of_ble_eq_true rfl⟩) hP hD hS hA [] [0, 1] rfl rfl rfl (by decide) (fun r31 H locs hw31 hP hD hS => ?_)
  replace hP : va_P D vwCl [(m0, .inr (7, [.ref v, .ref a1, .ref a2, .int ik, .int th, .int en])), (v, .inl (cJ, 136800, .inr (.inl (vp_updL (vp_updL f (2300 + 8 * 0 + 2) (lN s9)) (2300 + 8 * 0 + 3) (lN nd)))))] H := hP
  replace hD : va_D A [(m0, .inr (7, [.ref v, .ref a1, .ref a2, .int ik, .int th, .int en])), (v, .inl (cJ, 136800, .inr (.inl (vp_updL (vp_updL f (2300 + 8 * 0 + 2) (lN s9)) (2300 + 8 * 0 + 3) (lN nd)))))] := hD
  replace hw31 : r31 = nI (2300 + 8 * 0) := hw31
  refine k_ti hw31 ?_
  refine lv_iconst (v := nI 5) hx hb dX7_ends_34 (by decide) ?_
  refine lv_iadd hx hb dX7_ends_35 ?_
  refine k_ti (show ((nI (2300 + 8 * 0)) + (nI 5)) = (nI (2300 + 8 * 0 + 5)) from nI_add _ _) ?_
  refine lv_aload_n hx hb dX7_ends_36 rfl (lv_at hl 0 rfl) ?_
  refine va_get (D := D) (ci := 7) (v := .ref v) (C := RX7) (T := TX7) (N := 6) hx hb hts hin7 hown hK hP 0 rfl rfl 0 (by decide) (hts (.fieldLink RX7 8 "MeshRoutingModel" "v" "[J") (List.mem_cons_of_mem _ q_665)) (fun _ h9 => h9) rfl dX7_ends_37 ?_
  refine lv_iconst (v := nI 0) hx hb dX7_ends_40 (by decide) ?_
  refine k_lald (v := lN t) hx hb hK hP 1 1 rfl rfl (by omega) (by omega) (((pk_uLn (by omega)).trans ((pk_uLn (by omega)).trans h0))) dX7_ends_41 ?_
  refine k_last (f' := vp_updL (vp_updL (vp_updL f (2300 + 8 * 0 + 2) (lN s9)) (2300 + 8 * 0 + 3) (lN nd)) (2300 + 8 * 0 + 5) (lN t)) hx hb hK hP hD hS 1 1 rfl rfl (by omega) (by omega) (rfl) dX7_ends_42 (fun H locs hP hD hS => ?_)
  replace hP : va_P D vwCl [(m0, .inr (7, [.ref v, .ref a1, .ref a2, .int ik, .int th, .int en])), (v, .inl (cJ, 136800, .inr (.inl (vp_updL (vp_updL (vp_updL f (2300 + 8 * 0 + 2) (lN s9)) (2300 + 8 * 0 + 3) (lN nd)) (2300 + 8 * 0 + 5) (lN t)))))] H := hP
  replace hD : va_D A [(m0, .inr (7, [.ref v, .ref a1, .ref a2, .int ik, .int th, .int en])), (v, .inl (cJ, 136800, .inr (.inl (vp_updL (vp_updL (vp_updL f (2300 + 8 * 0 + 2) (lN s9)) (2300 + 8 * 0 + 3) (lN nd)) (2300 + 8 * 0 + 5) (lN t)))))] := hD
  refine lv_aload_n hx hb dX7_ends_43 rfl (lv_at hl 0 rfl) ?_
  refine va_get (D := D) (ci := 7) (v := .ref v) (C := RX7) (T := TX7) (N := 6) hx hb hts hin7 hown hK hP 0 rfl rfl 0 (by decide) (hts (.fieldLink RX7 8 "MeshRoutingModel" "v" "[J") (List.mem_cons_of_mem _ q_665)) (fun _ h9 => h9) rfl dX7_ends_44 ?_
  refine lv_iload_n hx hb dX7_ends_47 rfl (lv_at hl 1 rfl) ?_
  refine k_ci (wr := [(m0, .inr (7, [.ref v, .ref a1, .ref a2, .int ik, .int th, .int en])), (v, .inl (cJ, 136800, .inr (.inl (vp_updL (vp_updL (vp_updL f (2300 + 8 * 0 + 2) (lN s9)) (2300 + 8 * 0 + 3) (lN nd)) (2300 + 8 * 0 + 5) (lN t)))))]) (w1 := []) (va_runS (As := [.int (nI 0)]) (rest := [.ref v]) ⟨hx, hb, hml, hown, hts⟩ (c_X7_packet l D cI cJ cM cG 0 H.size) (va_cwS 1 hts (kB_S (fun _ => List.mem_cons_of_mem _) q_711 q_712 q_670 (kB_c q_713)) rfl rfl rfl (by decide +kernel) ⟨Nat.le_of_ble_eq_true rfl, Nat.le_of_ble_eq_true rfl⟩) (k_preS hP hD hK hKN [] rfl rfl) rfl rfl hl.1 rfl (lv_room (Nat.le_of_ble_eq_true rfl)) dX7_ends_48 ⟨Nat.le_of_ble_eq_true rfl, Nat.le_of_ble_eq_true rfl⟩) hP hD hS hA [] [0, 1] rfl rfl rfl (by decide) (fun r48 H locs hw48 hP hD hS => ?_)
  replace hP : va_P D vwCl [(m0, .inr (7, [.ref v, .ref a1, .ref a2, .int ik, .int th, .int en])), (v, .inl (cJ, 136800, .inr (.inl (vp_updL (vp_updL (vp_updL f (2300 + 8 * 0 + 2) (lN s9)) (2300 + 8 * 0 + 3) (lN nd)) (2300 + 8 * 0 + 5) (lN t)))))] H := hP
  replace hD : va_D A [(m0, .inr (7, [.ref v, .ref a1, .ref a2, .int ik, .int th, .int en])), (v, .inl (cJ, 136800, .inr (.inl (vp_updL (vp_updL (vp_updL f (2300 + 8 * 0 + 2) (lN s9)) (2300 + 8 * 0 + 3) (lN nd)) (2300 + 8 * 0 + 5) (lN t)))))] := hD
  replace hw48 : r48 = nI (2300 + 8 * 0) := hw48
  refine k_ti hw48 ?_
  refine lv_bipush (v := nI 6) hx hb dX7_ends_51 (by decide) ?_
  refine lv_iadd hx hb dX7_ends_53 ?_
  refine k_ti (show ((nI (2300 + 8 * 0)) + (nI 6)) = (nI (2300 + 8 * 0 + 6)) from nI_add _ _) ?_
  refine lv_iload hx hb dX7_ends_54 (lv_at hl 4 rfl) ?_
  refine lv_i2l (v := lN cz) hx hb dX7_ends_56 (by exact nI_l (by omega)) ?_
  refine k_last (f' := vp_updL (vp_updL (vp_updL (vp_updL f (2300 + 8 * 0 + 2) (lN s9)) (2300 + 8 * 0 + 3) (lN nd)) (2300 + 8 * 0 + 5) (lN t)) (2300 + 8 * 0 + 6) (lN cz)) hx hb hK hP hD hS 1 1 rfl rfl (by omega) (by omega) (rfl) dX7_ends_57 (fun H locs hP hD hS => ?_)
  replace hP : va_P D vwCl [(m0, .inr (7, [.ref v, .ref a1, .ref a2, .int ik, .int th, .int en])), (v, .inl (cJ, 136800, .inr (.inl (vp_updL (vp_updL (vp_updL (vp_updL f (2300 + 8 * 0 + 2) (lN s9)) (2300 + 8 * 0 + 3) (lN nd)) (2300 + 8 * 0 + 5) (lN t)) (2300 + 8 * 0 + 6) (lN cz)))))] H := hP
  replace hD : va_D A [(m0, .inr (7, [.ref v, .ref a1, .ref a2, .int ik, .int th, .int en])), (v, .inl (cJ, 136800, .inr (.inl (vp_updL (vp_updL (vp_updL (vp_updL f (2300 + 8 * 0 + 2) (lN s9)) (2300 + 8 * 0 + 3) (lN nd)) (2300 + 8 * 0 + 5) (lN t)) (2300 + 8 * 0 + 6) (lN cz)))))] := hD
  have hP9 := hP.sub (ws' := [(m0, .inr (7, [.ref v, .ref a1, .ref a2, .int ik, .int th, .int en])), (v, .inl (cJ, 136800, .inr (.inl (vp_updL (vp_updL (vp_updL (vp_updL f (2300 + 8 * 0 + 2) (lN s9)) (2300 + 8 * 0 + 3) (lN nd)) (2300 + 8 * 0 + 5) (lN t)) (2300 + 8 * 0 + 6) (lN cz)))))]) [0, 1] rfl
  have hD9 := hD.sub (ws' := [(m0, .inr (7, [.ref v, .ref a1, .ref a2, .int ik, .int th, .int en])), (v, .inl (cJ, 136800, .inr (.inl (vp_updL (vp_updL (vp_updL (vp_updL f (2300 + 8 * 0 + 2) (lN s9)) (2300 + 8 * 0 + 3) (lN nd)) (2300 + 8 * 0 + 5) (lN t)) (2300 + 8 * 0 + 6) (lN cz)))))]) [0, 1] rfl rfl
  exact W.vret hx hb hr (fun t9 ht9 hW9 => ⟨⟨vp_updL (vp_updL (vp_updL (vp_updL f (2300 + 8 * 0 + 2) (lN s9)) (2300 + 8 * 0 + 3) (lN nd)) (2300 + 8 * 0 + 5) (lN t)) (2300 + 8 * 0 + 6) (lN cz), rfl, ⟨(pk_uLn (by omega)).trans ((pk_uLn (by omega)).trans ((pk_uLn (by omega)).trans (by first | exact pk_uLs | rfl))), fun j h1 h2 h3 h4 => (pk_uLn (by omega)).trans ((pk_uLn (by omega)).trans ((pk_uLn (by omega)).trans (pk_uLn (by omega))))⟩, by rw [ht9]; exact hP9, hD9⟩, hS.F ht9⟩) hS.2.2 dX7_ends_58
