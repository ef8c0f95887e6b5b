set_option maxHeartbeats 4000000 in
set_option maxRecDepth 100000 in
theorem c_X4_usable (l : Launch) (D : va_G) (cI cJ cM cG : ClassId) (n : Nat → Nat) (k : Nat) (t : Int32) (sz : Nat) (hk : k < 100) : Met l yX4_usable (Cond.code yX4_usable cX4_usable 3 (some .boolean) :: kBig) ({ frames := 0, cells := 0, slots := 0, locals := 0 }) (va_Pc [.ref (n 9), .int (nI k), .int t] (kP D [(cI, .int), (cJ, .long), (cM, .object "MeshRouting$Message"), (cG, .array .int)] [(n 9, .inr (4, [.ref (n 10), .ref (n 11), .ref (n 12), .ref (n 13), .ref (n 14), .ref (n 15)])), (n 10, .inl (cI, 100, .inl (fun _ => 0))), (n 14, .inl (cI, 100, .inl (fun _ => -1)))] sz)) (va_Qi (fun (r : Int32) (_ : Unit) => r = nI 0) (fun _ t9 => kB D (va_A [(n 9, .inr (4, [.ref (n 10), .ref (n 11), .ref (n 12), .ref (n 13), .ref (n 14), .ref (n 15)])), (n 10, .inl (cI, 100, .inl (fun _ => 0))), (n 14, .inl (cI, 100, .inl (fun _ => -1)))] sz) [(n 9, .inr (4, [.ref (n 10), .ref (n 11), .ref (n 12), .ref (n 13), .ref (n 14), .ref (n 15)])), (n 10, .inl (cI, 100, .inl (fun _ => 0))), (n 14, .inl (cI, 100, .inl (fun _ => -1)))] t9) (va_A [(n 9, .inr (4, [.ref (n 10), .ref (n 11), .ref (n 12), .ref (n 13), .ref (n 14), .ref (n 15)])), (n 10, .inl (cI, 100, .inl (fun _ => 0))), (n 14, .inl (cI, 100, .inl (fun _ => -1)))] sz)) 0 0 (va_A [(n 9, .inr (4, [.ref (n 10), .ref (n 11), .ref (n 12), .ref (n 13), .ref (n 14), .ref (n 15)])), (n 10, .inl (cI, 100, .inl (fun _ => 0))), (n 14, .inl (cI, 100, .inl (fun _ => -1)))] sz) := by
  refine Met.ofW (cc := cX4_usable) (maxL := 3) (ret := (some .boolean)) (by decide) rfl ?_
  intro p e s m args below meth c s₁ B hml hv
  obtain ⟨rfl, hsz, hP, hK, hD0, hKN⟩ := hv
  have hx := B.exec
  have hb := B.bytes
  have hr := B.returns
  have hts := atoms_spec (ws := (Cond.code yX4_usable cX4_usable 3 (some .boolean) :: kBig)) B.pre
  have hown : s.vm.findClass RX4 = some m.cls := findClass_of_methodNamed B.named
  have hlocks := B.notSynchronized
  have hin4 : ∀ w ∈ u_ws RX4 TX4 6, w ∈ (Cond.code yX4_usable cX4_usable 3 (some .boolean) :: kBig) := fun w h => List.mem_cons_of_mem _ (inb4 w h)
  subst hsz
  have hD := hD0.self (sz := s.heap.size)
  generalize hAe : va_A [(n 9, .inr (4, [.ref (n 10), .ref (n 11), .ref (n 12), .ref (n 13), .ref (n 14), .ref (n 15)])), (n 10, .inl (cI, 100, .inl (fun _ => 0))), (n 14, .inl (cI, 100, .inl (fun _ => -1)))] s.heap.size = A at hD ⊢
  have hA : ∀ q : Nat, s.heap.size ≤ q → A q := fun q h => by rw [← hAe]; exact Or.inr h
  have hS : va_S A s.heap s.heap [] := va_S.rf
  have hl := lv_entry ([.ref (n 9), .int (nI k), .int t]) (n := 3) (Nat.le_of_ble_eq_true rfl)
  rw [lg_entry_eq]
  generalize (lg_sl ([.ref (n 9), .int (nI k), .int t]) ++ List.replicate (3 - (lg_sl ([.ref (n 9), .int (nI k), .int t])).length) Slot.unset).toArray = ls at hl ⊢
  have hl : lv_has ls 3 [(0, .ref (n 9)), (1, .int (nI k)), (2, .int t)] := hl
  refine lv_aload_n hx hb dX4_usable_0 rfl (lv_at hl 0 rfl) ?_
  refine va_get (D := D) (ci := 4) (v := .ref (n 10)) (C := RX4) (T := TX4) (N := 6) hx hb hts hin4 hown hK hP 0 rfl rfl 0 (by decide) (hts (.fieldLink RX4 9 "MeshRouting$Routes" "marks" "[I") (List.mem_cons_of_mem _ q_124)) (fun _ h9 => h9) rfl dX4_usable_1 ?_
  refine lv_iload_n hx hb dX4_usable_4 rfl (lv_at hl 1 rfl) ?_
  refine k_iald (v := nI 0) hx hb hK hP 1 0 rfl rfl (by omega) (by omega) (nI_0.symm) dX4_usable_5 ?_
  refine lv_iconst (v := nI 2) hx hb dX4_usable_6 (by decide) ?_
  refine k_icmp_ne (tgt := 24) hx hb dX4_usable_7 (by decide) (by omega) (by omega) (fun _ => ?_) (fun h9 => absurd h9 (by omega))
  refine lv_iconst (v := nI 0) hx hb dX4_usable_24 (by decide) ?_
  have hP9 := hP.sub (ws' := [(n 9, .inr (4, [.ref (n 10), .ref (n 11), .ref (n 12), .ref (n 13), .ref (n 14), .ref (n 15)])), (n 10, .inl (cI, 100, .inl (fun _ => 0))), (n 14, .inl (cI, 100, .inl (fun _ => -1)))]) [0, 1, 2] rfl
  have hD9 := hD.sub (ws' := [(n 9, .inr (4, [.ref (n 10), .ref (n 11), .ref (n 12), .ref (n 13), .ref (n 14), .ref (n 15)])), (n 10, .inl (cI, 100, .inl (fun _ => 0))), (n 14, .inl (cI, 100, .inl (fun _ => -1)))]) [0, 1, 2] rfl rfl
  exact W.zret (v := nI 0) hx hb hr (by decide) (fun t9 ht9 hW9 => ⟨⟨nI 0, (), rfl, rfl, by rw [ht9]; exact hP9, hD9⟩, hS.F ht9⟩) hS.2.2 dX4_usable_25

set_option maxHeartbeats 4000000 in
set_option maxRecDepth 100000 in
theorem c_X4_exists (l : Launch) (D : va_G) (cI cJ cM cG : ClassId) (n : Nat → Nat) (k : Nat) (sz : Nat) (hk : k < 100) : Met l yX4_exists (Cond.code yX4_exists cX4_exists 2 (some .boolean) :: kBig) ({ frames := 0, cells := 0, slots := 0, locals := 0 }) (va_Pc [.ref (n 9), .int (nI k)] (kP D [(cI, .int), (cJ, .long), (cM, .object "MeshRouting$Message"), (cG, .array .int)] [(n 9, .inr (4, [.ref (n 10), .ref (n 11), .ref (n 12), .ref (n 13), .ref (n 14), .ref (n 15)])), (n 10, .inl (cI, 100, .inl (fun _ => 0)))] sz)) (va_Qi (fun (r : Int32) (_ : Unit) => r = nI 0) (fun _ t9 => kB D (va_A [(n 9, .inr (4, [.ref (n 10), .ref (n 11), .ref (n 12), .ref (n 13), .ref (n 14), .ref (n 15)])), (n 10, .inl (cI, 100, .inl (fun _ => 0)))] sz) [(n 9, .inr (4, [.ref (n 10), .ref (n 11), .ref (n 12), .ref (n 13), .ref (n 14), .ref (n 15)])), (n 10, .inl (cI, 100, .inl (fun _ => 0)))] t9) (va_A [(n 9, .inr (4, [.ref (n 10), .ref (n 11), .ref (n 12), .ref (n 13), .ref (n 14), .ref (n 15)])), (n 10, .inl (cI, 100, .inl (fun _ => 0)))] sz)) 0 0 (va_A [(n 9, .inr (4, [.ref (n 10), .ref (n 11), .ref (n 12), .ref (n 13), .ref (n 14), .ref (n 15)])), (n 10, .inl (cI, 100, .inl (fun _ => 0)))] sz) := by
  refine Met.ofW (cc := cX4_exists) (maxL := 2) (ret := (some .boolean)) (by decide) rfl ?_
  intro p e s m args below meth c s₁ B hml hv
  obtain ⟨rfl, hsz, hP, hK, hD0, hKN⟩ := hv
  have hx := B.exec
  have hb := B.bytes
  have hr := B.returns
  have hts := atoms_spec (ws := (Cond.code yX4_exists cX4_exists 2 (some .boolean) :: kBig)) B.pre
  have hown : s.vm.findClass RX4 = some m.cls := findClass_of_methodNamed B.named
  have hlocks := B.notSynchronized
  have hin4 : ∀ w ∈ u_ws RX4 TX4 6, w ∈ (Cond.code yX4_exists cX4_exists 2 (some .boolean) :: kBig) := fun w h => List.mem_cons_of_mem _ (inb4 w h)
  subst hsz
  have hD := hD0.self (sz := s.heap.size)
  generalize hAe : va_A [(n 9, .inr (4, [.ref (n 10), .ref (n 11), .ref (n 12), .ref (n 13), .ref (n 14), .ref (n 15)])), (n 10, .inl (cI, 100, .inl (fun _ => 0)))] s.heap.size = A at hD ⊢
  have hA : ∀ q : Nat, s.heap.size ≤ q → A q := fun q h => by rw [← hAe]; exact Or.inr h
  have hS : va_S A s.heap s.heap [] := va_S.rf
  have hl := lv_entry ([.ref (n 9), .int (nI k)]) (n := 2) (Nat.le_of_ble_eq_true rfl)
  rw [lg_entry_eq]
  generalize (lg_sl ([.ref (n 9), .int (nI k)]) ++ List.replicate (2 - (lg_sl ([.ref (n 9), .int (nI k)])).length) Slot.unset).toArray = ls at hl ⊢
  have hl : lv_has ls 2 [(0, .ref (n 9)), (1, .int (nI k))] := hl
  refine lv_aload_n hx hb dX4_exists_0 rfl (lv_at hl 0 rfl) ?_
  refine va_get (D := D) (ci := 4) (v := .ref (n 10)) (C := RX4) (T := TX4) (N := 6) hx hb hts hin4 hown hK hP 0 rfl rfl 0 (by decide) (hts (.fieldLink RX4 9 "MeshRouting$Routes" "marks" "[I") (List.mem_cons_of_mem _ q_124)) (fun _ h9 => h9) rfl dX4_exists_1 ?_
  refine lv_iload_n hx hb dX4_exists_4 rfl (lv_at hl 1 rfl) ?_
  refine k_iald (v := nI 0) hx hb hK hP 1 0 rfl rfl (by omega) (by omega) (nI_0.symm) dX4_exists_5 ?_
  refine k_if_eq (tgt := 13) hx hb dX4_exists_6 (by decide) (by omega) (fun _ => ?_) (fun h9 => absurd h9 (by omega))
  refine lv_iconst (v := nI 0) hx hb dX4_exists_13 (by decide) ?_
  have hP9 := hP.sub (ws' := [(n 9, .inr (4, [.ref (n 10), .ref (n 11), .ref (n 12), .ref (n 13), .ref (n 14), .ref (n 15)])), (n 10, .inl (cI, 100, .inl (fun _ => 0)))]) [0, 1] rfl
  have hD9 := hD.sub (ws' := [(n 9, .inr (4, [.ref (n 10), .ref (n 11), .ref (n 12), .ref (n 13), .ref (n 14), .ref (n 15)])), (n 10, .inl (cI, 100, .inl (fun _ => 0)))]) [0, 1] rfl rfl
  exact W.zret (v := nI 0) hx hb hr (by decide) (fun t9 ht9 hW9 => ⟨⟨nI 0, (), rfl, rfl, by rw [ht9]; exact hP9, hD9⟩, hS.F ht9⟩) hS.2.2 dX4_exists_14

set_option maxHeartbeats 4000000 in
set_option maxRecDepth 100000 in
theorem c_X3_drop (l : Launch) (D : va_G) (cI cJ cM cG : ClassId) (n : Nat → Nat) (cz : Nat) (t : Nat) (cn : Int32) (sz : Nat)  : Met l yX3_drop (Cond.code yX3_drop cX3_drop 4 none :: kBig) ({ frames := 0, cells := 0, slots := 0, locals := 0 }) (va_Pc [.ref (n 23), .int (nI 0), .int (nI cz), .int (nI t)] (kP D [(cI, .int), (cJ, .long), (cM, .object "MeshRouting$Message"), (cG, .array .int)] [(n 23, .inr (3, [.int cn, .ref (n 24), .ref (n 25), .ref (n 26), .ref (n 27), .ref (n 28), .ref (n 29), .ref (n 30), .ref (n 31)])), (n 26, .inl (cI, 200, .inl (fun _ => 0))), (n 31, .inl (cI, 200, .inl (fun _ => 0))), (n 30, .inl (cI, 200, .inl (fun _ => -1)))] sz)) (va_Qv (fun _ : Unit => True) (fun _ t9 => kB D (va_A [(n 23, .inr (3, [.int cn, .ref (n 24), .ref (n 25), .ref (n 26), .ref (n 27), .ref (n 28), .ref (n 29), .ref (n 30), .ref (n 31)])), (n 26, .inl (cI, 200, .inl (fun _ => 0))), (n 31, .inl (cI, 200, .inl (fun _ => 0))), (n 30, .inl (cI, 200, .inl (fun _ => -1)))] sz) [(n 23, .inr (3, [.int cn, .ref (n 24), .ref (n 25), .ref (n 26), .ref (n 27), .ref (n 28), .ref (n 29), .ref (n 30), .ref (n 31)])), (n 26, .inl (cI, 200, .inl (upd (fun _ => 0) 0 (nI 3)))), (n 31, .inl (cI, 200, .inl (upd (fun _ => 0) 0 (nI cz)))), (n 30, .inl (cI, 200, .inl (upd (fun _ => -1) 0 (nI t))))] t9) (va_A [(n 23, .inr (3, [.int cn, .ref (n 24), .ref (n 25), .ref (n 26), .ref (n 27), .ref (n 28), .ref (n 29), .ref (n 30), .ref (n 31)])), (n 26, .inl (cI, 200, .inl (fun _ => 0))), (n 31, .inl (cI, 200, .inl (fun _ => 0))), (n 30, .inl (cI, 200, .inl (fun _ => -1)))] sz)) 0 0 (va_A [(n 23, .inr (3, [.int cn, .ref (n 24), .ref (n 25), .ref (n 26), .ref (n 27), .ref (n 28), .ref (n 29), .ref (n 30), .ref (n 31)])), (n 26, .inl (cI, 200, .inl (fun _ => 0))), (n 31, .inl (cI, 200, .inl (fun _ => 0))), (n 30, .inl (cI, 200, .inl (fun _ => -1)))] sz) := by
  refine Met.ofW (cc := cX3_drop) (maxL := 4) (ret := none) (by decide) rfl ?_
  intro p e s m args below meth c s₁ B hml hv
  obtain ⟨rfl, hsz, hP, hK, hD0, hKN⟩ := hv
  have hx := B.exec
  have hb := B.bytes
  have hr := B.returns
  have hts := atoms_spec (ws := (Cond.code yX3_drop cX3_drop 4 none :: kBig)) B.pre
  have hown : s.vm.findClass RX3 = some m.cls := findClass_of_methodNamed B.named
  have hlocks := B.notSynchronized
  have hin3 : ∀ w ∈ u_ws RX3 TX3 9, w ∈ (Cond.code yX3_drop cX3_drop 4 none :: kBig) := fun w h => List.mem_cons_of_mem _ (inb3 w h)
  subst hsz
  have hD := hD0.self (sz := s.heap.size)
  generalize hAe : va_A [(n 23, .inr (3, [.int cn, .ref (n 24), .ref (n 25), .ref (n 26), .ref (n 27), .ref (n 28), .ref (n 29), .ref (n 30), .ref (n 31)])), (n 26, .inl (cI, 200, .inl (fun _ => 0))), (n 31, .inl (cI, 200, .inl (fun _ => 0))), (n 30, .inl (cI, 200, .inl (fun _ => -1)))] s.heap.size = A at hD ⊢
  have hA : ∀ q : Nat, s.heap.size ≤ q → A q := fun q h => by rw [← hAe]; exact Or.inr h
  have hS : va_S A s.heap s.heap [] := va_S.rf
  have hl := lv_entry ([.ref (n 23), .int (nI 0), .int (nI cz), .int (nI t)]) (n := 4) (Nat.le_of_ble_eq_true rfl)
  rw [lg_entry_eq]
  generalize (lg_sl ([.ref (n 23), .int (nI 0), .int (nI cz), .int (nI t)]) ++ List.replicate (4 - (lg_sl ([.ref (n 23), .int (nI 0), .int (nI cz), .int (nI t)])).length) Slot.unset).toArray = ls at hl ⊢
  have hl : lv_has ls 4 [(0, .ref (n 23)), (1, .int (nI 0)), (2, .int (nI cz)), (3, .int (nI t))] := hl
  refine lv_aload_n hx hb dX3_drop_0 rfl (lv_at hl 0 rfl) ?_
  refine va_get (D := D) (ci := 3) (v := .ref (n 26)) (C := RX3) (T := TX3) (N := 9) hx hb hts hin3 hown hK hP 0 rfl rfl 3 (by decide) (hts (.fieldLink RX3 18 "MeshRouting$Packets" "states" "[I") (List.mem_cons_of_mem _ q_150)) (fun _ h9 => h9) rfl dX3_drop_1 ?_
  refine lv_iload_n hx hb dX3_drop_4 rfl (lv_at hl 1 rfl) ?_
  refine lv_iconst (v := nI 3) hx hb dX3_drop_5 (by decide) ?_
  refine k_iast (f' := upd (fun _ => 0) 0 (nI 3)) hx hb hK hP hD hS 1 0 rfl rfl (by omega) (by omega) (rfl) dX3_drop_6 (fun H locs hP hD hS => ?_)
  replace hP : va_P D vwCl [(n 23, .inr (3, [.int cn, .ref (n 24), .ref (n 25), .ref (n 26), .ref (n 27), .ref (n 28), .ref (n 29), .ref (n 30), .ref (n 31)])), (n 26, .inl (cI, 200, .inl (upd (fun _ => 0) 0 (nI 3)))), (n 31, .inl (cI, 200, .inl (fun _ => 0))), (n 30, .inl (cI, 200, .inl (fun _ => -1)))] H := hP
  replace hD : va_D A [(n 23, .inr (3, [.int cn, .ref (n 24), .ref (n 25), .ref (n 26), .ref (n 27), .ref (n 28), .ref (n 29), .ref (n 30), .ref (n 31)])), (n 26, .inl (cI, 200, .inl (upd (fun _ => 0) 0 (nI 3)))), (n 31, .inl (cI, 200, .inl (fun _ => 0))), (n 30, .inl (cI, 200, .inl (fun _ => -1)))] := hD
  refine lv_aload_n hx hb dX3_drop_7 rfl (lv_at hl 0 rfl) ?_
  refine va_get (D := D) (ci := 3) (v := .ref (n 31)) (C := RX3) (T := TX3) (N := 9) hx hb hts hin3 hown hK hP 0 rfl rfl 8 (by decide) (hts (.fieldLink RX3 37 "MeshRouting$Packets" "causes" "[I") (List.mem_cons_of_mem _ q_155)) (fun _ h9 => h9) rfl dX3_drop_8 ?_
  refine lv_iload_n hx hb dX3_drop_11 rfl (lv_at hl 1 rfl) ?_
  refine lv_iload_n hx hb dX3_drop_12 rfl (lv_at hl 2 rfl) ?_
  refine k_iast (f' := upd (fun _ => 0) 0 (nI cz)) hx hb hK hP hD hS 2 0 rfl rfl (by omega) (by omega) (rfl) dX3_drop_13 (fun H locs hP hD hS => ?_)
  replace hP : va_P D vwCl [(n 23, .inr (3, [.int cn, .ref (n 24), .ref (n 25), .ref (n 26), .ref (n 27), .ref (n 28), .ref (n 29), .ref (n 30), .ref (n 31)])), (n 26, .inl (cI, 200, .inl (upd (fun _ => 0) 0 (nI 3)))), (n 31, .inl (cI, 200, .inl (upd (fun _ => 0) 0 (nI cz)))), (n 30, .inl (cI, 200, .inl (fun _ => -1)))] H := hP
  replace hD : va_D A [(n 23, .inr (3, [.int cn, .ref (n 24), .ref (n 25), .ref (n 26), .ref (n 27), .ref (n 28), .ref (n 29), .ref (n 30), .ref (n 31)])), (n 26, .inl (cI, 200, .inl (upd (fun _ => 0) 0 (nI 3)))), (n 31, .inl (cI, 200, .inl (upd (fun _ => 0) 0 (nI cz)))), (n 30, .inl (cI, 200, .inl (fun _ => -1)))] := hD
  refine lv_aload_n hx hb dX3_drop_14 rfl (lv_at hl 0 rfl) ?_
  refine va_get (D := D) (ci := 3) (v := .ref (n 30)) (C := RX3) (T := TX3) (N := 9) hx hb hts hin3 hown hK hP 0 rfl rfl 7 (by decide) (hts (.fieldLink RX3 34 "MeshRouting$Packets" "ends" "[I") (List.mem_cons_of_mem _ q_154)) (fun _ h9 => h9) rfl dX3_drop_15 ?_
  refine lv_iload_n hx hb dX3_drop_18 rfl (lv_at hl 1 rfl) ?_
  refine lv_iload_n hx hb dX3_drop_19 rfl (lv_at hl 3 rfl) ?_
  refine k_iast (f' := upd (fun _ => -1) 0 (nI t)) hx hb hK hP hD hS 3 0 rfl rfl (by omega) (by omega) (rfl) dX3_drop_20 (fun H locs hP hD hS => ?_)
  replace hP : va_P D vwCl [(n 23, .inr (3, [.int cn, .ref (n 24), .ref (n 25), .ref (n 26), .ref (n 27), .ref (n 28), .ref (n 29), .ref (n 30), .ref (n 31)])), (n 26, .inl (cI, 200, .inl (upd (fun _ => 0) 0 (nI 3)))), (n 31, .inl (cI, 200, .inl (upd (fun _ => 0) 0 (nI cz)))), (n 30, .inl (cI, 200, .inl (upd (fun _ => -1) 0 (nI t))))] H := hP
  replace hD : va_D A [(n 23, .inr (3, [.int cn, .ref (n 24), .ref (n 25), .ref (n 26), .ref (n 27), .ref (n 28), .ref (n 29), .ref (n 30), .ref (n 31)])), (n 26, .inl (cI, 200, .inl (upd (fun _ => 0) 0 (nI 3)))), (n 31, .inl (cI, 200, .inl (upd (fun _ => 0) 0 (nI cz)))), (n 30, .inl (cI, 200, .inl (upd (fun _ => -1) 0 (nI t))))] := hD
  have hP9 := hP.sub (ws' := [(n 23, .inr (3, [.int cn, .ref (n 24), .ref (n 25), .ref (n 26), .ref (n 27), .ref (n 28), .ref (n 29), .ref (n 30), .ref (n 31)])), (n 26, .inl (cI, 200, .inl (upd (fun _ => 0) 0 (nI 3)))), (n 31, .inl (cI, 200, .inl (upd (fun _ => 0) 0 (nI cz)))), (n 30, .inl (cI, 200, .inl (upd (fun _ => -1) 0 (nI t))))]) [0, 1, 2, 3] rfl
  have hD9 := hD.sub (ws' := [(n 23, .inr (3, [.int cn, .ref (n 24), .ref (n 25), .ref (n 26), .ref (n 27), .ref (n 28), .ref (n 29), .ref (n 30), .ref (n 31)])), (n 26, .inl (cI, 200, .inl (upd (fun _ => 0) 0 (nI 3)))), (n 31, .inl (cI, 200, .inl (upd (fun _ => 0) 0 (nI cz)))), (n 30, .inl (cI, 200, .inl (upd (fun _ => -1) 0 (nI t))))]) [0, 1, 2, 3] rfl rfl
  exact W.vret hx hb hr (fun t9 ht9 hW9 => ⟨⟨(), rfl, trivial, by rw [ht9]; exact hP9, hD9⟩, hS.F ht9⟩) hS.2.2 dX3_drop_21

set_option maxHeartbeats 4000000 in
set_option maxRecDepth 100000 in
theorem c_X3_inState0 (l : Launch) (D : va_G) (cI cJ cM cG : ClassId) (n : Nat → Nat) (x : Int32) (f : Nat → Int32) (sz : Nat)  : Met l yX3_inState (Cond.code yX3_inState cX3_inState 4 (some .int) :: kBig) ({ frames := 0, cells := 0, slots := 0, locals := 0 }) (va_Pc [.ref (n 23), .int x] (kP D [(cI, .int), (cJ, .long), (cM, .object "MeshRouting$Message"), (cG, .array .int)] [(n 23, .inr (3, [.int (nI 0), .ref (n 24), .ref (n 25), .ref (n 26), .ref (n 27), .ref (n 28), .ref (n 29), .ref (n 30), .ref (n 31)])), (n 26, .inl (cI, 200, .inl f))] sz)) (va_Qi (fun (r : Int32) (_ : Unit) => r = nI 0) (fun _ t9 => kB D (va_A [(n 23, .inr (3, [.int (nI 0), .ref (n 24), .ref (n 25), .ref (n 26), .ref (n 27), .ref (n 28), .ref (n 29), .ref (n 30), .ref (n 31)])), (n 26, .inl (cI, 200, .inl f))] sz) [(n 23, .inr (3, [.int (nI 0), .ref (n 24), .ref (n 25), .ref (n 26), .ref (n 27), .ref (n 28), .ref (n 29), .ref (n 30), .ref (n 31)])), (n 26, .inl (cI, 200, .inl f))] t9) (va_A [(n 23, .inr (3, [.int (nI 0), .ref (n 24), .ref (n 25), .ref (n 26), .ref (n 27), .ref (n 28), .ref (n 29), .ref (n 30), .ref (n 31)])), (n 26, .inl (cI, 200, .inl f))] sz)) 0 0 (va_A [(n 23, .inr (3, [.int (nI 0), .ref (n 24), .ref (n 25), .ref (n 26), .ref (n 27), .ref (n 28), .ref (n 29), .ref (n 30), .ref (n 31)])), (n 26, .inl (cI, 200, .inl f))] sz) := by
  refine Met.ofW (cc := cX3_inState) (maxL := 4) (ret := (some .int)) (by decide) rfl ?_
  intro p e s m args below meth c s₁ B hml hv
  obtain ⟨rfl, hsz, hP, hK, hD0, hKN⟩ := hv
  have hx := B.exec
  have hb := B.bytes
  have hr := B.returns
  have hts := atoms_spec (ws := (Cond.code yX3_inState cX3_inState 4 (some .int) :: kBig)) B.pre
  have hown : s.vm.findClass RX3 = some m.cls := findClass_of_methodNamed B.named
  have hlocks := B.notSynchronized
  have hin3 : ∀ w ∈ u_ws RX3 TX3 9, w ∈ (Cond.code yX3_inState cX3_inState 4 (some .int) :: kBig) := fun w h => List.mem_cons_of_mem _ (inb3 w h)
  subst hsz
  have hD := hD0.self (sz := s.heap.size)
  generalize hAe : va_A [(n 23, .inr (3, [.int (nI 0), .ref (n 24), .ref (n 25), .ref (n 26), .ref (n 27), .ref (n 28), .ref (n 29), .ref (n 30), .ref (n 31)])), (n 26, .inl (cI, 200, .inl f))] s.heap.size = A at hD ⊢
  have hA : ∀ q : Nat, s.heap.size ≤ q → A q := fun q h => by rw [← hAe]; exact Or.inr h
  have hS : va_S A s.heap s.heap [] := va_S.rf
  have hl := lv_entry ([.ref (n 23), .int x]) (n := 4) (Nat.le_of_ble_eq_true rfl)
  rw [lg_entry_eq]
  generalize (lg_sl ([.ref (n 23), .int x]) ++ List.replicate (4 - (lg_sl ([.ref (n 23), .int x])).length) Slot.unset).toArray = ls at hl ⊢
  have hl : lv_has ls 4 [(0, .ref (n 23)), (1, .int x)] := hl
  refine lv_iconst (v := nI 0) hx hb dX3_inState_0 (by decide) ?_
  refine lv_istore_n (lv' := [(2, .int (nI 0)), (0, .ref (n 23)), (1, .int x)]) hx hb dX3_inState_1 rfl hl (by decide) rfl (fun ls hl => ?_)
  refine lv_iconst (v := nI 0) hx hb dX3_inState_2 (by decide) ?_
  refine lv_istore_n (lv' := [(3, .int (nI 0)), (2, .int (nI 0)), (0, .ref (n 23)), (1, .int x)]) hx hb dX3_inState_3 rfl hl (by decide) rfl (fun ls hl => ?_)
  refine lv_iload_n hx hb dX3_inState_4 rfl (lv_at hl 0 rfl) ?_
  refine lv_aload_n hx hb dX3_inState_5 rfl (lv_at hl 2 rfl) ?_
  refine va_get (D := D) (ci := 3) (v := .int (nI 0)) (C := RX3) (T := TX3) (N := 9) hx hb hts hin3 hown hK hP 0 rfl rfl 0 (by decide) (hts (.fieldLink RX3 40 "MeshRouting$Packets" "count" "I") (List.mem_cons_of_mem _ q_147)) (fun _ h9 => h9) rfl dX3_inState_6 ?_
  refine k_icmp_ge (tgt := 31) hx hb dX3_inState_9 (by decide) (by omega) (by omega) (fun _ => ?_) (fun h9 => absurd h9 (by omega))
  refine lv_iload_n hx hb dX3_inState_31 rfl (lv_at hl 1 rfl) ?_
  have hP9 := hP.sub (ws' := [(n 23, .inr (3, [.int (nI 0), .ref (n 24), .ref (n 25), .ref (n 26), .ref (n 27), .ref (n 28), .ref (n 29), .ref (n 30), .ref (n 31)])), (n 26, .inl (cI, 200, .inl f))]) [0, 1] rfl
  have hD9 := hD.sub (ws' := [(n 23, .inr (3, [.int (nI 0), .ref (n 24), .ref (n 25), .ref (n 26), .ref (n 27), .ref (n 28), .ref (n 29), .ref (n 30), .ref (n 31)])), (n 26, .inl (cI, 200, .inl f))]) [0, 1] rfl rfl
  exact W.iret (v := nI 0) hx hb hr (fun t9 ht9 hW9 => ⟨⟨nI 0, (), rfl, rfl, by rw [ht9]; exact hP9, hD9⟩, hS.F ht9⟩) hS.2.2 dX3_inState_32

set_option maxHeartbeats 4000000 in
set_option maxRecDepth 100000 in
theorem c_X3_links0 (l : Launch) (D : va_G) (cI cJ cM cG : ClassId) (n : Nat → Nat) (sz : Nat)  : Met l yX3_linksOfDelivered (Cond.code yX3_linksOfDelivered cX3_linksOfDelivered 3 (some .int) :: kBig) ({ frames := 0, cells := 0, slots := 0, locals := 0 }) (va_Pc [.ref (n 23)] (kP D [(cI, .int), (cJ, .long), (cM, .object "MeshRouting$Message"), (cG, .array .int)] [(n 23, .inr (3, [.int (nI 0), .ref (n 24), .ref (n 25), .ref (n 26), .ref (n 27), .ref (n 28), .ref (n 29), .ref (n 30), .ref (n 31)]))] sz)) (va_Qi (fun (r : Int32) (_ : Unit) => r = nI 0) (fun _ t9 => kB D (va_A [(n 23, .inr (3, [.int (nI 0), .ref (n 24), .ref (n 25), .ref (n 26), .ref (n 27), .ref (n 28), .ref (n 29), .ref (n 30), .ref (n 31)]))] sz) [(n 23, .inr (3, [.int (nI 0), .ref (n 24), .ref (n 25), .ref (n 26), .ref (n 27), .ref (n 28), .ref (n 29), .ref (n 30), .ref (n 31)]))] t9) (va_A [(n 23, .inr (3, [.int (nI 0), .ref (n 24), .ref (n 25), .ref (n 26), .ref (n 27), .ref (n 28), .ref (n 29), .ref (n 30), .ref (n 31)]))] sz)) 0 0 (va_A [(n 23, .inr (3, [.int (nI 0), .ref (n 24), .ref (n 25), .ref (n 26), .ref (n 27), .ref (n 28), .ref (n 29), .ref (n 30), .ref (n 31)]))] sz) := by
  refine Met.ofW (cc := cX3_linksOfDelivered) (maxL := 3) (ret := (some .int)) (by decide) rfl ?_
  intro p e s m args below meth c s₁ B hml hv
  obtain ⟨rfl, hsz, hP, hK, hD0, hKN⟩ := hv
  have hx := B.exec
  have hb := B.bytes
  have hr := B.returns
  have hts := atoms_spec (ws := (Cond.code yX3_linksOfDelivered cX3_linksOfDelivered 3 (some .int) :: kBig)) B.pre
  have hown : s.vm.findClass RX3 = some m.cls := findClass_of_methodNamed B.named
  have hlocks := B.notSynchronized
  have hin3 : ∀ w ∈ u_ws RX3 TX3 9, w ∈ (Cond.code yX3_linksOfDelivered cX3_linksOfDelivered 3 (some .int) :: kBig) := fun w h => List.mem_cons_of_mem _ (inb3 w h)
  subst hsz
  have hD := hD0.self (sz := s.heap.size)
  generalize hAe : va_A [(n 23, .inr (3, [.int (nI 0), .ref (n 24), .ref (n 25), .ref (n 26), .ref (n 27), .ref (n 28), .ref (n 29), .ref (n 30), .ref (n 31)]))] s.heap.size = A at hD ⊢
  have hA : ∀ q : Nat, s.heap.size ≤ q → A q := fun q h => by rw [← hAe]; exact Or.inr h
  have hS : va_S A s.heap s.heap [] := va_S.rf
  have hl := lv_entry ([.ref (n 23)]) (n := 3) (Nat.le_of_ble_eq_true rfl)
  rw [lg_entry_eq]
  generalize (lg_sl ([.ref (n 23)]) ++ List.replicate (3 - (lg_sl ([.ref (n 23)])).length) Slot.unset).toArray = ls at hl ⊢
  have hl : lv_has ls 3 [(0, .ref (n 23))] := hl
  refine lv_iconst (v := nI 0) hx hb dX3_linksOfDelivered_0 (by decide) ?_
  refine lv_istore_n (lv' := [(1, .int (nI 0)), (0, .ref (n 23))]) hx hb dX3_linksOfDelivered_1 rfl hl (by decide) rfl (fun ls hl => ?_)
  refine lv_iconst (v := nI 0) hx hb dX3_linksOfDelivered_2 (by decide) ?_
  refine lv_istore_n (lv' := [(2, .int (nI 0)), (1, .int (nI 0)), (0, .ref (n 23))]) hx hb dX3_linksOfDelivered_3 rfl hl (by decide) rfl (fun ls hl => ?_)
  refine lv_iload_n hx hb dX3_linksOfDelivered_4 rfl (lv_at hl 0 rfl) ?_
  refine lv_aload_n hx hb dX3_linksOfDelivered_5 rfl (lv_at hl 2 rfl) ?_
  refine va_get (D := D) (ci := 3) (v := .int (nI 0)) (C := RX3) (T := TX3) (N := 9) hx hb hts hin3 hown hK hP 0 rfl rfl 0 (by decide) (hts (.fieldLink RX3 40 "MeshRouting$Packets" "count" "I") (List.mem_cons_of_mem _ q_147)) (fun _ h9 => h9) rfl dX3_linksOfDelivered_6 ?_
  refine k_icmp_ge (tgt := 37) hx hb dX3_linksOfDelivered_9 (by decide) (by omega) (by omega) (fun _ => ?_) (fun h9 => absurd h9 (by omega))
  refine lv_iload_n hx hb dX3_linksOfDelivered_37 rfl (lv_at hl 1 rfl) ?_
  have hP9 := hP.sub (ws' := [(n 23, .inr (3, [.int (nI 0), .ref (n 24), .ref (n 25), .ref (n 26), .ref (n 27), .ref (n 28), .ref (n 29), .ref (n 30), .ref (n 31)]))]) [0] rfl
  have hD9 := hD.sub (ws' := [(n 23, .inr (3, [.int (nI 0), .ref (n 24), .ref (n 25), .ref (n 26), .ref (n 27), .ref (n 28), .ref (n 29), .ref (n 30), .ref (n 31)]))]) [0] rfl rfl
  exact W.iret (v := nI 0) hx hb hr (fun t9 ht9 hW9 => ⟨⟨nI 0, (), rfl, rfl, by rw [ht9]; exact hP9, hD9⟩, hS.F ht9⟩) hS.2.2 dX3_linksOfDelivered_38

set_option maxHeartbeats 4000000 in
set_option maxRecDepth 100000 in
theorem c_X0_isUp (l : Launch) (D : va_G) (cI cJ cM cG : ClassId) (n : Nat → Nat) (N : Nat) (a : Nat) (b : Nat) (sz : Nat) (ha : a < 10) (hb9 : b < 10) : Met l yX0_isUp (Cond.code yX0_isUp cX0_isUp 3 (some .boolean) :: kBig) ({ frames := 0, cells := 0, slots := 0, locals := 0 }) (va_Pc [.ref (n 3), .int (nI a), .int (nI b)] (kP D [(cI, .int), (cJ, .long), (cM, .object "MeshRouting$Message"), (cG, .array .int)] [(n 3, .inr (0, [.int (nI N), .ref (n 4), .ref (n 5), .ref (n 6), .ref (n 7), .ref (n 8), .null])), (n 4, .inl (cG, 10, .inr (.inr (.inr (.inr (kRows n)))))), (n 34, .inl (cI, 10, .inl (fun _ => 0))), (n 35, .inl (cI, 10, .inl (fun _ => 0))), (n 36, .inl (cI, 10, .inl (fun _ => 0))), (n 37, .inl (cI, 10, .inl (fun _ => 0))), (n 38, .inl (cI, 10, .inl (fun _ => 0))), (n 39, .inl (cI, 10, .inl (fun _ => 0))), (n 40, .inl (cI, 10, .inl (fun _ => 0))), (n 41, .inl (cI, 10, .inl (fun _ => 0))), (n 42, .inl (cI, 10, .inl (fun _ => 0))), (n 43, .inl (cI, 10, .inl (fun _ => 0)))] sz)) (va_Qi (fun (r : Int32) (_ : Unit) => r = nI 0) (fun _ t9 => kB D (va_A [(n 3, .inr (0, [.int (nI N), .ref (n 4), .ref (n 5), .ref (n 6), .ref (n 7), .ref (n 8), .null])), (n 4, .inl (cG, 10, .inr (.inr (.inr (.inr (kRows n)))))), (n 34, .inl (cI, 10, .inl (fun _ => 0))), (n 35, .inl (cI, 10, .inl (fun _ => 0))), (n 36, .inl (cI, 10, .inl (fun _ => 0))), (n 37, .inl (cI, 10, .inl (fun _ => 0))), (n 38, .inl (cI, 10, .inl (fun _ => 0))), (n 39, .inl (cI, 10, .inl (fun _ => 0))), (n 40, .inl (cI, 10, .inl (fun _ => 0))), (n 41, .inl (cI, 10, .inl (fun _ => 0))), (n 42, .inl (cI, 10, .inl (fun _ => 0))), (n 43, .inl (cI, 10, .inl (fun _ => 0)))] sz) [(n 3, .inr (0, [.int (nI N), .ref (n 4), .ref (n 5), .ref (n 6), .ref (n 7), .ref (n 8), .null])), (n 4, .inl (cG, 10, .inr (.inr (.inr (.inr (kRows n)))))), (n 34, .inl (cI, 10, .inl (fun _ => 0))), (n 35, .inl (cI, 10, .inl (fun _ => 0))), (n 36, .inl (cI, 10, .inl (fun _ => 0))), (n 37, .inl (cI, 10, .inl (fun _ => 0))), (n 38, .inl (cI, 10, .inl (fun _ => 0))), (n 39, .inl (cI, 10, .inl (fun _ => 0))), (n 40, .inl (cI, 10, .inl (fun _ => 0))), (n 41, .inl (cI, 10, .inl (fun _ => 0))), (n 42, .inl (cI, 10, .inl (fun _ => 0))), (n 43, .inl (cI, 10, .inl (fun _ => 0)))] t9) (va_A [(n 3, .inr (0, [.int (nI N), .ref (n 4), .ref (n 5), .ref (n 6), .ref (n 7), .ref (n 8), .null])), (n 4, .inl (cG, 10, .inr (.inr (.inr (.inr (kRows n)))))), (n 34, .inl (cI, 10, .inl (fun _ => 0))), (n 35, .inl (cI, 10, .inl (fun _ => 0))), (n 36, .inl (cI, 10, .inl (fun _ => 0))), (n 37, .inl (cI, 10, .inl (fun _ => 0))), (n 38, .inl (cI, 10, .inl (fun _ => 0))), (n 39, .inl (cI, 10, .inl (fun _ => 0))), (n 40, .inl (cI, 10, .inl (fun _ => 0))), (n 41, .inl (cI, 10, .inl (fun _ => 0))), (n 42, .inl (cI, 10, .inl (fun _ => 0))), (n 43, .inl (cI, 10, .inl (fun _ => 0)))] sz)) 0 0 (va_A [(n 3, .inr (0, [.int (nI N), .ref (n 4), .ref (n 5), .ref (n 6), .ref (n 7), .ref (n 8), .null])), (n 4, .inl (cG, 10, .inr (.inr (.inr (.inr (kRows n)))))), (n 34, .inl (cI, 10, .inl (fun _ => 0))), (n 35, .inl (cI, 10, .inl (fun _ => 0))), (n 36, .inl (cI, 10, .inl (fun _ => 0))), (n 37, .inl (cI, 10, .inl (fun _ => 0))), (n 38, .inl (cI, 10, .inl (fun _ => 0))), (n 39, .inl (cI, 10, .inl (fun _ => 0))), (n 40, .inl (cI, 10, .inl (fun _ => 0))), (n 41, .inl (cI, 10, .inl (fun _ => 0))), (n 42, .inl (cI, 10, .inl (fun _ => 0))), (n 43, .inl (cI, 10, .inl (fun _ => 0)))] sz) := by
  refine Met.ofW (cc := cX0_isUp) (maxL := 3) (ret := (some .boolean)) (by decide) rfl ?_
  intro p e s m args below meth c s₁ B hml hv
  obtain ⟨rfl, hsz, hP, hK, hD0, hKN⟩ := hv
  have hx := B.exec
  have hb := B.bytes
  have hr := B.returns
  have hts := atoms_spec (ws := (Cond.code yX0_isUp cX0_isUp 3 (some .boolean) :: kBig)) B.pre
  have hown : s.vm.findClass RX0 = some m.cls := findClass_of_methodNamed B.named
  have hlocks := B.notSynchronized
  have hin0 : ∀ w ∈ u_ws RX0 TX0 7, w ∈ (Cond.code yX0_isUp cX0_isUp 3 (some .boolean) :: kBig) := fun w h => List.mem_cons_of_mem _ (inb0 w h)
  subst hsz
  have hD := hD0.self (sz := s.heap.size)
  generalize hAe : va_A [(n 3, .inr (0, [.int (nI N), .ref (n 4), .ref (n 5), .ref (n 6), .ref (n 7), .ref (n 8), .null])), (n 4, .inl (cG, 10, .inr (.inr (.inr (.inr (kRows n)))))), (n 34, .inl (cI, 10, .inl (fun _ => 0))), (n 35, .inl (cI, 10, .inl (fun _ => 0))), (n 36, .inl (cI, 10, .inl (fun _ => 0))), (n 37, .inl (cI, 10, .inl (fun _ => 0))), (n 38, .inl (cI, 10, .inl (fun _ => 0))), (n 39, .inl (cI, 10, .inl (fun _ => 0))), (n 40, .inl (cI, 10, .inl (fun _ => 0))), (n 41, .inl (cI, 10, .inl (fun _ => 0))), (n 42, .inl (cI, 10, .inl (fun _ => 0))), (n 43, .inl (cI, 10, .inl (fun _ => 0)))] s.heap.size = A at hD ⊢
  have hA : ∀ q : Nat, s.heap.size ≤ q → A q := fun q h => by rw [← hAe]; exact Or.inr h
  have hS : va_S A s.heap s.heap [] := va_S.rf
  have hl := lv_entry ([.ref (n 3), .int (nI a), .int (nI b)]) (n := 3) (Nat.le_of_ble_eq_true rfl)
  rw [lg_entry_eq]
  generalize (lg_sl ([.ref (n 3), .int (nI a), .int (nI b)]) ++ List.replicate (3 - (lg_sl ([.ref (n 3), .int (nI a), .int (nI b)])).length) Slot.unset).toArray = ls at hl ⊢
  have hl : lv_has ls 3 [(0, .ref (n 3)), (1, .int (nI a)), (2, .int (nI b))] := hl
  refine lv_aload_n hx hb dX0_isUp_0 rfl (lv_at hl 0 rfl) ?_
  refine va_get (D := D) (ci := 0) (v := .ref (n 4)) (C := RX0) (T := TX0) (N := 7) hx hb hts hin0 hown hK hP 0 rfl rfl 1 (by decide) (hts (.fieldLink RX0 11 "MeshRouting$Links" "delays" "[[I") (List.mem_cons_of_mem _ q_77)) (fun _ h9 => h9) rfl dX0_isUp_1 ?_
  refine lv_iload_n hx hb dX0_isUp_4 rfl (lv_at hl 1 rfl) ?_
  refine k_aldg (v := some (n (34 + a))) hx hb hK hP 1 3 rfl rfl (by omega) (by omega) (kRows_at (by omega)) dX0_isUp_5 ?_
  refine k_tv (show _ = Value.ref (n (34 + a)) from rfl) ?_
  refine lv_iload_n hx hb dX0_isUp_6 rfl (lv_at hl 2 rfl) ?_
  refine k_iald (v := nI 0) hx hb hK hP (2 + a) 0 (k_10 (P := fun j => ([(n 3, .inr (0, [.int (nI N), .ref (n 4), .ref (n 5), .ref (n 6), .ref (n 7), .ref (n 8), .null])), (n 4, .inl (cG, 10, .inr (.inr (.inr (.inr (kRows n)))))), (n 34, .inl (cI, 10, .inl (fun _ => 0))), (n 35, .inl (cI, 10, .inl (fun _ => 0))), (n 36, .inl (cI, 10, .inl (fun _ => 0))), (n 37, .inl (cI, 10, .inl (fun _ => 0))), (n 38, .inl (cI, 10, .inl (fun _ => 0))), (n 39, .inl (cI, 10, .inl (fun _ => 0))), (n 40, .inl (cI, 10, .inl (fun _ => 0))), (n 41, .inl (cI, 10, .inl (fun _ => 0))), (n 42, .inl (cI, 10, .inl (fun _ => 0))), (n 43, .inl (cI, 10, .inl (fun _ => 0)))] : va_W)[2 + j]? = some (n (34 + j), .inl (cI, 10, .inl (fun _ => 0)))) rfl rfl rfl rfl rfl rfl rfl rfl rfl rfl (by omega)) rfl (by omega) (by omega) (nI_0.symm) dX0_isUp_7 ?_
  refine k_if_le (tgt := 15) hx hb dX0_isUp_8 (by decide) (by omega) (fun _ => ?_) (fun h9 => absurd h9 (by omega))
  refine lv_iconst (v := nI 0) hx hb dX0_isUp_15 (by decide) ?_
  have hP9 := hP.sub (ws' := [(n 3, .inr (0, [.int (nI N), .ref (n 4), .ref (n 5), .ref (n 6), .ref (n 7), .ref (n 8), .null])), (n 4, .inl (cG, 10, .inr (.inr (.inr (.inr (kRows n)))))), (n 34, .inl (cI, 10, .inl (fun _ => 0))), (n 35, .inl (cI, 10, .inl (fun _ => 0))), (n 36, .inl (cI, 10, .inl (fun _ => 0))), (n 37, .inl (cI, 10, .inl (fun _ => 0))), (n 38, .inl (cI, 10, .inl (fun _ => 0))), (n 39, .inl (cI, 10, .inl (fun _ => 0))), (n 40, .inl (cI, 10, .inl (fun _ => 0))), (n 41, .inl (cI, 10, .inl (fun _ => 0))), (n 42, .inl (cI, 10, .inl (fun _ => 0))), (n 43, .inl (cI, 10, .inl (fun _ => 0)))]) [0, 1, 2, 3, 4, 5, 6, 7, 8, 9, 10, 11] rfl
  have hD9 := hD.sub (ws' := [(n 3, .inr (0, [.int (nI N), .ref (n 4), .ref (n 5), .ref (n 6), .ref (n 7), .ref (n 8), .null])), (n 4, .inl (cG, 10, .inr (.inr (.inr (.inr (kRows n)))))), (n 34, .inl (cI, 10, .inl (fun _ => 0))), (n 35, .inl (cI, 10, .inl (fun _ => 0))), (n 36, .inl (cI, 10, .inl (fun _ => 0))), (n 37, .inl (cI, 10, .inl (fun _ => 0))), (n 38, .inl (cI, 10, .inl (fun _ => 0))), (n 39, .inl (cI, 10, .inl (fun _ => 0))), (n 40, .inl (cI, 10, .inl (fun _ => 0))), (n 41, .inl (cI, 10, .inl (fun _ => 0))), (n 42, .inl (cI, 10, .inl (fun _ => 0))), (n 43, .inl (cI, 10, .inl (fun _ => 0)))]) [0, 1, 2, 3, 4, 5, 6, 7, 8, 9, 10, 11] rfl rfl
  exact W.zret (v := nI 0) hx hb hr (by decide) (fun t9 ht9 hW9 => ⟨⟨nI 0, (), rfl, rfl, by rw [ht9]; exact hP9, hD9⟩, hS.F ht9⟩) hS.2.2 dX0_isUp_16

set_option maxHeartbeats 4000000 in
set_option maxRecDepth 100000 in
theorem c_X0_nextArrival (l : Launch) (D : va_G) (cI cJ cM cG : ClassId) (n : Nat → Nat) (N : Nat) (t : Nat) (sz : Nat) (ht : t < 2 ^ 29) : Met l yX0_nextArrival (Cond.code yX0_nextArrival cX0_nextArrival 3 (some .int) :: kBig) ({ frames := 1, cells := 0, slots := 0, locals := 22 }) (va_Pc [.ref (n 3), .int (nI t)] (kP D [(cI, .int), (cJ, .long), (cM, .object "MeshRouting$Message"), (cG, .array .int)] [(n 3, .inr (0, [.int (nI N), .ref (n 4), .ref (n 5), .ref (n 6), .ref (n 7), .ref (n 8), .null])), (n 7, .inl (cM, 10, .inr (.inr (.inr (.inr (fun _ => none))))))] sz)) (va_Qi (fun (r : Int32) (_ : Unit) => r = (-1)) (fun _ t9 => kB D (va_A [(n 3, .inr (0, [.int (nI N), .ref (n 4), .ref (n 5), .ref (n 6), .ref (n 7), .ref (n 8), .null])), (n 7, .inl (cM, 10, .inr (.inr (.inr (.inr (fun _ => none))))))] sz) [(n 3, .inr (0, [.int (nI N), .ref (n 4), .ref (n 5), .ref (n 6), .ref (n 7), .ref (n 8), .null])), (n 7, .inl (cM, 10, .inr (.inr (.inr (.inr (fun _ => none))))))] t9) (va_A [(n 3, .inr (0, [.int (nI N), .ref (n 4), .ref (n 5), .ref (n 6), .ref (n 7), .ref (n 8), .null])), (n 7, .inl (cM, 10, .inr (.inr (.inr (.inr (fun _ => none))))))] sz)) 0 0 (va_A [(n 3, .inr (0, [.int (nI N), .ref (n 4), .ref (n 5), .ref (n 6), .ref (n 7), .ref (n 8), .null])), (n 7, .inl (cM, 10, .inr (.inr (.inr (.inr (fun _ => none))))))] sz) := by
  refine Met.ofW (cc := cX0_nextArrival) (maxL := 3) (ret := (some .int)) (by decide) rfl ?_
  intro p e s m args below meth c s₁ B hml hv
  obtain ⟨rfl, hsz, hP, hK, hD0, hKN⟩ := hv
  have hx := B.exec
  have hb := B.bytes
  have hr := B.returns
  have hts := atoms_spec (ws := (Cond.code yX0_nextArrival cX0_nextArrival 3 (some .int) :: kBig)) B.pre
  have hown : s.vm.findClass RX0 = some m.cls := findClass_of_methodNamed B.named
  have hlocks := B.notSynchronized
  have hin0 : ∀ w ∈ u_ws RX0 TX0 7, w ∈ (Cond.code yX0_nextArrival cX0_nextArrival 3 (some .int) :: kBig) := fun w h => List.mem_cons_of_mem _ (inb0 w h)
  subst hsz
  have hD := hD0.self (sz := s.heap.size)
  generalize hAe : va_A [(n 3, .inr (0, [.int (nI N), .ref (n 4), .ref (n 5), .ref (n 6), .ref (n 7), .ref (n 8), .null])), (n 7, .inl (cM, 10, .inr (.inr (.inr (.inr (fun _ => none))))))] s.heap.size = A at hD ⊢
  have hA : ∀ q : Nat, s.heap.size ≤ q → A q := fun q h => by rw [← hAe]; exact Or.inr h
  have hS : va_S A s.heap s.heap [] := va_S.rf
  have hl := lv_entry ([.ref (n 3), .int (nI t)]) (n := 3) (Nat.le_of_ble_eq_true rfl)
  rw [lg_entry_eq]
  generalize (lg_sl ([.ref (n 3), .int (nI t)]) ++ List.replicate (3 - (lg_sl ([.ref (n 3), .int (nI t)])).length) Slot.unset).toArray = ls at hl ⊢
  have hl : lv_has ls 3 [(0, .ref (n 3)), (1, .int (nI t))] := hl
  refine lv_iconst (v := nI 0) hx hb dX0_nextArrival_0 (by decide) ?_
  refine lv_istore_n (lv' := [(2, .int (nI 0)), (0, .ref (n 3)), (1, .int (nI t))]) hx hb dX0_nextArrival_1 rfl hl (by decide) rfl (fun ls hl => ?_)
  refine k_loop (nL := 3) (wf := fun k => [(n 3, .inr (0, [.int (nI N), .ref (n 4), .ref (n 5), .ref (n 6), .ref (n 7), .ref (n 8), .null])), (n 7, .inl (cM, 10, .inr (.inr (.inr (.inr (fun _ => none))))))]) (lvf := fun k => [(0, .ref (n 3)), (1, .int (nI t)), (2, .int (nI k))]) (B := 10) 0 (Nat.zero_le _) hP hD hS (lv_sub hl [1, 2, 0] rfl) (fun H locs ls hP hD hS hl => ?_) (fun k hk9 hk ih H locs ls hP hD hS hl => ?_)
  · replace hP : va_P D vwCl [(n 3, .inr (0, [.int (nI N), .ref (n 4), .ref (n 5), .ref (n 6), .ref (n 7), .ref (n 8), .null])), (n 7, .inl (cM, 10, .inr (.inr (.inr (.inr (fun _ => none))))))] H := hP
    replace hD : va_D A [(n 3, .inr (0, [.int (nI N), .ref (n 4), .ref (n 5), .ref (n 6), .ref (n 7), .ref (n 8), .null])), (n 7, .inl (cM, 10, .inr (.inr (.inr (.inr (fun _ => none))))))] := hD
    replace hl : lv_has ls 3 [(0, .ref (n 3)), (1, .int (nI t)), (2, .int (nI 10))] := hl
    refine lv_iload_n hx hb dX0_nextArrival_2 rfl (lv_at hl 2 rfl) ?_
    refine lv_bipush (v := nI 10) hx hb dX0_nextArrival_3 (by decide) ?_
    refine k_icmp_ge (tgt := 34) hx hb dX0_nextArrival_5 (by decide) (by omega) (by omega) (fun _ => ?_) (fun h9 => absurd h9 (by omega))
    refine lv_iconst (v := (-1)) hx hb dX0_nextArrival_34 (by decide) ?_
    have hP9 := hP.sub (ws' := [(n 3, .inr (0, [.int (nI N), .ref (n 4), .ref (n 5), .ref (n 6), .ref (n 7), .ref (n 8), .null])), (n 7, .inl (cM, 10, .inr (.inr (.inr (.inr (fun _ => none))))))]) [0, 1] rfl
    have hD9 := hD.sub (ws' := [(n 3, .inr (0, [.int (nI N), .ref (n 4), .ref (n 5), .ref (n 6), .ref (n 7), .ref (n 8), .null])), (n 7, .inl (cM, 10, .inr (.inr (.inr (.inr (fun _ => none))))))]) [0, 1] rfl rfl
    exact W.iret (v := (-1)) hx hb hr (fun t9 ht9 hW9 => ⟨⟨(-1), (), rfl, rfl, by rw [ht9]; exact hP9, hD9⟩, hS.F ht9⟩) hS.2.2 dX0_nextArrival_35
  · replace hP : va_P D vwCl [(n 3, .inr (0, [.int (nI N), .ref (n 4), .ref (n 5), .ref (n 6), .ref (n 7), .ref (n 8), .null])), (n 7, .inl (cM, 10, .inr (.inr (.inr (.inr (fun _ => none))))))] H := hP
    replace hD : va_D A [(n 3, .inr (0, [.int (nI N), .ref (n 4), .ref (n 5), .ref (n 6), .ref (n 7), .ref (n 8), .null])), (n 7, .inl (cM, 10, .inr (.inr (.inr (.inr (fun _ => none))))))] := hD
    replace hl : lv_has ls 3 [(0, .ref (n 3)), (1, .int (nI t)), (2, .int (nI k))] := hl
    refine lv_iload_n hx hb dX0_nextArrival_2 rfl (lv_at hl 2 rfl) ?_
    refine lv_bipush (v := nI 10) hx hb dX0_nextArrival_3 (by decide) ?_
    refine k_icmp_ge (tgt := 34) hx hb dX0_nextArrival_5 (by decide) (by omega) (by omega) (fun h9 => absurd h9 (by omega)) (fun _ => ?_)
    refine lv_aload_n hx hb dX0_nextArrival_8 rfl (lv_at hl 0 rfl) ?_
    refine va_get (D := D) (ci := 0) (v := .ref (n 7)) (C := RX0) (T := TX0) (N := 7) hx hb hts hin0 hown hK hP 0 rfl rfl 4 (by decide) (hts (.fieldLink RX0 25 "MeshRouting$Links" "first" "[LMeshRouting$Message;") (List.mem_cons_of_mem _ q_78)) (fun _ h9 => h9) rfl dX0_nextArrival_9 ?_
    refine lv_iload_n hx hb dX0_nextArrival_12 rfl (lv_at hl 1 rfl) ?_
    refine lv_iload_n hx hb dX0_nextArrival_13 rfl (lv_at hl 2 rfl) ?_
    refine lv_iadd hx hb dX0_nextArrival_14 ?_
    refine k_ti (show ((nI t) + (nI k)) = (nI (t + k)) from nI_add _ _) ?_
    refine lv_bipush (v := nI 10) hx hb dX0_nextArrival_15 (by decide) ?_
    refine k_ci (wr := [(n 3, .inr (0, [.int (nI N), .ref (n 4), .ref (n 5), .ref (n 6), .ref (n 7), .ref (n 8), .null])), (n 7, .inl (cM, 10, .inr (.inr (.inr (.inr (fun _ => none))))))]) (w1 := []) (va_runS (As := [.int (nI (t + k)), .int (nI 10)]) (rest := [.ref (n 7)]) ⟨hx, hb, hml, hown, hts⟩ (c_J9_floorMod l D cI cJ cM cG (t + k) H.size (by omega)) (va_cwS 2 hts (kB_S (fun _ => List.mem_cons_of_mem _) q_103 q_104 q_105 (kB_c q_1)) rfl rfl rfl (by decide +kernel) ⟨Nat.le_of_ble_eq_true rfl, Nat.le_of_ble_eq_true rfl⟩) (k_preS hP hD hK hKN [] rfl rfl) rfl rfl hl.1 rfl (lv_room (Nat.le_of_ble_eq_true rfl)) dX0_nextArrival_17 ⟨Nat.le_of_ble_eq_true rfl, Nat.le_of_ble_eq_true rfl⟩) hP hD hS hA [] [0, 1] rfl rfl rfl (by decide) (fun r17 H locs hw17 hP hD hS => ?_)
    replace hP : va_P D vwCl [(n 3, .inr (0, [.int (nI N), .ref (n 4), .ref (n 5), .ref (n 6), .ref (n 7), .ref (n 8), .null])), (n 7, .inl (cM, 10, .inr (.inr (.inr (.inr (fun _ => none))))))] H := hP
    replace hD : va_D A [(n 3, .inr (0, [.int (nI N), .ref (n 4), .ref (n 5), .ref (n 6), .ref (n 7), .ref (n 8), .null])), (n 7, .inl (cM, 10, .inr (.inr (.inr (.inr (fun _ => none))))))] := hD
    replace hw17 : r17 = nI ((t + k) % 10) := hw17
    refine k_ti hw17 ?_
    refine k_aldq (v := none) hx hb hK hP 1 2 rfl rfl (by omega) (by omega) (rfl) dX0_nextArrival_20 ?_
    refine k_tv (show _ = Value.null from rfl) ?_
    refine lv_ifnullN (tgt := 28) hx hb dX0_nextArrival_21 (by decide) ?_
    refine lv_iinc (v := nI (k + 1)) (lv' := [(2, .int (nI (k + 1))), (0, .ref (n 3)), (1, .int (nI t))]) hx hb dX0_nextArrival_28 hl (k := 2) rfl (by exact nI_add k 1) (by decide) rfl (fun ls hl => ?_)
    refine lv_goto (tgt := 2) hx hb dX0_nextArrival_31 (by decide) ?_
    exact ih _ _ _ hP hD hS (lv_sub hl [1, 2, 0] rfl)

set_option maxHeartbeats 4000000 in
set_option maxRecDepth 100000 in
theorem c_X0_takeArrived (l : Launch) (D : va_G) (cI cJ cM cG : ClassId) (n : Nat → Nat) (N : Nat) (t : Nat) (sz : Nat) (ht : t < 2 ^ 30) : Met l yX0_takeArrived (Cond.code yX0_takeArrived cX0_takeArrived 4 (some (.object "MeshRouting$Message")) :: kBig) ({ frames := 1, cells := 0, slots := 0, locals := 22 }) (va_Pc [.ref (n 3), .int (nI t)] (kP D [(cI, .int), (cJ, .long), (cM, .object "MeshRouting$Message"), (cG, .array .int)] [(n 3, .inr (0, [.int (nI N), .ref (n 4), .ref (n 5), .ref (n 6), .ref (n 7), .ref (n 8), .null])), (n 7, .inl (cM, 10, .inr (.inr (.inr (.inr (fun _ => none))))))] sz)) (va_Qq (fun (r : Option Nat) (_ : Unit) => r = none) (fun _ t9 => kB D (va_A [(n 3, .inr (0, [.int (nI N), .ref (n 4), .ref (n 5), .ref (n 6), .ref (n 7), .ref (n 8), .null])), (n 7, .inl (cM, 10, .inr (.inr (.inr (.inr (fun _ => none))))))] sz) [(n 3, .inr (0, [.int (nI N), .ref (n 4), .ref (n 5), .ref (n 6), .ref (n 7), .ref (n 8), .null])), (n 7, .inl (cM, 10, .inr (.inr (.inr (.inr (fun _ => none))))))] t9) (va_A [(n 3, .inr (0, [.int (nI N), .ref (n 4), .ref (n 5), .ref (n 6), .ref (n 7), .ref (n 8), .null])), (n 7, .inl (cM, 10, .inr (.inr (.inr (.inr (fun _ => none))))))] sz)) 0 0 (va_A [(n 3, .inr (0, [.int (nI N), .ref (n 4), .ref (n 5), .ref (n 6), .ref (n 7), .ref (n 8), .null])), (n 7, .inl (cM, 10, .inr (.inr (.inr (.inr (fun _ => none))))))] sz) := by
  refine Met.ofW (cc := cX0_takeArrived) (maxL := 4) (ret := (some (.object "MeshRouting$Message"))) (by decide) rfl ?_
  intro p e s m args below meth c s₁ B hml hv
  obtain ⟨rfl, hsz, hP, hK, hD0, hKN⟩ := hv
  have hx := B.exec
  have hb := B.bytes
  have hr := B.returns
  have hts := atoms_spec (ws := (Cond.code yX0_takeArrived cX0_takeArrived 4 (some (.object "MeshRouting$Message")) :: kBig)) B.pre
  have hown : s.vm.findClass RX0 = some m.cls := findClass_of_methodNamed B.named
  have hlocks := B.notSynchronized
  have hin0 : ∀ w ∈ u_ws RX0 TX0 7, w ∈ (Cond.code yX0_takeArrived cX0_takeArrived 4 (some (.object "MeshRouting$Message")) :: kBig) := fun w h => List.mem_cons_of_mem _ (inb0 w h)
  subst hsz
  have hD := hD0.self (sz := s.heap.size)
  generalize hAe : va_A [(n 3, .inr (0, [.int (nI N), .ref (n 4), .ref (n 5), .ref (n 6), .ref (n 7), .ref (n 8), .null])), (n 7, .inl (cM, 10, .inr (.inr (.inr (.inr (fun _ => none))))))] s.heap.size = A at hD ⊢
  have hA : ∀ q : Nat, s.heap.size ≤ q → A q := fun q h => by rw [← hAe]; exact Or.inr h
  have hS : va_S A s.heap s.heap [] := va_S.rf
  have hl := lv_entry ([.ref (n 3), .int (nI t)]) (n := 4) (Nat.le_of_ble_eq_true rfl)
  rw [lg_entry_eq]
  generalize (lg_sl ([.ref (n 3), .int (nI t)]) ++ List.replicate (4 - (lg_sl ([.ref (n 3), .int (nI t)])).length) Slot.unset).toArray = ls at hl ⊢
  have hl : lv_has ls 4 [(0, .ref (n 3)), (1, .int (nI t))] := hl
  refine lv_iload_n hx hb dX0_takeArrived_0 rfl (lv_at hl 1 rfl) ?_
  refine lv_bipush (v := nI 10) hx hb dX0_takeArrived_1 (by decide) ?_
  refine k_ci (wr := [(n 3, .inr (0, [.int (nI N), .ref (n 4), .ref (n 5), .ref (n 6), .ref (n 7), .ref (n 8), .null])), (n 7, .inl (cM, 10, .inr (.inr (.inr (.inr (fun _ => none))))))]) (w1 := []) (va_runS (As := [.int (nI t), .int (nI 10)]) (rest := []) ⟨hx, hb, hml, hown, hts⟩ (c_J9_floorMod l D cI cJ cM cG t s.heap.size (ht)) (va_cwS 2 hts (kB_S (fun _ => List.mem_cons_of_mem _) q_103 q_104 q_105 (kB_c q_1)) rfl rfl rfl (by decide +kernel) ⟨Nat.le_of_ble_eq_true rfl, Nat.le_of_ble_eq_true rfl⟩) (k_preS hP hD hK hKN [] rfl rfl) rfl rfl hl.1 rfl (lv_room (Nat.le_of_ble_eq_true rfl)) dX0_takeArrived_3 ⟨Nat.le_of_ble_eq_true rfl, Nat.le_of_ble_eq_true rfl⟩) hP hD hS hA [] [0, 1] rfl rfl rfl (by decide) (fun r3 H locs hw3 hP hD hS => ?_)
  replace hP : va_P D vwCl [(n 3, .inr (0, [.int (nI N), .ref (n 4), .ref (n 5), .ref (n 6), .ref (n 7), .ref (n 8), .null])), (n 7, .inl (cM, 10, .inr (.inr (.inr (.inr (fun _ => none))))))] H := hP
  replace hD : va_D A [(n 3, .inr (0, [.int (nI N), .ref (n 4), .ref (n 5), .ref (n 6), .ref (n 7), .ref (n 8), .null])), (n 7, .inl (cM, 10, .inr (.inr (.inr (.inr (fun _ => none))))))] := hD
  replace hw3 : r3 = nI (t % 10) := hw3
  refine k_ti hw3 ?_
  refine lv_istore_n (lv' := [(2, .int (nI (t % 10))), (0, .ref (n 3)), (1, .int (nI t))]) hx hb dX0_takeArrived_6 rfl hl (by decide) rfl (fun ls hl => ?_)
  refine lv_aload_n hx hb dX0_takeArrived_7 rfl (lv_at hl 1 rfl) ?_
  refine va_get (D := D) (ci := 0) (v := .ref (n 7)) (C := RX0) (T := TX0) (N := 7) hx hb hts hin0 hown hK hP 0 rfl rfl 4 (by decide) (hts (.fieldLink RX0 25 "MeshRouting$Links" "first" "[LMeshRouting$Message;") (List.mem_cons_of_mem _ q_78)) (fun _ h9 => h9) rfl dX0_takeArrived_8 ?_
  refine lv_iload_n hx hb dX0_takeArrived_11 rfl (lv_at hl 0 rfl) ?_
  refine k_aldq (v := none) hx hb hK hP 1 2 rfl rfl (by omega) (by omega) (rfl) dX0_takeArrived_12 ?_
  refine k_tv (show _ = Value.null from rfl) ?_
  refine lv_astore_nN (lv' := [(3, .null), (2, .int (nI (t % 10))), (0, .ref (n 3)), (1, .int (nI t))]) hx hb dX0_takeArrived_13 rfl hl (by decide) rfl (fun ls hl => ?_)
  refine lv_aload_nN hx hb dX0_takeArrived_14 rfl (lv_at hl 0 rfl) ?_
  refine lv_ifnullN (tgt := 55) hx hb dX0_takeArrived_15 (by decide) ?_
  refine lv_aload_nN hx hb dX0_takeArrived_55 rfl (lv_at hl 0 rfl) ?_
  have hP9 := hP.sub (ws' := [(n 3, .inr (0, [.int (nI N), .ref (n 4), .ref (n 5), .ref (n 6), .ref (n 7), .ref (n 8), .null])), (n 7, .inl (cM, 10, .inr (.inr (.inr (.inr (fun _ => none))))))]) [0, 1] rfl
  have hD9 := hD.sub (ws' := [(n 3, .inr (0, [.int (nI N), .ref (n 4), .ref (n 5), .ref (n 6), .ref (n 7), .ref (n 8), .null])), (n 7, .inl (cM, 10, .inr (.inr (.inr (.inr (fun _ => none))))))]) [0, 1] rfl rfl
  exact W.aret (v := .null) hx hb hr (Or.inl ⟨_, rfl⟩) (Or.inl rfl) (fun t9 ht9 hW9 => ⟨⟨none, (), rfl, rfl, by rw [ht9]; exact hP9, hD9⟩, hS.F ht9⟩) hS.2.2 dX0_takeArrived_56

set_option maxHeartbeats 4000000 in
set_option maxRecDepth 100000 in
theorem c_X0_emptySlot (l : Launch) (D : va_G) (cI cJ cM cG : ClassId) (n : Nat → Nat) (N : Nat) (k : Nat) (sz : Nat) (hk : k < 10) : Met l yX0_emptySlot (Cond.code yX0_emptySlot cX0_emptySlot 3 none :: kBig) ({ frames := 0, cells := 0, slots := 0, locals := 0 }) (va_Pc [.ref (n 3), .int (nI k)] (kP D [(cI, .int), (cJ, .long), (cM, .object "MeshRouting$Message"), (cG, .array .int)] [(n 3, .inr (0, [.int (nI N), .ref (n 4), .ref (n 5), .ref (n 6), .ref (n 7), .ref (n 8), .null])), (n 8, .inl (cM, 10, .inr (.inr (.inr (.inr (fun _ => none))))))] sz)) (va_Qv (fun _ : Unit => True) (fun _ t9 => kB D (va_A [(n 3, .inr (0, [.int (nI N), .ref (n 4), .ref (n 5), .ref (n 6), .ref (n 7), .ref (n 8), .null])), (n 8, .inl (cM, 10, .inr (.inr (.inr (.inr (fun _ => none))))))] sz) [(n 3, .inr (0, [.int (nI N), .ref (n 4), .ref (n 5), .ref (n 6), .ref (n 7), .ref (n 8), .null])), (n 8, .inl (cM, 10, .inr (.inr (.inr (.inr (fun _ => none))))))] t9) (va_A [(n 3, .inr (0, [.int (nI N), .ref (n 4), .ref (n 5), .ref (n 6), .ref (n 7), .ref (n 8), .null])), (n 8, .inl (cM, 10, .inr (.inr (.inr (.inr (fun _ => none))))))] sz)) 0 0 (va_A [(n 3, .inr (0, [.int (nI N), .ref (n 4), .ref (n 5), .ref (n 6), .ref (n 7), .ref (n 8), .null])), (n 8, .inl (cM, 10, .inr (.inr (.inr (.inr (fun _ => none))))))] sz) := by
  refine Met.ofW (cc := cX0_emptySlot) (maxL := 3) (ret := none) (by decide) rfl ?_
  intro p e s m args below meth c s₁ B hml hv
  obtain ⟨rfl, hsz, hP, hK, hD0, hKN⟩ := hv
  have hx := B.exec
  have hb := B.bytes
  have hr := B.returns
  have hts := atoms_spec (ws := (Cond.code yX0_emptySlot cX0_emptySlot 3 none :: kBig)) B.pre
  have hown : s.vm.findClass RX0 = some m.cls := findClass_of_methodNamed B.named
  have hlocks := B.notSynchronized
  have hin0 : ∀ w ∈ u_ws RX0 TX0 7, w ∈ (Cond.code yX0_emptySlot cX0_emptySlot 3 none :: kBig) := fun w h => List.mem_cons_of_mem _ (inb0 w h)
  subst hsz
  have hD := hD0.self (sz := s.heap.size)
  generalize hAe : va_A [(n 3, .inr (0, [.int (nI N), .ref (n 4), .ref (n 5), .ref (n 6), .ref (n 7), .ref (n 8), .null])), (n 8, .inl (cM, 10, .inr (.inr (.inr (.inr (fun _ => none))))))] s.heap.size = A at hD ⊢
  have hA : ∀ q : Nat, s.heap.size ≤ q → A q := fun q h => by rw [← hAe]; exact Or.inr h
  have hS : va_S A s.heap s.heap [] := va_S.rf
  have hl := lv_entry ([.ref (n 3), .int (nI k)]) (n := 3) (Nat.le_of_ble_eq_true rfl)
  rw [lg_entry_eq]
  generalize (lg_sl ([.ref (n 3), .int (nI k)]) ++ List.replicate (3 - (lg_sl ([.ref (n 3), .int (nI k)])).length) Slot.unset).toArray = ls at hl ⊢
  have hl : lv_has ls 3 [(0, .ref (n 3)), (1, .int (nI k))] := hl
  refine lv_aload_n hx hb dX0_emptySlot_0 rfl (lv_at hl 0 rfl) ?_
  refine va_get (D := D) (ci := 0) (v := .ref (n 8)) (C := RX0) (T := TX0) (N := 7) hx hb hts hin0 hown hK hP 0 rfl rfl 5 (by decide) (hts (.fieldLink RX0 29 "MeshRouting$Links" "last" "[LMeshRouting$Message;") (List.mem_cons_of_mem _ q_89)) (fun _ h9 => h9) rfl dX0_emptySlot_1 ?_
  refine lv_iload_n hx hb dX0_emptySlot_4 rfl (lv_at hl 1 rfl) ?_
  refine k_aldq (v := none) hx hb hK hP 1 2 rfl rfl (by omega) (by omega) (rfl) dX0_emptySlot_5 ?_
  refine k_tv (show _ = Value.null from rfl) ?_
  refine lv_astore_nN (lv' := [(2, .null), (0, .ref (n 3)), (1, .int (nI k))]) hx hb dX0_emptySlot_6 rfl hl (by decide) rfl (fun ls hl => ?_)
  refine lv_aload_nN hx hb dX0_emptySlot_7 rfl (lv_at hl 0 rfl) ?_
  refine lv_ifnullN (tgt := 43) hx hb dX0_emptySlot_8 (by decide) ?_
  have hP9 := hP.sub (ws' := [(n 3, .inr (0, [.int (nI N), .ref (n 4), .ref (n 5), .ref (n 6), .ref (n 7), .ref (n 8), .null])), (n 8, .inl (cM, 10, .inr (.inr (.inr (.inr (fun _ => none))))))]) [0, 1] rfl
  have hD9 := hD.sub (ws' := [(n 3, .inr (0, [.int (nI N), .ref (n 4), .ref (n 5), .ref (n 6), .ref (n 7), .ref (n 8), .null])), (n 8, .inl (cM, 10, .inr (.inr (.inr (.inr (fun _ => none))))))]) [0, 1] rfl rfl
  exact W.vret hx hb hr (fun t9 ht9 hW9 => ⟨⟨(), rfl, trivial, by rw [ht9]; exact hP9, hD9⟩, hS.F ht9⟩) hS.2.2 dX0_emptySlot_43

set_option maxHeartbeats 4000000 in
set_option maxRecDepth 100000 in
theorem c_X0_neighbours (l : Launch) (D : va_G) (cI cJ cM cG : ClassId) (n : Nat → Nat) (N : Nat) (x : Int32) (sz : Nat) (hN : N ≤ 10) : Met l yX0_neighbours (Cond.code yX0_neighbours cX0_neighbours 5 (some .int) :: kBig) ({ frames := 1, cells := 0, slots := 0, locals := 22 }) (va_Pc [.ref (n 3), .int x] (kP D [(cI, .int), (cJ, .long), (cM, .object "MeshRouting$Message"), (cG, .array .int)] [(n 3, .inr (0, [.int (nI N), .ref (n 4), .ref (n 5), .ref (n 6), .ref (n 7), .ref (n 8), .null])), (n 4, .inl (cG, 10, .inr (.inr (.inr (.inr (kRows n)))))), (n 34, .inl (cI, 10, .inl (fun _ => 0))), (n 35, .inl (cI, 10, .inl (fun _ => 0))), (n 36, .inl (cI, 10, .inl (fun _ => 0))), (n 37, .inl (cI, 10, .inl (fun _ => 0))), (n 38, .inl (cI, 10, .inl (fun _ => 0))), (n 39, .inl (cI, 10, .inl (fun _ => 0))), (n 40, .inl (cI, 10, .inl (fun _ => 0))), (n 41, .inl (cI, 10, .inl (fun _ => 0))), (n 42, .inl (cI, 10, .inl (fun _ => 0))), (n 43, .inl (cI, 10, .inl (fun _ => 0)))] sz)) (va_Qi (fun (r : Int32) (_ : Unit) => r = nI 0) (fun _ t9 => kB D (va_A [(n 3, .inr (0, [.int (nI N), .ref (n 4), .ref (n 5), .ref (n 6), .ref (n 7), .ref (n 8), .null])), (n 4, .inl (cG, 10, .inr (.inr (.inr (.inr (kRows n)))))), (n 34, .inl (cI, 10, .inl (fun _ => 0))), (n 35, .inl (cI, 10, .inl (fun _ => 0))), (n 36, .inl (cI, 10, .inl (fun _ => 0))), (n 37, .inl (cI, 10, .inl (fun _ => 0))), (n 38, .inl (cI, 10, .inl (fun _ => 0))), (n 39, .inl (cI, 10, .inl (fun _ => 0))), (n 40, .inl (cI, 10, .inl (fun _ => 0))), (n 41, .inl (cI, 10, .inl (fun _ => 0))), (n 42, .inl (cI, 10, .inl (fun _ => 0))), (n 43, .inl (cI, 10, .inl (fun _ => 0)))] sz) [(n 3, .inr (0, [.int (nI N), .ref (n 4), .ref (n 5), .ref (n 6), .ref (n 7), .ref (n 8), .null])), (n 4, .inl (cG, 10, .inr (.inr (.inr (.inr (kRows n)))))), (n 34, .inl (cI, 10, .inl (fun _ => 0))), (n 35, .inl (cI, 10, .inl (fun _ => 0))), (n 36, .inl (cI, 10, .inl (fun _ => 0))), (n 37, .inl (cI, 10, .inl (fun _ => 0))), (n 38, .inl (cI, 10, .inl (fun _ => 0))), (n 39, .inl (cI, 10, .inl (fun _ => 0))), (n 40, .inl (cI, 10, .inl (fun _ => 0))), (n 41, .inl (cI, 10, .inl (fun _ => 0))), (n 42, .inl (cI, 10, .inl (fun _ => 0))), (n 43, .inl (cI, 10, .inl (fun _ => 0)))] t9) (va_A [(n 3, .inr (0, [.int (nI N), .ref (n 4), .ref (n 5), .ref (n 6), .ref (n 7), .ref (n 8), .null])), (n 4, .inl (cG, 10, .inr (.inr (.inr (.inr (kRows n)))))), (n 34, .inl (cI, 10, .inl (fun _ => 0))), (n 35, .inl (cI, 10, .inl (fun _ => 0))), (n 36, .inl (cI, 10, .inl (fun _ => 0))), (n 37, .inl (cI, 10, .inl (fun _ => 0))), (n 38, .inl (cI, 10, .inl (fun _ => 0))), (n 39, .inl (cI, 10, .inl (fun _ => 0))), (n 40, .inl (cI, 10, .inl (fun _ => 0))), (n 41, .inl (cI, 10, .inl (fun _ => 0))), (n 42, .inl (cI, 10, .inl (fun _ => 0))), (n 43, .inl (cI, 10, .inl (fun _ => 0)))] sz)) 0 0 (va_A [(n 3, .inr (0, [.int (nI N), .ref (n 4), .ref (n 5), .ref (n 6), .ref (n 7), .ref (n 8), .null])), (n 4, .inl (cG, 10, .inr (.inr (.inr (.inr (kRows n)))))), (n 34, .inl (cI, 10, .inl (fun _ => 0))), (n 35, .inl (cI, 10, .inl (fun _ => 0))), (n 36, .inl (cI, 10, .inl (fun _ => 0))), (n 37, .inl (cI, 10, .inl (fun _ => 0))), (n 38, .inl (cI, 10, .inl (fun _ => 0))), (n 39, .inl (cI, 10, .inl (fun _ => 0))), (n 40, .inl (cI, 10, .inl (fun _ => 0))), (n 41, .inl (cI, 10, .inl (fun _ => 0))), (n 42, .inl (cI, 10, .inl (fun _ => 0))), (n 43, .inl (cI, 10, .inl (fun _ => 0)))] sz) := by
  refine Met.ofW (cc := cX0_neighbours) (maxL := 5) (ret := (some .int)) (by decide) rfl ?_
  intro p e s m args below meth c s₁ B hml hv
  obtain ⟨rfl, hsz, hP, hK, hD0, hKN⟩ := hv
  have hx := B.exec
  have hb := B.bytes
  have hr := B.returns
  have hts := atoms_spec (ws := (Cond.code yX0_neighbours cX0_neighbours 5 (some .int) :: kBig)) B.pre
  have hown : s.vm.findClass RX0 = some m.cls := findClass_of_methodNamed B.named
  have hlocks := B.notSynchronized
  have hin0 : ∀ w ∈ u_ws RX0 TX0 7, w ∈ (Cond.code yX0_neighbours cX0_neighbours 5 (some .int) :: kBig) := fun w h => List.mem_cons_of_mem _ (inb0 w h)
  subst hsz
  have hD := hD0.self (sz := s.heap.size)
  generalize hAe : va_A [(n 3, .inr (0, [.int (nI N), .ref (n 4), .ref (n 5), .ref (n 6), .ref (n 7), .ref (n 8), .null])), (n 4, .inl (cG, 10, .inr (.inr (.inr (.inr (kRows n)))))), (n 34, .inl (cI, 10, .inl (fun _ => 0))), (n 35, .inl (cI, 10, .inl (fun _ => 0))), (n 36, .inl (cI, 10, .inl (fun _ => 0))), (n 37, .inl (cI, 10, .inl (fun _ => 0))), (n 38, .inl (cI, 10, .inl (fun _ => 0))), (n 39, .inl (cI, 10, .inl (fun _ => 0))), (n 40, .inl (cI, 10, .inl (fun _ => 0))), (n 41, .inl (cI, 10, .inl (fun _ => 0))), (n 42, .inl (cI, 10, .inl (fun _ => 0))), (n 43, .inl (cI, 10, .inl (fun _ => 0)))] s.heap.size = A at hD ⊢
  have hA : ∀ q : Nat, s.heap.size ≤ q → A q := fun q h => by rw [← hAe]; exact Or.inr h
  have hS : va_S A s.heap s.heap [] := va_S.rf
  have hl := lv_entry ([.ref (n 3), .int x]) (n := 5) (Nat.le_of_ble_eq_true rfl)
  rw [lg_entry_eq]
  generalize (lg_sl ([.ref (n 3), .int x]) ++ List.replicate (5 - (lg_sl ([.ref (n 3), .int x])).length) Slot.unset).toArray = ls at hl ⊢
  have hl : lv_has ls 5 [(0, .ref (n 3)), (1, .int x)] := hl
  refine lv_iconst (v := nI 0) hx hb dX0_neighbours_0 (by decide) ?_
  refine lv_istore_n (lv' := [(2, .int (nI 0)), (0, .ref (n 3)), (1, .int x)]) hx hb dX0_neighbours_1 rfl hl (by decide) rfl (fun ls hl => ?_)
  refine lv_iconst (v := nI 0) hx hb dX0_neighbours_2 (by decide) ?_
  refine lv_istore_n (lv' := [(3, .int (nI 0)), (2, .int (nI 0)), (0, .ref (n 3)), (1, .int x)]) hx hb dX0_neighbours_3 rfl hl (by decide) rfl (fun ls hl => ?_)
  refine k_loop (nL := 5) (wf := fun k => [(n 3, .inr (0, [.int (nI N), .ref (n 4), .ref (n 5), .ref (n 6), .ref (n 7), .ref (n 8), .null])), (n 4, .inl (cG, 10, .inr (.inr (.inr (.inr (kRows n)))))), (n 34, .inl (cI, 10, .inl (fun _ => 0))), (n 35, .inl (cI, 10, .inl (fun _ => 0))), (n 36, .inl (cI, 10, .inl (fun _ => 0))), (n 37, .inl (cI, 10, .inl (fun _ => 0))), (n 38, .inl (cI, 10, .inl (fun _ => 0))), (n 39, .inl (cI, 10, .inl (fun _ => 0))), (n 40, .inl (cI, 10, .inl (fun _ => 0))), (n 41, .inl (cI, 10, .inl (fun _ => 0))), (n 42, .inl (cI, 10, .inl (fun _ => 0))), (n 43, .inl (cI, 10, .inl (fun _ => 0)))]) (lvf := fun k => [(0, .ref (n 3)), (1, .int x), (2, .int (nI 0)), (3, .int (nI k))]) (B := N) 0 (Nat.zero_le _) hP hD hS (lv_sub hl [2, 3, 1, 0] rfl) (fun H locs ls hP hD hS hl => ?_) (fun k hk9 hk ih H locs ls hP hD hS hl => ?_)
  · replace hP : va_P D vwCl [(n 3, .inr (0, [.int (nI N), .ref (n 4), .ref (n 5), .ref (n 6), .ref (n 7), .ref (n 8), .null])), (n 4, .inl (cG, 10, .inr (.inr (.inr (.inr (kRows n)))))), (n 34, .inl (cI, 10, .inl (fun _ => 0))), (n 35, .inl (cI, 10, .inl (fun _ => 0))), (n 36, .inl (cI, 10, .inl (fun _ => 0))), (n 37, .inl (cI, 10, .inl (fun _ => 0))), (n 38, .inl (cI, 10, .inl (fun _ => 0))), (n 39, .inl (cI, 10, .inl (fun _ => 0))), (n 40, .inl (cI, 10, .inl (fun _ => 0))), (n 41, .inl (cI, 10, .inl (fun _ => 0))), (n 42, .inl (cI, 10, .inl (fun _ => 0))), (n 43, .inl (cI, 10, .inl (fun _ => 0)))] H := hP
    replace hD : va_D A [(n 3, .inr (0, [.int (nI N), .ref (n 4), .ref (n 5), .ref (n 6), .ref (n 7), .ref (n 8), .null])), (n 4, .inl (cG, 10, .inr (.inr (.inr (.inr (kRows n)))))), (n 34, .inl (cI, 10, .inl (fun _ => 0))), (n 35, .inl (cI, 10, .inl (fun _ => 0))), (n 36, .inl (cI, 10, .inl (fun _ => 0))), (n 37, .inl (cI, 10, .inl (fun _ => 0))), (n 38, .inl (cI, 10, .inl (fun _ => 0))), (n 39, .inl (cI, 10, .inl (fun _ => 0))), (n 40, .inl (cI, 10, .inl (fun _ => 0))), (n 41, .inl (cI, 10, .inl (fun _ => 0))), (n 42, .inl (cI, 10, .inl (fun _ => 0))), (n 43, .inl (cI, 10, .inl (fun _ => 0)))] := hD
    replace hl : lv_has ls 5 [(0, .ref (n 3)), (1, .int x), (2, .int (nI 0)), (3, .int (nI N))] := hl
    refine lv_iload_n hx hb dX0_neighbours_4 rfl (lv_at hl 3 rfl) ?_
    refine lv_aload_n hx hb dX0_neighbours_5 rfl (lv_at hl 0 rfl) ?_
    refine va_get (D := D) (ci := 0) (v := .int (nI N)) (C := RX0) (T := TX0) (N := 7) hx hb hts hin0 hown hK hP 0 rfl rfl 0 (by decide) (hts (.fieldLink RX0 32 "MeshRouting$Links" "nodes" "I") (List.mem_cons_of_mem _ q_435)) (fun _ h9 => h9) rfl dX0_neighbours_6 ?_
    refine k_icmp_ge (tgt := 61) hx hb dX0_neighbours_9 (by decide) (by omega) (by omega) (fun _ => ?_) (fun h9 => absurd h9 (by omega))
    refine lv_iload_n hx hb dX0_neighbours_61 rfl (lv_at hl 2 rfl) ?_
    have hP9 := hP.sub (ws' := [(n 3, .inr (0, [.int (nI N), .ref (n 4), .ref (n 5), .ref (n 6), .ref (n 7), .ref (n 8), .null])), (n 4, .inl (cG, 10, .inr (.inr (.inr (.inr (kRows n)))))), (n 34, .inl (cI, 10, .inl (fun _ => 0))), (n 35, .inl (cI, 10, .inl (fun _ => 0))), (n 36, .inl (cI, 10, .inl (fun _ => 0))), (n 37, .inl (cI, 10, .inl (fun _ => 0))), (n 38, .inl (cI, 10, .inl (fun _ => 0))), (n 39, .inl (cI, 10, .inl (fun _ => 0))), (n 40, .inl (cI, 10, .inl (fun _ => 0))), (n 41, .inl (cI, 10, .inl (fun _ => 0))), (n 42, .inl (cI, 10, .inl (fun _ => 0))), (n 43, .inl (cI, 10, .inl (fun _ => 0)))]) [0, 1, 2, 3, 4, 5, 6, 7, 8, 9, 10, 11] rfl
    have hD9 := hD.sub (ws' := [(n 3, .inr (0, [.int (nI N), .ref (n 4), .ref (n 5), .ref (n 6), .ref (n 7), .ref (n 8), .null])), (n 4, .inl (cG, 10, .inr (.inr (.inr (.inr (kRows n)))))), (n 34, .inl (cI, 10, .inl (fun _ => 0))), (n 35, .inl (cI, 10, .inl (fun _ => 0))), (n 36, .inl (cI, 10, .inl (fun _ => 0))), (n 37, .inl (cI, 10, .inl (fun _ => 0))), (n 38, .inl (cI, 10, .inl (fun _ => 0))), (n 39, .inl (cI, 10, .inl (fun _ => 0))), (n 40, .inl (cI, 10, .inl (fun _ => 0))), (n 41, .inl (cI, 10, .inl (fun _ => 0))), (n 42, .inl (cI, 10, .inl (fun _ => 0))), (n 43, .inl (cI, 10, .inl (fun _ => 0)))]) [0, 1, 2, 3, 4, 5, 6, 7, 8, 9, 10, 11] rfl rfl
    exact W.iret (v := nI 0) hx hb hr (fun t9 ht9 hW9 => ⟨⟨nI 0, (), rfl, rfl, by rw [ht9]; exact hP9, hD9⟩, hS.F ht9⟩) hS.2.2 dX0_neighbours_62
  · replace hP : va_P D vwCl [(n 3, .inr (0, [.int (nI N), .ref (n 4), .ref (n 5), .ref (n 6), .ref (n 7), .ref (n 8), .null])), (n 4, .inl (cG, 10, .inr (.inr (.inr (.inr (kRows n)))))), (n 34, .inl (cI, 10, .inl (fun _ => 0))), (n 35, .inl (cI, 10, .inl (fun _ => 0))), (n 36, .inl (cI, 10, .inl (fun _ => 0))), (n 37, .inl (cI, 10, .inl (fun _ => 0))), (n 38, .inl (cI, 10, .inl (fun _ => 0))), (n 39, .inl (cI, 10, .inl (fun _ => 0))), (n 40, .inl (cI, 10, .inl (fun _ => 0))), (n 41, .inl (cI, 10, .inl (fun _ => 0))), (n 42, .inl (cI, 10, .inl (fun _ => 0))), (n 43, .inl (cI, 10, .inl (fun _ => 0)))] H := hP
    replace hD : va_D A [(n 3, .inr (0, [.int (nI N), .ref (n 4), .ref (n 5), .ref (n 6), .ref (n 7), .ref (n 8), .null])), (n 4, .inl (cG, 10, .inr (.inr (.inr (.inr (kRows n)))))), (n 34, .inl (cI, 10, .inl (fun _ => 0))), (n 35, .inl (cI, 10, .inl (fun _ => 0))), (n 36, .inl (cI, 10, .inl (fun _ => 0))), (n 37, .inl (cI, 10, .inl (fun _ => 0))), (n 38, .inl (cI, 10, .inl (fun _ => 0))), (n 39, .inl (cI, 10, .inl (fun _ => 0))), (n 40, .inl (cI, 10, .inl (fun _ => 0))), (n 41, .inl (cI, 10, .inl (fun _ => 0))), (n 42, .inl (cI, 10, .inl (fun _ => 0))), (n 43, .inl (cI, 10, .inl (fun _ => 0)))] := hD
    replace hl : lv_has ls 5 [(0, .ref (n 3)), (1, .int x), (2, .int (nI 0)), (3, .int (nI k))] := hl
    refine lv_iload_n hx hb dX0_neighbours_4 rfl (lv_at hl 3 rfl) ?_
    refine lv_aload_n hx hb dX0_neighbours_5 rfl (lv_at hl 0 rfl) ?_
    refine va_get (D := D) (ci := 0) (v := .int (nI N)) (C := RX0) (T := TX0) (N := 7) hx hb hts hin0 hown hK hP 0 rfl rfl 0 (by decide) (hts (.fieldLink RX0 32 "MeshRouting$Links" "nodes" "I") (List.mem_cons_of_mem _ q_435)) (fun _ h9 => h9) rfl dX0_neighbours_6 ?_
    refine k_icmp_ge (tgt := 61) hx hb dX0_neighbours_9 (by decide) (by omega) (by omega) (fun h9 => absurd h9 (by omega)) (fun _ => ?_)
    refine lv_iconst (v := nI 0) hx hb dX0_neighbours_12 (by decide) ?_
    refine lv_istore (lv' := [(4, .int (nI 0)), (0, .ref (n 3)), (1, .int x), (2, .int (nI 0)), (3, .int (nI k))]) hx hb dX0_neighbours_13 hl (by decide) rfl (fun ls hl => ?_)
    refine k_loop (nL := 5) (wf := fun k2 => [(n 3, .inr (0, [.int (nI N), .ref (n 4), .ref (n 5), .ref (n 6), .ref (n 7), .ref (n 8), .null])), (n 4, .inl (cG, 10, .inr (.inr (.inr (.inr (kRows n)))))), (n 34, .inl (cI, 10, .inl (fun _ => 0))), (n 35, .inl (cI, 10, .inl (fun _ => 0))), (n 36, .inl (cI, 10, .inl (fun _ => 0))), (n 37, .inl (cI, 10, .inl (fun _ => 0))), (n 38, .inl (cI, 10, .inl (fun _ => 0))), (n 39, .inl (cI, 10, .inl (fun _ => 0))), (n 40, .inl (cI, 10, .inl (fun _ => 0))), (n 41, .inl (cI, 10, .inl (fun _ => 0))), (n 42, .inl (cI, 10, .inl (fun _ => 0))), (n 43, .inl (cI, 10, .inl (fun _ => 0)))]) (lvf := fun k2 => [(0, .ref (n 3)), (1, .int x), (2, .int (nI 0)), (3, .int (nI k)), (4, .int (nI k2))]) (B := N) 0 (Nat.zero_le _) hP hD hS (lv_sub hl [1, 2, 3, 4, 0] rfl) (fun H locs ls hP hD hS hl => ?_) (fun k2 hk9 hk ih H locs ls hP hD hS hl => ?_)
    · replace hP : va_P D vwCl [(n 3, .inr (0, [.int (nI N), .ref (n 4), .ref (n 5), .ref (n 6), .ref (n 7), .ref (n 8), .null])), (n 4, .inl (cG, 10, .inr (.inr (.inr (.inr (kRows n)))))), (n 34, .inl (cI, 10, .inl (fun _ => 0))), (n 35, .inl (cI, 10, .inl (fun _ => 0))), (n 36, .inl (cI, 10, .inl (fun _ => 0))), (n 37, .inl (cI, 10, .inl (fun _ => 0))), (n 38, .inl (cI, 10, .inl (fun _ => 0))), (n 39, .inl (cI, 10, .inl (fun _ => 0))), (n 40, .inl (cI, 10, .inl (fun _ => 0))), (n 41, .inl (cI, 10, .inl (fun _ => 0))), (n 42, .inl (cI, 10, .inl (fun _ => 0))), (n 43, .inl (cI, 10, .inl (fun _ => 0)))] H := hP
      replace hD : va_D A [(n 3, .inr (0, [.int (nI N), .ref (n 4), .ref (n 5), .ref (n 6), .ref (n 7), .ref (n 8), .null])), (n 4, .inl (cG, 10, .inr (.inr (.inr (.inr (kRows n)))))), (n 34, .inl (cI, 10, .inl (fun _ => 0))), (n 35, .inl (cI, 10, .inl (fun _ => 0))), (n 36, .inl (cI, 10, .inl (fun _ => 0))), (n 37, .inl (cI, 10, .inl (fun _ => 0))), (n 38, .inl (cI, 10, .inl (fun _ => 0))), (n 39, .inl (cI, 10, .inl (fun _ => 0))), (n 40, .inl (cI, 10, .inl (fun _ => 0))), (n 41, .inl (cI, 10, .inl (fun _ => 0))), (n 42, .inl (cI, 10, .inl (fun _ => 0))), (n 43, .inl (cI, 10, .inl (fun _ => 0)))] := hD
      replace hl : lv_has ls 5 [(0, .ref (n 3)), (1, .int x), (2, .int (nI 0)), (3, .int (nI k)), (4, .int (nI N))] := hl
      refine lv_iload hx hb dX0_neighbours_15 (lv_at hl 4 rfl) ?_
      refine lv_aload_n hx hb dX0_neighbours_17 rfl (lv_at hl 0 rfl) ?_
      refine va_get (D := D) (ci := 0) (v := .int (nI N)) (C := RX0) (T := TX0) (N := 7) hx hb hts hin0 hown hK hP 0 rfl rfl 0 (by decide) (hts (.fieldLink RX0 32 "MeshRouting$Links" "nodes" "I") (List.mem_cons_of_mem _ q_435)) (fun _ h9 => h9) rfl dX0_neighbours_18 ?_
      refine k_icmp_ge (tgt := 55) hx hb dX0_neighbours_21 (by decide) (by omega) (by omega) (fun _ => ?_) (fun h9 => absurd h9 (by omega))
      refine lv_iinc (v := nI (k + 1)) (lv' := [(3, .int (nI (k + 1))), (0, .ref (n 3)), (1, .int x), (2, .int (nI 0)), (4, .int (nI N))]) hx hb dX0_neighbours_55 hl (k := 3) rfl (by exact nI_add k 1) (by decide) rfl (fun ls hl => ?_)
      refine lv_goto (tgt := 4) hx hb dX0_neighbours_58 (by decide) ?_
      exact ih _ _ _ hP hD hS (lv_sub hl [1, 2, 3, 0] rfl)
    · replace hP : va_P D vwCl [(n 3, .inr (0, [.int (nI N), .ref (n 4), .ref (n 5), .ref (n 6), .ref (n 7), .ref (n 8), .null])), (n 4, .inl (cG, 10, .inr (.inr (.inr (.inr (kRows n)))))), (n 34, .inl (cI, 10, .inl (fun _ => 0))), (n 35, .inl (cI, 10, .inl (fun _ => 0))), (n 36, .inl (cI, 10, .inl (fun _ => 0))), (n 37, .inl (cI, 10, .inl (fun _ => 0))), (n 38, .inl (cI, 10, .inl (fun _ => 0))), (n 39, .inl (cI, 10, .inl (fun _ => 0))), (n 40, .inl (cI, 10, .inl (fun _ => 0))), (n 41, .inl (cI, 10, .inl (fun _ => 0))), (n 42, .inl (cI, 10, .inl (fun _ => 0))), (n 43, .inl (cI, 10, .inl (fun _ => 0)))] H := hP
      replace hD : va_D A [(n 3, .inr (0, [.int (nI N), .ref (n 4), .ref (n 5), .ref (n 6), .ref (n 7), .ref (n 8), .null])), (n 4, .inl (cG, 10, .inr (.inr (.inr (.inr (kRows n)))))), (n 34, .inl (cI, 10, .inl (fun _ => 0))), (n 35, .inl (cI, 10, .inl (fun _ => 0))), (n 36, .inl (cI, 10, .inl (fun _ => 0))), (n 37, .inl (cI, 10, .inl (fun _ => 0))), (n 38, .inl (cI, 10, .inl (fun _ => 0))), (n 39, .inl (cI, 10, .inl (fun _ => 0))), (n 40, .inl (cI, 10, .inl (fun _ => 0))), (n 41, .inl (cI, 10, .inl (fun _ => 0))), (n 42, .inl (cI, 10, .inl (fun _ => 0))), (n 43, .inl (cI, 10, .inl (fun _ => 0)))] := hD
      replace hl : lv_has ls 5 [(0, .ref (n 3)), (1, .int x), (2, .int (nI 0)), (3, .int (nI k)), (4, .int (nI k2))] := hl
      refine lv_iload hx hb dX0_neighbours_15 (lv_at hl 4 rfl) ?_
      refine lv_aload_n hx hb dX0_neighbours_17 rfl (lv_at hl 0 rfl) ?_
      refine va_get (D := D) (ci := 0) (v := .int (nI N)) (C := RX0) (T := TX0) (N := 7) hx hb hts hin0 hown hK hP 0 rfl rfl 0 (by decide) (hts (.fieldLink RX0 32 "MeshRouting$Links" "nodes" "I") (List.mem_cons_of_mem _ q_435)) (fun _ h9 => h9) rfl dX0_neighbours_18 ?_
      refine k_icmp_ge (tgt := 55) hx hb dX0_neighbours_21 (by decide) (by omega) (by omega) (fun h9 => absurd h9 (by omega)) (fun _ => ?_)
      refine lv_iload_n hx hb dX0_neighbours_24 rfl (lv_at hl 1 rfl) ?_
      refine lv_iload_n hx hb dX0_neighbours_25 rfl (lv_at hl 3 rfl) ?_
      refine lv_ishr hx hb dX0_neighbours_26 ?_
      refine lv_iconst (v := nI 1) hx hb dX0_neighbours_27 (by decide) ?_
      refine lv_iand hx hb dX0_neighbours_28 ?_
      refine lv_if_eq (tgt := 49) hx hb dX0_neighbours_29 (by decide) (fun c => ?_) (fun c => ?_)
      · refine lv_iinc (v := nI (k2 + 1)) (lv' := [(4, .int (nI (k2 + 1))), (0, .ref (n 3)), (1, .int x), (2, .int (nI 0)), (3, .int (nI k))]) hx hb dX0_neighbours_49 hl (k := 4) rfl (by exact nI_add k2 1) (by decide) rfl (fun ls hl => ?_)
        refine lv_goto (tgt := 15) hx hb dX0_neighbours_52 (by decide) ?_
        exact ih _ _ _ hP hD hS (lv_sub hl [1, 2, 3, 4, 0] rfl)
      · refine lv_aload_n hx hb dX0_neighbours_32 rfl (lv_at hl 0 rfl) ?_
        refine lv_iload_n hx hb dX0_neighbours_33 rfl (lv_at hl 3 rfl) ?_
        refine lv_iload hx hb dX0_neighbours_34 (lv_at hl 4 rfl) ?_
        refine k_ci (wr := []) (w1 := [(n 3, .inr (0, [.int (nI N), .ref (n 4), .ref (n 5), .ref (n 6), .ref (n 7), .ref (n 8), .null])), (n 4, .inl (cG, 10, .inr (.inr (.inr (.inr (kRows n)))))), (n 34, .inl (cI, 10, .inl (fun _ => 0))), (n 35, .inl (cI, 10, .inl (fun _ => 0))), (n 36, .inl (cI, 10, .inl (fun _ => 0))), (n 37, .inl (cI, 10, .inl (fun _ => 0))), (n 38, .inl (cI, 10, .inl (fun _ => 0))), (n 39, .inl (cI, 10, .inl (fun _ => 0))), (n 40, .inl (cI, 10, .inl (fun _ => 0))), (n 41, .inl (cI, 10, .inl (fun _ => 0))), (n 42, .inl (cI, 10, .inl (fun _ => 0))), (n 43, .inl (cI, 10, .inl (fun _ => 0)))]) (va_runV (As := [.int (nI k), .int (nI k2)]) (rest := []) ⟨hx, hb, hml, hown, hts⟩ (c_X0_isUp l D cI cJ cM cG n N k k2 H.size (by omega) (by omega)) (cwV 2 hts (kB_V (fun _ => List.mem_cons_of_mem _) q_440 q_210 q_211 q_75 (kB_c q_212)) rfl rfl rfl (by decide +kernel) ⟨Nat.le_of_ble_eq_true rfl, Nat.le_of_ble_eq_true rfl⟩) (k_preV (T := TX0) hP hD hK hKN [0, 1, 2, 3, 4, 5, 6, 7, 8, 9, 10, 11] rfl rfl (ci := 0) rfl (q0 := 0) rfl) rfl rfl hl.1 rfl (lv_room (Nat.le_of_ble_eq_true rfl)) dX0_neighbours_36 ⟨Nat.le_of_ble_eq_true rfl, Nat.le_of_ble_eq_true rfl⟩) hP hD hS hA [0, 1, 2, 3, 4, 5, 6, 7, 8, 9, 10, 11] [] rfl rfl rfl (by decide) (fun r36 H locs hw36 hP hD hS => ?_)
        replace hP : va_P D vwCl [(n 3, .inr (0, [.int (nI N), .ref (n 4), .ref (n 5), .ref (n 6), .ref (n 7), .ref (n 8), .null])), (n 4, .inl (cG, 10, .inr (.inr (.inr (.inr (kRows n)))))), (n 34, .inl (cI, 10, .inl (fun _ => 0))), (n 35, .inl (cI, 10, .inl (fun _ => 0))), (n 36, .inl (cI, 10, .inl (fun _ => 0))), (n 37, .inl (cI, 10, .inl (fun _ => 0))), (n 38, .inl (cI, 10, .inl (fun _ => 0))), (n 39, .inl (cI, 10, .inl (fun _ => 0))), (n 40, .inl (cI, 10, .inl (fun _ => 0))), (n 41, .inl (cI, 10, .inl (fun _ => 0))), (n 42, .inl (cI, 10, .inl (fun _ => 0))), (n 43, .inl (cI, 10, .inl (fun _ => 0)))] H := hP
        replace hD : va_D A [(n 3, .inr (0, [.int (nI N), .ref (n 4), .ref (n 5), .ref (n 6), .ref (n 7), .ref (n 8), .null])), (n 4, .inl (cG, 10, .inr (.inr (.inr (.inr (kRows n)))))), (n 34, .inl (cI, 10, .inl (fun _ => 0))), (n 35, .inl (cI, 10, .inl (fun _ => 0))), (n 36, .inl (cI, 10, .inl (fun _ => 0))), (n 37, .inl (cI, 10, .inl (fun _ => 0))), (n 38, .inl (cI, 10, .inl (fun _ => 0))), (n 39, .inl (cI, 10, .inl (fun _ => 0))), (n 40, .inl (cI, 10, .inl (fun _ => 0))), (n 41, .inl (cI, 10, .inl (fun _ => 0))), (n 42, .inl (cI, 10, .inl (fun _ => 0))), (n 43, .inl (cI, 10, .inl (fun _ => 0)))] := hD
        replace hw36 : r36 = nI 0 := hw36
        refine k_ti hw36 ?_
        refine k_if_eq (tgt := 49) hx hb dX0_neighbours_39 (by decide) (by omega) (fun _ => ?_) (fun h9 => absurd h9 (by omega))
        refine lv_iinc (v := nI (k2 + 1)) (lv' := [(4, .int (nI (k2 + 1))), (0, .ref (n 3)), (1, .int x), (2, .int (nI 0)), (3, .int (nI k))]) hx hb dX0_neighbours_49 hl (k := 4) rfl (by exact nI_add k2 1) (by decide) rfl (fun ls hl => ?_)
        refine lv_goto (tgt := 15) hx hb dX0_neighbours_52 (by decide) ?_
        exact ih _ _ _ hP hD hS (lv_sub hl [1, 2, 3, 4, 0] rfl)
