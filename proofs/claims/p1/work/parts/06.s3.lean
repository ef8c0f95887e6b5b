set_option maxHeartbeats 4000000 in
set_option maxRecDepth 100000 in
theorem c_X6_filledRow (l : Launch) (D : va_G) (cI cJ cM cG : ClassId) (ln : Nat) (v : Int32) (sz : Nat) (h0 : 0 < ln) (hm : ln ≤ 400) : Met l yX6_filledRow (Cond.code yX6_filledRow cX6_filledRow 3 (some (.array .int)) :: kBig) ({ frames := 1, cells := 1, slots := 400, locals := 23 }) (va_Pc [.int (nI ln), .int v] (kP D [(cI, .int), (cJ, .long), (cM, .object "MeshRouting$Message"), (cG, .array .int)] [] sz)) (va_Qr (fun (_ : Unit) => True) (fun _ r t9 => kB D (va_A [] sz) [(r, .inl (cI, ln, .inl (fun _ => v)))] t9) (va_A [] sz)) 1 400 (va_A [] sz) := by
  refine Met.ofW (cc := cX6_filledRow) (maxL := 3) (ret := (some (.array .int))) (by decide) rfl ?_
  intro p e s m args below meth c s₁ B hml hv
  obtain ⟨rfl, hsz, hP, hK, hD0, hKN⟩ := hv
  have hx := B.exec
  have hb := B.bytes
  have hr := B.returns
  have hts := atoms_spec (ws := (Cond.code yX6_filledRow cX6_filledRow 3 (some (.array .int)) :: kBig)) B.pre
  have hown : s.vm.findClass RX6 = some m.cls := findClass_of_methodNamed B.named
  have hlocks := B.notSynchronized
  subst hsz
  have hD := hD0.self (sz := s.heap.size)
  generalize hAe : va_A [] s.heap.size = A at hD ⊢
  have hA : ∀ q : Nat, s.heap.size ≤ q → A q := fun q h => by rw [← hAe]; exact Or.inr h
  have hS : va_S A s.heap s.heap [] := va_S.rf
  have hl := lv_entry ([.int (nI ln), .int v]) (n := 3) (Nat.le_of_ble_eq_true rfl)
  rw [lg_entry_eq]
  generalize (lg_sl ([.int (nI ln), .int v]) ++ List.replicate (3 - (lg_sl ([.int (nI ln), .int v])).length) Slot.unset).toArray = ls at hl ⊢
  have hl : lv_has ls 3 [(0, .int (nI ln)), (1, .int v)] := hl
  refine lv_iconst (v := nI 0) hx hb dX6_filledRow_0 (by decide) ?_
  refine lv_iload_n hx hb dX6_filledRow_1 rfl (lv_at hl 0 rfl) ?_
  refine va_mmax hx hb (hml.trans hl.1.symm) hown (hts (.methodLink RX6 15 Lib.Math.max.name) (List.mem_cons_of_mem _ q_625)) (hts (.static Lib.Math.max.name) (List.mem_cons_of_mem _ q_163)) (hts (.initialized "java/lang/Math") (List.mem_cons_of_mem _ q_69)) (hts (.code Lib.Math.max.name Lib.Math.max.code 2 (some .int)) (List.mem_cons_of_mem _ q_164)) (Nat.le_of_ble_eq_true rfl) (Nat.le_of_ble_eq_true rfl) (Nat.le_of_ble_eq_true rfl) (Nat.le_of_ble_eq_true rfl) dX6_filledRow_2 ?_
  refine k_ti (show (if nI 0 < nI ln then nI ln else nI 0) = (nI ln) from if_pos (nI_lt h0 (by omega))) ?_
  refine va_newa (atype := .int) (ty := .int) (N' := ln) (a0 := (ln, .inl (fun _ => 0))) hx hb (hts (.arrayClass .int) (List.mem_cons_of_mem _ q_60)) rfl hK hP hD hS hA (fun _ => rfl) (nI_pos (by omega)) (nI_clamp (by omega)) (show ln * 4 ≤ 536870912 by omega) (Nat.le_of_ble_eq_true rfl) (show 0 + ln ≤ 400 by omega) dX6_filledRow_5 (fun q5 cA H hK9 hP hD hS => ?_)
  have e9 : cA = cI := k_cls hK9 (i := 4) (j := 0) rfl rfl
  rw [e9] at hP hD
  replace hP : va_P D vwCl [(q5, .inl (cI, ln, .inl (fun _ => 0)))] H := hP
  replace hD : va_D A [(q5, .inl (cI, ln, .inl (fun _ => 0)))] := hD
  refine W.widen (k := 1) (n := 400) (Nat.le_refl _) (show _ + _ ≤ _ by omega) ?_
  refine lv_astore_n (lv' := [(2, .ref q5), (0, .int (nI ln)), (1, .int v)]) hx hb dX6_filledRow_7 rfl hl (by decide) rfl (fun ls hl => ?_)
  refine lv_aload_n hx hb dX6_filledRow_8 rfl (lv_at hl 0 rfl) ?_
  refine lv_iload_n hx hb dX6_filledRow_9 rfl (lv_at hl 2 rfl) ?_
  refine k_cv (wr := []) (w1 := [(q5, .inl (cI, ln, .inl (fun j => if j < ln then v else (fun _ => 0) j)))]) (va_runS (As := [.ref q5, .int v]) (rest := []) ⟨hx, hb, hml, hown, hts⟩ (c_J7_fill l D cI cJ cM cG q5 v ln (fun _ => 0) H.size (by omega)) (va_cwS 2 hts (kB_S (fun _ => List.mem_cons_of_mem _) q_626 q_627 q_298 (kB_c q_0)) rfl rfl rfl (by decide +kernel) ⟨Nat.le_of_ble_eq_true rfl, Nat.le_of_ble_eq_true rfl⟩) (k_preS hP hD hK hKN [0] rfl rfl) rfl rfl hl.1 rfl (lv_room (Nat.le_of_ble_eq_true rfl)) dX6_filledRow_10 ⟨Nat.le_of_ble_eq_true rfl, Nat.le_of_ble_eq_true rfl⟩) hP hD hS hA [0] [] rfl rfl rfl (by decide) (fun H locs hw10 hP hD hS => ?_)
  replace hP : va_P D vwCl [(q5, .inl (cI, ln, .inl (fun j => if j < ln then v else (fun _ => 0) j)))] H := hP
  replace hD : va_D A [(q5, .inl (cI, ln, .inl (fun j => if j < ln then v else (fun _ => 0) j)))] := hD
  replace hD := k_reD (q := 0) (e2 := .inl (cI, ln, .inl (fun _ => v))) hD rfl
  replace hP := k_reP (q := 0) (g := (fun _ => v)) hP rfl (fun j hj => if_pos hj)
  replace hP : va_P D vwCl [(q5, .inl (cI, ln, .inl (fun _ => v)))] H := hP
  replace hD : va_D A [(q5, .inl (cI, ln, .inl (fun _ => v)))] := hD
  refine lv_aload_n hx hb dX6_filledRow_13 rfl (lv_at hl 0 rfl) ?_
  have hP9 := hP.sub (ws' := [(q5, .inl (cI, ln, .inl (fun _ => v)))]) [0] rfl
  have hD9 := hD.sub (ws' := [(q5, .inl (cI, ln, .inl (fun _ => v)))]) [0] rfl rfl
  exact W.aret (v := .ref q5) hx hb hr (Or.inr ⟨_, rfl⟩) (Or.inr ⟨_, rfl⟩) (fun t9 ht9 hW9 => ⟨⟨(), q5, rfl, trivial, by rw [ht9]; exact hP9, hD9⟩, hS.F ht9⟩) hS.2.2 dX6_filledRow_14

set_option maxHeartbeats 4000000 in
set_option maxRecDepth 100000 in
theorem c_X1_init (l : Launch) (D : va_G) (cI cJ cM cG : ClassId) (h0 : Nat) (fs : List Value) (sz : Nat)  : Met l yX1_init (Cond.code yX1_init cX1_init 1 none :: kBig) ({ frames := 1, cells := 0, slots := 0, locals := 12 }) (va_Pc [.ref h0] (kP D [(cI, .int), (cJ, .long), (cM, .object "MeshRouting$Message"), (cG, .array .int)] [] sz)) (va_Qv (fun _ : Unit => True) (fun _ t9 => kB D (va_A [] sz) [] t9) (va_A [] sz)) 0 0 (va_A [] sz) := by
  refine Met.ofW (cc := cX1_init) (maxL := 1) (ret := none) (by decide) rfl ?_
  intro p e s m args below meth c s₁ B hml hv
  obtain ⟨rfl, hsz, hP, hK, hD0, hKN⟩ := hv
  have hx := B.exec
  have hb := B.bytes
  have hr := B.returns
  have hts := atoms_spec (ws := (Cond.code yX1_init cX1_init 1 none :: kBig)) B.pre
  have hown : s.vm.findClass RX1 = some m.cls := findClass_of_methodNamed B.named
  have hlocks := B.notSynchronized
  have hin : meth.name = "<init>" := (name_of_methodNamed B.named B.method).1
  subst hsz
  have hD := hD0.self (sz := s.heap.size)
  generalize hAe : va_A [] s.heap.size = A at hD ⊢
  have hA : ∀ q : Nat, s.heap.size ≤ q → A q := fun q h => by rw [← hAe]; exact Or.inr h
  have hS : va_S A s.heap s.heap [] := va_S.rf
  have hl := lv_entry ([.ref h0]) (n := 1) (Nat.le_of_ble_eq_true rfl)
  rw [lg_entry_eq]
  generalize (lg_sl ([.ref h0]) ++ List.replicate (1 - (lg_sl ([.ref h0])).length) Slot.unset).toArray = ls at hl ⊢
  have hl : lv_has ls 1 [(0, .ref h0)] := hl
  refine lv_aload_n hx hb dX1_init_0 rfl (lv_at hl 0 rfl) ?_
  refine W.objInit hx hb hown (hts (.methodLink RX1 1 objectInit) (List.mem_cons_of_mem _ q_100)) (hts (.instanceMethod objectInit) (List.mem_cons_of_mem _ q_101)) (hts (.code objectInit ⟨#[0xb1]⟩ 1 none) (List.mem_cons_of_mem _ q_102)) rfl (by rw [hml]; exact hl.1) rfl dX1_init_1 (Nat.le_of_ble_eq_true rfl) (Nat.le_of_ble_eq_true rfl) ?_
  refine W.eq (g2 := F0 m 4 ls []) rfl ?_
  have hP9 := hP.sub (ws' := []) [] rfl
  have hD9 := hD.sub (ws' := []) [] rfl rfl
  exact W.vret hx hb hr (fun t9 ht9 hW9 => ⟨⟨(), rfl, trivial, by rw [ht9]; exact hP9, hD9⟩, hS.F ht9⟩) hS.2.2 dX1_init_4

set_option maxHeartbeats 4000000 in
set_option maxRecDepth 100000 in
theorem c_X4_init (l : Launch) (D : va_G) (cI cJ cM cG : ClassId) (h0 : Nat) (sz : Nat)  : Met l yX4_init (Cond.code yX4_init cX4_init 1 none :: kBig) ({ frames := 2, cells := 6, slots := 1800, locals := 45 }) (va_Pc [.ref h0] (kP D [(cI, .int), (cJ, .long), (cM, .object "MeshRouting$Message"), (cG, .array .int)] [(h0, .inr (4, [.null, .null, .null, .null, .null, .null]))] sz)) (va_Qv (fun u : Nat → Nat => u 9 = h0) (fun u t9 => kB D (va_A [(h0, .inr (4, [.null, .null, .null, .null, .null, .null]))] sz) [(u 9, .inr (4, [.ref (u 10), .ref (u 11), .ref (u 12), .ref (u 13), .ref (u 14), .ref (u 15)])), (u 10, .inl (cI, 100, .inl (fun _ => 0))), (u 11, .inl (cI, 100, .inl (fun _ => -1))), (u 12, .inl (cI, 100, .inl (fun _ => -1))), (u 13, .inl (cI, 100, .inl (fun _ => -1))), (u 14, .inl (cI, 100, .inl (fun _ => -1))), (u 15, .inl (cI, 100, .inl (fun _ => 0)))] t9) (va_A [(h0, .inr (4, [.null, .null, .null, .null, .null, .null]))] sz)) 6 1800 (va_A [(h0, .inr (4, [.null, .null, .null, .null, .null, .null]))] sz) := by
  refine Met.ofW (cc := cX4_init) (maxL := 1) (ret := none) (by decide) rfl ?_
  intro p e s m args below meth c s₁ B hml hv
  obtain ⟨rfl, hsz, hP, hK, hD0, hKN⟩ := hv
  have hx := B.exec
  have hb := B.bytes
  have hr := B.returns
  have hts := atoms_spec (ws := (Cond.code yX4_init cX4_init 1 none :: kBig)) B.pre
  have hown : s.vm.findClass RX4 = some m.cls := findClass_of_methodNamed B.named
  have hlocks := B.notSynchronized
  have hin : meth.name = "<init>" := (name_of_methodNamed B.named B.method).1
  have hin4 : ∀ w ∈ u_ws RX4 TX4 6, w ∈ (Cond.code yX4_init cX4_init 1 none :: kBig) := fun w h => List.mem_cons_of_mem _ (inb4 w h)
  subst hsz
  have hD := hD0.self (sz := s.heap.size)
  generalize hAe : va_A [(h0, .inr (4, [.null, .null, .null, .null, .null, .null]))] s.heap.size = A at hD ⊢
  have hA : ∀ q : Nat, s.heap.size ≤ q → A q := fun q h => by rw [← hAe]; exact Or.inr h
  have hS : va_S A s.heap s.heap [] := va_S.rf
  have hl := lv_entry ([.ref h0]) (n := 1) (Nat.le_of_ble_eq_true rfl)
  rw [lg_entry_eq]
  generalize (lg_sl ([.ref h0]) ++ List.replicate (1 - (lg_sl ([.ref h0])).length) Slot.unset).toArray = ls at hl ⊢
  have hl : lv_has ls 1 [(0, .ref h0)] := hl
  refine lv_aload_n hx hb dX4_init_0 rfl (lv_at hl 0 rfl) ?_
  refine W.objInit hx hb hown (hts (.methodLink RX4 3 objectInit) (List.mem_cons_of_mem _ q_622)) (hts (.instanceMethod objectInit) (List.mem_cons_of_mem _ q_101)) (hts (.code objectInit ⟨#[0xb1]⟩ 1 none) (List.mem_cons_of_mem _ q_102)) rfl (by rw [hml]; exact hl.1) rfl dX4_init_1 (Nat.le_of_ble_eq_true rfl) (Nat.le_of_ble_eq_true rfl) ?_
  refine W.eq (g2 := F0 m 4 ls []) rfl ?_
  refine lv_aload_n hx hb dX4_init_4 rfl (lv_at hl 0 rfl) ?_
  refine lv_bipush (v := nI 100) hx hb dX4_init_5 (by decide) ?_
  refine va_newa (atype := .int) (ty := .int) (N' := 100) (a0 := (100, .inl (fun _ => 0))) hx hb (hts (.arrayClass .int) (List.mem_cons_of_mem _ q_60)) rfl hK hP hD hS hA (fun _ => rfl) (nI_pos (by omega)) (nI_clamp (by omega)) (show 100 * 4 ≤ 536870912 by omega) (Nat.le_of_ble_eq_true rfl) (show 0 + 100 ≤ 1800 by omega) dX4_init_7 (fun q7 cA H hK9 hP hD hS => ?_)
  have e9 : cA = cI := k_cls hK9 (i := 4) (j := 0) rfl rfl
  rw [e9] at hP hD
  replace hP : va_P D vwCl [(h0, .inr (4, [.null, .null, .null, .null, .null, .null])), (q7, .inl (cI, 100, .inl (fun _ => 0)))] H := hP
  replace hD : va_D A [(h0, .inr (4, [.null, .null, .null, .null, .null, .null])), (q7, .inl (cI, 100, .inl (fun _ => 0)))] := hD
  refine W.widen (k := 1) (n := 100) (Nat.le_refl _) (show _ + _ ≤ _ by omega) ?_
  refine va_putF (D := D) (ci := 4) (v := .ref q7) (ty := .array .int) (C := RX4) (T := TX4) (N := 6) hx hb hts hin4 tyX4 tyX4_ok nmX4 hown hK hP hD hS 0 rfl rfl 0 (by decide) (hts (.fieldLink RX4 9 "MeshRouting$Routes" "marks" "[I") (List.mem_cons_of_mem _ q_124)) (fun _ h9 => h9) rfl hin rfl (by decide +kernel) rfl rfl (Nat.le_of_ble_eq_true rfl) dX4_init_9 (fun H locs hP hD hS => ?_)
  replace hP : va_P D vwCl [(h0, .inr (4, [.ref q7, .null, .null, .null, .null, .null])), (q7, .inl (cI, 100, .inl (fun _ => 0)))] H := hP
  replace hD : va_D A [(h0, .inr (4, [.ref q7, .null, .null, .null, .null, .null])), (q7, .inl (cI, 100, .inl (fun _ => 0)))] := hD
  refine lv_aload_n hx hb dX4_init_12 rfl (lv_at hl 0 rfl) ?_
  refine lv_bipush (v := nI 100) hx hb dX4_init_13 (by decide) ?_
  refine lv_iconst (v := (-1)) hx hb dX4_init_15 (by decide) ?_
  refine k_cr (wr := [(h0, .inr (4, [.ref q7, .null, .null, .null, .null, .null])), (q7, .inl (cI, 100, .inl (fun _ => 0)))]) (w1 := fun r => [(r, .inl (cI, 100, .inl (fun _ => -1)))]) (va_runSN (As := [.int (nI 100), .int (-1)]) (rest := [.ref h0]) ⟨hx, hb, hml, hown, hts⟩ (c_X6_filledRow l D cI cJ cM cG 100 (-1) H.size (by omega) (by omega)) ⟨(va_cnB 2 hts (kB_c q_624) rfl rfl rfl hKN.2.1 (hts (.initialized RX6) (List.mem_cons_of_mem _ q_9)) (by decide +kernel) ⟨Nat.le_of_ble_eq_true rfl, Nat.le_of_ble_eq_true rfl⟩), (hts (.static yX6_filledRow) (List.mem_cons_of_mem _ q_623)), trivial⟩ (k_preS hP hD hK hKN [] rfl rfl) rfl rfl hl.1 rfl (lv_room (Nat.le_of_ble_eq_true rfl)) dX4_init_16 ⟨Nat.le_of_ble_eq_true rfl, Nat.le_of_ble_eq_true rfl⟩) hP hD hS hA [] [0, 1] rfl rfl rfl (by decide) (fun r16 H locs hw16 hP hD hS => ?_)
  replace hP : va_P D vwCl [(h0, .inr (4, [.ref q7, .null, .null, .null, .null, .null])), (q7, .inl (cI, 100, .inl (fun _ => 0))), (r16, .inl (cI, 100, .inl (fun _ => -1)))] H := hP
  replace hD : va_D A [(h0, .inr (4, [.ref q7, .null, .null, .null, .null, .null])), (q7, .inl (cI, 100, .inl (fun _ => 0))), (r16, .inl (cI, 100, .inl (fun _ => -1)))] := hD
  refine va_putF (D := D) (ci := 4) (v := .ref r16) (ty := .array .int) (C := RX4) (T := TX4) (N := 6) hx hb hts hin4 tyX4 tyX4_ok nmX4 hown hK hP hD hS 0 rfl rfl 1 (by decide) (hts (.fieldLink RX4 19 "MeshRouting$Routes" "sequences" "[I") (List.mem_cons_of_mem _ q_125)) (fun _ h9 => h9) rfl hin rfl (by decide +kernel) rfl rfl (Nat.le_of_ble_eq_true rfl) dX4_init_19 (fun H locs hP hD hS => ?_)
  replace hP : va_P D vwCl [(h0, .inr (4, [.ref q7, .ref r16, .null, .null, .null, .null])), (q7, .inl (cI, 100, .inl (fun _ => 0))), (r16, .inl (cI, 100, .inl (fun _ => -1)))] H := hP
  replace hD : va_D A [(h0, .inr (4, [.ref q7, .ref r16, .null, .null, .null, .null])), (q7, .inl (cI, 100, .inl (fun _ => 0))), (r16, .inl (cI, 100, .inl (fun _ => -1)))] := hD
  refine lv_aload_n hx hb dX4_init_22 rfl (lv_at hl 0 rfl) ?_
  refine lv_bipush (v := nI 100) hx hb dX4_init_23 (by decide) ?_
  refine lv_iconst (v := (-1)) hx hb dX4_init_25 (by decide) ?_
  refine k_cr (wr := [(h0, .inr (4, [.ref q7, .ref r16, .null, .null, .null, .null])), (q7, .inl (cI, 100, .inl (fun _ => 0))), (r16, .inl (cI, 100, .inl (fun _ => -1)))]) (w1 := fun r => [(r, .inl (cI, 100, .inl (fun _ => -1)))]) (va_runSN (As := [.int (nI 100), .int (-1)]) (rest := [.ref h0]) ⟨hx, hb, hml, hown, hts⟩ (c_X6_filledRow l D cI cJ cM cG 100 (-1) H.size (by omega) (by omega)) ⟨(va_cnB 2 hts (kB_c q_624) rfl rfl rfl hKN.2.1 (hts (.initialized RX6) (List.mem_cons_of_mem _ q_9)) (by decide +kernel) ⟨Nat.le_of_ble_eq_true rfl, Nat.le_of_ble_eq_true rfl⟩), (hts (.static yX6_filledRow) (List.mem_cons_of_mem _ q_623)), trivial⟩ (k_preS hP hD hK hKN [] rfl rfl) rfl rfl hl.1 rfl (lv_room (Nat.le_of_ble_eq_true rfl)) dX4_init_26 ⟨Nat.le_of_ble_eq_true rfl, Nat.le_of_ble_eq_true rfl⟩) hP hD hS hA [] [0, 1, 2] rfl rfl rfl (by decide) (fun r26 H locs hw26 hP hD hS => ?_)
  replace hP : va_P D vwCl [(h0, .inr (4, [.ref q7, .ref r16, .null, .null, .null, .null])), (q7, .inl (cI, 100, .inl (fun _ => 0))), (r16, .inl (cI, 100, .inl (fun _ => -1))), (r26, .inl (cI, 100, .inl (fun _ => -1)))] H := hP
  replace hD : va_D A [(h0, .inr (4, [.ref q7, .ref r16, .null, .null, .null, .null])), (q7, .inl (cI, 100, .inl (fun _ => 0))), (r16, .inl (cI, 100, .inl (fun _ => -1))), (r26, .inl (cI, 100, .inl (fun _ => -1)))] := hD
  refine va_putF (D := D) (ci := 4) (v := .ref r26) (ty := .array .int) (C := RX4) (T := TX4) (N := 6) hx hb hts hin4 tyX4 tyX4_ok nmX4 hown hK hP hD hS 0 rfl rfl 2 (by decide) (hts (.fieldLink RX4 22 "MeshRouting$Routes" "hopCounts" "[I") (List.mem_cons_of_mem _ q_126)) (fun _ h9 => h9) rfl hin rfl (by decide +kernel) rfl rfl (Nat.le_of_ble_eq_true rfl) dX4_init_29 (fun H locs hP hD hS => ?_)
  replace hP : va_P D vwCl [(h0, .inr (4, [.ref q7, .ref r16, .ref r26, .null, .null, .null])), (q7, .inl (cI, 100, .inl (fun _ => 0))), (r16, .inl (cI, 100, .inl (fun _ => -1))), (r26, .inl (cI, 100, .inl (fun _ => -1)))] H := hP
  replace hD : va_D A [(h0, .inr (4, [.ref q7, .ref r16, .ref r26, .null, .null, .null])), (q7, .inl (cI, 100, .inl (fun _ => 0))), (r16, .inl (cI, 100, .inl (fun _ => -1))), (r26, .inl (cI, 100, .inl (fun _ => -1)))] := hD
  refine lv_aload_n hx hb dX4_init_32 rfl (lv_at hl 0 rfl) ?_
  refine lv_bipush (v := nI 100) hx hb dX4_init_33 (by decide) ?_
  refine lv_iconst (v := (-1)) hx hb dX4_init_35 (by decide) ?_
  refine k_cr (wr := [(h0, .inr (4, [.ref q7, .ref r16, .ref r26, .null, .null, .null])), (q7, .inl (cI, 100, .inl (fun _ => 0))), (r16, .inl (cI, 100, .inl (fun _ => -1))), (r26, .inl (cI, 100, .inl (fun _ => -1)))]) (w1 := fun r => [(r, .inl (cI, 100, .inl (fun _ => -1)))]) (va_runSN (As := [.int (nI 100), .int (-1)]) (rest := [.ref h0]) ⟨hx, hb, hml, hown, hts⟩ (c_X6_filledRow l D cI cJ cM cG 100 (-1) H.size (by omega) (by omega)) ⟨(va_cnB 2 hts (kB_c q_624) rfl rfl rfl hKN.2.1 (hts (.initialized RX6) (List.mem_cons_of_mem _ q_9)) (by decide +kernel) ⟨Nat.le_of_ble_eq_true rfl, Nat.le_of_ble_eq_true rfl⟩), (hts (.static yX6_filledRow) (List.mem_cons_of_mem _ q_623)), trivial⟩ (k_preS hP hD hK hKN [] rfl rfl) rfl rfl hl.1 rfl (lv_room (Nat.le_of_ble_eq_true rfl)) dX4_init_36 ⟨Nat.le_of_ble_eq_true rfl, Nat.le_of_ble_eq_true rfl⟩) hP hD hS hA [] [0, 1, 2, 3] rfl rfl rfl (by decide) (fun r36 H locs hw36 hP hD hS => ?_)
  replace hP : va_P D vwCl [(h0, .inr (4, [.ref q7, .ref r16, .ref r26, .null, .null, .null])), (q7, .inl (cI, 100, .inl (fun _ => 0))), (r16, .inl (cI, 100, .inl (fun _ => -1))), (r26, .inl (cI, 100, .inl (fun _ => -1))), (r36, .inl (cI, 100, .inl (fun _ => -1)))] H := hP
  replace hD : va_D A [(h0, .inr (4, [.ref q7, .ref r16, .ref r26, .null, .null, .null])), (q7, .inl (cI, 100, .inl (fun _ => 0))), (r16, .inl (cI, 100, .inl (fun _ => -1))), (r26, .inl (cI, 100, .inl (fun _ => -1))), (r36, .inl (cI, 100, .inl (fun _ => -1)))] := hD
  refine va_putF (D := D) (ci := 4) (v := .ref r36) (ty := .array .int) (C := RX4) (T := TX4) (N := 6) hx hb hts hin4 tyX4 tyX4_ok nmX4 hown hK hP hD hS 0 rfl rfl 3 (by decide) (hts (.fieldLink RX4 25 "MeshRouting$Routes" "nextNodes" "[I") (List.mem_cons_of_mem _ q_127)) (fun _ h9 => h9) rfl hin rfl (by decide +kernel) rfl rfl (Nat.le_of_ble_eq_true rfl) dX4_init_39 (fun H locs hP hD hS => ?_)
  replace hP : va_P D vwCl [(h0, .inr (4, [.ref q7, .ref r16, .ref r26, .ref r36, .null, .null])), (q7, .inl (cI, 100, .inl (fun _ => 0))), (r16, .inl (cI, 100, .inl (fun _ => -1))), (r26, .inl (cI, 100, .inl (fun _ => -1))), (r36, .inl (cI, 100, .inl (fun _ => -1)))] H := hP
  replace hD : va_D A [(h0, .inr (4, [.ref q7, .ref r16, .ref r26, .ref r36, .null, .null])), (q7, .inl (cI, 100, .inl (fun _ => 0))), (r16, .inl (cI, 100, .inl (fun _ => -1))), (r26, .inl (cI, 100, .inl (fun _ => -1))), (r36, .inl (cI, 100, .inl (fun _ => -1)))] := hD
  refine lv_aload_n hx hb dX4_init_42 rfl (lv_at hl 0 rfl) ?_
  refine lv_bipush (v := nI 100) hx hb dX4_init_43 (by decide) ?_
  refine lv_iconst (v := (-1)) hx hb dX4_init_45 (by decide) ?_
  refine k_cr (wr := [(h0, .inr (4, [.ref q7, .ref r16, .ref r26, .ref r36, .null, .null])), (q7, .inl (cI, 100, .inl (fun _ => 0))), (r16, .inl (cI, 100, .inl (fun _ => -1))), (r26, .inl (cI, 100, .inl (fun _ => -1))), (r36, .inl (cI, 100, .inl (fun _ => -1)))]) (w1 := fun r => [(r, .inl (cI, 100, .inl (fun _ => -1)))]) (va_runSN (As := [.int (nI 100), .int (-1)]) (rest := [.ref h0]) ⟨hx, hb, hml, hown, hts⟩ (c_X6_filledRow l D cI cJ cM cG 100 (-1) H.size (by omega) (by omega)) ⟨(va_cnB 2 hts (kB_c q_624) rfl rfl rfl hKN.2.1 (hts (.initialized RX6) (List.mem_cons_of_mem _ q_9)) (by decide +kernel) ⟨Nat.le_of_ble_eq_true rfl, Nat.le_of_ble_eq_true rfl⟩), (hts (.static yX6_filledRow) (List.mem_cons_of_mem _ q_623)), trivial⟩ (k_preS hP hD hK hKN [] rfl rfl) rfl rfl hl.1 rfl (lv_room (Nat.le_of_ble_eq_true rfl)) dX4_init_46 ⟨Nat.le_of_ble_eq_true rfl, Nat.le_of_ble_eq_true rfl⟩) hP hD hS hA [] [0, 1, 2, 3, 4] rfl rfl rfl (by decide) (fun r46 H locs hw46 hP hD hS => ?_)
  replace hP : va_P D vwCl [(h0, .inr (4, [.ref q7, .ref r16, .ref r26, .ref r36, .null, .null])), (q7, .inl (cI, 100, .inl (fun _ => 0))), (r16, .inl (cI, 100, .inl (fun _ => -1))), (r26, .inl (cI, 100, .inl (fun _ => -1))), (r36, .inl (cI, 100, .inl (fun _ => -1))), (r46, .inl (cI, 100, .inl (fun _ => -1)))] H := hP
  replace hD : va_D A [(h0, .inr (4, [.ref q7, .ref r16, .ref r26, .ref r36, .null, .null])), (q7, .inl (cI, 100, .inl (fun _ => 0))), (r16, .inl (cI, 100, .inl (fun _ => -1))), (r26, .inl (cI, 100, .inl (fun _ => -1))), (r36, .inl (cI, 100, .inl (fun _ => -1))), (r46, .inl (cI, 100, .inl (fun _ => -1)))] := hD
  refine va_putF (D := D) (ci := 4) (v := .ref r46) (ty := .array .int) (C := RX4) (T := TX4) (N := 6) hx hb hts hin4 tyX4 tyX4_ok nmX4 hown hK hP hD hS 0 rfl rfl 4 (by decide) (hts (.fieldLink RX4 28 "MeshRouting$Routes" "expiries" "[I") (List.mem_cons_of_mem _ q_128)) (fun _ h9 => h9) rfl hin rfl (by decide +kernel) rfl rfl (Nat.le_of_ble_eq_true rfl) dX4_init_49 (fun H locs hP hD hS => ?_)
  replace hP : va_P D vwCl [(h0, .inr (4, [.ref q7, .ref r16, .ref r26, .ref r36, .ref r46, .null])), (q7, .inl (cI, 100, .inl (fun _ => 0))), (r16, .inl (cI, 100, .inl (fun _ => -1))), (r26, .inl (cI, 100, .inl (fun _ => -1))), (r36, .inl (cI, 100, .inl (fun _ => -1))), (r46, .inl (cI, 100, .inl (fun _ => -1)))] H := hP
  replace hD : va_D A [(h0, .inr (4, [.ref q7, .ref r16, .ref r26, .ref r36, .ref r46, .null])), (q7, .inl (cI, 100, .inl (fun _ => 0))), (r16, .inl (cI, 100, .inl (fun _ => -1))), (r26, .inl (cI, 100, .inl (fun _ => -1))), (r36, .inl (cI, 100, .inl (fun _ => -1))), (r46, .inl (cI, 100, .inl (fun _ => -1)))] := hD
  refine lv_aload_n hx hb dX4_init_52 rfl (lv_at hl 0 rfl) ?_
  refine lv_bipush (v := nI 100) hx hb dX4_init_53 (by decide) ?_
  refine va_newa (atype := .int) (ty := .int) (N' := 100) (a0 := (100, .inl (fun _ => 0))) hx hb (hts (.arrayClass .int) (List.mem_cons_of_mem _ q_60)) rfl hK hP hD hS hA (fun _ => rfl) (nI_pos (by omega)) (nI_clamp (by omega)) (show 100 * 4 ≤ 536870912 by omega) (Nat.le_of_ble_eq_true rfl) (show 1700 + 100 ≤ 1800 by omega) dX4_init_55 (fun q55 cA H hK9 hP hD hS => ?_)
  have e9 : cA = cI := k_cls hK9 (i := 4) (j := 0) rfl rfl
  rw [e9] at hP hD
  replace hP : va_P D vwCl [(h0, .inr (4, [.ref q7, .ref r16, .ref r26, .ref r36, .ref r46, .null])), (q7, .inl (cI, 100, .inl (fun _ => 0))), (r16, .inl (cI, 100, .inl (fun _ => -1))), (r26, .inl (cI, 100, .inl (fun _ => -1))), (r36, .inl (cI, 100, .inl (fun _ => -1))), (r46, .inl (cI, 100, .inl (fun _ => -1))), (q55, .inl (cI, 100, .inl (fun _ => 0)))] H := hP
  replace hD : va_D A [(h0, .inr (4, [.ref q7, .ref r16, .ref r26, .ref r36, .ref r46, .null])), (q7, .inl (cI, 100, .inl (fun _ => 0))), (r16, .inl (cI, 100, .inl (fun _ => -1))), (r26, .inl (cI, 100, .inl (fun _ => -1))), (r36, .inl (cI, 100, .inl (fun _ => -1))), (r46, .inl (cI, 100, .inl (fun _ => -1))), (q55, .inl (cI, 100, .inl (fun _ => 0)))] := hD
  refine W.widen (k := 6) (n := 1800) (Nat.le_refl _) (show _ + _ ≤ _ by omega) ?_
  refine va_putF (D := D) (ci := 4) (v := .ref q55) (ty := .array .int) (C := RX4) (T := TX4) (N := 6) hx hb hts hin4 tyX4 tyX4_ok nmX4 hown hK hP hD hS 0 rfl rfl 5 (by decide) (hts (.fieldLink RX4 31 "MeshRouting$Routes" "userSets" "[I") (List.mem_cons_of_mem _ q_129)) (fun _ h9 => h9) rfl hin rfl (by decide +kernel) rfl rfl (Nat.le_of_ble_eq_true rfl) dX4_init_57 (fun H locs hP hD hS => ?_)
  replace hP : va_P D vwCl [(h0, .inr (4, [.ref q7, .ref r16, .ref r26, .ref r36, .ref r46, .ref q55])), (q7, .inl (cI, 100, .inl (fun _ => 0))), (r16, .inl (cI, 100, .inl (fun _ => -1))), (r26, .inl (cI, 100, .inl (fun _ => -1))), (r36, .inl (cI, 100, .inl (fun _ => -1))), (r46, .inl (cI, 100, .inl (fun _ => -1))), (q55, .inl (cI, 100, .inl (fun _ => 0)))] H := hP
  replace hD : va_D A [(h0, .inr (4, [.ref q7, .ref r16, .ref r26, .ref r36, .ref r46, .ref q55])), (q7, .inl (cI, 100, .inl (fun _ => 0))), (r16, .inl (cI, 100, .inl (fun _ => -1))), (r26, .inl (cI, 100, .inl (fun _ => -1))), (r36, .inl (cI, 100, .inl (fun _ => -1))), (r46, .inl (cI, 100, .inl (fun _ => -1))), (q55, .inl (cI, 100, .inl (fun _ => 0)))] := hD
  have hP9 := hP.sub (ws' := [(h0, .inr (4, [.ref q7, .ref r16, .ref r26, .ref r36, .ref r46, .ref q55])), (q7, .inl (cI, 100, .inl (fun _ => 0))), (r16, .inl (cI, 100, .inl (fun _ => -1))), (r26, .inl (cI, 100, .inl (fun _ => -1))), (r36, .inl (cI, 100, .inl (fun _ => -1))), (r46, .inl (cI, 100, .inl (fun _ => -1))), (q55, .inl (cI, 100, .inl (fun _ => 0)))]) [0, 1, 2, 3, 4, 5, 6] rfl
  have hD9 := hD.sub (ws' := [(h0, .inr (4, [.ref q7, .ref r16, .ref r26, .ref r36, .ref r46, .ref q55])), (q7, .inl (cI, 100, .inl (fun _ => 0))), (r16, .inl (cI, 100, .inl (fun _ => -1))), (r26, .inl (cI, 100, .inl (fun _ => -1))), (r36, .inl (cI, 100, .inl (fun _ => -1))), (r46, .inl (cI, 100, .inl (fun _ => -1))), (q55, .inl (cI, 100, .inl (fun _ => 0)))]) [0, 1, 2, 3, 4, 5, 6] rfl rfl
  exact W.vret hx hb hr (fun t9 ht9 hW9 => ⟨⟨(fun k => match k with | 9 => h0 | 10 => q7 | 11 => r16 | 12 => r26 | 13 => r36 | 14 => r46 | 15 => q55 | _ => 0), rfl, rfl, by rw [ht9]; exact hP9, hD9⟩, hS.F ht9⟩) hS.2.2 dX4_init_60

set_option maxHeartbeats 4000000 in
set_option maxRecDepth 100000 in
theorem c_X5_init (l : Launch) (D : va_G) (cI cJ cM cG : ClassId) (h0 : Nat) (sz : Nat)  : Met l yX5_init (Cond.code yX5_init cX5_init 1 none :: kBig) ({ frames := 2, cells := 6, slots := 1300, locals := 45 }) (va_Pc [.ref h0] (kP D [(cI, .int), (cJ, .long), (cM, .object "MeshRouting$Message"), (cG, .array .int)] [(h0, .inr (5, [.null, .null, .null, .null, .null, .null, .int (nI 0)]))] sz)) (va_Qv (fun u : Nat → Nat => u 16 = h0) (fun u t9 => kB D (va_A [(h0, .inr (5, [.null, .null, .null, .null, .null, .null, .int (nI 0)]))] sz) [(u 16, .inr (5, [.ref (u 17), .ref (u 18), .ref (u 19), .ref (u 20), .ref (u 21), .ref (u 22), .int (-1)])), (u 17, .inl (cI, 100, .inl (fun _ => 0))), (u 18, .inl (cI, 100, .inl (fun _ => -1))), (u 19, .inl (cI, 100, .inl (fun _ => 0))), (u 20, .inl (cI, 100, .inl (fun _ => 0))), (u 21, .inl (cI, 100, .inl (fun _ => 0))), (u 22, .inl (cI, 400, .inl (fun _ => 0)))] t9) (va_A [(h0, .inr (5, [.null, .null, .null, .null, .null, .null, .int (nI 0)]))] sz)) 6 1300 (va_A [(h0, .inr (5, [.null, .null, .null, .null, .null, .null, .int (nI 0)]))] sz) := by
  refine Met.ofW (cc := cX5_init) (maxL := 1) (ret := none) (by decide) rfl ?_
  intro p e s m args below meth c s₁ B hml hv
  obtain ⟨rfl, hsz, hP, hK, hD0, hKN⟩ := hv
  have hx := B.exec
  have hb := B.bytes
  have hr := B.returns
  have hts := atoms_spec (ws := (Cond.code yX5_init cX5_init 1 none :: kBig)) B.pre
  have hown : s.vm.findClass RX5 = some m.cls := findClass_of_methodNamed B.named
  have hlocks := B.notSynchronized
  have hin : meth.name = "<init>" := (name_of_methodNamed B.named B.method).1
  have hin5 : ∀ w ∈ u_ws RX5 TX5 7, w ∈ (Cond.code yX5_init cX5_init 1 none :: kBig) := fun w h => List.mem_cons_of_mem _ (inb5 w h)
  subst hsz
  have hD := hD0.self (sz := s.heap.size)
  generalize hAe : va_A [(h0, .inr (5, [.null, .null, .null, .null, .null, .null, .int (nI 0)]))] s.heap.size = A at hD ⊢
  have hA : ∀ q : Nat, s.heap.size ≤ q → A q := fun q h => by rw [← hAe]; exact Or.inr h
  have hS : va_S A s.heap s.heap [] := va_S.rf
  have hl := lv_entry ([.ref h0]) (n := 1) (Nat.le_of_ble_eq_true rfl)
  rw [lg_entry_eq]
  generalize (lg_sl ([.ref h0]) ++ List.replicate (1 - (lg_sl ([.ref h0])).length) Slot.unset).toArray = ls at hl ⊢
  have hl : lv_has ls 1 [(0, .ref h0)] := hl
  refine lv_aload_n hx hb dX5_init_0 rfl (lv_at hl 0 rfl) ?_
  refine W.objInit hx hb hown (hts (.methodLink RX5 3 objectInit) (List.mem_cons_of_mem _ q_630)) (hts (.instanceMethod objectInit) (List.mem_cons_of_mem _ q_101)) (hts (.code objectInit ⟨#[0xb1]⟩ 1 none) (List.mem_cons_of_mem _ q_102)) rfl (by rw [hml]; exact hl.1) rfl dX5_init_1 (Nat.le_of_ble_eq_true rfl) (Nat.le_of_ble_eq_true rfl) ?_
  refine W.eq (g2 := F0 m 4 ls []) rfl ?_
  refine lv_aload_n hx hb dX5_init_4 rfl (lv_at hl 0 rfl) ?_
  refine lv_bipush (v := nI 100) hx hb dX5_init_5 (by decide) ?_
  refine va_newa (atype := .int) (ty := .int) (N' := 100) (a0 := (100, .inl (fun _ => 0))) hx hb (hts (.arrayClass .int) (List.mem_cons_of_mem _ q_60)) rfl hK hP hD hS hA (fun _ => rfl) (nI_pos (by omega)) (nI_clamp (by omega)) (show 100 * 4 ≤ 536870912 by omega) (Nat.le_of_ble_eq_true rfl) (show 0 + 100 ≤ 1300 by omega) dX5_init_7 (fun q7 cA H hK9 hP hD hS => ?_)
  have e9 : cA = cI := k_cls hK9 (i := 4) (j := 0) rfl rfl
  rw [e9] at hP hD
  replace hP : va_P D vwCl [(h0, .inr (5, [.null, .null, .null, .null, .null, .null, .int (nI 0)])), (q7, .inl (cI, 100, .inl (fun _ => 0)))] H := hP
  replace hD : va_D A [(h0, .inr (5, [.null, .null, .null, .null, .null, .null, .int (nI 0)])), (q7, .inl (cI, 100, .inl (fun _ => 0)))] := hD
  refine W.widen (k := 1) (n := 100) (Nat.le_refl _) (show _ + _ ≤ _ by omega) ?_
  refine va_putF (D := D) (ci := 5) (v := .ref q7) (ty := .array .int) (C := RX5) (T := TX5) (N := 7) hx hb hts hin5 tyX5 tyX5_ok nmX5 hown hK hP hD hS 0 rfl rfl 0 (by decide) (hts (.fieldLink RX5 9 "MeshRouting$Searches" "activities" "[I") (List.mem_cons_of_mem _ q_135)) (fun _ h9 => h9) rfl hin rfl (by decide +kernel) rfl rfl (Nat.le_of_ble_eq_true rfl) dX5_init_9 (fun H locs hP hD hS => ?_)
  replace hP : va_P D vwCl [(h0, .inr (5, [.ref q7, .null, .null, .null, .null, .null, .int (nI 0)])), (q7, .inl (cI, 100, .inl (fun _ => 0)))] H := hP
  replace hD : va_D A [(h0, .inr (5, [.ref q7, .null, .null, .null, .null, .null, .int (nI 0)])), (q7, .inl (cI, 100, .inl (fun _ => 0)))] := hD
  refine lv_aload_n hx hb dX5_init_12 rfl (lv_at hl 0 rfl) ?_
  refine lv_bipush (v := nI 100) hx hb dX5_init_13 (by decide) ?_
  refine lv_iconst (v := (-1)) hx hb dX5_init_15 (by decide) ?_
  refine k_cr (wr := [(h0, .inr (5, [.ref q7, .null, .null, .null, .null, .null, .int (nI 0)])), (q7, .inl (cI, 100, .inl (fun _ => 0)))]) (w1 := fun r => [(r, .inl (cI, 100, .inl (fun _ => -1)))]) (va_runSN (As := [.int (nI 100), .int (-1)]) (rest := [.ref h0]) ⟨hx, hb, hml, hown, hts⟩ (c_X6_filledRow l D cI cJ cM cG 100 (-1) H.size (by omega) (by omega)) ⟨(va_cnB 2 hts (kB_c q_624) rfl rfl rfl hKN.2.2.2.1 (hts (.initialized RX6) (List.mem_cons_of_mem _ q_9)) (by decide +kernel) ⟨Nat.le_of_ble_eq_true rfl, Nat.le_of_ble_eq_true rfl⟩), (hts (.static yX6_filledRow) (List.mem_cons_of_mem _ q_623)), trivial⟩ (k_preS hP hD hK hKN [] rfl rfl) rfl rfl hl.1 rfl (lv_room (Nat.le_of_ble_eq_true rfl)) dX5_init_16 ⟨Nat.le_of_ble_eq_true rfl, Nat.le_of_ble_eq_true rfl⟩) hP hD hS hA [] [0, 1] rfl rfl rfl (by decide) (fun r16 H locs hw16 hP hD hS => ?_)
  replace hP : va_P D vwCl [(h0, .inr (5, [.ref q7, .null, .null, .null, .null, .null, .int (nI 0)])), (q7, .inl (cI, 100, .inl (fun _ => 0))), (r16, .inl (cI, 100, .inl (fun _ => -1)))] H := hP
  replace hD : va_D A [(h0, .inr (5, [.ref q7, .null, .null, .null, .null, .null, .int (nI 0)])), (q7, .inl (cI, 100, .inl (fun _ => 0))), (r16, .inl (cI, 100, .inl (fun _ => -1)))] := hD
  refine va_putF (D := D) (ci := 5) (v := .ref r16) (ty := .array .int) (C := RX5) (T := TX5) (N := 7) hx hb hts hin5 tyX5 tyX5_ok nmX5 hown hK hP hD hS 0 rfl rfl 1 (by decide) (hts (.fieldLink RX5 19 "MeshRouting$Searches" "deadlines" "[I") (List.mem_cons_of_mem _ q_136)) (fun _ h9 => h9) rfl hin rfl (by decide +kernel) rfl rfl (Nat.le_of_ble_eq_true rfl) dX5_init_19 (fun H locs hP hD hS => ?_)
  replace hP : va_P D vwCl [(h0, .inr (5, [.ref q7, .ref r16, .null, .null, .null, .null, .int (nI 0)])), (q7, .inl (cI, 100, .inl (fun _ => 0))), (r16, .inl (cI, 100, .inl (fun _ => -1)))] H := hP
  replace hD : va_D A [(h0, .inr (5, [.ref q7, .ref r16, .null, .null, .null, .null, .int (nI 0)])), (q7, .inl (cI, 100, .inl (fun _ => 0))), (r16, .inl (cI, 100, .inl (fun _ => -1)))] := hD
  refine lv_aload_n hx hb dX5_init_22 rfl (lv_at hl 0 rfl) ?_
  refine lv_bipush (v := nI 100) hx hb dX5_init_23 (by decide) ?_
  refine va_newa (atype := .int) (ty := .int) (N' := 100) (a0 := (100, .inl (fun _ => 0))) hx hb (hts (.arrayClass .int) (List.mem_cons_of_mem _ q_60)) rfl hK hP hD hS hA (fun _ => rfl) (nI_pos (by omega)) (nI_clamp (by omega)) (show 100 * 4 ≤ 536870912 by omega) (Nat.le_of_ble_eq_true rfl) (show 500 + 100 ≤ 1300 by omega) dX5_init_25 (fun q25 cA H hK9 hP hD hS => ?_)
  have e9 : cA = cI := k_cls hK9 (i := 4) (j := 0) rfl rfl
  rw [e9] at hP hD
  replace hP : va_P D vwCl [(h0, .inr (5, [.ref q7, .ref r16, .null, .null, .null, .null, .int (nI 0)])), (q7, .inl (cI, 100, .inl (fun _ => 0))), (r16, .inl (cI, 100, .inl (fun _ => -1))), (q25, .inl (cI, 100, .inl (fun _ => 0)))] H := hP
  replace hD : va_D A [(h0, .inr (5, [.ref q7, .ref r16, .null, .null, .null, .null, .int (nI 0)])), (q7, .inl (cI, 100, .inl (fun _ => 0))), (r16, .inl (cI, 100, .inl (fun _ => -1))), (q25, .inl (cI, 100, .inl (fun _ => 0)))] := hD
  refine W.widen (k := 3) (n := 600) (Nat.le_refl _) (show _ + _ ≤ _ by omega) ?_
  refine va_putF (D := D) (ci := 5) (v := .ref q25) (ty := .array .int) (C := RX5) (T := TX5) (N := 7) hx hb hts hin5 tyX5 tyX5_ok nmX5 hown hK hP hD hS 0 rfl rfl 2 (by decide) (hts (.fieldLink RX5 22 "MeshRouting$Searches" "lastRanges" "[I") (List.mem_cons_of_mem _ q_137)) (fun _ h9 => h9) rfl hin rfl (by decide +kernel) rfl rfl (Nat.le_of_ble_eq_true rfl) dX5_init_27 (fun H locs hP hD hS => ?_)
  replace hP : va_P D vwCl [(h0, .inr (5, [.ref q7, .ref r16, .ref q25, .null, .null, .null, .int (nI 0)])), (q7, .inl (cI, 100, .inl (fun _ => 0))), (r16, .inl (cI, 100, .inl (fun _ => -1))), (q25, .inl (cI, 100, .inl (fun _ => 0)))] H := hP
  replace hD : va_D A [(h0, .inr (5, [.ref q7, .ref r16, .ref q25, .null, .null, .null, .int (nI 0)])), (q7, .inl (cI, 100, .inl (fun _ => 0))), (r16, .inl (cI, 100, .inl (fun _ => -1))), (q25, .inl (cI, 100, .inl (fun _ => 0)))] := hD
  refine lv_aload_n hx hb dX5_init_30 rfl (lv_at hl 0 rfl) ?_
  refine lv_bipush (v := nI 100) hx hb dX5_init_31 (by decide) ?_
  refine va_newa (atype := .int) (ty := .int) (N' := 100) (a0 := (100, .inl (fun _ => 0))) hx hb (hts (.arrayClass .int) (List.mem_cons_of_mem _ q_60)) rfl hK hP hD hS hA (fun _ => rfl) (nI_pos (by omega)) (nI_clamp (by omega)) (show 100 * 4 ≤ 536870912 by omega) (Nat.le_of_ble_eq_true rfl) (show 600 + 100 ≤ 1300 by omega) dX5_init_33 (fun q33 cA H hK9 hP hD hS => ?_)
  have e9 : cA = cI := k_cls hK9 (i := 4) (j := 0) rfl rfl
  rw [e9] at hP hD
  replace hP : va_P D vwCl [(h0, .inr (5, [.ref q7, .ref r16, .ref q25, .null, .null, .null, .int (nI 0)])), (q7, .inl (cI, 100, .inl (fun _ => 0))), (r16, .inl (cI, 100, .inl (fun _ => -1))), (q25, .inl (cI, 100, .inl (fun _ => 0))), (q33, .inl (cI, 100, .inl (fun _ => 0)))] H := hP
  replace hD : va_D A [(h0, .inr (5, [.ref q7, .ref r16, .ref q25, .null, .null, .null, .int (nI 0)])), (q7, .inl (cI, 100, .inl (fun _ => 0))), (r16, .inl (cI, 100, .inl (fun _ => -1))), (q25, .inl (cI, 100, .inl (fun _ => 0))), (q33, .inl (cI, 100, .inl (fun _ => 0)))] := hD
  refine W.widen (k := 4) (n := 700) (Nat.le_refl _) (show _ + _ ≤ _ by omega) ?_
  refine va_putF (D := D) (ci := 5) (v := .ref q33) (ty := .array .int) (C := RX5) (T := TX5) (N := 7) hx hb hts hin5 tyX5 tyX5_ok nmX5 hown hK hP hD hS 0 rfl rfl 3 (by decide) (hts (.fieldLink RX5 25 "MeshRouting$Searches" "widestAsks" "[I") (List.mem_cons_of_mem _ q_138)) (fun _ h9 => h9) rfl hin rfl (by decide +kernel) rfl rfl (Nat.le_of_ble_eq_true rfl) dX5_init_35 (fun H locs hP hD hS => ?_)
  replace hP : va_P D vwCl [(h0, .inr (5, [.ref q7, .ref r16, .ref q25, .ref q33, .null, .null, .int (nI 0)])), (q7, .inl (cI, 100, .inl (fun _ => 0))), (r16, .inl (cI, 100, .inl (fun _ => -1))), (q25, .inl (cI, 100, .inl (fun _ => 0))), (q33, .inl (cI, 100, .inl (fun _ => 0)))] H := hP
  replace hD : va_D A [(h0, .inr (5, [.ref q7, .ref r16, .ref q25, .ref q33, .null, .null, .int (nI 0)])), (q7, .inl (cI, 100, .inl (fun _ => 0))), (r16, .inl (cI, 100, .inl (fun _ => -1))), (q25, .inl (cI, 100, .inl (fun _ => 0))), (q33, .inl (cI, 100, .inl (fun _ => 0)))] := hD
  refine lv_aload_n hx hb dX5_init_38 rfl (lv_at hl 0 rfl) ?_
  refine lv_bipush (v := nI 100) hx hb dX5_init_39 (by decide) ?_
  refine va_newa (atype := .int) (ty := .int) (N' := 100) (a0 := (100, .inl (fun _ => 0))) hx hb (hts (.arrayClass .int) (List.mem_cons_of_mem _ q_60)) rfl hK hP hD hS hA (fun _ => rfl) (nI_pos (by omega)) (nI_clamp (by omega)) (show 100 * 4 ≤ 536870912 by omega) (Nat.le_of_ble_eq_true rfl) (show 700 + 100 ≤ 1300 by omega) dX5_init_41 (fun q41 cA H hK9 hP hD hS => ?_)
  have e9 : cA = cI := k_cls hK9 (i := 4) (j := 0) rfl rfl
  rw [e9] at hP hD
  replace hP : va_P D vwCl [(h0, .inr (5, [.ref q7, .ref r16, .ref q25, .ref q33, .null, .null, .int (nI 0)])), (q7, .inl (cI, 100, .inl (fun _ => 0))), (r16, .inl (cI, 100, .inl (fun _ => -1))), (q25, .inl (cI, 100, .inl (fun _ => 0))), (q33, .inl (cI, 100, .inl (fun _ => 0))), (q41, .inl (cI, 100, .inl (fun _ => 0)))] H := hP
  replace hD : va_D A [(h0, .inr (5, [.ref q7, .ref r16, .ref q25, .ref q33, .null, .null, .int (nI 0)])), (q7, .inl (cI, 100, .inl (fun _ => 0))), (r16, .inl (cI, 100, .inl (fun _ => -1))), (q25, .inl (cI, 100, .inl (fun _ => 0))), (q33, .inl (cI, 100, .inl (fun _ => 0))), (q41, .inl (cI, 100, .inl (fun _ => 0)))] := hD
  refine W.widen (k := 5) (n := 800) (Nat.le_refl _) (show _ + _ ≤ _ by omega) ?_
  refine va_putF (D := D) (ci := 5) (v := .ref q41) (ty := .array .int) (C := RX5) (T := TX5) (N := 7) hx hb hts hin5 tyX5 tyX5_ok nmX5 hown hK hP hD hS 0 rfl rfl 4 (by decide) (hts (.fieldLink RX5 28 "MeshRouting$Searches" "waiting" "[I") (List.mem_cons_of_mem _ q_139)) (fun _ h9 => h9) rfl hin rfl (by decide +kernel) rfl rfl (Nat.le_of_ble_eq_true rfl) dX5_init_43 (fun H locs hP hD hS => ?_)
  replace hP : va_P D vwCl [(h0, .inr (5, [.ref q7, .ref r16, .ref q25, .ref q33, .ref q41, .null, .int (nI 0)])), (q7, .inl (cI, 100, .inl (fun _ => 0))), (r16, .inl (cI, 100, .inl (fun _ => -1))), (q25, .inl (cI, 100, .inl (fun _ => 0))), (q33, .inl (cI, 100, .inl (fun _ => 0))), (q41, .inl (cI, 100, .inl (fun _ => 0)))] H := hP
  replace hD : va_D A [(h0, .inr (5, [.ref q7, .ref r16, .ref q25, .ref q33, .ref q41, .null, .int (nI 0)])), (q7, .inl (cI, 100, .inl (fun _ => 0))), (r16, .inl (cI, 100, .inl (fun _ => -1))), (q25, .inl (cI, 100, .inl (fun _ => 0))), (q33, .inl (cI, 100, .inl (fun _ => 0))), (q41, .inl (cI, 100, .inl (fun _ => 0)))] := hD
  refine lv_aload_n hx hb dX5_init_46 rfl (lv_at hl 0 rfl) ?_
  refine lv_sipush (v := nI 400) hx hb dX5_init_47 (by decide) ?_
  refine va_newa (atype := .int) (ty := .int) (N' := 400) (a0 := (400, .inl (fun _ => 0))) hx hb (hts (.arrayClass .int) (List.mem_cons_of_mem _ q_60)) rfl hK hP hD hS hA (fun _ => rfl) (nI_pos (by omega)) (nI_clamp (by omega)) (show 400 * 4 ≤ 536870912 by omega) (Nat.le_of_ble_eq_true rfl) (show 800 + 400 ≤ 1300 by omega) dX5_init_50 (fun q50 cA H hK9 hP hD hS => ?_)
  have e9 : cA = cI := k_cls hK9 (i := 4) (j := 0) rfl rfl
  rw [e9] at hP hD
  replace hP : va_P D vwCl [(h0, .inr (5, [.ref q7, .ref r16, .ref q25, .ref q33, .ref q41, .null, .int (nI 0)])), (q7, .inl (cI, 100, .inl (fun _ => 0))), (r16, .inl (cI, 100, .inl (fun _ => -1))), (q25, .inl (cI, 100, .inl (fun _ => 0))), (q33, .inl (cI, 100, .inl (fun _ => 0))), (q41, .inl (cI, 100, .inl (fun _ => 0))), (q50, .inl (cI, 400, .inl (fun _ => 0)))] H := hP
  replace hD : va_D A [(h0, .inr (5, [.ref q7, .ref r16, .ref q25, .ref q33, .ref q41, .null, .int (nI 0)])), (q7, .inl (cI, 100, .inl (fun _ => 0))), (r16, .inl (cI, 100, .inl (fun _ => -1))), (q25, .inl (cI, 100, .inl (fun _ => 0))), (q33, .inl (cI, 100, .inl (fun _ => 0))), (q41, .inl (cI, 100, .inl (fun _ => 0))), (q50, .inl (cI, 400, .inl (fun _ => 0)))] := hD
  refine W.widen (k := 6) (n := 1200) (Nat.le_refl _) (show _ + _ ≤ _ by omega) ?_
  refine va_putF (D := D) (ci := 5) (v := .ref q50) (ty := .array .int) (C := RX5) (T := TX5) (N := 7) hx hb hts hin5 tyX5 tyX5_ok nmX5 hown hK hP hD hS 0 rfl rfl 5 (by decide) (hts (.fieldLink RX5 31 "MeshRouting$Searches" "buffers" "[I") (List.mem_cons_of_mem _ q_140)) (fun _ h9 => h9) rfl hin rfl (by decide +kernel) rfl rfl (Nat.le_of_ble_eq_true rfl) dX5_init_52 (fun H locs hP hD hS => ?_)
  replace hP : va_P D vwCl [(h0, .inr (5, [.ref q7, .ref r16, .ref q25, .ref q33, .ref q41, .ref q50, .int (nI 0)])), (q7, .inl (cI, 100, .inl (fun _ => 0))), (r16, .inl (cI, 100, .inl (fun _ => -1))), (q25, .inl (cI, 100, .inl (fun _ => 0))), (q33, .inl (cI, 100, .inl (fun _ => 0))), (q41, .inl (cI, 100, .inl (fun _ => 0))), (q50, .inl (cI, 400, .inl (fun _ => 0)))] H := hP
  replace hD : va_D A [(h0, .inr (5, [.ref q7, .ref r16, .ref q25, .ref q33, .ref q41, .ref q50, .int (nI 0)])), (q7, .inl (cI, 100, .inl (fun _ => 0))), (r16, .inl (cI, 100, .inl (fun _ => -1))), (q25, .inl (cI, 100, .inl (fun _ => 0))), (q33, .inl (cI, 100, .inl (fun _ => 0))), (q41, .inl (cI, 100, .inl (fun _ => 0))), (q50, .inl (cI, 400, .inl (fun _ => 0)))] := hD
  refine lv_aload_n hx hb dX5_init_55 rfl (lv_at hl 0 rfl) ?_
  refine lv_iconst (v := (-1)) hx hb dX5_init_56 (by decide) ?_
  refine va_put (D := D) (ci := 5) (v := .int (-1)) (ty := .int) (C := RX5) (T := TX5) (N := 7) hx hb hts hin5 tyX5 tyX5_ok nmX5 hown hK hP hD hS 0 rfl rfl 6 (by decide) (hts (.fieldLink RX5 34 "MeshRouting$Searches" "due" "I") (List.mem_cons_of_mem _ q_141)) (fun _ h9 => h9) rfl (by decide +kernel) rfl rfl (Nat.le_of_ble_eq_true rfl) dX5_init_57 (fun H locs hP hD hS => ?_)
  replace hP : va_P D vwCl [(h0, .inr (5, [.ref q7, .ref r16, .ref q25, .ref q33, .ref q41, .ref q50, .int (-1)])), (q7, .inl (cI, 100, .inl (fun _ => 0))), (r16, .inl (cI, 100, .inl (fun _ => -1))), (q25, .inl (cI, 100, .inl (fun _ => 0))), (q33, .inl (cI, 100, .inl (fun _ => 0))), (q41, .inl (cI, 100, .inl (fun _ => 0))), (q50, .inl (cI, 400, .inl (fun _ => 0)))] H := hP
  replace hD : va_D A [(h0, .inr (5, [.ref q7, .ref r16, .ref q25, .ref q33, .ref q41, .ref q50, .int (-1)])), (q7, .inl (cI, 100, .inl (fun _ => 0))), (r16, .inl (cI, 100, .inl (fun _ => -1))), (q25, .inl (cI, 100, .inl (fun _ => 0))), (q33, .inl (cI, 100, .inl (fun _ => 0))), (q41, .inl (cI, 100, .inl (fun _ => 0))), (q50, .inl (cI, 400, .inl (fun _ => 0)))] := hD
  have hP9 := hP.sub (ws' := [(h0, .inr (5, [.ref q7, .ref r16, .ref q25, .ref q33, .ref q41, .ref q50, .int (-1)])), (q7, .inl (cI, 100, .inl (fun _ => 0))), (r16, .inl (cI, 100, .inl (fun _ => -1))), (q25, .inl (cI, 100, .inl (fun _ => 0))), (q33, .inl (cI, 100, .inl (fun _ => 0))), (q41, .inl (cI, 100, .inl (fun _ => 0))), (q50, .inl (cI, 400, .inl (fun _ => 0)))]) [0, 1, 2, 3, 4, 5, 6] rfl
  have hD9 := hD.sub (ws' := [(h0, .inr (5, [.ref q7, .ref r16, .ref q25, .ref q33, .ref q41, .ref q50, .int (-1)])), (q7, .inl (cI, 100, .inl (fun _ => 0))), (r16, .inl (cI, 100, .inl (fun _ => -1))), (q25, .inl (cI, 100, .inl (fun _ => 0))), (q33, .inl (cI, 100, .inl (fun _ => 0))), (q41, .inl (cI, 100, .inl (fun _ => 0))), (q50, .inl (cI, 400, .inl (fun _ => 0)))]) [0, 1, 2, 3, 4, 5, 6] rfl rfl
  refine W.widen (k := 6) (n := 1300) (Nat.le_of_ble_eq_true rfl) (Nat.le_of_ble_eq_true rfl) ?_
  exact W.vret hx hb hr (fun t9 ht9 hW9 => ⟨⟨(fun k => match k with | 16 => h0 | 17 => q7 | 18 => r16 | 19 => q25 | 20 => q33 | 21 => q41 | 22 => q50 | _ => 0), rfl, rfl, by rw [ht9]; exact hP9, hD9⟩, hS.F ht9⟩) hS.2.2 dX5_init_60

set_option maxHeartbeats 4000000 in
set_option maxRecDepth 100000 in
theorem c_X3_init (l : Launch) (D : va_G) (cI cJ cM cG : ClassId) (h0 : Nat) (sz : Nat)  : Met l yX3_init (Cond.code yX3_init cX3_init 1 none :: kBig) ({ frames := 2, cells := 8, slots := 1800, locals := 45 }) (va_Pc [.ref h0] (kP D [(cI, .int), (cJ, .long), (cM, .object "MeshRouting$Message"), (cG, .array .int)] [(h0, .inr (3, [.int (nI 0), .null, .null, .null, .null, .null, .null, .null, .null]))] sz)) (va_Qv (fun u : Nat → Nat => u 23 = h0) (fun u t9 => kB D (va_A [(h0, .inr (3, [.int (nI 0), .null, .null, .null, .null, .null, .null, .null, .null]))] sz) [(u 23, .inr (3, [.int (nI 0), .ref (u 24), .ref (u 25), .ref (u 26), .ref (u 27), .ref (u 28), .ref (u 29), .ref (u 30), .ref (u 31)])), (u 24, .inl (cI, 200, .inl (fun _ => 0))), (u 25, .inl (cI, 200, .inl (fun _ => 0))), (u 26, .inl (cI, 200, .inl (fun _ => 0))), (u 27, .inl (cI, 200, .inl (fun _ => 0))), (u 28, .inl (cI, 200, .inl (fun _ => 0))), (u 29, .inl (cI, 200, .inl (fun _ => 0))), (u 30, .inl (cI, 200, .inl (fun _ => -1))), (u 31, .inl (cI, 200, .inl (fun _ => 0)))] t9) (va_A [(h0, .inr (3, [.int (nI 0), .null, .null, .null, .null, .null, .null, .null, .null]))] sz)) 8 1800 (va_A [(h0, .inr (3, [.int (nI 0), .null, .null, .null, .null, .null, .null, .null, .null]))] sz) := by
  refine Met.ofW (cc := cX3_init) (maxL := 1) (ret := none) (by decide) rfl ?_
  intro p e s m args below meth c s₁ B hml hv
  obtain ⟨rfl, hsz, hP, hK, hD0, hKN⟩ := hv
  have hx := B.exec
  have hb := B.bytes
  have hr := B.returns
  have hts := atoms_spec (ws := (Cond.code yX3_init cX3_init 1 none :: kBig)) B.pre
  have hown : s.vm.findClass RX3 = some m.cls := findClass_of_methodNamed B.named
  have hlocks := B.notSynchronized
  have hin : meth.name = "<init>" := (name_of_methodNamed B.named B.method).1
  have hin3 : ∀ w ∈ u_ws RX3 TX3 9, w ∈ (Cond.code yX3_init cX3_init 1 none :: kBig) := fun w h => List.mem_cons_of_mem _ (inb3 w h)
  subst hsz
  have hD := hD0.self (sz := s.heap.size)
  generalize hAe : va_A [(h0, .inr (3, [.int (nI 0), .null, .null, .null, .null, .null, .null, .null, .null]))] s.heap.size = A at hD ⊢
  have hA : ∀ q : Nat, s.heap.size ≤ q → A q := fun q h => by rw [← hAe]; exact Or.inr h
  have hS : va_S A s.heap s.heap [] := va_S.rf
  have hl := lv_entry ([.ref h0]) (n := 1) (Nat.le_of_ble_eq_true rfl)
  rw [lg_entry_eq]
  generalize (lg_sl ([.ref h0]) ++ List.replicate (1 - (lg_sl ([.ref h0])).length) Slot.unset).toArray = ls at hl ⊢
  have hl : lv_has ls 1 [(0, .ref h0)] := hl
  refine lv_aload_n hx hb dX3_init_0 rfl (lv_at hl 0 rfl) ?_
  refine W.objInit hx hb hown (hts (.methodLink RX3 3 objectInit) (List.mem_cons_of_mem _ q_633)) (hts (.instanceMethod objectInit) (List.mem_cons_of_mem _ q_101)) (hts (.code objectInit ⟨#[0xb1]⟩ 1 none) (List.mem_cons_of_mem _ q_102)) rfl (by rw [hml]; exact hl.1) rfl dX3_init_1 (Nat.le_of_ble_eq_true rfl) (Nat.le_of_ble_eq_true rfl) ?_
  refine W.eq (g2 := F0 m 4 ls []) rfl ?_
  refine lv_aload_n hx hb dX3_init_4 rfl (lv_at hl 0 rfl) ?_
  refine lv_sipush (v := nI 200) hx hb dX3_init_5 (by decide) ?_
  refine va_newa (atype := .int) (ty := .int) (N' := 200) (a0 := (200, .inl (fun _ => 0))) hx hb (hts (.arrayClass .int) (List.mem_cons_of_mem _ q_60)) rfl hK hP hD hS hA (fun _ => rfl) (nI_pos (by omega)) (nI_clamp (by omega)) (show 200 * 4 ≤ 536870912 by omega) (Nat.le_of_ble_eq_true rfl) (show 0 + 200 ≤ 1800 by omega) dX3_init_8 (fun q8 cA H hK9 hP hD hS => ?_)
  have e9 : cA = cI := k_cls hK9 (i := 4) (j := 0) rfl rfl
  rw [e9] at hP hD
  replace hP : va_P D vwCl [(h0, .inr (3, [.int (nI 0), .null, .null, .null, .null, .null, .null, .null, .null])), (q8, .inl (cI, 200, .inl (fun _ => 0)))] H := hP
  replace hD : va_D A [(h0, .inr (3, [.int (nI 0), .null, .null, .null, .null, .null, .null, .null, .null])), (q8, .inl (cI, 200, .inl (fun _ => 0)))] := hD
  refine W.widen (k := 1) (n := 200) (Nat.le_refl _) (show _ + _ ≤ _ by omega) ?_
  refine va_putF (D := D) (ci := 3) (v := .ref q8) (ty := .array .int) (C := RX3) (T := TX3) (N := 9) hx hb hts hin3 tyX3 tyX3_ok nmX3 hown hK hP hD hS 0 rfl rfl 1 (by decide) (hts (.fieldLink RX3 9 "MeshRouting$Packets" "origins" "[I") (List.mem_cons_of_mem _ q_148)) (fun _ h9 => h9) rfl hin rfl (by decide +kernel) rfl rfl (Nat.le_of_ble_eq_true rfl) dX3_init_10 (fun H locs hP hD hS => ?_)
  replace hP : va_P D vwCl [(h0, .inr (3, [.int (nI 0), .ref q8, .null, .null, .null, .null, .null, .null, .null])), (q8, .inl (cI, 200, .inl (fun _ => 0)))] H := hP
  replace hD : va_D A [(h0, .inr (3, [.int (nI 0), .ref q8, .null, .null, .null, .null, .null, .null, .null])), (q8, .inl (cI, 200, .inl (fun _ => 0)))] := hD
  refine lv_aload_n hx hb dX3_init_13 rfl (lv_at hl 0 rfl) ?_
  refine lv_sipush (v := nI 200) hx hb dX3_init_14 (by decide) ?_
  refine va_newa (atype := .int) (ty := .int) (N' := 200) (a0 := (200, .inl (fun _ => 0))) hx hb (hts (.arrayClass .int) (List.mem_cons_of_mem _ q_60)) rfl hK hP hD hS hA (fun _ => rfl) (nI_pos (by omega)) (nI_clamp (by omega)) (show 200 * 4 ≤ 536870912 by omega) (Nat.le_of_ble_eq_true rfl) (show 200 + 200 ≤ 1800 by omega) dX3_init_17 (fun q17 cA H hK9 hP hD hS => ?_)
  have e9 : cA = cI := k_cls hK9 (i := 4) (j := 0) rfl rfl
  rw [e9] at hP hD
  replace hP : va_P D vwCl [(h0, .inr (3, [.int (nI 0), .ref q8, .null, .null, .null, .null, .null, .null, .null])), (q8, .inl (cI, 200, .inl (fun _ => 0))), (q17, .inl (cI, 200, .inl (fun _ => 0)))] H := hP
  replace hD : va_D A [(h0, .inr (3, [.int (nI 0), .ref q8, .null, .null, .null, .null, .null, .null, .null])), (q8, .inl (cI, 200, .inl (fun _ => 0))), (q17, .inl (cI, 200, .inl (fun _ => 0)))] := hD
  refine W.widen (k := 2) (n := 400) (Nat.le_refl _) (show _ + _ ≤ _ by omega) ?_
  refine va_putF (D := D) (ci := 3) (v := .ref q17) (ty := .array .int) (C := RX3) (T := TX3) (N := 9) hx hb hts hin3 tyX3 tyX3_ok nmX3 hown hK hP hD hS 0 rfl rfl 2 (by decide) (hts (.fieldLink RX3 15 "MeshRouting$Packets" "destinations" "[I") (List.mem_cons_of_mem _ q_149)) (fun _ h9 => h9) rfl hin rfl (by decide +kernel) rfl rfl (Nat.le_of_ble_eq_true rfl) dX3_init_19 (fun H locs hP hD hS => ?_)
  replace hP : va_P D vwCl [(h0, .inr (3, [.int (nI 0), .ref q8, .ref q17, .null, .null, .null, .null, .null, .null])), (q8, .inl (cI, 200, .inl (fun _ => 0))), (q17, .inl (cI, 200, .inl (fun _ => 0)))] H := hP
  replace hD : va_D A [(h0, .inr (3, [.int (nI 0), .ref q8, .ref q17, .null, .null, .null, .null, .null, .null])), (q8, .inl (cI, 200, .inl (fun _ => 0))), (q17, .inl (cI, 200, .inl (fun _ => 0)))] := hD
  refine lv_aload_n hx hb dX3_init_22 rfl (lv_at hl 0 rfl) ?_
  refine lv_sipush (v := nI 200) hx hb dX3_init_23 (by decide) ?_
  refine va_newa (atype := .int) (ty := .int) (N' := 200) (a0 := (200, .inl (fun _ => 0))) hx hb (hts (.arrayClass .int) (List.mem_cons_of_mem _ q_60)) rfl hK hP hD hS hA (fun _ => rfl) (nI_pos (by omega)) (nI_clamp (by omega)) (show 200 * 4 ≤ 536870912 by omega) (Nat.le_of_ble_eq_true rfl) (show 400 + 200 ≤ 1800 by omega) dX3_init_26 (fun q26 cA H hK9 hP hD hS => ?_)
  have e9 : cA = cI := k_cls hK9 (i := 4) (j := 0) rfl rfl
  rw [e9] at hP hD
  replace hP : va_P D vwCl [(h0, .inr (3, [.int (nI 0), .ref q8, .ref q17, .null, .null, .null, .null, .null, .null])), (q8, .inl (cI, 200, .inl (fun _ => 0))), (q17, .inl (cI, 200, .inl (fun _ => 0))), (q26, .inl (cI, 200, .inl (fun _ => 0)))] H := hP
  replace hD : va_D A [(h0, .inr (3, [.int (nI 0), .ref q8, .ref q17, .null, .null, .null, .null, .null, .null])), (q8, .inl (cI, 200, .inl (fun _ => 0))), (q17, .inl (cI, 200, .inl (fun _ => 0))), (q26, .inl (cI, 200, .inl (fun _ => 0)))] := hD
  refine W.widen (k := 3) (n := 600) (Nat.le_refl _) (show _ + _ ≤ _ by omega) ?_
  refine va_putF (D := D) (ci := 3) (v := .ref q26) (ty := .array .int) (C := RX3) (T := TX3) (N := 9) hx hb hts hin3 tyX3 tyX3_ok nmX3 hown hK hP hD hS 0 rfl rfl 3 (by decide) (hts (.fieldLink RX3 18 "MeshRouting$Packets" "states" "[I") (List.mem_cons_of_mem _ q_150)) (fun _ h9 => h9) rfl hin rfl (by decide +kernel) rfl rfl (Nat.le_of_ble_eq_true rfl) dX3_init_28 (fun H locs hP hD hS => ?_)
  replace hP : va_P D vwCl [(h0, .inr (3, [.int (nI 0), .ref q8, .ref q17, .ref q26, .null, .null, .null, .null, .null])), (q8, .inl (cI, 200, .inl (fun _ => 0))), (q17, .inl (cI, 200, .inl (fun _ => 0))), (q26, .inl (cI, 200, .inl (fun _ => 0)))] H := hP
  replace hD : va_D A [(h0, .inr (3, [.int (nI 0), .ref q8, .ref q17, .ref q26, .null, .null, .null, .null, .null])), (q8, .inl (cI, 200, .inl (fun _ => 0))), (q17, .inl (cI, 200, .inl (fun _ => 0))), (q26, .inl (cI, 200, .inl (fun _ => 0)))] := hD
  refine lv_aload_n hx hb dX3_init_31 rfl (lv_at hl 0 rfl) ?_
  refine lv_sipush (v := nI 200) hx hb dX3_init_32 (by decide) ?_
  refine va_newa (atype := .int) (ty := .int) (N' := 200) (a0 := (200, .inl (fun _ => 0))) hx hb (hts (.arrayClass .int) (List.mem_cons_of_mem _ q_60)) rfl hK hP hD hS hA (fun _ => rfl) (nI_pos (by omega)) (nI_clamp (by omega)) (show 200 * 4 ≤ 536870912 by omega) (Nat.le_of_ble_eq_true rfl) (show 600 + 200 ≤ 1800 by omega) dX3_init_35 (fun q35 cA H hK9 hP hD hS => ?_)
  have e9 : cA = cI := k_cls hK9 (i := 4) (j := 0) rfl rfl
  rw [e9] at hP hD
  replace hP : va_P D vwCl [(h0, .inr (3, [.int (nI 0), .ref q8, .ref q17, .ref q26, .null, .null, .null, .null, .null])), (q8, .inl (cI, 200, .inl (fun _ => 0))), (q17, .inl (cI, 200, .inl (fun _ => 0))), (q26, .inl (cI, 200, .inl (fun _ => 0))), (q35, .inl (cI, 200, .inl (fun _ => 0)))] H := hP
  replace hD : va_D A [(h0, .inr (3, [.int (nI 0), .ref q8, .ref q17, .ref q26, .null, .null, .null, .null, .null])), (q8, .inl (cI, 200, .inl (fun _ => 0))), (q17, .inl (cI, 200, .inl (fun _ => 0))), (q26, .inl (cI, 200, .inl (fun _ => 0))), (q35, .inl (cI, 200, .inl (fun _ => 0)))] := hD
  refine W.widen (k := 4) (n := 800) (Nat.le_refl _) (show _ + _ ≤ _ by omega) ?_
  refine va_putF (D := D) (ci := 3) (v := .ref q35) (ty := .array .int) (C := RX3) (T := TX3) (N := 9) hx hb hts hin3 tyX3 tyX3_ok nmX3 hown hK hP hD hS 0 rfl rfl 4 (by decide) (hts (.fieldLink RX3 21 "MeshRouting$Packets" "places" "[I") (List.mem_cons_of_mem _ q_151)) (fun _ h9 => h9) rfl hin rfl (by decide +kernel) rfl rfl (Nat.le_of_ble_eq_true rfl) dX3_init_37 (fun H locs hP hD hS => ?_)
  replace hP : va_P D vwCl [(h0, .inr (3, [.int (nI 0), .ref q8, .ref q17, .ref q26, .ref q35, .null, .null, .null, .null])), (q8, .inl (cI, 200, .inl (fun _ => 0))), (q17, .inl (cI, 200, .inl (fun _ => 0))), (q26, .inl (cI, 200, .inl (fun _ => 0))), (q35, .inl (cI, 200, .inl (fun _ => 0)))] H := hP
  replace hD : va_D A [(h0, .inr (3, [.int (nI 0), .ref q8, .ref q17, .ref q26, .ref q35, .null, .null, .null, .null])), (q8, .inl (cI, 200, .inl (fun _ => 0))), (q17, .inl (cI, 200, .inl (fun _ => 0))), (q26, .inl (cI, 200, .inl (fun _ => 0))), (q35, .inl (cI, 200, .inl (fun _ => 0)))] := hD
  refine lv_aload_n hx hb dX3_init_40 rfl (lv_at hl 0 rfl) ?_
  refine lv_sipush (v := nI 200) hx hb dX3_init_41 (by decide) ?_
  refine va_newa (atype := .int) (ty := .int) (N' := 200) (a0 := (200, .inl (fun _ => 0))) hx hb (hts (.arrayClass .int) (List.mem_cons_of_mem _ q_60)) rfl hK hP hD hS hA (fun _ => rfl) (nI_pos (by omega)) (nI_clamp (by omega)) (show 200 * 4 ≤ 536870912 by omega) (Nat.le_of_ble_eq_true rfl) (show 800 + 200 ≤ 1800 by omega) dX3_init_44 (fun q44 cA H hK9 hP hD hS => ?_)
  have e9 : cA = cI := k_cls hK9 (i := 4) (j := 0) rfl rfl
  rw [e9] at hP hD
  replace hP : va_P D vwCl [(h0, .inr (3, [.int (nI 0), .ref q8, .ref q17, .ref q26, .ref q35, .null, .null, .null, .null])), (q8, .inl (cI, 200, .inl (fun _ => 0))), (q17, .inl (cI, 200, .inl (fun _ => 0))), (q26, .inl (cI, 200, .inl (fun _ => 0))), (q35, .inl (cI, 200, .inl (fun _ => 0))), (q44, .inl (cI, 200, .inl (fun _ => 0)))] H := hP
  replace hD : va_D A [(h0, .inr (3, [.int (nI 0), .ref q8, .ref q17, .ref q26, .ref q35, .null, .null, .null, .null])), (q8, .inl (cI, 200, .inl (fun _ => 0))), (q17, .inl (cI, 200, .inl (fun _ => 0))), (q26, .inl (cI, 200, .inl (fun _ => 0))), (q35, .inl (cI, 200, .inl (fun _ => 0))), (q44, .inl (cI, 200, .inl (fun _ => 0)))] := hD
  refine W.widen (k := 5) (n := 1000) (Nat.le_refl _) (show _ + _ ≤ _ by omega) ?_
  refine va_putF (D := D) (ci := 3) (v := .ref q44) (ty := .array .int) (C := RX3) (T := TX3) (N := 9) hx hb hts hin3 tyX3 tyX3_ok nmX3 hown hK hP hD hS 0 rfl rfl 5 (by decide) (hts (.fieldLink RX3 24 "MeshRouting$Packets" "cameFrom" "[I") (List.mem_cons_of_mem _ q_152)) (fun _ h9 => h9) rfl hin rfl (by decide +kernel) rfl rfl (Nat.le_of_ble_eq_true rfl) dX3_init_46 (fun H locs hP hD hS => ?_)
  replace hP : va_P D vwCl [(h0, .inr (3, [.int (nI 0), .ref q8, .ref q17, .ref q26, .ref q35, .ref q44, .null, .null, .null])), (q8, .inl (cI, 200, .inl (fun _ => 0))), (q17, .inl (cI, 200, .inl (fun _ => 0))), (q26, .inl (cI, 200, .inl (fun _ => 0))), (q35, .inl (cI, 200, .inl (fun _ => 0))), (q44, .inl (cI, 200, .inl (fun _ => 0)))] H := hP
  replace hD : va_D A [(h0, .inr (3, [.int (nI 0), .ref q8, .ref q17, .ref q26, .ref q35, .ref q44, .null, .null, .null])), (q8, .inl (cI, 200, .inl (fun _ => 0))), (q17, .inl (cI, 200, .inl (fun _ => 0))), (q26, .inl (cI, 200, .inl (fun _ => 0))), (q35, .inl (cI, 200, .inl (fun _ => 0))), (q44, .inl (cI, 200, .inl (fun _ => 0)))] := hD
  refine lv_aload_n hx hb dX3_init_49 rfl (lv_at hl 0 rfl) ?_
  refine lv_sipush (v := nI 200) hx hb dX3_init_50 (by decide) ?_
  refine va_newa (atype := .int) (ty := .int) (N' := 200) (a0 := (200, .inl (fun _ => 0))) hx hb (hts (.arrayClass .int) (List.mem_cons_of_mem _ q_60)) rfl hK hP hD hS hA (fun _ => rfl) (nI_pos (by omega)) (nI_clamp (by omega)) (show 200 * 4 ≤ 536870912 by omega) (Nat.le_of_ble_eq_true rfl) (show 1000 + 200 ≤ 1800 by omega) dX3_init_53 (fun q53 cA H hK9 hP hD hS => ?_)
  have e9 : cA = cI := k_cls hK9 (i := 4) (j := 0) rfl rfl
  rw [e9] at hP hD
  replace hP : va_P D vwCl [(h0, .inr (3, [.int (nI 0), .ref q8, .ref q17, .ref q26, .ref q35, .ref q44, .null, .null, .null])), (q8, .inl (cI, 200, .inl (fun _ => 0))), (q17, .inl (cI, 200, .inl (fun _ => 0))), (q26, .inl (cI, 200, .inl (fun _ => 0))), (q35, .inl (cI, 200, .inl (fun _ => 0))), (q44, .inl (cI, 200, .inl (fun _ => 0))), (q53, .inl (cI, 200, .inl (fun _ => 0)))] H := hP
  replace hD : va_D A [(h0, .inr (3, [.int (nI 0), .ref q8, .ref q17, .ref q26, .ref q35, .ref q44, .null, .null, .null])), (q8, .inl (cI, 200, .inl (fun _ => 0))), (q17, .inl (cI, 200, .inl (fun _ => 0))), (q26, .inl (cI, 200, .inl (fun _ => 0))), (q35, .inl (cI, 200, .inl (fun _ => 0))), (q44, .inl (cI, 200, .inl (fun _ => 0))), (q53, .inl (cI, 200, .inl (fun _ => 0)))] := hD
  refine W.widen (k := 6) (n := 1200) (Nat.le_refl _) (show _ + _ ≤ _ by omega) ?_
  refine va_putF (D := D) (ci := 3) (v := .ref q53) (ty := .array .int) (C := RX3) (T := TX3) (N := 9) hx hb hts hin3 tyX3 tyX3_ok nmX3 hown hK hP hD hS 0 rfl rfl 6 (by decide) (hts (.fieldLink RX3 27 "MeshRouting$Packets" "linksUsed" "[I") (List.mem_cons_of_mem _ q_153)) (fun _ h9 => h9) rfl hin rfl (by decide +kernel) rfl rfl (Nat.le_of_ble_eq_true rfl) dX3_init_55 (fun H locs hP hD hS => ?_)
  replace hP : va_P D vwCl [(h0, .inr (3, [.int (nI 0), .ref q8, .ref q17, .ref q26, .ref q35, .ref q44, .ref q53, .null, .null])), (q8, .inl (cI, 200, .inl (fun _ => 0))), (q17, .inl (cI, 200, .inl (fun _ => 0))), (q26, .inl (cI, 200, .inl (fun _ => 0))), (q35, .inl (cI, 200, .inl (fun _ => 0))), (q44, .inl (cI, 200, .inl (fun _ => 0))), (q53, .inl (cI, 200, .inl (fun _ => 0)))] H := hP
  replace hD : va_D A [(h0, .inr (3, [.int (nI 0), .ref q8, .ref q17, .ref q26, .ref q35, .ref q44, .ref q53, .null, .null])), (q8, .inl (cI, 200, .inl (fun _ => 0))), (q17, .inl (cI, 200, .inl (fun _ => 0))), (q26, .inl (cI, 200, .inl (fun _ => 0))), (q35, .inl (cI, 200, .inl (fun _ => 0))), (q44, .inl (cI, 200, .inl (fun _ => 0))), (q53, .inl (cI, 200, .inl (fun _ => 0)))] := hD
  refine lv_aload_n hx hb dX3_init_58 rfl (lv_at hl 0 rfl) ?_
  refine lv_sipush (v := nI 200) hx hb dX3_init_59 (by decide) ?_
  refine lv_iconst (v := (-1)) hx hb dX3_init_62 (by decide) ?_
  refine k_cr (wr := [(h0, .inr (3, [.int (nI 0), .ref q8, .ref q17, .ref q26, .ref q35, .ref q44, .ref q53, .null, .null])), (q8, .inl (cI, 200, .inl (fun _ => 0))), (q17, .inl (cI, 200, .inl (fun _ => 0))), (q26, .inl (cI, 200, .inl (fun _ => 0))), (q35, .inl (cI, 200, .inl (fun _ => 0))), (q44, .inl (cI, 200, .inl (fun _ => 0))), (q53, .inl (cI, 200, .inl (fun _ => 0)))]) (w1 := fun r => [(r, .inl (cI, 200, .inl (fun _ => -1)))]) (va_runSN (As := [.int (nI 200), .int (-1)]) (rest := [.ref h0]) ⟨hx, hb, hml, hown, hts⟩ (c_X6_filledRow l D cI cJ cM cG 200 (-1) H.size (by omega) (by omega)) ⟨(va_cnB 2 hts (kB_c q_624) rfl rfl rfl hKN.2.2.2.2.2.1 (hts (.initialized RX6) (List.mem_cons_of_mem _ q_9)) (by decide +kernel) ⟨Nat.le_of_ble_eq_true rfl, Nat.le_of_ble_eq_true rfl⟩), (hts (.static yX6_filledRow) (List.mem_cons_of_mem _ q_623)), trivial⟩ (k_preS hP hD hK hKN [] rfl rfl) rfl rfl hl.1 rfl (lv_room (Nat.le_of_ble_eq_true rfl)) dX3_init_63 ⟨Nat.le_of_ble_eq_true rfl, Nat.le_of_ble_eq_true rfl⟩) hP hD hS hA [] [0, 1, 2, 3, 4, 5, 6] rfl rfl rfl (by decide) (fun r63 H locs hw63 hP hD hS => ?_)
  replace hP : va_P D vwCl [(h0, .inr (3, [.int (nI 0), .ref q8, .ref q17, .ref q26, .ref q35, .ref q44, .ref q53, .null, .null])), (q8, .inl (cI, 200, .inl (fun _ => 0))), (q17, .inl (cI, 200, .inl (fun _ => 0))), (q26, .inl (cI, 200, .inl (fun _ => 0))), (q35, .inl (cI, 200, .inl (fun _ => 0))), (q44, .inl (cI, 200, .inl (fun _ => 0))), (q53, .inl (cI, 200, .inl (fun _ => 0))), (r63, .inl (cI, 200, .inl (fun _ => -1)))] H := hP
  replace hD : va_D A [(h0, .inr (3, [.int (nI 0), .ref q8, .ref q17, .ref q26, .ref q35, .ref q44, .ref q53, .null, .null])), (q8, .inl (cI, 200, .inl (fun _ => 0))), (q17, .inl (cI, 200, .inl (fun _ => 0))), (q26, .inl (cI, 200, .inl (fun _ => 0))), (q35, .inl (cI, 200, .inl (fun _ => 0))), (q44, .inl (cI, 200, .inl (fun _ => 0))), (q53, .inl (cI, 200, .inl (fun _ => 0))), (r63, .inl (cI, 200, .inl (fun _ => -1)))] := hD
  refine va_putF (D := D) (ci := 3) (v := .ref r63) (ty := .array .int) (C := RX3) (T := TX3) (N := 9) hx hb hts hin3 tyX3 tyX3_ok nmX3 hown hK hP hD hS 0 rfl rfl 7 (by decide) (hts (.fieldLink RX3 34 "MeshRouting$Packets" "ends" "[I") (List.mem_cons_of_mem _ q_154)) (fun _ h9 => h9) rfl hin rfl (by decide +kernel) rfl rfl (Nat.le_of_ble_eq_true rfl) dX3_init_66 (fun H locs hP hD hS => ?_)
  replace hP : va_P D vwCl [(h0, .inr (3, [.int (nI 0), .ref q8, .ref q17, .ref q26, .ref q35, .ref q44, .ref q53, .ref r63, .null])), (q8, .inl (cI, 200, .inl (fun _ => 0))), (q17, .inl (cI, 200, .inl (fun _ => 0))), (q26, .inl (cI, 200, .inl (fun _ => 0))), (q35, .inl (cI, 200, .inl (fun _ => 0))), (q44, .inl (cI, 200, .inl (fun _ => 0))), (q53, .inl (cI, 200, .inl (fun _ => 0))), (r63, .inl (cI, 200, .inl (fun _ => -1)))] H := hP
  replace hD : va_D A [(h0, .inr (3, [.int (nI 0), .ref q8, .ref q17, .ref q26, .ref q35, .ref q44, .ref q53, .ref r63, .null])), (q8, .inl (cI, 200, .inl (fun _ => 0))), (q17, .inl (cI, 200, .inl (fun _ => 0))), (q26, .inl (cI, 200, .inl (fun _ => 0))), (q35, .inl (cI, 200, .inl (fun _ => 0))), (q44, .inl (cI, 200, .inl (fun _ => 0))), (q53, .inl (cI, 200, .inl (fun _ => 0))), (r63, .inl (cI, 200, .inl (fun _ => -1)))] := hD
  refine lv_aload_n hx hb dX3_init_69 rfl (lv_at hl 0 rfl) ?_
  refine lv_sipush (v := nI 200) hx hb dX3_init_70 (by decide) ?_
  refine va_newa (atype := .int) (ty := .int) (N' := 200) (a0 := (200, .inl (fun _ => 0))) hx hb (hts (.arrayClass .int) (List.mem_cons_of_mem _ q_60)) rfl hK hP hD hS hA (fun _ => rfl) (nI_pos (by omega)) (nI_clamp (by omega)) (show 200 * 4 ≤ 536870912 by omega) (Nat.le_of_ble_eq_true rfl) (show 1600 + 200 ≤ 1800 by omega) dX3_init_73 (fun q73 cA H hK9 hP hD hS => ?_)
  have e9 : cA = cI := k_cls hK9 (i := 4) (j := 0) rfl rfl
  rw [e9] at hP hD
  replace hP : va_P D vwCl [(h0, .inr (3, [.int (nI 0), .ref q8, .ref q17, .ref q26, .ref q35, .ref q44, .ref q53, .ref r63, .null])), (q8, .inl (cI, 200, .inl (fun _ => 0))), (q17, .inl (cI, 200, .inl (fun _ => 0))), (q26, .inl (cI, 200, .inl (fun _ => 0))), (q35, .inl (cI, 200, .inl (fun _ => 0))), (q44, .inl (cI, 200, .inl (fun _ => 0))), (q53, .inl (cI, 200, .inl (fun _ => 0))), (r63, .inl (cI, 200, .inl (fun _ => -1))), (q73, .inl (cI, 200, .inl (fun _ => 0)))] H := hP
  replace hD : va_D A [(h0, .inr (3, [.int (nI 0), .ref q8, .ref q17, .ref q26, .ref q35, .ref q44, .ref q53, .ref r63, .null])), (q8, .inl (cI, 200, .inl (fun _ => 0))), (q17, .inl (cI, 200, .inl (fun _ => 0))), (q26, .inl (cI, 200, .inl (fun _ => 0))), (q35, .inl (cI, 200, .inl (fun _ => 0))), (q44, .inl (cI, 200, .inl (fun _ => 0))), (q53, .inl (cI, 200, .inl (fun _ => 0))), (r63, .inl (cI, 200, .inl (fun _ => -1))), (q73, .inl (cI, 200, .inl (fun _ => 0)))] := hD
  refine W.widen (k := 8) (n := 1800) (Nat.le_refl _) (show _ + _ ≤ _ by omega) ?_
  refine va_putF (D := D) (ci := 3) (v := .ref q73) (ty := .array .int) (C := RX3) (T := TX3) (N := 9) hx hb hts hin3 tyX3 tyX3_ok nmX3 hown hK hP hD hS 0 rfl rfl 8 (by decide) (hts (.fieldLink RX3 37 "MeshRouting$Packets" "causes" "[I") (List.mem_cons_of_mem _ q_155)) (fun _ h9 => h9) rfl hin rfl (by decide +kernel) rfl rfl (Nat.le_of_ble_eq_true rfl) dX3_init_75 (fun H locs hP hD hS => ?_)
  replace hP : va_P D vwCl [(h0, .inr (3, [.int (nI 0), .ref q8, .ref q17, .ref q26, .ref q35, .ref q44, .ref q53, .ref r63, .ref q73])), (q8, .inl (cI, 200, .inl (fun _ => 0))), (q17, .inl (cI, 200, .inl (fun _ => 0))), (q26, .inl (cI, 200, .inl (fun _ => 0))), (q35, .inl (cI, 200, .inl (fun _ => 0))), (q44, .inl (cI, 200, .inl (fun _ => 0))), (q53, .inl (cI, 200, .inl (fun _ => 0))), (r63, .inl (cI, 200, .inl (fun _ => -1))), (q73, .inl (cI, 200, .inl (fun _ => 0)))] H := hP
  replace hD : va_D A [(h0, .inr (3, [.int (nI 0), .ref q8, .ref q17, .ref q26, .ref q35, .ref q44, .ref q53, .ref r63, .ref q73])), (q8, .inl (cI, 200, .inl (fun _ => 0))), (q17, .inl (cI, 200, .inl (fun _ => 0))), (q26, .inl (cI, 200, .inl (fun _ => 0))), (q35, .inl (cI, 200, .inl (fun _ => 0))), (q44, .inl (cI, 200, .inl (fun _ => 0))), (q53, .inl (cI, 200, .inl (fun _ => 0))), (r63, .inl (cI, 200, .inl (fun _ => -1))), (q73, .inl (cI, 200, .inl (fun _ => 0)))] := hD
  have hP9 := hP.sub (ws' := [(h0, .inr (3, [.int (nI 0), .ref q8, .ref q17, .ref q26, .ref q35, .ref q44, .ref q53, .ref r63, .ref q73])), (q8, .inl (cI, 200, .inl (fun _ => 0))), (q17, .inl (cI, 200, .inl (fun _ => 0))), (q26, .inl (cI, 200, .inl (fun _ => 0))), (q35, .inl (cI, 200, .inl (fun _ => 0))), (q44, .inl (cI, 200, .inl (fun _ => 0))), (q53, .inl (cI, 200, .inl (fun _ => 0))), (r63, .inl (cI, 200, .inl (fun _ => -1))), (q73, .inl (cI, 200, .inl (fun _ => 0)))]) [0, 1, 2, 3, 4, 5, 6, 7, 8] rfl
  have hD9 := hD.sub (ws' := [(h0, .inr (3, [.int (nI 0), .ref q8, .ref q17, .ref q26, .ref q35, .ref q44, .ref q53, .ref r63, .ref q73])), (q8, .inl (cI, 200, .inl (fun _ => 0))), (q17, .inl (cI, 200, .inl (fun _ => 0))), (q26, .inl (cI, 200, .inl (fun _ => 0))), (q35, .inl (cI, 200, .inl (fun _ => 0))), (q44, .inl (cI, 200, .inl (fun _ => 0))), (q53, .inl (cI, 200, .inl (fun _ => 0))), (r63, .inl (cI, 200, .inl (fun _ => -1))), (q73, .inl (cI, 200, .inl (fun _ => 0)))]) [0, 1, 2, 3, 4, 5, 6, 7, 8] rfl rfl
  exact W.vret hx hb hr (fun t9 ht9 hW9 => ⟨⟨(fun k => match k with | 23 => h0 | 24 => q8 | 25 => q17 | 26 => q26 | 27 => q35 | 28 => q44 | 29 => q53 | 30 => r63 | 31 => q73 | _ => 0), rfl, rfl, by rw [ht9]; exact hP9, hD9⟩, hS.F ht9⟩) hS.2.2 dX3_init_78

set_option maxHeartbeats 4000000 in
set_option maxRecDepth 100000 in
theorem c_X0_init (l : Launch) (D : va_G) (cI cJ cM cG : ClassId) (h0 : Nat) (N : Nat) (sz : Nat)  : Met l yX0_init (Cond.code yX0_init cX0_init 2 none :: kBig) ({ frames := 1, cells := 15, slots := 140, locals := 12 }) (va_Pc [.ref h0, .int (nI N)] (kP D [(cI, .int), (cJ, .long), (cM, .object "MeshRouting$Message"), (cG, .array .int)] [(h0, .inr (0, [.int (nI 0), .null, .null, .null, .null, .null, .null]))] sz)) (va_Qv (fun u : Nat → Nat => u 3 = h0) (fun u t9 => kB D (va_A [(h0, .inr (0, [.int (nI 0), .null, .null, .null, .null, .null, .null]))] sz) [(u 3, .inr (0, [.int (nI N), .ref (u 4), .ref (u 5), .ref (u 6), .ref (u 7), .ref (u 8), .null])), (u 4, .inl (cG, 10, .inr (.inr (.inr (.inr (kRows u)))))), (u 5, .inl (cI, 4, .inl (fun _ => 0))), (u 6, .inl (cI, 4, .inl (fun _ => 0))), (u 7, .inl (cM, 10, .inr (.inr (.inr (.inr (fun _ => none)))))), (u 8, .inl (cM, 10, .inr (.inr (.inr (.inr (fun _ => none)))))), (u 34, .inl (cI, 10, .inl (fun _ => 0))), (u 35, .inl (cI, 10, .inl (fun _ => 0))), (u 36, .inl (cI, 10, .inl (fun _ => 0))), (u 37, .inl (cI, 10, .inl (fun _ => 0))), (u 38, .inl (cI, 10, .inl (fun _ => 0))), (u 39, .inl (cI, 10, .inl (fun _ => 0))), (u 40, .inl (cI, 10, .inl (fun _ => 0))), (u 41, .inl (cI, 10, .inl (fun _ => 0))), (u 42, .inl (cI, 10, .inl (fun _ => 0))), (u 43, .inl (cI, 10, .inl (fun _ => 0)))] t9) (va_A [(h0, .inr (0, [.int (nI 0), .null, .null, .null, .null, .null, .null]))] sz)) 15 140 (va_A [(h0, .inr (0, [.int (nI 0), .null, .null, .null, .null, .null, .null]))] sz) := by
  refine Met.ofW (cc := cX0_init) (maxL := 2) (ret := none) (by decide) rfl ?_
  intro p e s m args below meth c s₁ B hml hv
  obtain ⟨rfl, hsz, hP, hK, hD0, hKN⟩ := hv
  have hx := B.exec
  have hb := B.bytes
  have hr := B.returns
  have hts := atoms_spec (ws := (Cond.code yX0_init cX0_init 2 none :: kBig)) B.pre
  have hown : s.vm.findClass RX0 = some m.cls := findClass_of_methodNamed B.named
  have hlocks := B.notSynchronized
  have hin : meth.name = "<init>" := (name_of_methodNamed B.named B.method).1
  have hin0 : ∀ w ∈ u_ws RX0 TX0 7, w ∈ (Cond.code yX0_init cX0_init 2 none :: kBig) := fun w h => List.mem_cons_of_mem _ (inb0 w h)
  subst hsz
  have hD := hD0.self (sz := s.heap.size)
  generalize hAe : va_A [(h0, .inr (0, [.int (nI 0), .null, .null, .null, .null, .null, .null]))] s.heap.size = A at hD ⊢
  have hA : ∀ q : Nat, s.heap.size ≤ q → A q := fun q h => by rw [← hAe]; exact Or.inr h
  have hS : va_S A s.heap s.heap [] := va_S.rf
  have hl := lv_entry ([.ref h0, .int (nI N)]) (n := 2) (Nat.le_of_ble_eq_true rfl)
  rw [lg_entry_eq]
  generalize (lg_sl ([.ref h0, .int (nI N)]) ++ List.replicate (2 - (lg_sl ([.ref h0, .int (nI N)])).length) Slot.unset).toArray = ls at hl ⊢
  have hl : lv_has ls 2 [(0, .ref h0), (1, .int (nI N))] := hl
  refine lv_aload_n hx hb dX0_init_0 rfl (lv_at hl 0 rfl) ?_
  refine W.objInit hx hb hown (hts (.methodLink RX0 3 objectInit) (List.mem_cons_of_mem _ q_600)) (hts (.instanceMethod objectInit) (List.mem_cons_of_mem _ q_101)) (hts (.code objectInit ⟨#[0xb1]⟩ 1 none) (List.mem_cons_of_mem _ q_102)) rfl (by rw [hml]; exact hl.1) rfl dX0_init_1 (Nat.le_of_ble_eq_true rfl) (Nat.le_of_ble_eq_true rfl) ?_
  refine W.eq (g2 := F0 m 4 ls []) rfl ?_
  refine lv_aload_n hx hb dX0_init_4 rfl (lv_at hl 0 rfl) ?_
  refine lv_bipush (v := nI 10) hx hb dX0_init_5 (by decide) ?_
  refine lv_bipush (v := nI 10) hx hb dX0_init_7 (by decide) ?_
  refine va_mna (X := [(h0, .inr (0, [.int (nI 0), .null, .null, .null, .null, .null, .null]))]) (L := []) (f := fun _ => .inr (0, [])) (ty := .int) (cy := cI) (N' := 10) (K' := 10) (z := (10, .inl (fun _ => 0))) hx hb hown (by exact hts (.classLink RX0 9 "[[I") (List.mem_cons_of_mem _ q_601)) hKN.2.2.2.2.2.2.2.2.2.2.2.2.2.2.2.2.1 (hts (.arrayClass .int) (List.mem_cons_of_mem _ q_60)) (hK.2 0 _ rfl).2 hK hP hD hS hA (nI_pos (by omega)) (nI_pos (by omega)) (nI_clamp (by omega)) (nI_clamp (by omega)) (by decide) (by decide) (by decide) rfl rfl (Nat.le_of_ble_eq_true rfl) (Nat.le_of_ble_eq_true rfl) (fun c => arrV_new c _ _) dX0_init_9 (fun q9 rr cA H hr9 hrL hK9 hP hD hS => ?_)
  have e9 : cA = cG := k_cls hK9 (i := 4) (j := 3) rfl rfl
  rw [e9, k_mna] at hP hD
  replace hP : va_P D vwCl [(h0, .inr (0, [.int (nI 0), .null, .null, .null, .null, .null, .null])), (q9, .inl (cG, 10, .inr (.inr (.inr (.inr (fun i => if i < 10 then some (rr i) else none)))))), (rr 0, .inl (cI, 10, .inl (fun _ => 0))), (rr 1, .inl (cI, 10, .inl (fun _ => 0))), (rr 2, .inl (cI, 10, .inl (fun _ => 0))), (rr 3, .inl (cI, 10, .inl (fun _ => 0))), (rr 4, .inl (cI, 10, .inl (fun _ => 0))), (rr 5, .inl (cI, 10, .inl (fun _ => 0))), (rr 6, .inl (cI, 10, .inl (fun _ => 0))), (rr 7, .inl (cI, 10, .inl (fun _ => 0))), (rr 8, .inl (cI, 10, .inl (fun _ => 0))), (rr 9, .inl (cI, 10, .inl (fun _ => 0)))] H := hP
  replace hD : va_D A [(h0, .inr (0, [.int (nI 0), .null, .null, .null, .null, .null, .null])), (q9, .inl (cG, 10, .inr (.inr (.inr (.inr (fun i => if i < 10 then some (rr i) else none)))))), (rr 0, .inl (cI, 10, .inl (fun _ => 0))), (rr 1, .inl (cI, 10, .inl (fun _ => 0))), (rr 2, .inl (cI, 10, .inl (fun _ => 0))), (rr 3, .inl (cI, 10, .inl (fun _ => 0))), (rr 4, .inl (cI, 10, .inl (fun _ => 0))), (rr 5, .inl (cI, 10, .inl (fun _ => 0))), (rr 6, .inl (cI, 10, .inl (fun _ => 0))), (rr 7, .inl (cI, 10, .inl (fun _ => 0))), (rr 8, .inl (cI, 10, .inl (fun _ => 0))), (rr 9, .inl (cI, 10, .inl (fun _ => 0)))] := hD
  refine va_putF (D := D) (ci := 0) (v := .ref q9) (ty := .array (.array .int)) (C := RX0) (T := TX0) (N := 7) hx hb hts hin0 tyX0 tyX0_ok nmX0 hown hK hP hD hS 0 rfl rfl 1 (by decide) (hts (.fieldLink RX0 11 "MeshRouting$Links" "delays" "[[I") (List.mem_cons_of_mem _ q_77)) (fun _ h9 => h9) rfl hin rfl (by decide +kernel) rfl rfl (Nat.le_of_ble_eq_true rfl) dX0_init_13 (fun H locs hP hD hS => ?_)
  replace hP : va_P D vwCl [(h0, .inr (0, [.int (nI 0), .ref q9, .null, .null, .null, .null, .null])), (q9, .inl (cG, 10, .inr (.inr (.inr (.inr (fun i => if i < 10 then some (rr i) else none)))))), (rr 0, .inl (cI, 10, .inl (fun _ => 0))), (rr 1, .inl (cI, 10, .inl (fun _ => 0))), (rr 2, .inl (cI, 10, .inl (fun _ => 0))), (rr 3, .inl (cI, 10, .inl (fun _ => 0))), (rr 4, .inl (cI, 10, .inl (fun _ => 0))), (rr 5, .inl (cI, 10, .inl (fun _ => 0))), (rr 6, .inl (cI, 10, .inl (fun _ => 0))), (rr 7, .inl (cI, 10, .inl (fun _ => 0))), (rr 8, .inl (cI, 10, .inl (fun _ => 0))), (rr 9, .inl (cI, 10, .inl (fun _ => 0)))] H := hP
  replace hD : va_D A [(h0, .inr (0, [.int (nI 0), .ref q9, .null, .null, .null, .null, .null])), (q9, .inl (cG, 10, .inr (.inr (.inr (.inr (fun i => if i < 10 then some (rr i) else none)))))), (rr 0, .inl (cI, 10, .inl (fun _ => 0))), (rr 1, .inl (cI, 10, .inl (fun _ => 0))), (rr 2, .inl (cI, 10, .inl (fun _ => 0))), (rr 3, .inl (cI, 10, .inl (fun _ => 0))), (rr 4, .inl (cI, 10, .inl (fun _ => 0))), (rr 5, .inl (cI, 10, .inl (fun _ => 0))), (rr 6, .inl (cI, 10, .inl (fun _ => 0))), (rr 7, .inl (cI, 10, .inl (fun _ => 0))), (rr 8, .inl (cI, 10, .inl (fun _ => 0))), (rr 9, .inl (cI, 10, .inl (fun _ => 0)))] := hD
  refine lv_aload_n hx hb dX0_init_16 rfl (lv_at hl 0 rfl) ?_
  refine lv_iconst (v := nI 4) hx hb dX0_init_17 (by decide) ?_
  refine va_newa (atype := .int) (ty := .int) (N' := 4) (a0 := (4, .inl (fun _ => 0))) hx hb (hts (.arrayClass .int) (List.mem_cons_of_mem _ q_60)) rfl hK hP hD hS hA (fun _ => rfl) (nI_pos (by omega)) (nI_clamp (by omega)) (show 4 * 4 ≤ 536870912 by omega) (Nat.le_of_ble_eq_true rfl) (show 110 + 4 ≤ 140 by omega) dX0_init_18 (fun q18 cA H hK9 hP hD hS => ?_)
  have e9 : cA = cI := k_cls hK9 (i := 4) (j := 0) rfl rfl
  rw [e9] at hP hD
  replace hP : va_P D vwCl [(h0, .inr (0, [.int (nI 0), .ref q9, .null, .null, .null, .null, .null])), (q9, .inl (cG, 10, .inr (.inr (.inr (.inr (fun i => if i < 10 then some (rr i) else none)))))), (rr 0, .inl (cI, 10, .inl (fun _ => 0))), (rr 1, .inl (cI, 10, .inl (fun _ => 0))), (rr 2, .inl (cI, 10, .inl (fun _ => 0))), (rr 3, .inl (cI, 10, .inl (fun _ => 0))), (rr 4, .inl (cI, 10, .inl (fun _ => 0))), (rr 5, .inl (cI, 10, .inl (fun _ => 0))), (rr 6, .inl (cI, 10, .inl (fun _ => 0))), (rr 7, .inl (cI, 10, .inl (fun _ => 0))), (rr 8, .inl (cI, 10, .inl (fun _ => 0))), (rr 9, .inl (cI, 10, .inl (fun _ => 0))), (q18, .inl (cI, 4, .inl (fun _ => 0)))] H := hP
  replace hD : va_D A [(h0, .inr (0, [.int (nI 0), .ref q9, .null, .null, .null, .null, .null])), (q9, .inl (cG, 10, .inr (.inr (.inr (.inr (fun i => if i < 10 then some (rr i) else none)))))), (rr 0, .inl (cI, 10, .inl (fun _ => 0))), (rr 1, .inl (cI, 10, .inl (fun _ => 0))), (rr 2, .inl (cI, 10, .inl (fun _ => 0))), (rr 3, .inl (cI, 10, .inl (fun _ => 0))), (rr 4, .inl (cI, 10, .inl (fun _ => 0))), (rr 5, .inl (cI, 10, .inl (fun _ => 0))), (rr 6, .inl (cI, 10, .inl (fun _ => 0))), (rr 7, .inl (cI, 10, .inl (fun _ => 0))), (rr 8, .inl (cI, 10, .inl (fun _ => 0))), (rr 9, .inl (cI, 10, .inl (fun _ => 0))), (q18, .inl (cI, 4, .inl (fun _ => 0)))] := hD
  refine W.widen (k := 12) (n := 114) (Nat.le_refl _) (show _ + _ ≤ _ by omega) ?_
  refine va_putF (D := D) (ci := 0) (v := .ref q18) (ty := .array .int) (C := RX0) (T := TX0) (N := 7) hx hb hts hin0 tyX0 tyX0_ok nmX0 hown hK hP hD hS 0 rfl rfl 2 (by decide) (hts (.fieldLink RX0 16 "MeshRouting$Links" "onTheWay" "[I") (List.mem_cons_of_mem _ q_83)) (fun _ h9 => h9) rfl hin rfl (by decide +kernel) rfl rfl (Nat.le_of_ble_eq_true rfl) dX0_init_20 (fun H locs hP hD hS => ?_)
  replace hP : va_P D vwCl [(h0, .inr (0, [.int (nI 0), .ref q9, .ref q18, .null, .null, .null, .null])), (q9, .inl (cG, 10, .inr (.inr (.inr (.inr (fun i => if i < 10 then some (rr i) else none)))))), (rr 0, .inl (cI, 10, .inl (fun _ => 0))), (rr 1, .inl (cI, 10, .inl (fun _ => 0))), (rr 2, .inl (cI, 10, .inl (fun _ => 0))), (rr 3, .inl (cI, 10, .inl (fun _ => 0))), (rr 4, .inl (cI, 10, .inl (fun _ => 0))), (rr 5, .inl (cI, 10, .inl (fun _ => 0))), (rr 6, .inl (cI, 10, .inl (fun _ => 0))), (rr 7, .inl (cI, 10, .inl (fun _ => 0))), (rr 8, .inl (cI, 10, .inl (fun _ => 0))), (rr 9, .inl (cI, 10, .inl (fun _ => 0))), (q18, .inl (cI, 4, .inl (fun _ => 0)))] H := hP
  replace hD : va_D A [(h0, .inr (0, [.int (nI 0), .ref q9, .ref q18, .null, .null, .null, .null])), (q9, .inl (cG, 10, .inr (.inr (.inr (.inr (fun i => if i < 10 then some (rr i) else none)))))), (rr 0, .inl (cI, 10, .inl (fun _ => 0))), (rr 1, .inl (cI, 10, .inl (fun _ => 0))), (rr 2, .inl (cI, 10, .inl (fun _ => 0))), (rr 3, .inl (cI, 10, .inl (fun _ => 0))), (rr 4, .inl (cI, 10, .inl (fun _ => 0))), (rr 5, .inl (cI, 10, .inl (fun _ => 0))), (rr 6, .inl (cI, 10, .inl (fun _ => 0))), (rr 7, .inl (cI, 10, .inl (fun _ => 0))), (rr 8, .inl (cI, 10, .inl (fun _ => 0))), (rr 9, .inl (cI, 10, .inl (fun _ => 0))), (q18, .inl (cI, 4, .inl (fun _ => 0)))] := hD
  refine lv_aload_n hx hb dX0_init_23 rfl (lv_at hl 0 rfl) ?_
  refine lv_iconst (v := nI 4) hx hb dX0_init_24 (by decide) ?_
  refine va_newa (atype := .int) (ty := .int) (N' := 4) (a0 := (4, .inl (fun _ => 0))) hx hb (hts (.arrayClass .int) (List.mem_cons_of_mem _ q_60)) rfl hK hP hD hS hA (fun _ => rfl) (nI_pos (by omega)) (nI_clamp (by omega)) (show 4 * 4 ≤ 536870912 by omega) (Nat.le_of_ble_eq_true rfl) (show 114 + 4 ≤ 140 by omega) dX0_init_25 (fun q25 cA H hK9 hP hD hS => ?_)
  have e9 : cA = cI := k_cls hK9 (i := 4) (j := 0) rfl rfl
  rw [e9] at hP hD
  replace hP : va_P D vwCl [(h0, .inr (0, [.int (nI 0), .ref q9, .ref q18, .null, .null, .null, .null])), (q9, .inl (cG, 10, .inr (.inr (.inr (.inr (fun i => if i < 10 then some (rr i) else none)))))), (rr 0, .inl (cI, 10, .inl (fun _ => 0))), (rr 1, .inl (cI, 10, .inl (fun _ => 0))), (rr 2, .inl (cI, 10, .inl (fun _ => 0))), (rr 3, .inl (cI, 10, .inl (fun _ => 0))), (rr 4, .inl (cI, 10, .inl (fun _ => 0))), (rr 5, .inl (cI, 10, .inl (fun _ => 0))), (rr 6, .inl (cI, 10, .inl (fun _ => 0))), (rr 7, .inl (cI, 10, .inl (fun _ => 0))), (rr 8, .inl (cI, 10, .inl (fun _ => 0))), (rr 9, .inl (cI, 10, .inl (fun _ => 0))), (q18, .inl (cI, 4, .inl (fun _ => 0))), (q25, .inl (cI, 4, .inl (fun _ => 0)))] H := hP
  replace hD : va_D A [(h0, .inr (0, [.int (nI 0), .ref q9, .ref q18, .null, .null, .null, .null])), (q9, .inl (cG, 10, .inr (.inr (.inr (.inr (fun i => if i < 10 then some (rr i) else none)))))), (rr 0, .inl (cI, 10, .inl (fun _ => 0))), (rr 1, .inl (cI, 10, .inl (fun _ => 0))), (rr 2, .inl (cI, 10, .inl (fun _ => 0))), (rr 3, .inl (cI, 10, .inl (fun _ => 0))), (rr 4, .inl (cI, 10, .inl (fun _ => 0))), (rr 5, .inl (cI, 10, .inl (fun _ => 0))), (rr 6, .inl (cI, 10, .inl (fun _ => 0))), (rr 7, .inl (cI, 10, .inl (fun _ => 0))), (rr 8, .inl (cI, 10, .inl (fun _ => 0))), (rr 9, .inl (cI, 10, .inl (fun _ => 0))), (q18, .inl (cI, 4, .inl (fun _ => 0))), (q25, .inl (cI, 4, .inl (fun _ => 0)))] := hD
  refine W.widen (k := 13) (n := 118) (Nat.le_refl _) (show _ + _ ≤ _ by omega) ?_
  refine va_putF (D := D) (ci := 0) (v := .ref q25) (ty := .array .int) (C := RX0) (T := TX0) (N := 7) hx hb hts hin0 tyX0 tyX0_ok nmX0 hown hK hP hD hS 0 rfl rfl 3 (by decide) (hts (.fieldLink RX0 20 "MeshRouting$Links" "everSent" "[I") (List.mem_cons_of_mem _ q_84)) (fun _ h9 => h9) rfl hin rfl (by decide +kernel) rfl rfl (Nat.le_of_ble_eq_true rfl) dX0_init_27 (fun H locs hP hD hS => ?_)
  replace hP : va_P D vwCl [(h0, .inr (0, [.int (nI 0), .ref q9, .ref q18, .ref q25, .null, .null, .null])), (q9, .inl (cG, 10, .inr (.inr (.inr (.inr (fun i => if i < 10 then some (rr i) else none)))))), (rr 0, .inl (cI, 10, .inl (fun _ => 0))), (rr 1, .inl (cI, 10, .inl (fun _ => 0))), (rr 2, .inl (cI, 10, .inl (fun _ => 0))), (rr 3, .inl (cI, 10, .inl (fun _ => 0))), (rr 4, .inl (cI, 10, .inl (fun _ => 0))), (rr 5, .inl (cI, 10, .inl (fun _ => 0))), (rr 6, .inl (cI, 10, .inl (fun _ => 0))), (rr 7, .inl (cI, 10, .inl (fun _ => 0))), (rr 8, .inl (cI, 10, .inl (fun _ => 0))), (rr 9, .inl (cI, 10, .inl (fun _ => 0))), (q18, .inl (cI, 4, .inl (fun _ => 0))), (q25, .inl (cI, 4, .inl (fun _ => 0)))] H := hP
  replace hD : va_D A [(h0, .inr (0, [.int (nI 0), .ref q9, .ref q18, .ref q25, .null, .null, .null])), (q9, .inl (cG, 10, .inr (.inr (.inr (.inr (fun i => if i < 10 then some (rr i) else none)))))), (rr 0, .inl (cI, 10, .inl (fun _ => 0))), (rr 1, .inl (cI, 10, .inl (fun _ => 0))), (rr 2, .inl (cI, 10, .inl (fun _ => 0))), (rr 3, .inl (cI, 10, .inl (fun _ => 0))), (rr 4, .inl (cI, 10, .inl (fun _ => 0))), (rr 5, .inl (cI, 10, .inl (fun _ => 0))), (rr 6, .inl (cI, 10, .inl (fun _ => 0))), (rr 7, .inl (cI, 10, .inl (fun _ => 0))), (rr 8, .inl (cI, 10, .inl (fun _ => 0))), (rr 9, .inl (cI, 10, .inl (fun _ => 0))), (q18, .inl (cI, 4, .inl (fun _ => 0))), (q25, .inl (cI, 4, .inl (fun _ => 0)))] := hD
  refine lv_aload_n hx hb dX0_init_30 rfl (lv_at hl 0 rfl) ?_
  refine lv_bipush (v := nI 10) hx hb dX0_init_31 (by decide) ?_
  refine va_newq (C := "MeshRouting$Message") (N' := 10) hx hb hown (hts (.classLink RX0 23 RX1) (List.mem_cons_of_mem _ q_95)) hKN.2.2.2.2.2.2.2.2.2.2.2.2.2.2.2.1 hK hP hD hS hA (nI_pos (by omega)) (nI_clamp (by omega)) (show 10 * 4 ≤ 536870912 by omega) (Nat.le_of_ble_eq_true rfl) (show 118 + 10 ≤ 140 by omega) dX0_init_33 (fun q33 cA H hK9 hP hD hS => ?_)
  have e9 : cA = cM := k_cls hK9 (i := 4) (j := 2) rfl rfl
  rw [e9] at hP hD
  replace hP : va_P D vwCl [(h0, .inr (0, [.int (nI 0), .ref q9, .ref q18, .ref q25, .null, .null, .null])), (q9, .inl (cG, 10, .inr (.inr (.inr (.inr (fun i => if i < 10 then some (rr i) else none)))))), (rr 0, .inl (cI, 10, .inl (fun _ => 0))), (rr 1, .inl (cI, 10, .inl (fun _ => 0))), (rr 2, .inl (cI, 10, .inl (fun _ => 0))), (rr 3, .inl (cI, 10, .inl (fun _ => 0))), (rr 4, .inl (cI, 10, .inl (fun _ => 0))), (rr 5, .inl (cI, 10, .inl (fun _ => 0))), (rr 6, .inl (cI, 10, .inl (fun _ => 0))), (rr 7, .inl (cI, 10, .inl (fun _ => 0))), (rr 8, .inl (cI, 10, .inl (fun _ => 0))), (rr 9, .inl (cI, 10, .inl (fun _ => 0))), (q18, .inl (cI, 4, .inl (fun _ => 0))), (q25, .inl (cI, 4, .inl (fun _ => 0))), (q33, .inl (cM, 10, .inr (.inr (.inr (.inr (fun _ => none))))))] H := hP
  replace hD : va_D A [(h0, .inr (0, [.int (nI 0), .ref q9, .ref q18, .ref q25, .null, .null, .null])), (q9, .inl (cG, 10, .inr (.inr (.inr (.inr (fun i => if i < 10 then some (rr i) else none)))))), (rr 0, .inl (cI, 10, .inl (fun _ => 0))), (rr 1, .inl (cI, 10, .inl (fun _ => 0))), (rr 2, .inl (cI, 10, .inl (fun _ => 0))), (rr 3, .inl (cI, 10, .inl (fun _ => 0))), (rr 4, .inl (cI, 10, .inl (fun _ => 0))), (rr 5, .inl (cI, 10, .inl (fun _ => 0))), (rr 6, .inl (cI, 10, .inl (fun _ => 0))), (rr 7, .inl (cI, 10, .inl (fun _ => 0))), (rr 8, .inl (cI, 10, .inl (fun _ => 0))), (rr 9, .inl (cI, 10, .inl (fun _ => 0))), (q18, .inl (cI, 4, .inl (fun _ => 0))), (q25, .inl (cI, 4, .inl (fun _ => 0))), (q33, .inl (cM, 10, .inr (.inr (.inr (.inr (fun _ => none))))))] := hD
  refine va_putF (D := D) (ci := 0) (v := .ref q33) (ty := .array (.object "MeshRouting$Message")) (C := RX0) (T := TX0) (N := 7) hx hb hts hin0 tyX0 tyX0_ok nmX0 hown hK hP hD hS 0 rfl rfl 4 (by decide) (hts (.fieldLink RX0 25 "MeshRouting$Links" "first" "[LMeshRouting$Message;") (List.mem_cons_of_mem _ q_78)) (fun _ h9 => h9) rfl hin rfl (by decide +kernel) rfl rfl (Nat.le_of_ble_eq_true rfl) dX0_init_36 (fun H locs hP hD hS => ?_)
  replace hP : va_P D vwCl [(h0, .inr (0, [.int (nI 0), .ref q9, .ref q18, .ref q25, .ref q33, .null, .null])), (q9, .inl (cG, 10, .inr (.inr (.inr (.inr (fun i => if i < 10 then some (rr i) else none)))))), (rr 0, .inl (cI, 10, .inl (fun _ => 0))), (rr 1, .inl (cI, 10, .inl (fun _ => 0))), (rr 2, .inl (cI, 10, .inl (fun _ => 0))), (rr 3, .inl (cI, 10, .inl (fun _ => 0))), (rr 4, .inl (cI, 10, .inl (fun _ => 0))), (rr 5, .inl (cI, 10, .inl (fun _ => 0))), (rr 6, .inl (cI, 10, .inl (fun _ => 0))), (rr 7, .inl (cI, 10, .inl (fun _ => 0))), (rr 8, .inl (cI, 10, .inl (fun _ => 0))), (rr 9, .inl (cI, 10, .inl (fun _ => 0))), (q18, .inl (cI, 4, .inl (fun _ => 0))), (q25, .inl (cI, 4, .inl (fun _ => 0))), (q33, .inl (cM, 10, .inr (.inr (.inr (.inr (fun _ => none))))))] H := hP
  replace hD : va_D A [(h0, .inr (0, [.int (nI 0), .ref q9, .ref q18, .ref q25, .ref q33, .null, .null])), (q9, .inl (cG, 10, .inr (.inr (.inr (.inr (fun i => if i < 10 then some (rr i) else none)))))), (rr 0, .inl (cI, 10, .inl (fun _ => 0))), (rr 1, .inl (cI, 10, .inl (fun _ => 0))), (rr 2, .inl (cI, 10, .inl (fun _ => 0))), (rr 3, .inl (cI, 10, .inl (fun _ => 0))), (rr 4, .inl (cI, 10, .inl (fun _ => 0))), (rr 5, .inl (cI, 10, .inl (fun _ => 0))), (rr 6, .inl (cI, 10, .inl (fun _ => 0))), (rr 7, .inl (cI, 10, .inl (fun _ => 0))), (rr 8, .inl (cI, 10, .inl (fun _ => 0))), (rr 9, .inl (cI, 10, .inl (fun _ => 0))), (q18, .inl (cI, 4, .inl (fun _ => 0))), (q25, .inl (cI, 4, .inl (fun _ => 0))), (q33, .inl (cM, 10, .inr (.inr (.inr (.inr (fun _ => none))))))] := hD
  refine lv_aload_n hx hb dX0_init_39 rfl (lv_at hl 0 rfl) ?_
  refine lv_bipush (v := nI 10) hx hb dX0_init_40 (by decide) ?_
  refine va_newq (C := "MeshRouting$Message") (N' := 10) hx hb hown (hts (.classLink RX0 23 RX1) (List.mem_cons_of_mem _ q_95)) hKN.2.2.2.2.2.2.2.2.2.2.2.2.2.2.2.1 hK hP hD hS hA (nI_pos (by omega)) (nI_clamp (by omega)) (show 10 * 4 ≤ 536870912 by omega) (Nat.le_of_ble_eq_true rfl) (show 128 + 10 ≤ 140 by omega) dX0_init_42 (fun q42 cA H hK9 hP hD hS => ?_)
  have e9 : cA = cM := k_cls hK9 (i := 4) (j := 2) rfl rfl
  rw [e9] at hP hD
  replace hP : va_P D vwCl [(h0, .inr (0, [.int (nI 0), .ref q9, .ref q18, .ref q25, .ref q33, .null, .null])), (q9, .inl (cG, 10, .inr (.inr (.inr (.inr (fun i => if i < 10 then some (rr i) else none)))))), (rr 0, .inl (cI, 10, .inl (fun _ => 0))), (rr 1, .inl (cI, 10, .inl (fun _ => 0))), (rr 2, .inl (cI, 10, .inl (fun _ => 0))), (rr 3, .inl (cI, 10, .inl (fun _ => 0))), (rr 4, .inl (cI, 10, .inl (fun _ => 0))), (rr 5, .inl (cI, 10, .inl (fun _ => 0))), (rr 6, .inl (cI, 10, .inl (fun _ => 0))), (rr 7, .inl (cI, 10, .inl (fun _ => 0))), (rr 8, .inl (cI, 10, .inl (fun _ => 0))), (rr 9, .inl (cI, 10, .inl (fun _ => 0))), (q18, .inl (cI, 4, .inl (fun _ => 0))), (q25, .inl (cI, 4, .inl (fun _ => 0))), (q33, .inl (cM, 10, .inr (.inr (.inr (.inr (fun _ => none)))))), (q42, .inl (cM, 10, .inr (.inr (.inr (.inr (fun _ => none))))))] H := hP
  replace hD : va_D A [(h0, .inr (0, [.int (nI 0), .ref q9, .ref q18, .ref q25, .ref q33, .null, .null])), (q9, .inl (cG, 10, .inr (.inr (.inr (.inr (fun i => if i < 10 then some (rr i) else none)))))), (rr 0, .inl (cI, 10, .inl (fun _ => 0))), (rr 1, .inl (cI, 10, .inl (fun _ => 0))), (rr 2, .inl (cI, 10, .inl (fun _ => 0))), (rr 3, .inl (cI, 10, .inl (fun _ => 0))), (rr 4, .inl (cI, 10, .inl (fun _ => 0))), (rr 5, .inl (cI, 10, .inl (fun _ => 0))), (rr 6, .inl (cI, 10, .inl (fun _ => 0))), (rr 7, .inl (cI, 10, .inl (fun _ => 0))), (rr 8, .inl (cI, 10, .inl (fun _ => 0))), (rr 9, .inl (cI, 10, .inl (fun _ => 0))), (q18, .inl (cI, 4, .inl (fun _ => 0))), (q25, .inl (cI, 4, .inl (fun _ => 0))), (q33, .inl (cM, 10, .inr (.inr (.inr (.inr (fun _ => none)))))), (q42, .inl (cM, 10, .inr (.inr (.inr (.inr (fun _ => none))))))] := hD
  refine va_putF (D := D) (ci := 0) (v := .ref q42) (ty := .array (.object "MeshRouting$Message")) (C := RX0) (T := TX0) (N := 7) hx hb hts hin0 tyX0 tyX0_ok nmX0 hown hK hP hD hS 0 rfl rfl 5 (by decide) (hts (.fieldLink RX0 29 "MeshRouting$Links" "last" "[LMeshRouting$Message;") (List.mem_cons_of_mem _ q_89)) (fun _ h9 => h9) rfl hin rfl (by decide +kernel) rfl rfl (Nat.le_of_ble_eq_true rfl) dX0_init_45 (fun H locs hP hD hS => ?_)
  replace hP : va_P D vwCl [(h0, .inr (0, [.int (nI 0), .ref q9, .ref q18, .ref q25, .ref q33, .ref q42, .null])), (q9, .inl (cG, 10, .inr (.inr (.inr (.inr (fun i => if i < 10 then some (rr i) else none)))))), (rr 0, .inl (cI, 10, .inl (fun _ => 0))), (rr 1, .inl (cI, 10, .inl (fun _ => 0))), (rr 2, .inl (cI, 10, .inl (fun _ => 0))), (rr 3, .inl (cI, 10, .inl (fun _ => 0))), (rr 4, .inl (cI, 10, .inl (fun _ => 0))), (rr 5, .inl (cI, 10, .inl (fun _ => 0))), (rr 6, .inl (cI, 10, .inl (fun _ => 0))), (rr 7, .inl (cI, 10, .inl (fun _ => 0))), (rr 8, .inl (cI, 10, .inl (fun _ => 0))), (rr 9, .inl (cI, 10, .inl (fun _ => 0))), (q18, .inl (cI, 4, .inl (fun _ => 0))), (q25, .inl (cI, 4, .inl (fun _ => 0))), (q33, .inl (cM, 10, .inr (.inr (.inr (.inr (fun _ => none)))))), (q42, .inl (cM, 10, .inr (.inr (.inr (.inr (fun _ => none))))))] H := hP
  replace hD : va_D A [(h0, .inr (0, [.int (nI 0), .ref q9, .ref q18, .ref q25, .ref q33, .ref q42, .null])), (q9, .inl (cG, 10, .inr (.inr (.inr (.inr (fun i => if i < 10 then some (rr i) else none)))))), (rr 0, .inl (cI, 10, .inl (fun _ => 0))), (rr 1, .inl (cI, 10, .inl (fun _ => 0))), (rr 2, .inl (cI, 10, .inl (fun _ => 0))), (rr 3, .inl (cI, 10, .inl (fun _ => 0))), (rr 4, .inl (cI, 10, .inl (fun _ => 0))), (rr 5, .inl (cI, 10, .inl (fun _ => 0))), (rr 6, .inl (cI, 10, .inl (fun _ => 0))), (rr 7, .inl (cI, 10, .inl (fun _ => 0))), (rr 8, .inl (cI, 10, .inl (fun _ => 0))), (rr 9, .inl (cI, 10, .inl (fun _ => 0))), (q18, .inl (cI, 4, .inl (fun _ => 0))), (q25, .inl (cI, 4, .inl (fun _ => 0))), (q33, .inl (cM, 10, .inr (.inr (.inr (.inr (fun _ => none)))))), (q42, .inl (cM, 10, .inr (.inr (.inr (.inr (fun _ => none))))))] := hD
  refine lv_aload_n hx hb dX0_init_48 rfl (lv_at hl 0 rfl) ?_
  refine lv_iload_n hx hb dX0_init_49 rfl (lv_at hl 1 rfl) ?_
  refine va_putF (D := D) (ci := 0) (v := .int (nI N)) (ty := .int) (C := RX0) (T := TX0) (N := 7) hx hb hts hin0 tyX0 tyX0_ok nmX0 hown hK hP hD hS 0 rfl rfl 0 (by decide) (hts (.fieldLink RX0 32 "MeshRouting$Links" "nodes" "I") (List.mem_cons_of_mem _ q_435)) (fun _ h9 => h9) rfl hin rfl (by decide +kernel) rfl rfl (Nat.le_of_ble_eq_true rfl) dX0_init_50 (fun H locs hP hD hS => ?_)
  replace hP : va_P D vwCl [(h0, .inr (0, [.int (nI N), .ref q9, .ref q18, .ref q25, .ref q33, .ref q42, .null])), (q9, .inl (cG, 10, .inr (.inr (.inr (.inr (fun i => if i < 10 then some (rr i) else none)))))), (rr 0, .inl (cI, 10, .inl (fun _ => 0))), (rr 1, .inl (cI, 10, .inl (fun _ => 0))), (rr 2, .inl (cI, 10, .inl (fun _ => 0))), (rr 3, .inl (cI, 10, .inl (fun _ => 0))), (rr 4, .inl (cI, 10, .inl (fun _ => 0))), (rr 5, .inl (cI, 10, .inl (fun _ => 0))), (rr 6, .inl (cI, 10, .inl (fun _ => 0))), (rr 7, .inl (cI, 10, .inl (fun _ => 0))), (rr 8, .inl (cI, 10, .inl (fun _ => 0))), (rr 9, .inl (cI, 10, .inl (fun _ => 0))), (q18, .inl (cI, 4, .inl (fun _ => 0))), (q25, .inl (cI, 4, .inl (fun _ => 0))), (q33, .inl (cM, 10, .inr (.inr (.inr (.inr (fun _ => none)))))), (q42, .inl (cM, 10, .inr (.inr (.inr (.inr (fun _ => none))))))] H := hP
  replace hD : va_D A [(h0, .inr (0, [.int (nI N), .ref q9, .ref q18, .ref q25, .ref q33, .ref q42, .null])), (q9, .inl (cG, 10, .inr (.inr (.inr (.inr (fun i => if i < 10 then some (rr i) else none)))))), (rr 0, .inl (cI, 10, .inl (fun _ => 0))), (rr 1, .inl (cI, 10, .inl (fun _ => 0))), (rr 2, .inl (cI, 10, .inl (fun _ => 0))), (rr 3, .inl (cI, 10, .inl (fun _ => 0))), (rr 4, .inl (cI, 10, .inl (fun _ => 0))), (rr 5, .inl (cI, 10, .inl (fun _ => 0))), (rr 6, .inl (cI, 10, .inl (fun _ => 0))), (rr 7, .inl (cI, 10, .inl (fun _ => 0))), (rr 8, .inl (cI, 10, .inl (fun _ => 0))), (rr 9, .inl (cI, 10, .inl (fun _ => 0))), (q18, .inl (cI, 4, .inl (fun _ => 0))), (q25, .inl (cI, 4, .inl (fun _ => 0))), (q33, .inl (cM, 10, .inr (.inr (.inr (.inr (fun _ => none)))))), (q42, .inl (cM, 10, .inr (.inr (.inr (.inr (fun _ => none))))))] := hD
  have hc3 : (fun i => if i < 10 then some (rr i) else none) = (kRows (fun k => if k < 34 then (match k with | 3 => h0 | 4 => q9 | 5 => q18 | 6 => q25 | 7 => q33 | 8 => q42 | _ => 0) else rr (k - 34))) := funext fun i => by
    unfold kRows
    by_cases h : i < 10
    · rw [if_pos h, if_pos h]
      show some (rr i) = some (if 34 + i < 34 then _ else rr ((34 + i) - 34))
      rw [if_neg (by omega), show 34 + i - 34 = i by omega]
    · rw [if_neg h, if_neg h]
  rw [hc3] at hP hD
  have hP9 := hP.sub (ws' := [(h0, .inr (0, [.int (nI N), .ref q9, .ref q18, .ref q25, .ref q33, .ref q42, .null])), (q9, .inl (cG, 10, .inr (.inr (.inr (.inr (kRows (fun k => if k < 34 then (match k with | 3 => h0 | 4 => q9 | 5 => q18 | 6 => q25 | 7 => q33 | 8 => q42 | _ => 0) else rr (k - 34)))))))), (q18, .inl (cI, 4, .inl (fun _ => 0))), (q25, .inl (cI, 4, .inl (fun _ => 0))), (q33, .inl (cM, 10, .inr (.inr (.inr (.inr (fun _ => none)))))), (q42, .inl (cM, 10, .inr (.inr (.inr (.inr (fun _ => none)))))), (rr 0, .inl (cI, 10, .inl (fun _ => 0))), (rr 1, .inl (cI, 10, .inl (fun _ => 0))), (rr 2, .inl (cI, 10, .inl (fun _ => 0))), (rr 3, .inl (cI, 10, .inl (fun _ => 0))), (rr 4, .inl (cI, 10, .inl (fun _ => 0))), (rr 5, .inl (cI, 10, .inl (fun _ => 0))), (rr 6, .inl (cI, 10, .inl (fun _ => 0))), (rr 7, .inl (cI, 10, .inl (fun _ => 0))), (rr 8, .inl (cI, 10, .inl (fun _ => 0))), (rr 9, .inl (cI, 10, .inl (fun _ => 0)))]) [0, 1, 12, 13, 14, 15, 2, 3, 4, 5, 6, 7, 8, 9, 10, 11] rfl
  have hD9 := hD.sub (ws' := [(h0, .inr (0, [.int (nI N), .ref q9, .ref q18, .ref q25, .ref q33, .ref q42, .null])), (q9, .inl (cG, 10, .inr (.inr (.inr (.inr (kRows (fun k => if k < 34 then (match k with | 3 => h0 | 4 => q9 | 5 => q18 | 6 => q25 | 7 => q33 | 8 => q42 | _ => 0) else rr (k - 34)))))))), (q18, .inl (cI, 4, .inl (fun _ => 0))), (q25, .inl (cI, 4, .inl (fun _ => 0))), (q33, .inl (cM, 10, .inr (.inr (.inr (.inr (fun _ => none)))))), (q42, .inl (cM, 10, .inr (.inr (.inr (.inr (fun _ => none)))))), (rr 0, .inl (cI, 10, .inl (fun _ => 0))), (rr 1, .inl (cI, 10, .inl (fun _ => 0))), (rr 2, .inl (cI, 10, .inl (fun _ => 0))), (rr 3, .inl (cI, 10, .inl (fun _ => 0))), (rr 4, .inl (cI, 10, .inl (fun _ => 0))), (rr 5, .inl (cI, 10, .inl (fun _ => 0))), (rr 6, .inl (cI, 10, .inl (fun _ => 0))), (rr 7, .inl (cI, 10, .inl (fun _ => 0))), (rr 8, .inl (cI, 10, .inl (fun _ => 0))), (rr 9, .inl (cI, 10, .inl (fun _ => 0)))]) [0, 1, 12, 13, 14, 15, 2, 3, 4, 5, 6, 7, 8, 9, 10, 11] rfl rfl
  refine W.widen (k := 15) (n := 140) (Nat.le_of_ble_eq_true rfl) (Nat.le_of_ble_eq_true rfl) ?_
  exact W.vret hx hb hr (fun t9 ht9 hW9 => ⟨⟨(fun k => if k < 34 then (match k with | 3 => h0 | 4 => q9 | 5 => q18 | 6 => q25 | 7 => q33 | 8 => q42 | _ => 0) else rr (k - 34)), rfl, rfl, by rw [ht9]; exact hP9, hD9⟩, hS.F ht9⟩) hS.2.2 dX0_init_53
