set_option maxHeartbeats 4000000 in
set_option maxRecDepth 100000 in
theorem c_L_setLink1 (l : Launch) (D : va_G) (cI cJ cM cG : ClassId) (x0 : Nat) (n : Nat → Nat) (q : Nat → Nat) (tr : Nat → Nat) (N : Nat) (a : Nat) (b : Nat) (v : Nat) (o9 : Nat) (sz : Nat) (ha : a < N) (hb9 : b < N) (hN : N ≤ 10) (hab : a ≠ b) (hv : v ≤ 9) : Met l yL_setLink (Cond.codeWith yL_setLink cL_setLink 6 (some .int) [(0, 12, 15, 13), (0, 12, 19, 15)] :: kBig) ({ frames := 4, cells := 0, slots := 0, locals := 88 }) (va_Pc [.ref x0, .int (nI a), .int (nI b), .int (nI v), .ref o9] (kP D [(cI, .int), (cJ, .long), (cM, .object "MeshRouting$Message"), (cG, .array .int)] [(x0, .inr (6, [.int (nI N), .ref (n 0), .ref (q 0), .ref (tr 0), .int (nI 0)])), (n 0, .inr (2, [.int (nI N), .int (nI 0), .ref (n 1), .ref (n 2), .ref (n 3), .ref (n 9), .ref (n 16), .ref (n 23), .int (nI 0), .ref (n 32), .int (nI 0), .ref (n 33)])), (n 3, .inr (0, [.int (nI N), .ref (n 4), .ref (n 5), .ref (n 6), .ref (n 7), .ref (n 8), .null])), (n 4, .inl (cG, 10, .inr (.inr (.inr (.inr (kRows n)))))), (n 34, .inl (cI, 10, .inl (fun _ => 0))), (n 35, .inl (cI, 10, .inl (fun _ => 0))), (n 36, .inl (cI, 10, .inl (fun _ => 0))), (n 37, .inl (cI, 10, .inl (fun _ => 0))), (n 38, .inl (cI, 10, .inl (fun _ => 0))), (n 39, .inl (cI, 10, .inl (fun _ => 0))), (n 40, .inl (cI, 10, .inl (fun _ => 0))), (n 41, .inl (cI, 10, .inl (fun _ => 0))), (n 42, .inl (cI, 10, .inl (fun _ => 0))), (n 43, .inl (cI, 10, .inl (fun _ => 0))), (o9, .inl (cJ, 1, .inr (.inl (fun _ => 0))))] sz)) (va_Qi (fun (r : Int32) (_ : Unit) => r = nI 0) (fun _ t9 => kB D (va_A [(x0, .inr (6, [.int (nI N), .ref (n 0), .ref (q 0), .ref (tr 0), .int (nI 0)])), (n 0, .inr (2, [.int (nI N), .int (nI 0), .ref (n 1), .ref (n 2), .ref (n 3), .ref (n 9), .ref (n 16), .ref (n 23), .int (nI 0), .ref (n 32), .int (nI 0), .ref (n 33)])), (n 3, .inr (0, [.int (nI N), .ref (n 4), .ref (n 5), .ref (n 6), .ref (n 7), .ref (n 8), .null])), (n 4, .inl (cG, 10, .inr (.inr (.inr (.inr (kRows n)))))), (n 34, .inl (cI, 10, .inl (fun _ => 0))), (n 35, .inl (cI, 10, .inl (fun _ => 0))), (n 36, .inl (cI, 10, .inl (fun _ => 0))), (n 37, .inl (cI, 10, .inl (fun _ => 0))), (n 38, .inl (cI, 10, .inl (fun _ => 0))), (n 39, .inl (cI, 10, .inl (fun _ => 0))), (n 40, .inl (cI, 10, .inl (fun _ => 0))), (n 41, .inl (cI, 10, .inl (fun _ => 0))), (n 42, .inl (cI, 10, .inl (fun _ => 0))), (n 43, .inl (cI, 10, .inl (fun _ => 0))), (o9, .inl (cJ, 1, .inr (.inl (fun _ => 0))))] sz) [(o9, .inl (cJ, 1, .inr (.inl (vp_updL (fun _ => 0) 0 (lN 0)))))] t9) (va_A [(x0, .inr (6, [.int (nI N), .ref (n 0), .ref (q 0), .ref (tr 0), .int (nI 0)])), (n 0, .inr (2, [.int (nI N), .int (nI 0), .ref (n 1), .ref (n 2), .ref (n 3), .ref (n 9), .ref (n 16), .ref (n 23), .int (nI 0), .ref (n 32), .int (nI 0), .ref (n 33)])), (n 3, .inr (0, [.int (nI N), .ref (n 4), .ref (n 5), .ref (n 6), .ref (n 7), .ref (n 8), .null])), (n 4, .inl (cG, 10, .inr (.inr (.inr (.inr (kRows n)))))), (n 34, .inl (cI, 10, .inl (fun _ => 0))), (n 35, .inl (cI, 10, .inl (fun _ => 0))), (n 36, .inl (cI, 10, .inl (fun _ => 0))), (n 37, .inl (cI, 10, .inl (fun _ => 0))), (n 38, .inl (cI, 10, .inl (fun _ => 0))), (n 39, .inl (cI, 10, .inl (fun _ => 0))), (n 40, .inl (cI, 10, .inl (fun _ => 0))), (n 41, .inl (cI, 10, .inl (fun _ => 0))), (n 42, .inl (cI, 10, .inl (fun _ => 0))), (n 43, .inl (cI, 10, .inl (fun _ => 0))), (o9, .inl (cJ, 1, .inr (.inl (fun _ => 0))))] sz)) 0 0 (va_A [(x0, .inr (6, [.int (nI N), .ref (n 0), .ref (q 0), .ref (tr 0), .int (nI 0)])), (n 0, .inr (2, [.int (nI N), .int (nI 0), .ref (n 1), .ref (n 2), .ref (n 3), .ref (n 9), .ref (n 16), .ref (n 23), .int (nI 0), .ref (n 32), .int (nI 0), .ref (n 33)])), (n 3, .inr (0, [.int (nI N), .ref (n 4), .ref (n 5), .ref (n 6), .ref (n 7), .ref (n 8), .null])), (n 4, .inl (cG, 10, .inr (.inr (.inr (.inr (kRows n)))))), (n 34, .inl (cI, 10, .inl (fun _ => 0))), (n 35, .inl (cI, 10, .inl (fun _ => 0))), (n 36, .inl (cI, 10, .inl (fun _ => 0))), (n 37, .inl (cI, 10, .inl (fun _ => 0))), (n 38, .inl (cI, 10, .inl (fun _ => 0))), (n 39, .inl (cI, 10, .inl (fun _ => 0))), (n 40, .inl (cI, 10, .inl (fun _ => 0))), (n 41, .inl (cI, 10, .inl (fun _ => 0))), (n 42, .inl (cI, 10, .inl (fun _ => 0))), (n 43, .inl (cI, 10, .inl (fun _ => 0))), (o9, .inl (cJ, 1, .inr (.inl (fun _ => 0))))] sz) := by
  refine va_MetW (cc := cL_setLink) (maxL := 6) (ret := (some .int)) (hh := [(0, 12, 15, 13), (0, 12, 19, 15)]) (by decide) rfl ?_
  intro p e s m args below meth c s₁ B hml hv
  obtain ⟨rfl, ⟨hsz, hP, hK, hD0, hKN⟩⟩ := hv
  have hx := B.exec
  have hb := B.bytes
  have hr := B.returns
  have hts := atoms_spec (ws := (Cond.codeWith yL_setLink cL_setLink 6 (some .int) [(0, 12, 15, 13), (0, 12, 19, 15)] :: kBig)) B.pre
  have hown : s.vm.findClass RL = some m.cls := findClass_of_methodNamed B.named
  have hlocks := B.notSynchronized
  have htab := vx_table (x := yL_setLink) B (hts _ List.mem_cons_self)
  subst hsz
  have hD := hD0.self (sz := s.heap.size)
  generalize hAe : va_A [(x0, .inr (6, [.int (nI N), .ref (n 0), .ref (q 0), .ref (tr 0), .int (nI 0)])), (n 0, .inr (2, [.int (nI N), .int (nI 0), .ref (n 1), .ref (n 2), .ref (n 3), .ref (n 9), .ref (n 16), .ref (n 23), .int (nI 0), .ref (n 32), .int (nI 0), .ref (n 33)])), (n 3, .inr (0, [.int (nI N), .ref (n 4), .ref (n 5), .ref (n 6), .ref (n 7), .ref (n 8), .null])), (n 4, .inl (cG, 10, .inr (.inr (.inr (.inr (kRows n)))))), (n 34, .inl (cI, 10, .inl (fun _ => 0))), (n 35, .inl (cI, 10, .inl (fun _ => 0))), (n 36, .inl (cI, 10, .inl (fun _ => 0))), (n 37, .inl (cI, 10, .inl (fun _ => 0))), (n 38, .inl (cI, 10, .inl (fun _ => 0))), (n 39, .inl (cI, 10, .inl (fun _ => 0))), (n 40, .inl (cI, 10, .inl (fun _ => 0))), (n 41, .inl (cI, 10, .inl (fun _ => 0))), (n 42, .inl (cI, 10, .inl (fun _ => 0))), (n 43, .inl (cI, 10, .inl (fun _ => 0))), (o9, .inl (cJ, 1, .inr (.inl (fun _ => 0))))] s.heap.size = A at hD ⊢
  have hA : ∀ q : Nat, s.heap.size ≤ q → A q := fun q h => by rw [← hAe]; exact Or.inr h
  have hS : va_S A s.heap s.heap [] := va_S.rf
  have hl := lv_entry ([.ref x0, .int (nI a), .int (nI b), .int (nI v), .ref o9]) (n := 6) (Nat.le_of_ble_eq_true rfl)
  rw [lg_entry_eq]
  generalize (lg_sl ([.ref x0, .int (nI a), .int (nI b), .int (nI v), .ref o9]) ++ List.replicate (6 - (lg_sl ([.ref x0, .int (nI a), .int (nI b), .int (nI v), .ref o9])).length) Slot.unset).toArray = ls at hl ⊢
  have hl : lv_has ls 6 [(0, .ref x0), (1, .int (nI a)), (2, .int (nI b)), (3, .int (nI v)), (4, .ref o9)] := hl
  refine lv_aload hx hb dL_setLink_0 (lv_at hl 4 rfl) ?_
  refine lv_iconst (v := nI 0) hx hb dL_setLink_2 (by decide) ?_
  refine lv_aload_n hx hb dL_setLink_3 rfl (lv_at hl 0 rfl) ?_
  refine lv_iload_n hx hb dL_setLink_4 rfl (lv_at hl 1 rfl) ?_
  refine lv_iload_n hx hb dL_setLink_5 rfl (lv_at hl 2 rfl) ?_
  refine lv_iload_n hx hb dL_setLink_6 rfl (lv_at hl 3 rfl) ?_
  refine k_ci (wr := [(o9, .inl (cJ, 1, .inr (.inl (fun _ => 0))))]) (w1 := []) (va_runV (As := [.int (nI a), .int (nI b), .int (nI v)]) (rest := [.int (nI 0), .ref o9]) ⟨hx, hb, hml, hown, hts⟩ (c_X6_setLink l D cI cJ cM cG x0 n q tr N a b v s.heap.size (ha) (hb9) (hN) (hab) (hv)) (cwV 3 hts (kB_V (fun _ => List.mem_cons_of_mem _) q_564 q_565 q_566 q_9 (kB_c q_567)) rfl rfl rfl (by decide +kernel) ⟨Nat.le_of_ble_eq_true rfl, Nat.le_of_ble_eq_true rfl⟩) (k_preV (T := TX6) hP hD hK hKN [0, 1, 2, 3, 4, 5, 6, 7, 8, 9, 10, 11, 12, 13] rfl rfl (ci := 6) rfl (q0 := 0) rfl) rfl rfl hl.1 rfl (lv_room (Nat.le_of_ble_eq_true rfl)) dL_setLink_7 ⟨Nat.le_of_ble_eq_true rfl, Nat.le_of_ble_eq_true rfl⟩) hP hD hS hA [0, 1, 2, 3, 4, 5, 6, 7, 8, 9, 10, 11, 12, 13] [14] rfl rfl rfl (by decide) (fun r7 H locs hw7 hP hD hS => ?_)
  replace hP : va_P D vwCl [(o9, .inl (cJ, 1, .inr (.inl (fun _ => 0))))] H := hP
  replace hD : va_D A [(o9, .inl (cJ, 1, .inr (.inl (fun _ => 0))))] := hD
  replace hw7 : r7 = nI 0 := hw7
  refine k_ti hw7 ?_
  refine lv_i2l (v := lN 0) hx hb dL_setLink_10 (by decide) ?_
  refine k_last (f' := vp_updL (fun _ => 0) 0 (lN 0)) hx hb hK hP hD hS 0 1 rfl rfl (by omega) (by omega) (rfl) dL_setLink_11 (fun H locs hP hD hS => ?_)
  replace hP : va_P D vwCl [(o9, .inl (cJ, 1, .inr (.inl (vp_updL (fun _ => 0) 0 (lN 0)))))] H := hP
  replace hD : va_D A [(o9, .inl (cJ, 1, .inr (.inl (vp_updL (fun _ => 0) 0 (lN 0)))))] := hD
  refine lv_goto (tgt := 23) hx hb dL_setLink_12 (by decide) ?_
  refine lv_iconst (v := nI 0) hx hb dL_setLink_23 (by decide) ?_
  have hP9 := hP.sub (ws' := [(o9, .inl (cJ, 1, .inr (.inl (vp_updL (fun _ => 0) 0 (lN 0)))))]) [0] rfl
  have hD9 := hD.sub (ws' := [(o9, .inl (cJ, 1, .inr (.inl (vp_updL (fun _ => 0) 0 (lN 0)))))]) [0] rfl rfl
  exact W.iret (v := nI 0) hx hb hr (fun t9 ht9 hW9 => ⟨⟨nI 0, (), rfl, rfl, by rw [ht9]; exact hP9, hD9⟩, hS.F ht9⟩) hS.2.2 dL_setLink_24

set_option maxHeartbeats 4000000 in
set_option maxRecDepth 100000 in
theorem c_L_link1 (l : Launch) (D : va_G) (cI cJ cM cG : ClassId) (x0 : Nat) (n : Nat → Nat) (q : Nat → Nat) (tr : Nat → Nat) (N : Nat) (a : Nat) (b : Nat) (o9 : Nat) (sz : Nat) (ha : a < N) (hb9 : b < N) (hN : N ≤ 10) : Met l yL_link (Cond.codeWith yL_link cL_link 5 (some .int) [(0, 10, 13, 13)] :: kBig) ({ frames := 3, cells := 0, slots := 0, locals := 65 }) (va_Pc [.ref x0, .int (nI a), .int (nI b), .ref o9] (kP D [(cI, .int), (cJ, .long), (cM, .object "MeshRouting$Message"), (cG, .array .int)] [(x0, .inr (6, [.int (nI N), .ref (n 0), .ref (q 0), .ref (tr 0), .int (nI 0)])), (n 0, .inr (2, [.int (nI N), .int (nI 0), .ref (n 1), .ref (n 2), .ref (n 3), .ref (n 9), .ref (n 16), .ref (n 23), .int (nI 0), .ref (n 32), .int (nI 0), .ref (n 33)])), (n 3, .inr (0, [.int (nI N), .ref (n 4), .ref (n 5), .ref (n 6), .ref (n 7), .ref (n 8), .null])), (n 4, .inl (cG, 10, .inr (.inr (.inr (.inr (kRows n)))))), (n 34, .inl (cI, 10, .inl (fun _ => 0))), (n 35, .inl (cI, 10, .inl (fun _ => 0))), (n 36, .inl (cI, 10, .inl (fun _ => 0))), (n 37, .inl (cI, 10, .inl (fun _ => 0))), (n 38, .inl (cI, 10, .inl (fun _ => 0))), (n 39, .inl (cI, 10, .inl (fun _ => 0))), (n 40, .inl (cI, 10, .inl (fun _ => 0))), (n 41, .inl (cI, 10, .inl (fun _ => 0))), (n 42, .inl (cI, 10, .inl (fun _ => 0))), (n 43, .inl (cI, 10, .inl (fun _ => 0))), (o9, .inl (cJ, 1, .inr (.inl (fun _ => 0))))] sz)) (va_Qi (fun (r : Int32) (_ : Unit) => r = nI 0) (fun _ t9 => kB D (va_A [(x0, .inr (6, [.int (nI N), .ref (n 0), .ref (q 0), .ref (tr 0), .int (nI 0)])), (n 0, .inr (2, [.int (nI N), .int (nI 0), .ref (n 1), .ref (n 2), .ref (n 3), .ref (n 9), .ref (n 16), .ref (n 23), .int (nI 0), .ref (n 32), .int (nI 0), .ref (n 33)])), (n 3, .inr (0, [.int (nI N), .ref (n 4), .ref (n 5), .ref (n 6), .ref (n 7), .ref (n 8), .null])), (n 4, .inl (cG, 10, .inr (.inr (.inr (.inr (kRows n)))))), (n 34, .inl (cI, 10, .inl (fun _ => 0))), (n 35, .inl (cI, 10, .inl (fun _ => 0))), (n 36, .inl (cI, 10, .inl (fun _ => 0))), (n 37, .inl (cI, 10, .inl (fun _ => 0))), (n 38, .inl (cI, 10, .inl (fun _ => 0))), (n 39, .inl (cI, 10, .inl (fun _ => 0))), (n 40, .inl (cI, 10, .inl (fun _ => 0))), (n 41, .inl (cI, 10, .inl (fun _ => 0))), (n 42, .inl (cI, 10, .inl (fun _ => 0))), (n 43, .inl (cI, 10, .inl (fun _ => 0))), (o9, .inl (cJ, 1, .inr (.inl (fun _ => 0))))] sz) [(o9, .inl (cJ, 1, .inr (.inl (vp_updL (fun _ => 0) 0 (lN 0)))))] t9) (va_A [(x0, .inr (6, [.int (nI N), .ref (n 0), .ref (q 0), .ref (tr 0), .int (nI 0)])), (n 0, .inr (2, [.int (nI N), .int (nI 0), .ref (n 1), .ref (n 2), .ref (n 3), .ref (n 9), .ref (n 16), .ref (n 23), .int (nI 0), .ref (n 32), .int (nI 0), .ref (n 33)])), (n 3, .inr (0, [.int (nI N), .ref (n 4), .ref (n 5), .ref (n 6), .ref (n 7), .ref (n 8), .null])), (n 4, .inl (cG, 10, .inr (.inr (.inr (.inr (kRows n)))))), (n 34, .inl (cI, 10, .inl (fun _ => 0))), (n 35, .inl (cI, 10, .inl (fun _ => 0))), (n 36, .inl (cI, 10, .inl (fun _ => 0))), (n 37, .inl (cI, 10, .inl (fun _ => 0))), (n 38, .inl (cI, 10, .inl (fun _ => 0))), (n 39, .inl (cI, 10, .inl (fun _ => 0))), (n 40, .inl (cI, 10, .inl (fun _ => 0))), (n 41, .inl (cI, 10, .inl (fun _ => 0))), (n 42, .inl (cI, 10, .inl (fun _ => 0))), (n 43, .inl (cI, 10, .inl (fun _ => 0))), (o9, .inl (cJ, 1, .inr (.inl (fun _ => 0))))] sz)) 0 0 (va_A [(x0, .inr (6, [.int (nI N), .ref (n 0), .ref (q 0), .ref (tr 0), .int (nI 0)])), (n 0, .inr (2, [.int (nI N), .int (nI 0), .ref (n 1), .ref (n 2), .ref (n 3), .ref (n 9), .ref (n 16), .ref (n 23), .int (nI 0), .ref (n 32), .int (nI 0), .ref (n 33)])), (n 3, .inr (0, [.int (nI N), .ref (n 4), .ref (n 5), .ref (n 6), .ref (n 7), .ref (n 8), .null])), (n 4, .inl (cG, 10, .inr (.inr (.inr (.inr (kRows n)))))), (n 34, .inl (cI, 10, .inl (fun _ => 0))), (n 35, .inl (cI, 10, .inl (fun _ => 0))), (n 36, .inl (cI, 10, .inl (fun _ => 0))), (n 37, .inl (cI, 10, .inl (fun _ => 0))), (n 38, .inl (cI, 10, .inl (fun _ => 0))), (n 39, .inl (cI, 10, .inl (fun _ => 0))), (n 40, .inl (cI, 10, .inl (fun _ => 0))), (n 41, .inl (cI, 10, .inl (fun _ => 0))), (n 42, .inl (cI, 10, .inl (fun _ => 0))), (n 43, .inl (cI, 10, .inl (fun _ => 0))), (o9, .inl (cJ, 1, .inr (.inl (fun _ => 0))))] sz) := by
  refine va_MetW (cc := cL_link) (maxL := 5) (ret := (some .int)) (hh := [(0, 10, 13, 13)]) (by decide) rfl ?_
  intro p e s m args below meth c s₁ B hml hv
  obtain ⟨rfl, ⟨hsz, hP, hK, hD0, hKN⟩⟩ := hv
  have hx := B.exec
  have hb := B.bytes
  have hr := B.returns
  have hts := atoms_spec (ws := (Cond.codeWith yL_link cL_link 5 (some .int) [(0, 10, 13, 13)] :: kBig)) B.pre
  have hown : s.vm.findClass RL = some m.cls := findClass_of_methodNamed B.named
  have hlocks := B.notSynchronized
  have htab := vx_table (x := yL_link) B (hts _ List.mem_cons_self)
  subst hsz
  have hD := hD0.self (sz := s.heap.size)
  generalize hAe : va_A [(x0, .inr (6, [.int (nI N), .ref (n 0), .ref (q 0), .ref (tr 0), .int (nI 0)])), (n 0, .inr (2, [.int (nI N), .int (nI 0), .ref (n 1), .ref (n 2), .ref (n 3), .ref (n 9), .ref (n 16), .ref (n 23), .int (nI 0), .ref (n 32), .int (nI 0), .ref (n 33)])), (n 3, .inr (0, [.int (nI N), .ref (n 4), .ref (n 5), .ref (n 6), .ref (n 7), .ref (n 8), .null])), (n 4, .inl (cG, 10, .inr (.inr (.inr (.inr (kRows n)))))), (n 34, .inl (cI, 10, .inl (fun _ => 0))), (n 35, .inl (cI, 10, .inl (fun _ => 0))), (n 36, .inl (cI, 10, .inl (fun _ => 0))), (n 37, .inl (cI, 10, .inl (fun _ => 0))), (n 38, .inl (cI, 10, .inl (fun _ => 0))), (n 39, .inl (cI, 10, .inl (fun _ => 0))), (n 40, .inl (cI, 10, .inl (fun _ => 0))), (n 41, .inl (cI, 10, .inl (fun _ => 0))), (n 42, .inl (cI, 10, .inl (fun _ => 0))), (n 43, .inl (cI, 10, .inl (fun _ => 0))), (o9, .inl (cJ, 1, .inr (.inl (fun _ => 0))))] s.heap.size = A at hD ⊢
  have hA : ∀ q : Nat, s.heap.size ≤ q → A q := fun q h => by rw [← hAe]; exact Or.inr h
  have hS : va_S A s.heap s.heap [] := va_S.rf
  have hl := lv_entry ([.ref x0, .int (nI a), .int (nI b), .ref o9]) (n := 5) (Nat.le_of_ble_eq_true rfl)
  rw [lg_entry_eq]
  generalize (lg_sl ([.ref x0, .int (nI a), .int (nI b), .ref o9]) ++ List.replicate (5 - (lg_sl ([.ref x0, .int (nI a), .int (nI b), .ref o9])).length) Slot.unset).toArray = ls at hl ⊢
  have hl : lv_has ls 5 [(0, .ref x0), (1, .int (nI a)), (2, .int (nI b)), (3, .ref o9)] := hl
  refine lv_aload_n hx hb dL_link_0 rfl (lv_at hl 3 rfl) ?_
  refine lv_iconst (v := nI 0) hx hb dL_link_1 (by decide) ?_
  refine lv_aload_n hx hb dL_link_2 rfl (lv_at hl 0 rfl) ?_
  refine lv_iload_n hx hb dL_link_3 rfl (lv_at hl 1 rfl) ?_
  refine lv_iload_n hx hb dL_link_4 rfl (lv_at hl 2 rfl) ?_
  refine k_ci (wr := [(o9, .inl (cJ, 1, .inr (.inl (fun _ => 0))))]) (w1 := [(x0, .inr (6, [.int (nI N), .ref (n 0), .ref (q 0), .ref (tr 0), .int (nI 0)])), (n 0, .inr (2, [.int (nI N), .int (nI 0), .ref (n 1), .ref (n 2), .ref (n 3), .ref (n 9), .ref (n 16), .ref (n 23), .int (nI 0), .ref (n 32), .int (nI 0), .ref (n 33)])), (n 3, .inr (0, [.int (nI N), .ref (n 4), .ref (n 5), .ref (n 6), .ref (n 7), .ref (n 8), .null])), (n 4, .inl (cG, 10, .inr (.inr (.inr (.inr (kRows n)))))), (n 34, .inl (cI, 10, .inl (fun _ => 0))), (n 35, .inl (cI, 10, .inl (fun _ => 0))), (n 36, .inl (cI, 10, .inl (fun _ => 0))), (n 37, .inl (cI, 10, .inl (fun _ => 0))), (n 38, .inl (cI, 10, .inl (fun _ => 0))), (n 39, .inl (cI, 10, .inl (fun _ => 0))), (n 40, .inl (cI, 10, .inl (fun _ => 0))), (n 41, .inl (cI, 10, .inl (fun _ => 0))), (n 42, .inl (cI, 10, .inl (fun _ => 0))), (n 43, .inl (cI, 10, .inl (fun _ => 0)))]) (va_runV (As := [.int (nI a), .int (nI b)]) (rest := [.int (nI 0), .ref o9]) ⟨hx, hb, hml, hown, hts⟩ (c_X6_link l D cI cJ cM cG x0 n q tr N a b s.heap.size (ha) (hb9) (hN)) (cwV 2 hts (kB_V (fun _ => List.mem_cons_of_mem _) q_500 q_501 q_502 q_9 (kB_c q_503)) rfl rfl rfl (by decide +kernel) ⟨Nat.le_of_ble_eq_true rfl, Nat.le_of_ble_eq_true rfl⟩) (k_preV (T := TX6) hP hD hK hKN [0, 1, 2, 3, 4, 5, 6, 7, 8, 9, 10, 11, 12, 13] rfl rfl (ci := 6) rfl (q0 := 0) rfl) rfl rfl hl.1 rfl (lv_room (Nat.le_of_ble_eq_true rfl)) dL_link_5 ⟨Nat.le_of_ble_eq_true rfl, Nat.le_of_ble_eq_true rfl⟩) hP hD hS hA [0, 1, 2, 3, 4, 5, 6, 7, 8, 9, 10, 11, 12, 13] [14] rfl rfl rfl (by decide) (fun r5 H locs hw5 hP hD hS => ?_)
  replace hP : va_P D vwCl [(o9, .inl (cJ, 1, .inr (.inl (fun _ => 0)))), (x0, .inr (6, [.int (nI N), .ref (n 0), .ref (q 0), .ref (tr 0), .int (nI 0)])), (n 0, .inr (2, [.int (nI N), .int (nI 0), .ref (n 1), .ref (n 2), .ref (n 3), .ref (n 9), .ref (n 16), .ref (n 23), .int (nI 0), .ref (n 32), .int (nI 0), .ref (n 33)])), (n 3, .inr (0, [.int (nI N), .ref (n 4), .ref (n 5), .ref (n 6), .ref (n 7), .ref (n 8), .null])), (n 4, .inl (cG, 10, .inr (.inr (.inr (.inr (kRows n)))))), (n 34, .inl (cI, 10, .inl (fun _ => 0))), (n 35, .inl (cI, 10, .inl (fun _ => 0))), (n 36, .inl (cI, 10, .inl (fun _ => 0))), (n 37, .inl (cI, 10, .inl (fun _ => 0))), (n 38, .inl (cI, 10, .inl (fun _ => 0))), (n 39, .inl (cI, 10, .inl (fun _ => 0))), (n 40, .inl (cI, 10, .inl (fun _ => 0))), (n 41, .inl (cI, 10, .inl (fun _ => 0))), (n 42, .inl (cI, 10, .inl (fun _ => 0))), (n 43, .inl (cI, 10, .inl (fun _ => 0)))] H := hP
  replace hD : va_D A [(o9, .inl (cJ, 1, .inr (.inl (fun _ => 0)))), (x0, .inr (6, [.int (nI N), .ref (n 0), .ref (q 0), .ref (tr 0), .int (nI 0)])), (n 0, .inr (2, [.int (nI N), .int (nI 0), .ref (n 1), .ref (n 2), .ref (n 3), .ref (n 9), .ref (n 16), .ref (n 23), .int (nI 0), .ref (n 32), .int (nI 0), .ref (n 33)])), (n 3, .inr (0, [.int (nI N), .ref (n 4), .ref (n 5), .ref (n 6), .ref (n 7), .ref (n 8), .null])), (n 4, .inl (cG, 10, .inr (.inr (.inr (.inr (kRows n)))))), (n 34, .inl (cI, 10, .inl (fun _ => 0))), (n 35, .inl (cI, 10, .inl (fun _ => 0))), (n 36, .inl (cI, 10, .inl (fun _ => 0))), (n 37, .inl (cI, 10, .inl (fun _ => 0))), (n 38, .inl (cI, 10, .inl (fun _ => 0))), (n 39, .inl (cI, 10, .inl (fun _ => 0))), (n 40, .inl (cI, 10, .inl (fun _ => 0))), (n 41, .inl (cI, 10, .inl (fun _ => 0))), (n 42, .inl (cI, 10, .inl (fun _ => 0))), (n 43, .inl (cI, 10, .inl (fun _ => 0)))] := hD
  replace hw5 : r5 = nI 0 := hw5
  refine k_ti hw5 ?_
  refine lv_i2l (v := lN 0) hx hb dL_link_8 (by decide) ?_
  refine k_last (f' := vp_updL (fun _ => 0) 0 (lN 0)) hx hb hK hP hD hS 0 1 rfl rfl (by omega) (by omega) (rfl) dL_link_9 (fun H locs hP hD hS => ?_)
  replace hP : va_P D vwCl [(o9, .inl (cJ, 1, .inr (.inl (vp_updL (fun _ => 0) 0 (lN 0))))), (x0, .inr (6, [.int (nI N), .ref (n 0), .ref (q 0), .ref (tr 0), .int (nI 0)])), (n 0, .inr (2, [.int (nI N), .int (nI 0), .ref (n 1), .ref (n 2), .ref (n 3), .ref (n 9), .ref (n 16), .ref (n 23), .int (nI 0), .ref (n 32), .int (nI 0), .ref (n 33)])), (n 3, .inr (0, [.int (nI N), .ref (n 4), .ref (n 5), .ref (n 6), .ref (n 7), .ref (n 8), .null])), (n 4, .inl (cG, 10, .inr (.inr (.inr (.inr (kRows n)))))), (n 34, .inl (cI, 10, .inl (fun _ => 0))), (n 35, .inl (cI, 10, .inl (fun _ => 0))), (n 36, .inl (cI, 10, .inl (fun _ => 0))), (n 37, .inl (cI, 10, .inl (fun _ => 0))), (n 38, .inl (cI, 10, .inl (fun _ => 0))), (n 39, .inl (cI, 10, .inl (fun _ => 0))), (n 40, .inl (cI, 10, .inl (fun _ => 0))), (n 41, .inl (cI, 10, .inl (fun _ => 0))), (n 42, .inl (cI, 10, .inl (fun _ => 0))), (n 43, .inl (cI, 10, .inl (fun _ => 0)))] H := hP
  replace hD : va_D A [(o9, .inl (cJ, 1, .inr (.inl (vp_updL (fun _ => 0) 0 (lN 0))))), (x0, .inr (6, [.int (nI N), .ref (n 0), .ref (q 0), .ref (tr 0), .int (nI 0)])), (n 0, .inr (2, [.int (nI N), .int (nI 0), .ref (n 1), .ref (n 2), .ref (n 3), .ref (n 9), .ref (n 16), .ref (n 23), .int (nI 0), .ref (n 32), .int (nI 0), .ref (n 33)])), (n 3, .inr (0, [.int (nI N), .ref (n 4), .ref (n 5), .ref (n 6), .ref (n 7), .ref (n 8), .null])), (n 4, .inl (cG, 10, .inr (.inr (.inr (.inr (kRows n)))))), (n 34, .inl (cI, 10, .inl (fun _ => 0))), (n 35, .inl (cI, 10, .inl (fun _ => 0))), (n 36, .inl (cI, 10, .inl (fun _ => 0))), (n 37, .inl (cI, 10, .inl (fun _ => 0))), (n 38, .inl (cI, 10, .inl (fun _ => 0))), (n 39, .inl (cI, 10, .inl (fun _ => 0))), (n 40, .inl (cI, 10, .inl (fun _ => 0))), (n 41, .inl (cI, 10, .inl (fun _ => 0))), (n 42, .inl (cI, 10, .inl (fun _ => 0))), (n 43, .inl (cI, 10, .inl (fun _ => 0)))] := hD
  refine lv_goto (tgt := 17) hx hb dL_link_10 (by decide) ?_
  refine lv_iconst (v := nI 0) hx hb dL_link_17 (by decide) ?_
  have hP9 := hP.sub (ws' := [(o9, .inl (cJ, 1, .inr (.inl (vp_updL (fun _ => 0) 0 (lN 0)))))]) [0] rfl
  have hD9 := hD.sub (ws' := [(o9, .inl (cJ, 1, .inr (.inl (vp_updL (fun _ => 0) 0 (lN 0)))))]) [0] rfl rfl
  exact W.iret (v := nI 0) hx hb hr (fun t9 ht9 hW9 => ⟨⟨nI 0, (), rfl, rfl, by rw [ht9]; exact hP9, hD9⟩, hS.F ht9⟩) hS.2.2 dL_link_18

set_option maxHeartbeats 4000000 in
set_option maxRecDepth 100000 in
theorem c_L_send1 (l : Launch) (D : va_G) (cI cJ cM cG : ClassId) (x0 : Nat) (n : Nat → Nat) (q : Nat → Nat) (tr : Nat → Nat) (N : Nat) (a : Nat) (b : Nat) (o9 : Nat) (sz : Nat) (ha : a < N) (hb9 : b < N) (hN : N ≤ 10) (hab : a ≠ b) : Met l yL_send (Cond.codeWith yL_send cL_send 5 (some .int) [(0, 10, 13, 13), (0, 10, 17, 15), (0, 10, 21, 27)] :: kBig) ({ frames := 6, cells := 0, slots := 0, locals := 138 }) (va_Pc [.ref x0, .int (nI a), .int (nI b), .ref o9] (kP D [(cI, .int), (cJ, .long), (cM, .object "MeshRouting$Message"), (cG, .array .int)] [(x0, .inr (6, [.int (nI N), .ref (n 0), .ref (q 0), .ref (tr 0), .int (nI 0)])), (n 0, .inr (2, [.int (nI N), .int (nI 0), .ref (n 1), .ref (n 2), .ref (n 3), .ref (n 9), .ref (n 16), .ref (n 23), .int (nI 0), .ref (n 32), .int (nI 0), .ref (n 33)])), (n 1, .inl (cI, 8, .inl kPar)), (n 2, .inl (cI, 10, .inl (fun _ => 0))), (n 3, .inr (0, [.int (nI N), .ref (n 4), .ref (n 5), .ref (n 6), .ref (n 7), .ref (n 8), .null])), (n 4, .inl (cG, 10, .inr (.inr (.inr (.inr (kRows n)))))), (n 34, .inl (cI, 10, .inl (fun _ => 0))), (n 35, .inl (cI, 10, .inl (fun _ => 0))), (n 36, .inl (cI, 10, .inl (fun _ => 0))), (n 37, .inl (cI, 10, .inl (fun _ => 0))), (n 38, .inl (cI, 10, .inl (fun _ => 0))), (n 39, .inl (cI, 10, .inl (fun _ => 0))), (n 40, .inl (cI, 10, .inl (fun _ => 0))), (n 41, .inl (cI, 10, .inl (fun _ => 0))), (n 42, .inl (cI, 10, .inl (fun _ => 0))), (n 43, .inl (cI, 10, .inl (fun _ => 0))), (n 9, .inr (4, [.ref (n 10), .ref (n 11), .ref (n 12), .ref (n 13), .ref (n 14), .ref (n 15)])), (n 10, .inl (cI, 100, .inl (fun _ => 0))), (n 11, .inl (cI, 100, .inl (fun _ => -1))), (n 14, .inl (cI, 100, .inl (fun _ => -1))), (n 16, .inr (5, [.ref (n 17), .ref (n 18), .ref (n 19), .ref (n 20), .ref (n 21), .ref (n 22), .int (-1)])), (n 17, .inl (cI, 100, .inl (fun _ => 0))), (n 18, .inl (cI, 100, .inl (fun _ => -1))), (n 19, .inl (cI, 100, .inl (fun _ => 0))), (n 20, .inl (cI, 100, .inl (fun _ => 0))), (n 21, .inl (cI, 100, .inl (fun _ => 0))), (n 22, .inl (cI, 400, .inl (fun _ => 0))), (n 23, .inr (3, [.int (nI 0), .ref (n 24), .ref (n 25), .ref (n 26), .ref (n 27), .ref (n 28), .ref (n 29), .ref (n 30), .ref (n 31)])), (n 24, .inl (cI, 200, .inl (fun _ => 0))), (n 25, .inl (cI, 200, .inl (fun _ => 0))), (n 26, .inl (cI, 200, .inl (fun _ => 0))), (n 27, .inl (cI, 200, .inl (fun _ => 0))), (n 29, .inl (cI, 200, .inl (fun _ => 0))), (n 32, .inl (cI, 256, .inl (fun _ => 0))), (n 33, .inr (1, [.int (nI 0), .int (nI 0), .int (nI 0), .int (nI 0), .int (nI 0), .int (nI 0), .int (nI 0), .int (nI 0), .int (nI 0), .int (nI 0), .int (nI 0), .int (nI 0), .null])), (n 28, .inl (cI, 200, .inl (fun _ => 0))), (o9, .inl (cJ, 1, .inr (.inl (fun _ => 0))))] sz)) (va_Qi (fun (r : Int32) (_ : Unit) => r = nI 0) (fun _ t9 => kB D (va_A [(x0, .inr (6, [.int (nI N), .ref (n 0), .ref (q 0), .ref (tr 0), .int (nI 0)])), (n 0, .inr (2, [.int (nI N), .int (nI 0), .ref (n 1), .ref (n 2), .ref (n 3), .ref (n 9), .ref (n 16), .ref (n 23), .int (nI 0), .ref (n 32), .int (nI 0), .ref (n 33)])), (n 1, .inl (cI, 8, .inl kPar)), (n 2, .inl (cI, 10, .inl (fun _ => 0))), (n 3, .inr (0, [.int (nI N), .ref (n 4), .ref (n 5), .ref (n 6), .ref (n 7), .ref (n 8), .null])), (n 4, .inl (cG, 10, .inr (.inr (.inr (.inr (kRows n)))))), (n 34, .inl (cI, 10, .inl (fun _ => 0))), (n 35, .inl (cI, 10, .inl (fun _ => 0))), (n 36, .inl (cI, 10, .inl (fun _ => 0))), (n 37, .inl (cI, 10, .inl (fun _ => 0))), (n 38, .inl (cI, 10, .inl (fun _ => 0))), (n 39, .inl (cI, 10, .inl (fun _ => 0))), (n 40, .inl (cI, 10, .inl (fun _ => 0))), (n 41, .inl (cI, 10, .inl (fun _ => 0))), (n 42, .inl (cI, 10, .inl (fun _ => 0))), (n 43, .inl (cI, 10, .inl (fun _ => 0))), (n 9, .inr (4, [.ref (n 10), .ref (n 11), .ref (n 12), .ref (n 13), .ref (n 14), .ref (n 15)])), (n 10, .inl (cI, 100, .inl (fun _ => 0))), (n 11, .inl (cI, 100, .inl (fun _ => -1))), (n 14, .inl (cI, 100, .inl (fun _ => -1))), (n 16, .inr (5, [.ref (n 17), .ref (n 18), .ref (n 19), .ref (n 20), .ref (n 21), .ref (n 22), .int (-1)])), (n 17, .inl (cI, 100, .inl (fun _ => 0))), (n 18, .inl (cI, 100, .inl (fun _ => -1))), (n 19, .inl (cI, 100, .inl (fun _ => 0))), (n 20, .inl (cI, 100, .inl (fun _ => 0))), (n 21, .inl (cI, 100, .inl (fun _ => 0))), (n 22, .inl (cI, 400, .inl (fun _ => 0))), (n 23, .inr (3, [.int (nI 0), .ref (n 24), .ref (n 25), .ref (n 26), .ref (n 27), .ref (n 28), .ref (n 29), .ref (n 30), .ref (n 31)])), (n 24, .inl (cI, 200, .inl (fun _ => 0))), (n 25, .inl (cI, 200, .inl (fun _ => 0))), (n 26, .inl (cI, 200, .inl (fun _ => 0))), (n 27, .inl (cI, 200, .inl (fun _ => 0))), (n 29, .inl (cI, 200, .inl (fun _ => 0))), (n 32, .inl (cI, 256, .inl (fun _ => 0))), (n 33, .inr (1, [.int (nI 0), .int (nI 0), .int (nI 0), .int (nI 0), .int (nI 0), .int (nI 0), .int (nI 0), .int (nI 0), .int (nI 0), .int (nI 0), .int (nI 0), .int (nI 0), .null])), (n 28, .inl (cI, 200, .inl (fun _ => 0))), (o9, .inl (cJ, 1, .inr (.inl (fun _ => 0))))] sz) [(o9, .inl (cJ, 1, .inr (.inl (vp_updL (fun _ => 0) 0 (lN 0)))))] t9) (va_A [(x0, .inr (6, [.int (nI N), .ref (n 0), .ref (q 0), .ref (tr 0), .int (nI 0)])), (n 0, .inr (2, [.int (nI N), .int (nI 0), .ref (n 1), .ref (n 2), .ref (n 3), .ref (n 9), .ref (n 16), .ref (n 23), .int (nI 0), .ref (n 32), .int (nI 0), .ref (n 33)])), (n 1, .inl (cI, 8, .inl kPar)), (n 2, .inl (cI, 10, .inl (fun _ => 0))), (n 3, .inr (0, [.int (nI N), .ref (n 4), .ref (n 5), .ref (n 6), .ref (n 7), .ref (n 8), .null])), (n 4, .inl (cG, 10, .inr (.inr (.inr (.inr (kRows n)))))), (n 34, .inl (cI, 10, .inl (fun _ => 0))), (n 35, .inl (cI, 10, .inl (fun _ => 0))), (n 36, .inl (cI, 10, .inl (fun _ => 0))), (n 37, .inl (cI, 10, .inl (fun _ => 0))), (n 38, .inl (cI, 10, .inl (fun _ => 0))), (n 39, .inl (cI, 10, .inl (fun _ => 0))), (n 40, .inl (cI, 10, .inl (fun _ => 0))), (n 41, .inl (cI, 10, .inl (fun _ => 0))), (n 42, .inl (cI, 10, .inl (fun _ => 0))), (n 43, .inl (cI, 10, .inl (fun _ => 0))), (n 9, .inr (4, [.ref (n 10), .ref (n 11), .ref (n 12), .ref (n 13), .ref (n 14), .ref (n 15)])), (n 10, .inl (cI, 100, .inl (fun _ => 0))), (n 11, .inl (cI, 100, .inl (fun _ => -1))), (n 14, .inl (cI, 100, .inl (fun _ => -1))), (n 16, .inr (5, [.ref (n 17), .ref (n 18), .ref (n 19), .ref (n 20), .ref (n 21), .ref (n 22), .int (-1)])), (n 17, .inl (cI, 100, .inl (fun _ => 0))), (n 18, .inl (cI, 100, .inl (fun _ => -1))), (n 19, .inl (cI, 100, .inl (fun _ => 0))), (n 20, .inl (cI, 100, .inl (fun _ => 0))), (n 21, .inl (cI, 100, .inl (fun _ => 0))), (n 22, .inl (cI, 400, .inl (fun _ => 0))), (n 23, .inr (3, [.int (nI 0), .ref (n 24), .ref (n 25), .ref (n 26), .ref (n 27), .ref (n 28), .ref (n 29), .ref (n 30), .ref (n 31)])), (n 24, .inl (cI, 200, .inl (fun _ => 0))), (n 25, .inl (cI, 200, .inl (fun _ => 0))), (n 26, .inl (cI, 200, .inl (fun _ => 0))), (n 27, .inl (cI, 200, .inl (fun _ => 0))), (n 29, .inl (cI, 200, .inl (fun _ => 0))), (n 32, .inl (cI, 256, .inl (fun _ => 0))), (n 33, .inr (1, [.int (nI 0), .int (nI 0), .int (nI 0), .int (nI 0), .int (nI 0), .int (nI 0), .int (nI 0), .int (nI 0), .int (nI 0), .int (nI 0), .int (nI 0), .int (nI 0), .null])), (n 28, .inl (cI, 200, .inl (fun _ => 0))), (o9, .inl (cJ, 1, .inr (.inl (fun _ => 0))))] sz)) 0 0 (va_A [(x0, .inr (6, [.int (nI N), .ref (n 0), .ref (q 0), .ref (tr 0), .int (nI 0)])), (n 0, .inr (2, [.int (nI N), .int (nI 0), .ref (n 1), .ref (n 2), .ref (n 3), .ref (n 9), .ref (n 16), .ref (n 23), .int (nI 0), .ref (n 32), .int (nI 0), .ref (n 33)])), (n 1, .inl (cI, 8, .inl kPar)), (n 2, .inl (cI, 10, .inl (fun _ => 0))), (n 3, .inr (0, [.int (nI N), .ref (n 4), .ref (n 5), .ref (n 6), .ref (n 7), .ref (n 8), .null])), (n 4, .inl (cG, 10, .inr (.inr (.inr (.inr (kRows n)))))), (n 34, .inl (cI, 10, .inl (fun _ => 0))), (n 35, .inl (cI, 10, .inl (fun _ => 0))), (n 36, .inl (cI, 10, .inl (fun _ => 0))), (n 37, .inl (cI, 10, .inl (fun _ => 0))), (n 38, .inl (cI, 10, .inl (fun _ => 0))), (n 39, .inl (cI, 10, .inl (fun _ => 0))), (n 40, .inl (cI, 10, .inl (fun _ => 0))), (n 41, .inl (cI, 10, .inl (fun _ => 0))), (n 42, .inl (cI, 10, .inl (fun _ => 0))), (n 43, .inl (cI, 10, .inl (fun _ => 0))), (n 9, .inr (4, [.ref (n 10), .ref (n 11), .ref (n 12), .ref (n 13), .ref (n 14), .ref (n 15)])), (n 10, .inl (cI, 100, .inl (fun _ => 0))), (n 11, .inl (cI, 100, .inl (fun _ => -1))), (n 14, .inl (cI, 100, .inl (fun _ => -1))), (n 16, .inr (5, [.ref (n 17), .ref (n 18), .ref (n 19), .ref (n 20), .ref (n 21), .ref (n 22), .int (-1)])), (n 17, .inl (cI, 100, .inl (fun _ => 0))), (n 18, .inl (cI, 100, .inl (fun _ => -1))), (n 19, .inl (cI, 100, .inl (fun _ => 0))), (n 20, .inl (cI, 100, .inl (fun _ => 0))), (n 21, .inl (cI, 100, .inl (fun _ => 0))), (n 22, .inl (cI, 400, .inl (fun _ => 0))), (n 23, .inr (3, [.int (nI 0), .ref (n 24), .ref (n 25), .ref (n 26), .ref (n 27), .ref (n 28), .ref (n 29), .ref (n 30), .ref (n 31)])), (n 24, .inl (cI, 200, .inl (fun _ => 0))), (n 25, .inl (cI, 200, .inl (fun _ => 0))), (n 26, .inl (cI, 200, .inl (fun _ => 0))), (n 27, .inl (cI, 200, .inl (fun _ => 0))), (n 29, .inl (cI, 200, .inl (fun _ => 0))), (n 32, .inl (cI, 256, .inl (fun _ => 0))), (n 33, .inr (1, [.int (nI 0), .int (nI 0), .int (nI 0), .int (nI 0), .int (nI 0), .int (nI 0), .int (nI 0), .int (nI 0), .int (nI 0), .int (nI 0), .int (nI 0), .int (nI 0), .null])), (n 28, .inl (cI, 200, .inl (fun _ => 0))), (o9, .inl (cJ, 1, .inr (.inl (fun _ => 0))))] sz) := by
  refine va_MetW (cc := cL_send) (maxL := 5) (ret := (some .int)) (hh := [(0, 10, 13, 13), (0, 10, 17, 15), (0, 10, 21, 27)]) (by decide) rfl ?_
  intro p e s m args below meth c s₁ B hml hv
  obtain ⟨rfl, ⟨hsz, hP, hK, hD0, hKN⟩⟩ := hv
  have hx := B.exec
  have hb := B.bytes
  have hr := B.returns
  have hts := atoms_spec (ws := (Cond.codeWith yL_send cL_send 5 (some .int) [(0, 10, 13, 13), (0, 10, 17, 15), (0, 10, 21, 27)] :: kBig)) B.pre
  have hown : s.vm.findClass RL = some m.cls := findClass_of_methodNamed B.named
  have hlocks := B.notSynchronized
  have htab := vx_table (x := yL_send) B (hts _ List.mem_cons_self)
  subst hsz
  have hD := hD0.self (sz := s.heap.size)
  generalize hAe : va_A [(x0, .inr (6, [.int (nI N), .ref (n 0), .ref (q 0), .ref (tr 0), .int (nI 0)])), (n 0, .inr (2, [.int (nI N), .int (nI 0), .ref (n 1), .ref (n 2), .ref (n 3), .ref (n 9), .ref (n 16), .ref (n 23), .int (nI 0), .ref (n 32), .int (nI 0), .ref (n 33)])), (n 1, .inl (cI, 8, .inl kPar)), (n 2, .inl (cI, 10, .inl (fun _ => 0))), (n 3, .inr (0, [.int (nI N), .ref (n 4), .ref (n 5), .ref (n 6), .ref (n 7), .ref (n 8), .null])), (n 4, .inl (cG, 10, .inr (.inr (.inr (.inr (kRows n)))))), (n 34, .inl (cI, 10, .inl (fun _ => 0))), (n 35, .inl (cI, 10, .inl (fun _ => 0))), (n 36, .inl (cI, 10, .inl (fun _ => 0))), (n 37, .inl (cI, 10, .inl (fun _ => 0))), (n 38, .inl (cI, 10, .inl (fun _ => 0))), (n 39, .inl (cI, 10, .inl (fun _ => 0))), (n 40, .inl (cI, 10, .inl (fun _ => 0))), (n 41, .inl (cI, 10, .inl (fun _ => 0))), (n 42, .inl (cI, 10, .inl (fun _ => 0))), (n 43, .inl (cI, 10, .inl (fun _ => 0))), (n 9, .inr (4, [.ref (n 10), .ref (n 11), .ref (n 12), .ref (n 13), .ref (n 14), .ref (n 15)])), (n 10, .inl (cI, 100, .inl (fun _ => 0))), (n 11, .inl (cI, 100, .inl (fun _ => -1))), (n 14, .inl (cI, 100, .inl (fun _ => -1))), (n 16, .inr (5, [.ref (n 17), .ref (n 18), .ref (n 19), .ref (n 20), .ref (n 21), .ref (n 22), .int (-1)])), (n 17, .inl (cI, 100, .inl (fun _ => 0))), (n 18, .inl (cI, 100, .inl (fun _ => -1))), (n 19, .inl (cI, 100, .inl (fun _ => 0))), (n 20, .inl (cI, 100, .inl (fun _ => 0))), (n 21, .inl (cI, 100, .inl (fun _ => 0))), (n 22, .inl (cI, 400, .inl (fun _ => 0))), (n 23, .inr (3, [.int (nI 0), .ref (n 24), .ref (n 25), .ref (n 26), .ref (n 27), .ref (n 28), .ref (n 29), .ref (n 30), .ref (n 31)])), (n 24, .inl (cI, 200, .inl (fun _ => 0))), (n 25, .inl (cI, 200, .inl (fun _ => 0))), (n 26, .inl (cI, 200, .inl (fun _ => 0))), (n 27, .inl (cI, 200, .inl (fun _ => 0))), (n 29, .inl (cI, 200, .inl (fun _ => 0))), (n 32, .inl (cI, 256, .inl (fun _ => 0))), (n 33, .inr (1, [.int (nI 0), .int (nI 0), .int (nI 0), .int (nI 0), .int (nI 0), .int (nI 0), .int (nI 0), .int (nI 0), .int (nI 0), .int (nI 0), .int (nI 0), .int (nI 0), .null])), (n 28, .inl (cI, 200, .inl (fun _ => 0))), (o9, .inl (cJ, 1, .inr (.inl (fun _ => 0))))] s.heap.size = A at hD ⊢
  have hA : ∀ q : Nat, s.heap.size ≤ q → A q := fun q h => by rw [← hAe]; exact Or.inr h
  have hS : va_S A s.heap s.heap [] := va_S.rf
  have hl := lv_entry ([.ref x0, .int (nI a), .int (nI b), .ref o9]) (n := 5) (Nat.le_of_ble_eq_true rfl)
  rw [lg_entry_eq]
  generalize (lg_sl ([.ref x0, .int (nI a), .int (nI b), .ref o9]) ++ List.replicate (5 - (lg_sl ([.ref x0, .int (nI a), .int (nI b), .ref o9])).length) Slot.unset).toArray = ls at hl ⊢
  have hl : lv_has ls 5 [(0, .ref x0), (1, .int (nI a)), (2, .int (nI b)), (3, .ref o9)] := hl
  refine lv_aload_n hx hb dL_send_0 rfl (lv_at hl 3 rfl) ?_
  refine lv_iconst (v := nI 0) hx hb dL_send_1 (by decide) ?_
  refine lv_aload_n hx hb dL_send_2 rfl (lv_at hl 0 rfl) ?_
  refine lv_iload_n hx hb dL_send_3 rfl (lv_at hl 1 rfl) ?_
  refine lv_iload_n hx hb dL_send_4 rfl (lv_at hl 2 rfl) ?_
  refine k_ci (wr := [(o9, .inl (cJ, 1, .inr (.inl (fun _ => 0))))]) (w1 := []) (va_runV (As := [.int (nI a), .int (nI b)]) (rest := [.int (nI 0), .ref o9]) ⟨hx, hb, hml, hown, hts⟩ (c_X6_send l D cI cJ cM cG x0 n q tr N a b s.heap.size (ha) (hb9) (hN) (hab)) (cwV 2 hts (kB_V (fun _ => List.mem_cons_of_mem _) q_544 q_545 q_546 q_9 (kB_c q_547)) rfl rfl rfl (by decide +kernel) ⟨Nat.le_of_ble_eq_true rfl, Nat.le_of_ble_eq_true rfl⟩) (k_preV (T := TX6) hP hD hK hKN [0, 1, 2, 3, 4, 5, 6, 7, 8, 9, 10, 11, 12, 13, 14, 15, 16, 17, 18, 19, 20, 21, 22, 23, 24, 25, 26, 27, 28, 29, 30, 31, 32, 33, 34, 35] rfl rfl (ci := 6) rfl (q0 := 0) rfl) rfl rfl hl.1 rfl (lv_room (Nat.le_of_ble_eq_true rfl)) dL_send_5 ⟨Nat.le_of_ble_eq_true rfl, Nat.le_of_ble_eq_true rfl⟩) hP hD hS hA [0, 1, 2, 3, 4, 5, 6, 7, 8, 9, 10, 11, 12, 13, 14, 15, 16, 17, 18, 19, 20, 21, 22, 23, 24, 25, 26, 27, 28, 29, 30, 31, 32, 33, 34, 35] [36] rfl rfl rfl (by decide) (fun r5 H locs hw5 hP hD hS => ?_)
  replace hP : va_P D vwCl [(o9, .inl (cJ, 1, .inr (.inl (fun _ => 0))))] H := hP
  replace hD : va_D A [(o9, .inl (cJ, 1, .inr (.inl (fun _ => 0))))] := hD
  replace hw5 : r5 = nI 0 := hw5
  refine k_ti hw5 ?_
  refine lv_i2l (v := lN 0) hx hb dL_send_8 (by decide) ?_
  refine k_last (f' := vp_updL (fun _ => 0) 0 (lN 0)) hx hb hK hP hD hS 0 1 rfl rfl (by omega) (by omega) (rfl) dL_send_9 (fun H locs hP hD hS => ?_)
  replace hP : va_P D vwCl [(o9, .inl (cJ, 1, .inr (.inl (vp_updL (fun _ => 0) 0 (lN 0)))))] H := hP
  replace hD : va_D A [(o9, .inl (cJ, 1, .inr (.inl (vp_updL (fun _ => 0) 0 (lN 0)))))] := hD
  refine lv_goto (tgt := 25) hx hb dL_send_10 (by decide) ?_
  refine lv_iconst (v := nI 0) hx hb dL_send_25 (by decide) ?_
  have hP9 := hP.sub (ws' := [(o9, .inl (cJ, 1, .inr (.inl (vp_updL (fun _ => 0) 0 (lN 0)))))]) [0] rfl
  have hD9 := hD.sub (ws' := [(o9, .inl (cJ, 1, .inr (.inl (vp_updL (fun _ => 0) 0 (lN 0)))))]) [0] rfl rfl
  exact W.iret (v := nI 0) hx hb hr (fun t9 ht9 hW9 => ⟨⟨nI 0, (), rfl, rfl, by rw [ht9]; exact hP9, hD9⟩, hS.F ht9⟩) hS.2.2 dL_send_26

set_option maxHeartbeats 4000000 in
set_option maxRecDepth 100000 in
theorem c_L_run1 (l : Launch) (D : va_G) (cI cJ cM cG : ClassId) (x0 : Nat) (n : Nat → Nat) (q : Nat → Nat) (tr : Nat → Nat) (N : Nat) (u : Nat) (o9 : Nat) (sz : Nat) (hu : u ≤ 100000) : Met l yL_run (Cond.codeWith yL_run cL_run 4 (some .int) [(0, 9, 12, 15)] :: kBig) ({ frames := 5, cells := 0, slots := 0, locals := 110 }) (va_Pc [.ref x0, .int (nI u), .ref o9] (kP D [(cI, .int), (cJ, .long), (cM, .object "MeshRouting$Message"), (cG, .array .int)] [(x0, .inr (6, [.int (nI N), .ref (n 0), .ref (q 0), .ref (tr 0), .int (nI 0)])), (n 0, .inr (2, [.int (nI N), .int (nI 0), .ref (n 1), .ref (n 2), .ref (n 3), .ref (n 9), .ref (n 16), .ref (n 23), .int (nI 0), .ref (n 32), .int (nI 0), .ref (n 33)])), (n 3, .inr (0, [.int (nI N), .ref (n 4), .ref (n 5), .ref (n 6), .ref (n 7), .ref (n 8), .null])), (n 7, .inl (cM, 10, .inr (.inr (.inr (.inr (fun _ => none)))))), (n 16, .inr (5, [.ref (n 17), .ref (n 18), .ref (n 19), .ref (n 20), .ref (n 21), .ref (n 22), .int (-1)])), (n 18, .inl (cI, 100, .inl (fun _ => -1))), (o9, .inl (cJ, 1, .inr (.inl (fun _ => 0))))] sz)) (va_Qi (fun (r : Int32) (_ : Unit) => r = nI 0) (fun _ t9 => kB D (va_A [(x0, .inr (6, [.int (nI N), .ref (n 0), .ref (q 0), .ref (tr 0), .int (nI 0)])), (n 0, .inr (2, [.int (nI N), .int (nI 0), .ref (n 1), .ref (n 2), .ref (n 3), .ref (n 9), .ref (n 16), .ref (n 23), .int (nI 0), .ref (n 32), .int (nI 0), .ref (n 33)])), (n 3, .inr (0, [.int (nI N), .ref (n 4), .ref (n 5), .ref (n 6), .ref (n 7), .ref (n 8), .null])), (n 7, .inl (cM, 10, .inr (.inr (.inr (.inr (fun _ => none)))))), (n 16, .inr (5, [.ref (n 17), .ref (n 18), .ref (n 19), .ref (n 20), .ref (n 21), .ref (n 22), .int (-1)])), (n 18, .inl (cI, 100, .inl (fun _ => -1))), (o9, .inl (cJ, 1, .inr (.inl (fun _ => 0))))] sz) [(o9, .inl (cJ, 1, .inr (.inl (vp_updL (fun _ => 0) 0 (lN 0)))))] t9) (va_A [(x0, .inr (6, [.int (nI N), .ref (n 0), .ref (q 0), .ref (tr 0), .int (nI 0)])), (n 0, .inr (2, [.int (nI N), .int (nI 0), .ref (n 1), .ref (n 2), .ref (n 3), .ref (n 9), .ref (n 16), .ref (n 23), .int (nI 0), .ref (n 32), .int (nI 0), .ref (n 33)])), (n 3, .inr (0, [.int (nI N), .ref (n 4), .ref (n 5), .ref (n 6), .ref (n 7), .ref (n 8), .null])), (n 7, .inl (cM, 10, .inr (.inr (.inr (.inr (fun _ => none)))))), (n 16, .inr (5, [.ref (n 17), .ref (n 18), .ref (n 19), .ref (n 20), .ref (n 21), .ref (n 22), .int (-1)])), (n 18, .inl (cI, 100, .inl (fun _ => -1))), (o9, .inl (cJ, 1, .inr (.inl (fun _ => 0))))] sz)) 0 0 (va_A [(x0, .inr (6, [.int (nI N), .ref (n 0), .ref (q 0), .ref (tr 0), .int (nI 0)])), (n 0, .inr (2, [.int (nI N), .int (nI 0), .ref (n 1), .ref (n 2), .ref (n 3), .ref (n 9), .ref (n 16), .ref (n 23), .int (nI 0), .ref (n 32), .int (nI 0), .ref (n 33)])), (n 3, .inr (0, [.int (nI N), .ref (n 4), .ref (n 5), .ref (n 6), .ref (n 7), .ref (n 8), .null])), (n 7, .inl (cM, 10, .inr (.inr (.inr (.inr (fun _ => none)))))), (n 16, .inr (5, [.ref (n 17), .ref (n 18), .ref (n 19), .ref (n 20), .ref (n 21), .ref (n 22), .int (-1)])), (n 18, .inl (cI, 100, .inl (fun _ => -1))), (o9, .inl (cJ, 1, .inr (.inl (fun _ => 0))))] sz) := by
  refine va_MetW (cc := cL_run) (maxL := 4) (ret := (some .int)) (hh := [(0, 9, 12, 15)]) (by decide) rfl ?_
  intro p e s m args below meth c s₁ B hml hv
  obtain ⟨rfl, ⟨hsz, hP, hK, hD0, hKN⟩⟩ := hv
  have hx := B.exec
  have hb := B.bytes
  have hr := B.returns
  have hts := atoms_spec (ws := (Cond.codeWith yL_run cL_run 4 (some .int) [(0, 9, 12, 15)] :: kBig)) B.pre
  have hown : s.vm.findClass RL = some m.cls := findClass_of_methodNamed B.named
  have hlocks := B.notSynchronized
  have htab := vx_table (x := yL_run) B (hts _ List.mem_cons_self)
  subst hsz
  have hD := hD0.self (sz := s.heap.size)
  generalize hAe : va_A [(x0, .inr (6, [.int (nI N), .ref (n 0), .ref (q 0), .ref (tr 0), .int (nI 0)])), (n 0, .inr (2, [.int (nI N), .int (nI 0), .ref (n 1), .ref (n 2), .ref (n 3), .ref (n 9), .ref (n 16), .ref (n 23), .int (nI 0), .ref (n 32), .int (nI 0), .ref (n 33)])), (n 3, .inr (0, [.int (nI N), .ref (n 4), .ref (n 5), .ref (n 6), .ref (n 7), .ref (n 8), .null])), (n 7, .inl (cM, 10, .inr (.inr (.inr (.inr (fun _ => none)))))), (n 16, .inr (5, [.ref (n 17), .ref (n 18), .ref (n 19), .ref (n 20), .ref (n 21), .ref (n 22), .int (-1)])), (n 18, .inl (cI, 100, .inl (fun _ => -1))), (o9, .inl (cJ, 1, .inr (.inl (fun _ => 0))))] s.heap.size = A at hD ⊢
  have hA : ∀ q : Nat, s.heap.size ≤ q → A q := fun q h => by rw [← hAe]; exact Or.inr h
  have hS : va_S A s.heap s.heap [] := va_S.rf
  have hl := lv_entry ([.ref x0, .int (nI u), .ref o9]) (n := 4) (Nat.le_of_ble_eq_true rfl)
  rw [lg_entry_eq]
  generalize (lg_sl ([.ref x0, .int (nI u), .ref o9]) ++ List.replicate (4 - (lg_sl ([.ref x0, .int (nI u), .ref o9])).length) Slot.unset).toArray = ls at hl ⊢
  have hl : lv_has ls 4 [(0, .ref x0), (1, .int (nI u)), (2, .ref o9)] := hl
  refine lv_aload_n hx hb dL_run_0 rfl (lv_at hl 2 rfl) ?_
  refine lv_iconst (v := nI 0) hx hb dL_run_1 (by decide) ?_
  refine lv_aload_n hx hb dL_run_2 rfl (lv_at hl 0 rfl) ?_
  refine lv_iload_n hx hb dL_run_3 rfl (lv_at hl 1 rfl) ?_
  refine k_ci (wr := [(o9, .inl (cJ, 1, .inr (.inl (fun _ => 0))))]) (w1 := []) (va_runV (As := [.int (nI u)]) (rest := [.int (nI 0), .ref o9]) ⟨hx, hb, hml, hown, hts⟩ (c_X6_run l D cI cJ cM cG x0 n q tr N u s.heap.size (hu)) (cwV 1 hts (kB_V (fun _ => List.mem_cons_of_mem _) q_533 q_534 q_535 q_9 (kB_c q_536)) rfl rfl rfl (by decide +kernel) ⟨Nat.le_of_ble_eq_true rfl, Nat.le_of_ble_eq_true rfl⟩) (k_preV (T := TX6) hP hD hK hKN [0, 1, 2, 3, 4, 5] rfl rfl (ci := 6) rfl (q0 := 0) rfl) rfl rfl hl.1 rfl (lv_room (Nat.le_of_ble_eq_true rfl)) dL_run_4 ⟨Nat.le_of_ble_eq_true rfl, Nat.le_of_ble_eq_true rfl⟩) hP hD hS hA [0, 1, 2, 3, 4, 5] [6] rfl rfl rfl (by decide) (fun r4 H locs hw4 hP hD hS => ?_)
  replace hP : va_P D vwCl [(o9, .inl (cJ, 1, .inr (.inl (fun _ => 0))))] H := hP
  replace hD : va_D A [(o9, .inl (cJ, 1, .inr (.inl (fun _ => 0))))] := hD
  replace hw4 : r4 = nI 0 := hw4
  refine k_ti hw4 ?_
  refine lv_i2l (v := lN 0) hx hb dL_run_7 (by decide) ?_
  refine k_last (f' := vp_updL (fun _ => 0) 0 (lN 0)) hx hb hK hP hD hS 0 1 rfl rfl (by omega) (by omega) (rfl) dL_run_8 (fun H locs hP hD hS => ?_)
  replace hP : va_P D vwCl [(o9, .inl (cJ, 1, .inr (.inl (vp_updL (fun _ => 0) 0 (lN 0)))))] H := hP
  replace hD : va_D A [(o9, .inl (cJ, 1, .inr (.inl (vp_updL (fun _ => 0) 0 (lN 0)))))] := hD
  refine lv_goto (tgt := 15) hx hb dL_run_9 (by decide) ?_
  refine lv_iconst (v := nI 0) hx hb dL_run_15 (by decide) ?_
  have hP9 := hP.sub (ws' := [(o9, .inl (cJ, 1, .inr (.inl (vp_updL (fun _ => 0) 0 (lN 0)))))]) [0] rfl
  have hD9 := hD.sub (ws' := [(o9, .inl (cJ, 1, .inr (.inl (vp_updL (fun _ => 0) 0 (lN 0)))))]) [0] rfl rfl
  exact W.iret (v := nI 0) hx hb hr (fun t9 ht9 hW9 => ⟨⟨nI 0, (), rfl, rfl, by rw [ht9]; exact hP9, hD9⟩, hS.F ht9⟩) hS.2.2 dL_run_16

set_option maxHeartbeats 4000000 in
set_option maxRecDepth 100000 in
theorem c_L_inFlight1 (l : Launch) (D : va_G) (cI cJ cM cG : ClassId) (x0 : Nat) (n : Nat → Nat) (q : Nat → Nat) (tr : Nat → Nat) (N : Nat) (k : Nat) (o9 : Nat) (sz : Nat) (hk : k < 4) : Met l yL_inFlight (Cond.codeWith yL_inFlight cL_inFlight 4 (some .int) [(0, 9, 12, 13)] :: kBig) ({ frames := 2, cells := 0, slots := 0, locals := 42 }) (va_Pc [.ref x0, .int (nI k), .ref o9] (kP D [(cI, .int), (cJ, .long), (cM, .object "MeshRouting$Message"), (cG, .array .int)] [(x0, .inr (6, [.int (nI N), .ref (n 0), .ref (q 0), .ref (tr 0), .int (nI 0)])), (n 0, .inr (2, [.int (nI N), .int (nI 0), .ref (n 1), .ref (n 2), .ref (n 3), .ref (n 9), .ref (n 16), .ref (n 23), .int (nI 0), .ref (n 32), .int (nI 0), .ref (n 33)])), (n 3, .inr (0, [.int (nI N), .ref (n 4), .ref (n 5), .ref (n 6), .ref (n 7), .ref (n 8), .null])), (n 5, .inl (cI, 4, .inl (fun _ => 0))), (o9, .inl (cJ, 1, .inr (.inl (fun _ => 0))))] sz)) (va_Qi (fun (r : Int32) (_ : Unit) => r = nI 0) (fun _ t9 => kB D (va_A [(x0, .inr (6, [.int (nI N), .ref (n 0), .ref (q 0), .ref (tr 0), .int (nI 0)])), (n 0, .inr (2, [.int (nI N), .int (nI 0), .ref (n 1), .ref (n 2), .ref (n 3), .ref (n 9), .ref (n 16), .ref (n 23), .int (nI 0), .ref (n 32), .int (nI 0), .ref (n 33)])), (n 3, .inr (0, [.int (nI N), .ref (n 4), .ref (n 5), .ref (n 6), .ref (n 7), .ref (n 8), .null])), (n 5, .inl (cI, 4, .inl (fun _ => 0))), (o9, .inl (cJ, 1, .inr (.inl (fun _ => 0))))] sz) [(o9, .inl (cJ, 1, .inr (.inl (vp_updL (fun _ => 0) 0 (lN 0)))))] t9) (va_A [(x0, .inr (6, [.int (nI N), .ref (n 0), .ref (q 0), .ref (tr 0), .int (nI 0)])), (n 0, .inr (2, [.int (nI N), .int (nI 0), .ref (n 1), .ref (n 2), .ref (n 3), .ref (n 9), .ref (n 16), .ref (n 23), .int (nI 0), .ref (n 32), .int (nI 0), .ref (n 33)])), (n 3, .inr (0, [.int (nI N), .ref (n 4), .ref (n 5), .ref (n 6), .ref (n 7), .ref (n 8), .null])), (n 5, .inl (cI, 4, .inl (fun _ => 0))), (o9, .inl (cJ, 1, .inr (.inl (fun _ => 0))))] sz)) 0 0 (va_A [(x0, .inr (6, [.int (nI N), .ref (n 0), .ref (q 0), .ref (tr 0), .int (nI 0)])), (n 0, .inr (2, [.int (nI N), .int (nI 0), .ref (n 1), .ref (n 2), .ref (n 3), .ref (n 9), .ref (n 16), .ref (n 23), .int (nI 0), .ref (n 32), .int (nI 0), .ref (n 33)])), (n 3, .inr (0, [.int (nI N), .ref (n 4), .ref (n 5), .ref (n 6), .ref (n 7), .ref (n 8), .null])), (n 5, .inl (cI, 4, .inl (fun _ => 0))), (o9, .inl (cJ, 1, .inr (.inl (fun _ => 0))))] sz) := by
  refine va_MetW (cc := cL_inFlight) (maxL := 4) (ret := (some .int)) (hh := [(0, 9, 12, 13)]) (by decide) rfl ?_
  intro p e s m args below meth c s₁ B hml hv
  obtain ⟨rfl, ⟨hsz, hP, hK, hD0, hKN⟩⟩ := hv
  have hx := B.exec
  have hb := B.bytes
  have hr := B.returns
  have hts := atoms_spec (ws := (Cond.codeWith yL_inFlight cL_inFlight 4 (some .int) [(0, 9, 12, 13)] :: kBig)) B.pre
  have hown : s.vm.findClass RL = some m.cls := findClass_of_methodNamed B.named
  have hlocks := B.notSynchronized
  have htab := vx_table (x := yL_inFlight) B (hts _ List.mem_cons_self)
  subst hsz
  have hD := hD0.self (sz := s.heap.size)
  generalize hAe : va_A [(x0, .inr (6, [.int (nI N), .ref (n 0), .ref (q 0), .ref (tr 0), .int (nI 0)])), (n 0, .inr (2, [.int (nI N), .int (nI 0), .ref (n 1), .ref (n 2), .ref (n 3), .ref (n 9), .ref (n 16), .ref (n 23), .int (nI 0), .ref (n 32), .int (nI 0), .ref (n 33)])), (n 3, .inr (0, [.int (nI N), .ref (n 4), .ref (n 5), .ref (n 6), .ref (n 7), .ref (n 8), .null])), (n 5, .inl (cI, 4, .inl (fun _ => 0))), (o9, .inl (cJ, 1, .inr (.inl (fun _ => 0))))] s.heap.size = A at hD ⊢
  have hA : ∀ q : Nat, s.heap.size ≤ q → A q := fun q h => by rw [← hAe]; exact Or.inr h
  have hS : va_S A s.heap s.heap [] := va_S.rf
  have hl := lv_entry ([.ref x0, .int (nI k), .ref o9]) (n := 4) (Nat.le_of_ble_eq_true rfl)
  rw [lg_entry_eq]
  generalize (lg_sl ([.ref x0, .int (nI k), .ref o9]) ++ List.replicate (4 - (lg_sl ([.ref x0, .int (nI k), .ref o9])).length) Slot.unset).toArray = ls at hl ⊢
  have hl : lv_has ls 4 [(0, .ref x0), (1, .int (nI k)), (2, .ref o9)] := hl
  refine lv_aload_n hx hb dL_inFlight_0 rfl (lv_at hl 2 rfl) ?_
  refine lv_iconst (v := nI 0) hx hb dL_inFlight_1 (by decide) ?_
  refine lv_aload_n hx hb dL_inFlight_2 rfl (lv_at hl 0 rfl) ?_
  refine lv_iload_n hx hb dL_inFlight_3 rfl (lv_at hl 1 rfl) ?_
  refine k_ci (wr := [(o9, .inl (cJ, 1, .inr (.inl (fun _ => 0))))]) (w1 := [(x0, .inr (6, [.int (nI N), .ref (n 0), .ref (q 0), .ref (tr 0), .int (nI 0)])), (n 0, .inr (2, [.int (nI N), .int (nI 0), .ref (n 1), .ref (n 2), .ref (n 3), .ref (n 9), .ref (n 16), .ref (n 23), .int (nI 0), .ref (n 32), .int (nI 0), .ref (n 33)])), (n 3, .inr (0, [.int (nI N), .ref (n 4), .ref (n 5), .ref (n 6), .ref (n 7), .ref (n 8), .null])), (n 5, .inl (cI, 4, .inl (fun _ => 0)))]) (va_runV (As := [.int (nI k)]) (rest := [.int (nI 0), .ref o9]) ⟨hx, hb, hml, hown, hts⟩ (c_X6_inFlight l D cI cJ cM cG x0 n q tr N k s.heap.size (hk)) (cwV 1 hts (kB_V (fun _ => List.mem_cons_of_mem _) q_487 q_488 q_489 q_9 (kB_c q_490)) rfl rfl rfl (by decide +kernel) ⟨Nat.le_of_ble_eq_true rfl, Nat.le_of_ble_eq_true rfl⟩) (k_preV (T := TX6) hP hD hK hKN [0, 1, 2, 3] rfl rfl (ci := 6) rfl (q0 := 0) rfl) rfl rfl hl.1 rfl (lv_room (Nat.le_of_ble_eq_true rfl)) dL_inFlight_4 ⟨Nat.le_of_ble_eq_true rfl, Nat.le_of_ble_eq_true rfl⟩) hP hD hS hA [0, 1, 2, 3] [4] rfl rfl rfl (by decide) (fun r4 H locs hw4 hP hD hS => ?_)
  replace hP : va_P D vwCl [(o9, .inl (cJ, 1, .inr (.inl (fun _ => 0)))), (x0, .inr (6, [.int (nI N), .ref (n 0), .ref (q 0), .ref (tr 0), .int (nI 0)])), (n 0, .inr (2, [.int (nI N), .int (nI 0), .ref (n 1), .ref (n 2), .ref (n 3), .ref (n 9), .ref (n 16), .ref (n 23), .int (nI 0), .ref (n 32), .int (nI 0), .ref (n 33)])), (n 3, .inr (0, [.int (nI N), .ref (n 4), .ref (n 5), .ref (n 6), .ref (n 7), .ref (n 8), .null])), (n 5, .inl (cI, 4, .inl (fun _ => 0)))] H := hP
  replace hD : va_D A [(o9, .inl (cJ, 1, .inr (.inl (fun _ => 0)))), (x0, .inr (6, [.int (nI N), .ref (n 0), .ref (q 0), .ref (tr 0), .int (nI 0)])), (n 0, .inr (2, [.int (nI N), .int (nI 0), .ref (n 1), .ref (n 2), .ref (n 3), .ref (n 9), .ref (n 16), .ref (n 23), .int (nI 0), .ref (n 32), .int (nI 0), .ref (n 33)])), (n 3, .inr (0, [.int (nI N), .ref (n 4), .ref (n 5), .ref (n 6), .ref (n 7), .ref (n 8), .null])), (n 5, .inl (cI, 4, .inl (fun _ => 0)))] := hD
  replace hw4 : r4 = nI 0 := hw4
  refine k_ti hw4 ?_
  refine lv_i2l (v := lN 0) hx hb dL_inFlight_7 (by decide) ?_
  refine k_last (f' := vp_updL (fun _ => 0) 0 (lN 0)) hx hb hK hP hD hS 0 1 rfl rfl (by omega) (by omega) (rfl) dL_inFlight_8 (fun H locs hP hD hS => ?_)
  replace hP : va_P D vwCl [(o9, .inl (cJ, 1, .inr (.inl (vp_updL (fun _ => 0) 0 (lN 0))))), (x0, .inr (6, [.int (nI N), .ref (n 0), .ref (q 0), .ref (tr 0), .int (nI 0)])), (n 0, .inr (2, [.int (nI N), .int (nI 0), .ref (n 1), .ref (n 2), .ref (n 3), .ref (n 9), .ref (n 16), .ref (n 23), .int (nI 0), .ref (n 32), .int (nI 0), .ref (n 33)])), (n 3, .inr (0, [.int (nI N), .ref (n 4), .ref (n 5), .ref (n 6), .ref (n 7), .ref (n 8), .null])), (n 5, .inl (cI, 4, .inl (fun _ => 0)))] H := hP
  replace hD : va_D A [(o9, .inl (cJ, 1, .inr (.inl (vp_updL (fun _ => 0) 0 (lN 0))))), (x0, .inr (6, [.int (nI N), .ref (n 0), .ref (q 0), .ref (tr 0), .int (nI 0)])), (n 0, .inr (2, [.int (nI N), .int (nI 0), .ref (n 1), .ref (n 2), .ref (n 3), .ref (n 9), .ref (n 16), .ref (n 23), .int (nI 0), .ref (n 32), .int (nI 0), .ref (n 33)])), (n 3, .inr (0, [.int (nI N), .ref (n 4), .ref (n 5), .ref (n 6), .ref (n 7), .ref (n 8), .null])), (n 5, .inl (cI, 4, .inl (fun _ => 0)))] := hD
  refine lv_goto (tgt := 15) hx hb dL_inFlight_9 (by decide) ?_
  refine lv_iconst (v := nI 0) hx hb dL_inFlight_15 (by decide) ?_
  have hP9 := hP.sub (ws' := [(o9, .inl (cJ, 1, .inr (.inl (vp_updL (fun _ => 0) 0 (lN 0)))))]) [0] rfl
  have hD9 := hD.sub (ws' := [(o9, .inl (cJ, 1, .inr (.inl (vp_updL (fun _ => 0) 0 (lN 0)))))]) [0] rfl rfl
  exact W.iret (v := nI 0) hx hb hr (fun t9 ht9 hW9 => ⟨⟨nI 0, (), rfl, rfl, by rw [ht9]; exact hP9, hD9⟩, hS.F ht9⟩) hS.2.2 dL_inFlight_16

set_option maxHeartbeats 4000000 in
set_option maxRecDepth 100000 in
theorem c_L_sent1 (l : Launch) (D : va_G) (cI cJ cM cG : ClassId) (x0 : Nat) (n : Nat → Nat) (q : Nat → Nat) (tr : Nat → Nat) (N : Nat) (k : Nat) (o9 : Nat) (sz : Nat) (hk : k < 4) : Met l yL_sent (Cond.codeWith yL_sent cL_sent 4 (some .int) [(0, 9, 12, 13)] :: kBig) ({ frames := 2, cells := 0, slots := 0, locals := 42 }) (va_Pc [.ref x0, .int (nI k), .ref o9] (kP D [(cI, .int), (cJ, .long), (cM, .object "MeshRouting$Message"), (cG, .array .int)] [(x0, .inr (6, [.int (nI N), .ref (n 0), .ref (q 0), .ref (tr 0), .int (nI 0)])), (n 0, .inr (2, [.int (nI N), .int (nI 0), .ref (n 1), .ref (n 2), .ref (n 3), .ref (n 9), .ref (n 16), .ref (n 23), .int (nI 0), .ref (n 32), .int (nI 0), .ref (n 33)])), (n 3, .inr (0, [.int (nI N), .ref (n 4), .ref (n 5), .ref (n 6), .ref (n 7), .ref (n 8), .null])), (n 6, .inl (cI, 4, .inl (fun _ => 0))), (o9, .inl (cJ, 1, .inr (.inl (fun _ => 0))))] sz)) (va_Qi (fun (r : Int32) (_ : Unit) => r = nI 0) (fun _ t9 => kB D (va_A [(x0, .inr (6, [.int (nI N), .ref (n 0), .ref (q 0), .ref (tr 0), .int (nI 0)])), (n 0, .inr (2, [.int (nI N), .int (nI 0), .ref (n 1), .ref (n 2), .ref (n 3), .ref (n 9), .ref (n 16), .ref (n 23), .int (nI 0), .ref (n 32), .int (nI 0), .ref (n 33)])), (n 3, .inr (0, [.int (nI N), .ref (n 4), .ref (n 5), .ref (n 6), .ref (n 7), .ref (n 8), .null])), (n 6, .inl (cI, 4, .inl (fun _ => 0))), (o9, .inl (cJ, 1, .inr (.inl (fun _ => 0))))] sz) [(o9, .inl (cJ, 1, .inr (.inl (vp_updL (fun _ => 0) 0 (lN 0)))))] t9) (va_A [(x0, .inr (6, [.int (nI N), .ref (n 0), .ref (q 0), .ref (tr 0), .int (nI 0)])), (n 0, .inr (2, [.int (nI N), .int (nI 0), .ref (n 1), .ref (n 2), .ref (n 3), .ref (n 9), .ref (n 16), .ref (n 23), .int (nI 0), .ref (n 32), .int (nI 0), .ref (n 33)])), (n 3, .inr (0, [.int (nI N), .ref (n 4), .ref (n 5), .ref (n 6), .ref (n 7), .ref (n 8), .null])), (n 6, .inl (cI, 4, .inl (fun _ => 0))), (o9, .inl (cJ, 1, .inr (.inl (fun _ => 0))))] sz)) 0 0 (va_A [(x0, .inr (6, [.int (nI N), .ref (n 0), .ref (q 0), .ref (tr 0), .int (nI 0)])), (n 0, .inr (2, [.int (nI N), .int (nI 0), .ref (n 1), .ref (n 2), .ref (n 3), .ref (n 9), .ref (n 16), .ref (n 23), .int (nI 0), .ref (n 32), .int (nI 0), .ref (n 33)])), (n 3, .inr (0, [.int (nI N), .ref (n 4), .ref (n 5), .ref (n 6), .ref (n 7), .ref (n 8), .null])), (n 6, .inl (cI, 4, .inl (fun _ => 0))), (o9, .inl (cJ, 1, .inr (.inl (fun _ => 0))))] sz) := by
  refine va_MetW (cc := cL_sent) (maxL := 4) (ret := (some .int)) (hh := [(0, 9, 12, 13)]) (by decide) rfl ?_
  intro p e s m args below meth c s₁ B hml hv
  obtain ⟨rfl, ⟨hsz, hP, hK, hD0, hKN⟩⟩ := hv
  have hx := B.exec
  have hb := B.bytes
  have hr := B.returns
  have hts := atoms_spec (ws := (Cond.codeWith yL_sent cL_sent 4 (some .int) [(0, 9, 12, 13)] :: kBig)) B.pre
  have hown : s.vm.findClass RL = some m.cls := findClass_of_methodNamed B.named
  have hlocks := B.notSynchronized
  have htab := vx_table (x := yL_sent) B (hts _ List.mem_cons_self)
  subst hsz
  have hD := hD0.self (sz := s.heap.size)
  generalize hAe : va_A [(x0, .inr (6, [.int (nI N), .ref (n 0), .ref (q 0), .ref (tr 0), .int (nI 0)])), (n 0, .inr (2, [.int (nI N), .int (nI 0), .ref (n 1), .ref (n 2), .ref (n 3), .ref (n 9), .ref (n 16), .ref (n 23), .int (nI 0), .ref (n 32), .int (nI 0), .ref (n 33)])), (n 3, .inr (0, [.int (nI N), .ref (n 4), .ref (n 5), .ref (n 6), .ref (n 7), .ref (n 8), .null])), (n 6, .inl (cI, 4, .inl (fun _ => 0))), (o9, .inl (cJ, 1, .inr (.inl (fun _ => 0))))] s.heap.size = A at hD ⊢
  have hA : ∀ q : Nat, s.heap.size ≤ q → A q := fun q h => by rw [← hAe]; exact Or.inr h
  have hS : va_S A s.heap s.heap [] := va_S.rf
  have hl := lv_entry ([.ref x0, .int (nI k), .ref o9]) (n := 4) (Nat.le_of_ble_eq_true rfl)
  rw [lg_entry_eq]
  generalize (lg_sl ([.ref x0, .int (nI k), .ref o9]) ++ List.replicate (4 - (lg_sl ([.ref x0, .int (nI k), .ref o9])).length) Slot.unset).toArray = ls at hl ⊢
  have hl : lv_has ls 4 [(0, .ref x0), (1, .int (nI k)), (2, .ref o9)] := hl
  refine lv_aload_n hx hb dL_sent_0 rfl (lv_at hl 2 rfl) ?_
  refine lv_iconst (v := nI 0) hx hb dL_sent_1 (by decide) ?_
  refine lv_aload_n hx hb dL_sent_2 rfl (lv_at hl 0 rfl) ?_
  refine lv_iload_n hx hb dL_sent_3 rfl (lv_at hl 1 rfl) ?_
  refine k_ci (wr := [(o9, .inl (cJ, 1, .inr (.inl (fun _ => 0))))]) (w1 := [(x0, .inr (6, [.int (nI N), .ref (n 0), .ref (q 0), .ref (tr 0), .int (nI 0)])), (n 0, .inr (2, [.int (nI N), .int (nI 0), .ref (n 1), .ref (n 2), .ref (n 3), .ref (n 9), .ref (n 16), .ref (n 23), .int (nI 0), .ref (n 32), .int (nI 0), .ref (n 33)])), (n 3, .inr (0, [.int (nI N), .ref (n 4), .ref (n 5), .ref (n 6), .ref (n 7), .ref (n 8), .null])), (n 6, .inl (cI, 4, .inl (fun _ => 0)))]) (va_runV (As := [.int (nI k)]) (rest := [.int (nI 0), .ref o9]) ⟨hx, hb, hml, hown, hts⟩ (c_X6_sent l D cI cJ cM cG x0 n q tr N k s.heap.size (hk)) (cwV 1 hts (kB_V (fun _ => List.mem_cons_of_mem _) q_549 q_550 q_551 q_9 (kB_c q_552)) rfl rfl rfl (by decide +kernel) ⟨Nat.le_of_ble_eq_true rfl, Nat.le_of_ble_eq_true rfl⟩) (k_preV (T := TX6) hP hD hK hKN [0, 1, 2, 3] rfl rfl (ci := 6) rfl (q0 := 0) rfl) rfl rfl hl.1 rfl (lv_room (Nat.le_of_ble_eq_true rfl)) dL_sent_4 ⟨Nat.le_of_ble_eq_true rfl, Nat.le_of_ble_eq_true rfl⟩) hP hD hS hA [0, 1, 2, 3] [4] rfl rfl rfl (by decide) (fun r4 H locs hw4 hP hD hS => ?_)
  replace hP : va_P D vwCl [(o9, .inl (cJ, 1, .inr (.inl (fun _ => 0)))), (x0, .inr (6, [.int (nI N), .ref (n 0), .ref (q 0), .ref (tr 0), .int (nI 0)])), (n 0, .inr (2, [.int (nI N), .int (nI 0), .ref (n 1), .ref (n 2), .ref (n 3), .ref (n 9), .ref (n 16), .ref (n 23), .int (nI 0), .ref (n 32), .int (nI 0), .ref (n 33)])), (n 3, .inr (0, [.int (nI N), .ref (n 4), .ref (n 5), .ref (n 6), .ref (n 7), .ref (n 8), .null])), (n 6, .inl (cI, 4, .inl (fun _ => 0)))] H := hP
  replace hD : va_D A [(o9, .inl (cJ, 1, .inr (.inl (fun _ => 0)))), (x0, .inr (6, [.int (nI N), .ref (n 0), .ref (q 0), .ref (tr 0), .int (nI 0)])), (n 0, .inr (2, [.int (nI N), .int (nI 0), .ref (n 1), .ref (n 2), .ref (n 3), .ref (n 9), .ref (n 16), .ref (n 23), .int (nI 0), .ref (n 32), .int (nI 0), .ref (n 33)])), (n 3, .inr (0, [.int (nI N), .ref (n 4), .ref (n 5), .ref (n 6), .ref (n 7), .ref (n 8), .null])), (n 6, .inl (cI, 4, .inl (fun _ => 0)))] := hD
  replace hw4 : r4 = nI 0 := hw4
  refine k_ti hw4 ?_
  refine lv_i2l (v := lN 0) hx hb dL_sent_7 (by decide) ?_
  refine k_last (f' := vp_updL (fun _ => 0) 0 (lN 0)) hx hb hK hP hD hS 0 1 rfl rfl (by omega) (by omega) (rfl) dL_sent_8 (fun H locs hP hD hS => ?_)
  replace hP : va_P D vwCl [(o9, .inl (cJ, 1, .inr (.inl (vp_updL (fun _ => 0) 0 (lN 0))))), (x0, .inr (6, [.int (nI N), .ref (n 0), .ref (q 0), .ref (tr 0), .int (nI 0)])), (n 0, .inr (2, [.int (nI N), .int (nI 0), .ref (n 1), .ref (n 2), .ref (n 3), .ref (n 9), .ref (n 16), .ref (n 23), .int (nI 0), .ref (n 32), .int (nI 0), .ref (n 33)])), (n 3, .inr (0, [.int (nI N), .ref (n 4), .ref (n 5), .ref (n 6), .ref (n 7), .ref (n 8), .null])), (n 6, .inl (cI, 4, .inl (fun _ => 0)))] H := hP
  replace hD : va_D A [(o9, .inl (cJ, 1, .inr (.inl (vp_updL (fun _ => 0) 0 (lN 0))))), (x0, .inr (6, [.int (nI N), .ref (n 0), .ref (q 0), .ref (tr 0), .int (nI 0)])), (n 0, .inr (2, [.int (nI N), .int (nI 0), .ref (n 1), .ref (n 2), .ref (n 3), .ref (n 9), .ref (n 16), .ref (n 23), .int (nI 0), .ref (n 32), .int (nI 0), .ref (n 33)])), (n 3, .inr (0, [.int (nI N), .ref (n 4), .ref (n 5), .ref (n 6), .ref (n 7), .ref (n 8), .null])), (n 6, .inl (cI, 4, .inl (fun _ => 0)))] := hD
  refine lv_goto (tgt := 15) hx hb dL_sent_9 (by decide) ?_
  refine lv_iconst (v := nI 0) hx hb dL_sent_15 (by decide) ?_
  have hP9 := hP.sub (ws' := [(o9, .inl (cJ, 1, .inr (.inl (vp_updL (fun _ => 0) 0 (lN 0)))))]) [0] rfl
  have hD9 := hD.sub (ws' := [(o9, .inl (cJ, 1, .inr (.inl (vp_updL (fun _ => 0) 0 (lN 0)))))]) [0] rfl rfl
  exact W.iret (v := nI 0) hx hb hr (fun t9 ht9 hW9 => ⟨⟨nI 0, (), rfl, rfl, by rw [ht9]; exact hP9, hD9⟩, hS.F ht9⟩) hS.2.2 dL_sent_16

set_option maxHeartbeats 4000000 in
set_option maxRecDepth 100000 in
theorem c_L_isValid1 (l : Launch) (D : va_G) (cI cJ cM cG : ClassId) (x0 : Nat) (n : Nat → Nat) (q : Nat → Nat) (tr : Nat → Nat) (N : Nat) (a : Nat) (b : Nat) (o9 : Nat) (sz : Nat) (ha : a < N) (hb9 : b < N) (hN : N ≤ 10) : Met l yL_isValid (Cond.codeWith yL_isValid cL_isValid 5 (some .int) [(0, 17, 20, 13)] :: kBig) ({ frames := 3, cells := 0, slots := 0, locals := 65 }) (va_Pc [.ref x0, .int (nI a), .int (nI b), .ref o9] (kP D [(cI, .int), (cJ, .long), (cM, .object "MeshRouting$Message"), (cG, .array .int)] [(x0, .inr (6, [.int (nI N), .ref (n 0), .ref (q 0), .ref (tr 0), .int (nI 0)])), (n 0, .inr (2, [.int (nI N), .int (nI 0), .ref (n 1), .ref (n 2), .ref (n 3), .ref (n 9), .ref (n 16), .ref (n 23), .int (nI 0), .ref (n 32), .int (nI 0), .ref (n 33)])), (n 9, .inr (4, [.ref (n 10), .ref (n 11), .ref (n 12), .ref (n 13), .ref (n 14), .ref (n 15)])), (n 10, .inl (cI, 100, .inl (fun _ => 0))), (n 14, .inl (cI, 100, .inl (fun _ => -1))), (o9, .inl (cJ, 1, .inr (.inl (fun _ => 0))))] sz)) (va_Qi (fun (r : Int32) (_ : Unit) => r = nI 0) (fun _ t9 => kB D (va_A [(x0, .inr (6, [.int (nI N), .ref (n 0), .ref (q 0), .ref (tr 0), .int (nI 0)])), (n 0, .inr (2, [.int (nI N), .int (nI 0), .ref (n 1), .ref (n 2), .ref (n 3), .ref (n 9), .ref (n 16), .ref (n 23), .int (nI 0), .ref (n 32), .int (nI 0), .ref (n 33)])), (n 9, .inr (4, [.ref (n 10), .ref (n 11), .ref (n 12), .ref (n 13), .ref (n 14), .ref (n 15)])), (n 10, .inl (cI, 100, .inl (fun _ => 0))), (n 14, .inl (cI, 100, .inl (fun _ => -1))), (o9, .inl (cJ, 1, .inr (.inl (fun _ => 0))))] sz) [(o9, .inl (cJ, 1, .inr (.inl (vp_updL (fun _ => 0) 0 (lN 0)))))] t9) (va_A [(x0, .inr (6, [.int (nI N), .ref (n 0), .ref (q 0), .ref (tr 0), .int (nI 0)])), (n 0, .inr (2, [.int (nI N), .int (nI 0), .ref (n 1), .ref (n 2), .ref (n 3), .ref (n 9), .ref (n 16), .ref (n 23), .int (nI 0), .ref (n 32), .int (nI 0), .ref (n 33)])), (n 9, .inr (4, [.ref (n 10), .ref (n 11), .ref (n 12), .ref (n 13), .ref (n 14), .ref (n 15)])), (n 10, .inl (cI, 100, .inl (fun _ => 0))), (n 14, .inl (cI, 100, .inl (fun _ => -1))), (o9, .inl (cJ, 1, .inr (.inl (fun _ => 0))))] sz)) 0 0 (va_A [(x0, .inr (6, [.int (nI N), .ref (n 0), .ref (q 0), .ref (tr 0), .int (nI 0)])), (n 0, .inr (2, [.int (nI N), .int (nI 0), .ref (n 1), .ref (n 2), .ref (n 3), .ref (n 9), .ref (n 16), .ref (n 23), .int (nI 0), .ref (n 32), .int (nI 0), .ref (n 33)])), (n 9, .inr (4, [.ref (n 10), .ref (n 11), .ref (n 12), .ref (n 13), .ref (n 14), .ref (n 15)])), (n 10, .inl (cI, 100, .inl (fun _ => 0))), (n 14, .inl (cI, 100, .inl (fun _ => -1))), (o9, .inl (cJ, 1, .inr (.inl (fun _ => 0))))] sz) := by
  refine va_MetW (cc := cL_isValid) (maxL := 5) (ret := (some .int)) (hh := [(0, 17, 20, 13)]) (by decide) rfl ?_
  intro p e s m args below meth c s₁ B hml hv
  obtain ⟨rfl, ⟨hsz, hP, hK, hD0, hKN⟩⟩ := hv
  have hx := B.exec
  have hb := B.bytes
  have hr := B.returns
  have hts := atoms_spec (ws := (Cond.codeWith yL_isValid cL_isValid 5 (some .int) [(0, 17, 20, 13)] :: kBig)) B.pre
  have hown : s.vm.findClass RL = some m.cls := findClass_of_methodNamed B.named
  have hlocks := B.notSynchronized
  have htab := vx_table (x := yL_isValid) B (hts _ List.mem_cons_self)
  subst hsz
  have hD := hD0.self (sz := s.heap.size)
  generalize hAe : va_A [(x0, .inr (6, [.int (nI N), .ref (n 0), .ref (q 0), .ref (tr 0), .int (nI 0)])), (n 0, .inr (2, [.int (nI N), .int (nI 0), .ref (n 1), .ref (n 2), .ref (n 3), .ref (n 9), .ref (n 16), .ref (n 23), .int (nI 0), .ref (n 32), .int (nI 0), .ref (n 33)])), (n 9, .inr (4, [.ref (n 10), .ref (n 11), .ref (n 12), .ref (n 13), .ref (n 14), .ref (n 15)])), (n 10, .inl (cI, 100, .inl (fun _ => 0))), (n 14, .inl (cI, 100, .inl (fun _ => -1))), (o9, .inl (cJ, 1, .inr (.inl (fun _ => 0))))] s.heap.size = A at hD ⊢
  have hA : ∀ q : Nat, s.heap.size ≤ q → A q := fun q h => by rw [← hAe]; exact Or.inr h
  have hS : va_S A s.heap s.heap [] := va_S.rf
  have hl := lv_entry ([.ref x0, .int (nI a), .int (nI b), .ref o9]) (n := 5) (Nat.le_of_ble_eq_true rfl)
  rw [lg_entry_eq]
  generalize (lg_sl ([.ref x0, .int (nI a), .int (nI b), .ref o9]) ++ List.replicate (5 - (lg_sl ([.ref x0, .int (nI a), .int (nI b), .ref o9])).length) Slot.unset).toArray = ls at hl ⊢
  have hl : lv_has ls 5 [(0, .ref x0), (1, .int (nI a)), (2, .int (nI b)), (3, .ref o9)] := hl
  refine lv_aload_n hx hb dL_isValid_0 rfl (lv_at hl 3 rfl) ?_
  refine lv_iconst (v := nI 0) hx hb dL_isValid_1 (by decide) ?_
  refine lv_aload_n hx hb dL_isValid_2 rfl (lv_at hl 0 rfl) ?_
  refine lv_iload_n hx hb dL_isValid_3 rfl (lv_at hl 1 rfl) ?_
  refine lv_iload_n hx hb dL_isValid_4 rfl (lv_at hl 2 rfl) ?_
  refine k_ci (wr := [(o9, .inl (cJ, 1, .inr (.inl (fun _ => 0))))]) (w1 := [(x0, .inr (6, [.int (nI N), .ref (n 0), .ref (q 0), .ref (tr 0), .int (nI 0)])), (n 0, .inr (2, [.int (nI N), .int (nI 0), .ref (n 1), .ref (n 2), .ref (n 3), .ref (n 9), .ref (n 16), .ref (n 23), .int (nI 0), .ref (n 32), .int (nI 0), .ref (n 33)])), (n 9, .inr (4, [.ref (n 10), .ref (n 11), .ref (n 12), .ref (n 13), .ref (n 14), .ref (n 15)])), (n 10, .inl (cI, 100, .inl (fun _ => 0))), (n 14, .inl (cI, 100, .inl (fun _ => -1)))]) (va_runV (As := [.int (nI a), .int (nI b)]) (rest := [.int (nI 0), .ref o9]) ⟨hx, hb, hml, hown, hts⟩ (c_X6_isValid l D cI cJ cM cG x0 n q tr N a b s.heap.size (ha) (hb9) (hN)) (cwV 2 hts (kB_V (fun _ => List.mem_cons_of_mem _) q_493 q_494 q_495 q_9 (kB_c q_496)) rfl rfl rfl (by decide +kernel) ⟨Nat.le_of_ble_eq_true rfl, Nat.le_of_ble_eq_true rfl⟩) (k_preV (T := TX6) hP hD hK hKN [0, 1, 2, 3, 4] rfl rfl (ci := 6) rfl (q0 := 0) rfl) rfl rfl hl.1 rfl (lv_room (Nat.le_of_ble_eq_true rfl)) dL_isValid_5 ⟨Nat.le_of_ble_eq_true rfl, Nat.le_of_ble_eq_true rfl⟩) hP hD hS hA [0, 1, 2, 3, 4] [5] rfl rfl rfl (by decide) (fun r5 H locs hw5 hP hD hS => ?_)
  replace hP : va_P D vwCl [(o9, .inl (cJ, 1, .inr (.inl (fun _ => 0)))), (x0, .inr (6, [.int (nI N), .ref (n 0), .ref (q 0), .ref (tr 0), .int (nI 0)])), (n 0, .inr (2, [.int (nI N), .int (nI 0), .ref (n 1), .ref (n 2), .ref (n 3), .ref (n 9), .ref (n 16), .ref (n 23), .int (nI 0), .ref (n 32), .int (nI 0), .ref (n 33)])), (n 9, .inr (4, [.ref (n 10), .ref (n 11), .ref (n 12), .ref (n 13), .ref (n 14), .ref (n 15)])), (n 10, .inl (cI, 100, .inl (fun _ => 0))), (n 14, .inl (cI, 100, .inl (fun _ => -1)))] H := hP
  replace hD : va_D A [(o9, .inl (cJ, 1, .inr (.inl (fun _ => 0)))), (x0, .inr (6, [.int (nI N), .ref (n 0), .ref (q 0), .ref (tr 0), .int (nI 0)])), (n 0, .inr (2, [.int (nI N), .int (nI 0), .ref (n 1), .ref (n 2), .ref (n 3), .ref (n 9), .ref (n 16), .ref (n 23), .int (nI 0), .ref (n 32), .int (nI 0), .ref (n 33)])), (n 9, .inr (4, [.ref (n 10), .ref (n 11), .ref (n 12), .ref (n 13), .ref (n 14), .ref (n 15)])), (n 10, .inl (cI, 100, .inl (fun _ => 0))), (n 14, .inl (cI, 100, .inl (fun _ => -1)))] := hD
  replace hw5 : r5 = nI 0 := hw5
  refine k_ti hw5 ?_
  refine k_if_eq (tgt := 15) hx hb dL_isValid_8 (by decide) (by omega) (fun _ => ?_) (fun h9 => absurd h9 (by omega))
  refine lv_lconst (v := lN 0) hx hb dL_isValid_15 (by decide) ?_
  refine k_last (f' := vp_updL (fun _ => 0) 0 (lN 0)) hx hb hK hP hD hS 0 1 rfl rfl (by omega) (by omega) (rfl) dL_isValid_16 (fun H locs hP hD hS => ?_)
  replace hP : va_P D vwCl [(o9, .inl (cJ, 1, .inr (.inl (vp_updL (fun _ => 0) 0 (lN 0))))), (x0, .inr (6, [.int (nI N), .ref (n 0), .ref (q 0), .ref (tr 0), .int (nI 0)])), (n 0, .inr (2, [.int (nI N), .int (nI 0), .ref (n 1), .ref (n 2), .ref (n 3), .ref (n 9), .ref (n 16), .ref (n 23), .int (nI 0), .ref (n 32), .int (nI 0), .ref (n 33)])), (n 9, .inr (4, [.ref (n 10), .ref (n 11), .ref (n 12), .ref (n 13), .ref (n 14), .ref (n 15)])), (n 10, .inl (cI, 100, .inl (fun _ => 0))), (n 14, .inl (cI, 100, .inl (fun _ => -1)))] H := hP
  replace hD : va_D A [(o9, .inl (cJ, 1, .inr (.inl (vp_updL (fun _ => 0) 0 (lN 0))))), (x0, .inr (6, [.int (nI N), .ref (n 0), .ref (q 0), .ref (tr 0), .int (nI 0)])), (n 0, .inr (2, [.int (nI N), .int (nI 0), .ref (n 1), .ref (n 2), .ref (n 3), .ref (n 9), .ref (n 16), .ref (n 23), .int (nI 0), .ref (n 32), .int (nI 0), .ref (n 33)])), (n 9, .inr (4, [.ref (n 10), .ref (n 11), .ref (n 12), .ref (n 13), .ref (n 14), .ref (n 15)])), (n 10, .inl (cI, 100, .inl (fun _ => 0))), (n 14, .inl (cI, 100, .inl (fun _ => -1)))] := hD
  refine lv_goto (tgt := 24) hx hb dL_isValid_17 (by decide) ?_
  refine lv_iconst (v := nI 0) hx hb dL_isValid_24 (by decide) ?_
  have hP9 := hP.sub (ws' := [(o9, .inl (cJ, 1, .inr (.inl (vp_updL (fun _ => 0) 0 (lN 0)))))]) [0] rfl
  have hD9 := hD.sub (ws' := [(o9, .inl (cJ, 1, .inr (.inl (vp_updL (fun _ => 0) 0 (lN 0)))))]) [0] rfl rfl
  exact W.iret (v := nI 0) hx hb hr (fun t9 ht9 hW9 => ⟨⟨nI 0, (), rfl, rfl, by rw [ht9]; exact hP9, hD9⟩, hS.F ht9⟩) hS.2.2 dL_isValid_25

set_option maxHeartbeats 4000000 in
set_option maxRecDepth 100000 in
theorem c_L_nextNode1 (l : Launch) (D : va_G) (cI cJ cM cG : ClassId) (x0 : Nat) (n : Nat → Nat) (q : Nat → Nat) (tr : Nat → Nat) (N : Nat) (a : Nat) (b : Nat) (o9 : Nat) (sz : Nat) (ha : a < N) (hb9 : b < N) (hN : N ≤ 10) : Met l yL_nextNode (Cond.codeWith yL_nextNode cL_nextNode 5 (some .int) [(0, 10, 13, 13)] :: kBig) ({ frames := 3, cells := 0, slots := 0, locals := 65 }) (va_Pc [.ref x0, .int (nI a), .int (nI b), .ref o9] (kP D [(cI, .int), (cJ, .long), (cM, .object "MeshRouting$Message"), (cG, .array .int)] [(x0, .inr (6, [.int (nI N), .ref (n 0), .ref (q 0), .ref (tr 0), .int (nI 0)])), (n 0, .inr (2, [.int (nI N), .int (nI 0), .ref (n 1), .ref (n 2), .ref (n 3), .ref (n 9), .ref (n 16), .ref (n 23), .int (nI 0), .ref (n 32), .int (nI 0), .ref (n 33)])), (n 9, .inr (4, [.ref (n 10), .ref (n 11), .ref (n 12), .ref (n 13), .ref (n 14), .ref (n 15)])), (n 13, .inl (cI, 100, .inl (fun _ => -1))), (o9, .inl (cJ, 1, .inr (.inl (fun _ => 0))))] sz)) (va_Qi (fun (r : Int32) (_ : Unit) => r = nI 0) (fun _ t9 => kB D (va_A [(x0, .inr (6, [.int (nI N), .ref (n 0), .ref (q 0), .ref (tr 0), .int (nI 0)])), (n 0, .inr (2, [.int (nI N), .int (nI 0), .ref (n 1), .ref (n 2), .ref (n 3), .ref (n 9), .ref (n 16), .ref (n 23), .int (nI 0), .ref (n 32), .int (nI 0), .ref (n 33)])), (n 9, .inr (4, [.ref (n 10), .ref (n 11), .ref (n 12), .ref (n 13), .ref (n 14), .ref (n 15)])), (n 13, .inl (cI, 100, .inl (fun _ => -1))), (o9, .inl (cJ, 1, .inr (.inl (fun _ => 0))))] sz) [(o9, .inl (cJ, 1, .inr (.inl (vp_updL (fun _ => 0) 0 (-1)))))] t9) (va_A [(x0, .inr (6, [.int (nI N), .ref (n 0), .ref (q 0), .ref (tr 0), .int (nI 0)])), (n 0, .inr (2, [.int (nI N), .int (nI 0), .ref (n 1), .ref (n 2), .ref (n 3), .ref (n 9), .ref (n 16), .ref (n 23), .int (nI 0), .ref (n 32), .int (nI 0), .ref (n 33)])), (n 9, .inr (4, [.ref (n 10), .ref (n 11), .ref (n 12), .ref (n 13), .ref (n 14), .ref (n 15)])), (n 13, .inl (cI, 100, .inl (fun _ => -1))), (o9, .inl (cJ, 1, .inr (.inl (fun _ => 0))))] sz)) 0 0 (va_A [(x0, .inr (6, [.int (nI N), .ref (n 0), .ref (q 0), .ref (tr 0), .int (nI 0)])), (n 0, .inr (2, [.int (nI N), .int (nI 0), .ref (n 1), .ref (n 2), .ref (n 3), .ref (n 9), .ref (n 16), .ref (n 23), .int (nI 0), .ref (n 32), .int (nI 0), .ref (n 33)])), (n 9, .inr (4, [.ref (n 10), .ref (n 11), .ref (n 12), .ref (n 13), .ref (n 14), .ref (n 15)])), (n 13, .inl (cI, 100, .inl (fun _ => -1))), (o9, .inl (cJ, 1, .inr (.inl (fun _ => 0))))] sz) := by
  refine va_MetW (cc := cL_nextNode) (maxL := 5) (ret := (some .int)) (hh := [(0, 10, 13, 13)]) (by decide) rfl ?_
  intro p e s m args below meth c s₁ B hml hv
  obtain ⟨rfl, ⟨hsz, hP, hK, hD0, hKN⟩⟩ := hv
  have hx := B.exec
  have hb := B.bytes
  have hr := B.returns
  have hts := atoms_spec (ws := (Cond.codeWith yL_nextNode cL_nextNode 5 (some .int) [(0, 10, 13, 13)] :: kBig)) B.pre
  have hown : s.vm.findClass RL = some m.cls := findClass_of_methodNamed B.named
  have hlocks := B.notSynchronized
  have htab := vx_table (x := yL_nextNode) B (hts _ List.mem_cons_self)
  subst hsz
  have hD := hD0.self (sz := s.heap.size)
  generalize hAe : va_A [(x0, .inr (6, [.int (nI N), .ref (n 0), .ref (q 0), .ref (tr 0), .int (nI 0)])), (n 0, .inr (2, [.int (nI N), .int (nI 0), .ref (n 1), .ref (n 2), .ref (n 3), .ref (n 9), .ref (n 16), .ref (n 23), .int (nI 0), .ref (n 32), .int (nI 0), .ref (n 33)])), (n 9, .inr (4, [.ref (n 10), .ref (n 11), .ref (n 12), .ref (n 13), .ref (n 14), .ref (n 15)])), (n 13, .inl (cI, 100, .inl (fun _ => -1))), (o9, .inl (cJ, 1, .inr (.inl (fun _ => 0))))] s.heap.size = A at hD ⊢
  have hA : ∀ q : Nat, s.heap.size ≤ q → A q := fun q h => by rw [← hAe]; exact Or.inr h
  have hS : va_S A s.heap s.heap [] := va_S.rf
  have hl := lv_entry ([.ref x0, .int (nI a), .int (nI b), .ref o9]) (n := 5) (Nat.le_of_ble_eq_true rfl)
  rw [lg_entry_eq]
  generalize (lg_sl ([.ref x0, .int (nI a), .int (nI b), .ref o9]) ++ List.replicate (5 - (lg_sl ([.ref x0, .int (nI a), .int (nI b), .ref o9])).length) Slot.unset).toArray = ls at hl ⊢
  have hl : lv_has ls 5 [(0, .ref x0), (1, .int (nI a)), (2, .int (nI b)), (3, .ref o9)] := hl
  refine lv_aload_n hx hb dL_nextNode_0 rfl (lv_at hl 3 rfl) ?_
  refine lv_iconst (v := nI 0) hx hb dL_nextNode_1 (by decide) ?_
  refine lv_aload_n hx hb dL_nextNode_2 rfl (lv_at hl 0 rfl) ?_
  refine lv_iload_n hx hb dL_nextNode_3 rfl (lv_at hl 1 rfl) ?_
  refine lv_iload_n hx hb dL_nextNode_4 rfl (lv_at hl 2 rfl) ?_
  refine k_ci (wr := [(o9, .inl (cJ, 1, .inr (.inl (fun _ => 0))))]) (w1 := [(x0, .inr (6, [.int (nI N), .ref (n 0), .ref (q 0), .ref (tr 0), .int (nI 0)])), (n 0, .inr (2, [.int (nI N), .int (nI 0), .ref (n 1), .ref (n 2), .ref (n 3), .ref (n 9), .ref (n 16), .ref (n 23), .int (nI 0), .ref (n 32), .int (nI 0), .ref (n 33)])), (n 9, .inr (4, [.ref (n 10), .ref (n 11), .ref (n 12), .ref (n 13), .ref (n 14), .ref (n 15)])), (n 13, .inl (cI, 100, .inl (fun _ => -1)))]) (va_runV (As := [.int (nI a), .int (nI b)]) (rest := [.int (nI 0), .ref o9]) ⟨hx, hb, hml, hown, hts⟩ (c_X6_nextNode l D cI cJ cM cG x0 n q tr N a b s.heap.size (ha) (hb9) (hN)) (cwV 2 hts (kB_V (fun _ => List.mem_cons_of_mem _) q_506 q_507 q_508 q_9 (kB_c q_509)) rfl rfl rfl (by decide +kernel) ⟨Nat.le_of_ble_eq_true rfl, Nat.le_of_ble_eq_true rfl⟩) (k_preV (T := TX6) hP hD hK hKN [0, 1, 2, 3] rfl rfl (ci := 6) rfl (q0 := 0) rfl) rfl rfl hl.1 rfl (lv_room (Nat.le_of_ble_eq_true rfl)) dL_nextNode_5 ⟨Nat.le_of_ble_eq_true rfl, Nat.le_of_ble_eq_true rfl⟩) hP hD hS hA [0, 1, 2, 3] [4] rfl rfl rfl (by decide) (fun r5 H locs hw5 hP hD hS => ?_)
  replace hP : va_P D vwCl [(o9, .inl (cJ, 1, .inr (.inl (fun _ => 0)))), (x0, .inr (6, [.int (nI N), .ref (n 0), .ref (q 0), .ref (tr 0), .int (nI 0)])), (n 0, .inr (2, [.int (nI N), .int (nI 0), .ref (n 1), .ref (n 2), .ref (n 3), .ref (n 9), .ref (n 16), .ref (n 23), .int (nI 0), .ref (n 32), .int (nI 0), .ref (n 33)])), (n 9, .inr (4, [.ref (n 10), .ref (n 11), .ref (n 12), .ref (n 13), .ref (n 14), .ref (n 15)])), (n 13, .inl (cI, 100, .inl (fun _ => -1)))] H := hP
  replace hD : va_D A [(o9, .inl (cJ, 1, .inr (.inl (fun _ => 0)))), (x0, .inr (6, [.int (nI N), .ref (n 0), .ref (q 0), .ref (tr 0), .int (nI 0)])), (n 0, .inr (2, [.int (nI N), .int (nI 0), .ref (n 1), .ref (n 2), .ref (n 3), .ref (n 9), .ref (n 16), .ref (n 23), .int (nI 0), .ref (n 32), .int (nI 0), .ref (n 33)])), (n 9, .inr (4, [.ref (n 10), .ref (n 11), .ref (n 12), .ref (n 13), .ref (n 14), .ref (n 15)])), (n 13, .inl (cI, 100, .inl (fun _ => -1)))] := hD
  replace hw5 : r5 = (-1) := hw5
  refine k_ti hw5 ?_
  refine lv_i2l (v := (-1)) hx hb dL_nextNode_8 (by decide) ?_
  refine k_last (f' := vp_updL (fun _ => 0) 0 (-1)) hx hb hK hP hD hS 0 1 rfl rfl (by omega) (by omega) (rfl) dL_nextNode_9 (fun H locs hP hD hS => ?_)
  replace hP : va_P D vwCl [(o9, .inl (cJ, 1, .inr (.inl (vp_updL (fun _ => 0) 0 (-1))))), (x0, .inr (6, [.int (nI N), .ref (n 0), .ref (q 0), .ref (tr 0), .int (nI 0)])), (n 0, .inr (2, [.int (nI N), .int (nI 0), .ref (n 1), .ref (n 2), .ref (n 3), .ref (n 9), .ref (n 16), .ref (n 23), .int (nI 0), .ref (n 32), .int (nI 0), .ref (n 33)])), (n 9, .inr (4, [.ref (n 10), .ref (n 11), .ref (n 12), .ref (n 13), .ref (n 14), .ref (n 15)])), (n 13, .inl (cI, 100, .inl (fun _ => -1)))] H := hP
  replace hD : va_D A [(o9, .inl (cJ, 1, .inr (.inl (vp_updL (fun _ => 0) 0 (-1))))), (x0, .inr (6, [.int (nI N), .ref (n 0), .ref (q 0), .ref (tr 0), .int (nI 0)])), (n 0, .inr (2, [.int (nI N), .int (nI 0), .ref (n 1), .ref (n 2), .ref (n 3), .ref (n 9), .ref (n 16), .ref (n 23), .int (nI 0), .ref (n 32), .int (nI 0), .ref (n 33)])), (n 9, .inr (4, [.ref (n 10), .ref (n 11), .ref (n 12), .ref (n 13), .ref (n 14), .ref (n 15)])), (n 13, .inl (cI, 100, .inl (fun _ => -1)))] := hD
  refine lv_goto (tgt := 17) hx hb dL_nextNode_10 (by decide) ?_
  refine lv_iconst (v := nI 0) hx hb dL_nextNode_17 (by decide) ?_
  have hP9 := hP.sub (ws' := [(o9, .inl (cJ, 1, .inr (.inl (vp_updL (fun _ => 0) 0 (-1)))))]) [0] rfl
  have hD9 := hD.sub (ws' := [(o9, .inl (cJ, 1, .inr (.inl (vp_updL (fun _ => 0) 0 (-1)))))]) [0] rfl rfl
  exact W.iret (v := nI 0) hx hb hr (fun t9 ht9 hW9 => ⟨⟨nI 0, (), rfl, rfl, by rw [ht9]; exact hP9, hD9⟩, hS.F ht9⟩) hS.2.2 dL_nextNode_18

set_option maxHeartbeats 4000000 in
set_option maxRecDepth 100000 in
theorem c_L_hops1 (l : Launch) (D : va_G) (cI cJ cM cG : ClassId) (x0 : Nat) (n : Nat → Nat) (q : Nat → Nat) (tr : Nat → Nat) (N : Nat) (a : Nat) (b : Nat) (o9 : Nat) (sz : Nat) (ha : a < N) (hb9 : b < N) (hN : N ≤ 10) : Met l yL_hops (Cond.codeWith yL_hops cL_hops 5 (some .int) [(0, 10, 13, 13)] :: kBig) ({ frames := 3, cells := 0, slots := 0, locals := 65 }) (va_Pc [.ref x0, .int (nI a), .int (nI b), .ref o9] (kP D [(cI, .int), (cJ, .long), (cM, .object "MeshRouting$Message"), (cG, .array .int)] [(x0, .inr (6, [.int (nI N), .ref (n 0), .ref (q 0), .ref (tr 0), .int (nI 0)])), (n 0, .inr (2, [.int (nI N), .int (nI 0), .ref (n 1), .ref (n 2), .ref (n 3), .ref (n 9), .ref (n 16), .ref (n 23), .int (nI 0), .ref (n 32), .int (nI 0), .ref (n 33)])), (n 9, .inr (4, [.ref (n 10), .ref (n 11), .ref (n 12), .ref (n 13), .ref (n 14), .ref (n 15)])), (n 12, .inl (cI, 100, .inl (fun _ => -1))), (o9, .inl (cJ, 1, .inr (.inl (fun _ => 0))))] sz)) (va_Qi (fun (r : Int32) (_ : Unit) => r = nI 0) (fun _ t9 => kB D (va_A [(x0, .inr (6, [.int (nI N), .ref (n 0), .ref (q 0), .ref (tr 0), .int (nI 0)])), (n 0, .inr (2, [.int (nI N), .int (nI 0), .ref (n 1), .ref (n 2), .ref (n 3), .ref (n 9), .ref (n 16), .ref (n 23), .int (nI 0), .ref (n 32), .int (nI 0), .ref (n 33)])), (n 9, .inr (4, [.ref (n 10), .ref (n 11), .ref (n 12), .ref (n 13), .ref (n 14), .ref (n 15)])), (n 12, .inl (cI, 100, .inl (fun _ => -1))), (o9, .inl (cJ, 1, .inr (.inl (fun _ => 0))))] sz) [(o9, .inl (cJ, 1, .inr (.inl (vp_updL (fun _ => 0) 0 (-1)))))] t9) (va_A [(x0, .inr (6, [.int (nI N), .ref (n 0), .ref (q 0), .ref (tr 0), .int (nI 0)])), (n 0, .inr (2, [.int (nI N), .int (nI 0), .ref (n 1), .ref (n 2), .ref (n 3), .ref (n 9), .ref (n 16), .ref (n 23), .int (nI 0), .ref (n 32), .int (nI 0), .ref (n 33)])), (n 9, .inr (4, [.ref (n 10), .ref (n 11), .ref (n 12), .ref (n 13), .ref (n 14), .ref (n 15)])), (n 12, .inl (cI, 100, .inl (fun _ => -1))), (o9, .inl (cJ, 1, .inr (.inl (fun _ => 0))))] sz)) 0 0 (va_A [(x0, .inr (6, [.int (nI N), .ref (n 0), .ref (q 0), .ref (tr 0), .int (nI 0)])), (n 0, .inr (2, [.int (nI N), .int (nI 0), .ref (n 1), .ref (n 2), .ref (n 3), .ref (n 9), .ref (n 16), .ref (n 23), .int (nI 0), .ref (n 32), .int (nI 0), .ref (n 33)])), (n 9, .inr (4, [.ref (n 10), .ref (n 11), .ref (n 12), .ref (n 13), .ref (n 14), .ref (n 15)])), (n 12, .inl (cI, 100, .inl (fun _ => -1))), (o9, .inl (cJ, 1, .inr (.inl (fun _ => 0))))] sz) := by
  refine va_MetW (cc := cL_hops) (maxL := 5) (ret := (some .int)) (hh := [(0, 10, 13, 13)]) (by decide) rfl ?_
  intro p e s m args below meth c s₁ B hml hv
  obtain ⟨rfl, ⟨hsz, hP, hK, hD0, hKN⟩⟩ := hv
  have hx := B.exec
  have hb := B.bytes
  have hr := B.returns
  have hts := atoms_spec (ws := (Cond.codeWith yL_hops cL_hops 5 (some .int) [(0, 10, 13, 13)] :: kBig)) B.pre
  have hown : s.vm.findClass RL = some m.cls := findClass_of_methodNamed B.named
  have hlocks := B.notSynchronized
  have htab := vx_table (x := yL_hops) B (hts _ List.mem_cons_self)
  subst hsz
  have hD := hD0.self (sz := s.heap.size)
  generalize hAe : va_A [(x0, .inr (6, [.int (nI N), .ref (n 0), .ref (q 0), .ref (tr 0), .int (nI 0)])), (n 0, .inr (2, [.int (nI N), .int (nI 0), .ref (n 1), .ref (n 2), .ref (n 3), .ref (n 9), .ref (n 16), .ref (n 23), .int (nI 0), .ref (n 32), .int (nI 0), .ref (n 33)])), (n 9, .inr (4, [.ref (n 10), .ref (n 11), .ref (n 12), .ref (n 13), .ref (n 14), .ref (n 15)])), (n 12, .inl (cI, 100, .inl (fun _ => -1))), (o9, .inl (cJ, 1, .inr (.inl (fun _ => 0))))] s.heap.size = A at hD ⊢
  have hA : ∀ q : Nat, s.heap.size ≤ q → A q := fun q h => by rw [← hAe]; exact Or.inr h
  have hS : va_S A s.heap s.heap [] := va_S.rf
  have hl := lv_entry ([.ref x0, .int (nI a), .int (nI b), .ref o9]) (n := 5) (Nat.le_of_ble_eq_true rfl)
  rw [lg_entry_eq]
  generalize (lg_sl ([.ref x0, .int (nI a), .int (nI b), .ref o9]) ++ List.replicate (5 - (lg_sl ([.ref x0, .int (nI a), .int (nI b), .ref o9])).length) Slot.unset).toArray = ls at hl ⊢
  have hl : lv_has ls 5 [(0, .ref x0), (1, .int (nI a)), (2, .int (nI b)), (3, .ref o9)] := hl
  refine lv_aload_n hx hb dL_hops_0 rfl (lv_at hl 3 rfl) ?_
  refine lv_iconst (v := nI 0) hx hb dL_hops_1 (by decide) ?_
  refine lv_aload_n hx hb dL_hops_2 rfl (lv_at hl 0 rfl) ?_
  refine lv_iload_n hx hb dL_hops_3 rfl (lv_at hl 1 rfl) ?_
  refine lv_iload_n hx hb dL_hops_4 rfl (lv_at hl 2 rfl) ?_
  refine k_ci (wr := [(o9, .inl (cJ, 1, .inr (.inl (fun _ => 0))))]) (w1 := [(x0, .inr (6, [.int (nI N), .ref (n 0), .ref (q 0), .ref (tr 0), .int (nI 0)])), (n 0, .inr (2, [.int (nI N), .int (nI 0), .ref (n 1), .ref (n 2), .ref (n 3), .ref (n 9), .ref (n 16), .ref (n 23), .int (nI 0), .ref (n 32), .int (nI 0), .ref (n 33)])), (n 9, .inr (4, [.ref (n 10), .ref (n 11), .ref (n 12), .ref (n 13), .ref (n 14), .ref (n 15)])), (n 12, .inl (cI, 100, .inl (fun _ => -1)))]) (va_runV (As := [.int (nI a), .int (nI b)]) (rest := [.int (nI 0), .ref o9]) ⟨hx, hb, hml, hown, hts⟩ (c_X6_hops l D cI cJ cM cG x0 n q tr N a b s.heap.size (ha) (hb9) (hN)) (cwV 2 hts (kB_V (fun _ => List.mem_cons_of_mem _) q_475 q_476 q_477 q_9 (kB_c q_478)) rfl rfl rfl (by decide +kernel) ⟨Nat.le_of_ble_eq_true rfl, Nat.le_of_ble_eq_true rfl⟩) (k_preV (T := TX6) hP hD hK hKN [0, 1, 2, 3] rfl rfl (ci := 6) rfl (q0 := 0) rfl) rfl rfl hl.1 rfl (lv_room (Nat.le_of_ble_eq_true rfl)) dL_hops_5 ⟨Nat.le_of_ble_eq_true rfl, Nat.le_of_ble_eq_true rfl⟩) hP hD hS hA [0, 1, 2, 3] [4] rfl rfl rfl (by decide) (fun r5 H locs hw5 hP hD hS => ?_)
  replace hP : va_P D vwCl [(o9, .inl (cJ, 1, .inr (.inl (fun _ => 0)))), (x0, .inr (6, [.int (nI N), .ref (n 0), .ref (q 0), .ref (tr 0), .int (nI 0)])), (n 0, .inr (2, [.int (nI N), .int (nI 0), .ref (n 1), .ref (n 2), .ref (n 3), .ref (n 9), .ref (n 16), .ref (n 23), .int (nI 0), .ref (n 32), .int (nI 0), .ref (n 33)])), (n 9, .inr (4, [.ref (n 10), .ref (n 11), .ref (n 12), .ref (n 13), .ref (n 14), .ref (n 15)])), (n 12, .inl (cI, 100, .inl (fun _ => -1)))] H := hP
  replace hD : va_D A [(o9, .inl (cJ, 1, .inr (.inl (fun _ => 0)))), (x0, .inr (6, [.int (nI N), .ref (n 0), .ref (q 0), .ref (tr 0), .int (nI 0)])), (n 0, .inr (2, [.int (nI N), .int (nI 0), .ref (n 1), .ref (n 2), .ref (n 3), .ref (n 9), .ref (n 16), .ref (n 23), .int (nI 0), .ref (n 32), .int (nI 0), .ref (n 33)])), (n 9, .inr (4, [.ref (n 10), .ref (n 11), .ref (n 12), .ref (n 13), .ref (n 14), .ref (n 15)])), (n 12, .inl (cI, 100, .inl (fun _ => -1)))] := hD
  replace hw5 : r5 = (-1) := hw5
  refine k_ti hw5 ?_
  refine lv_i2l (v := (-1)) hx hb dL_hops_8 (by decide) ?_
  refine k_last (f' := vp_updL (fun _ => 0) 0 (-1)) hx hb hK hP hD hS 0 1 rfl rfl (by omega) (by omega) (rfl) dL_hops_9 (fun H locs hP hD hS => ?_)
  replace hP : va_P D vwCl [(o9, .inl (cJ, 1, .inr (.inl (vp_updL (fun _ => 0) 0 (-1))))), (x0, .inr (6, [.int (nI N), .ref (n 0), .ref (q 0), .ref (tr 0), .int (nI 0)])), (n 0, .inr (2, [.int (nI N), .int (nI 0), .ref (n 1), .ref (n 2), .ref (n 3), .ref (n 9), .ref (n 16), .ref (n 23), .int (nI 0), .ref (n 32), .int (nI 0), .ref (n 33)])), (n 9, .inr (4, [.ref (n 10), .ref (n 11), .ref (n 12), .ref (n 13), .ref (n 14), .ref (n 15)])), (n 12, .inl (cI, 100, .inl (fun _ => -1)))] H := hP
  replace hD : va_D A [(o9, .inl (cJ, 1, .inr (.inl (vp_updL (fun _ => 0) 0 (-1))))), (x0, .inr (6, [.int (nI N), .ref (n 0), .ref (q 0), .ref (tr 0), .int (nI 0)])), (n 0, .inr (2, [.int (nI N), .int (nI 0), .ref (n 1), .ref (n 2), .ref (n 3), .ref (n 9), .ref (n 16), .ref (n 23), .int (nI 0), .ref (n 32), .int (nI 0), .ref (n 33)])), (n 9, .inr (4, [.ref (n 10), .ref (n 11), .ref (n 12), .ref (n 13), .ref (n 14), .ref (n 15)])), (n 12, .inl (cI, 100, .inl (fun _ => -1)))] := hD
  refine lv_goto (tgt := 17) hx hb dL_hops_10 (by decide) ?_
  refine lv_iconst (v := nI 0) hx hb dL_hops_17 (by decide) ?_
  have hP9 := hP.sub (ws' := [(o9, .inl (cJ, 1, .inr (.inl (vp_updL (fun _ => 0) 0 (-1)))))]) [0] rfl
  have hD9 := hD.sub (ws' := [(o9, .inl (cJ, 1, .inr (.inl (vp_updL (fun _ => 0) 0 (-1)))))]) [0] rfl rfl
  exact W.iret (v := nI 0) hx hb hr (fun t9 ht9 hW9 => ⟨⟨nI 0, (), rfl, rfl, by rw [ht9]; exact hP9, hD9⟩, hS.F ht9⟩) hS.2.2 dL_hops_18

set_option maxHeartbeats 4000000 in
set_option maxRecDepth 100000 in
theorem c_L_sequence1 (l : Launch) (D : va_G) (cI cJ cM cG : ClassId) (x0 : Nat) (n : Nat → Nat) (q : Nat → Nat) (tr : Nat → Nat) (N : Nat) (a : Nat) (b : Nat) (o9 : Nat) (sz : Nat) (ha : a < N) (hb9 : b < N) (hN : N ≤ 10) : Met l yL_sequence (Cond.codeWith yL_sequence cL_sequence 5 (some .int) [(0, 10, 13, 13)] :: kBig) ({ frames := 3, cells := 0, slots := 0, locals := 66 }) (va_Pc [.ref x0, .int (nI a), .int (nI b), .ref o9] (kP D [(cI, .int), (cJ, .long), (cM, .object "MeshRouting$Message"), (cG, .array .int)] [(x0, .inr (6, [.int (nI N), .ref (n 0), .ref (q 0), .ref (tr 0), .int (nI 0)])), (n 0, .inr (2, [.int (nI N), .int (nI 0), .ref (n 1), .ref (n 2), .ref (n 3), .ref (n 9), .ref (n 16), .ref (n 23), .int (nI 0), .ref (n 32), .int (nI 0), .ref (n 33)])), (n 2, .inl (cI, 10, .inl (fun _ => 0))), (n 9, .inr (4, [.ref (n 10), .ref (n 11), .ref (n 12), .ref (n 13), .ref (n 14), .ref (n 15)])), (n 10, .inl (cI, 100, .inl (fun _ => 0))), (o9, .inl (cJ, 1, .inr (.inl (fun _ => 0))))] sz)) (va_Qi (fun (r : Int32) (_ : Unit) => r = nI 0) (fun _ t9 => kB D (va_A [(x0, .inr (6, [.int (nI N), .ref (n 0), .ref (q 0), .ref (tr 0), .int (nI 0)])), (n 0, .inr (2, [.int (nI N), .int (nI 0), .ref (n 1), .ref (n 2), .ref (n 3), .ref (n 9), .ref (n 16), .ref (n 23), .int (nI 0), .ref (n 32), .int (nI 0), .ref (n 33)])), (n 2, .inl (cI, 10, .inl (fun _ => 0))), (n 9, .inr (4, [.ref (n 10), .ref (n 11), .ref (n 12), .ref (n 13), .ref (n 14), .ref (n 15)])), (n 10, .inl (cI, 100, .inl (fun _ => 0))), (o9, .inl (cJ, 1, .inr (.inl (fun _ => 0))))] sz) [(o9, .inl (cJ, 1, .inr (.inl (vp_updL (fun _ => 0) 0 ((if a = b then nI 0 else -2).toInt64)))))] t9) (va_A [(x0, .inr (6, [.int (nI N), .ref (n 0), .ref (q 0), .ref (tr 0), .int (nI 0)])), (n 0, .inr (2, [.int (nI N), .int (nI 0), .ref (n 1), .ref (n 2), .ref (n 3), .ref (n 9), .ref (n 16), .ref (n 23), .int (nI 0), .ref (n 32), .int (nI 0), .ref (n 33)])), (n 2, .inl (cI, 10, .inl (fun _ => 0))), (n 9, .inr (4, [.ref (n 10), .ref (n 11), .ref (n 12), .ref (n 13), .ref (n 14), .ref (n 15)])), (n 10, .inl (cI, 100, .inl (fun _ => 0))), (o9, .inl (cJ, 1, .inr (.inl (fun _ => 0))))] sz)) 0 0 (va_A [(x0, .inr (6, [.int (nI N), .ref (n 0), .ref (q 0), .ref (tr 0), .int (nI 0)])), (n 0, .inr (2, [.int (nI N), .int (nI 0), .ref (n 1), .ref (n 2), .ref (n 3), .ref (n 9), .ref (n 16), .ref (n 23), .int (nI 0), .ref (n 32), .int (nI 0), .ref (n 33)])), (n 2, .inl (cI, 10, .inl (fun _ => 0))), (n 9, .inr (4, [.ref (n 10), .ref (n 11), .ref (n 12), .ref (n 13), .ref (n 14), .ref (n 15)])), (n 10, .inl (cI, 100, .inl (fun _ => 0))), (o9, .inl (cJ, 1, .inr (.inl (fun _ => 0))))] sz) := by
  refine va_MetW (cc := cL_sequence) (maxL := 5) (ret := (some .int)) (hh := [(0, 10, 13, 13)]) (by decide) rfl ?_
  intro p e s m args below meth c s₁ B hml hv
  obtain ⟨rfl, ⟨hsz, hP, hK, hD0, hKN⟩⟩ := hv
  have hx := B.exec
  have hb := B.bytes
  have hr := B.returns
  have hts := atoms_spec (ws := (Cond.codeWith yL_sequence cL_sequence 5 (some .int) [(0, 10, 13, 13)] :: kBig)) B.pre
  have hown : s.vm.findClass RL = some m.cls := findClass_of_methodNamed B.named
  have hlocks := B.notSynchronized
  have htab := vx_table (x := yL_sequence) B (hts _ List.mem_cons_self)
  subst hsz
  have hD := hD0.self (sz := s.heap.size)
  generalize hAe : va_A [(x0, .inr (6, [.int (nI N), .ref (n 0), .ref (q 0), .ref (tr 0), .int (nI 0)])), (n 0, .inr (2, [.int (nI N), .int (nI 0), .ref (n 1), .ref (n 2), .ref (n 3), .ref (n 9), .ref (n 16), .ref (n 23), .int (nI 0), .ref (n 32), .int (nI 0), .ref (n 33)])), (n 2, .inl (cI, 10, .inl (fun _ => 0))), (n 9, .inr (4, [.ref (n 10), .ref (n 11), .ref (n 12), .ref (n 13), .ref (n 14), .ref (n 15)])), (n 10, .inl (cI, 100, .inl (fun _ => 0))), (o9, .inl (cJ, 1, .inr (.inl (fun _ => 0))))] s.heap.size = A at hD ⊢
  have hA : ∀ q : Nat, s.heap.size ≤ q → A q := fun q h => by rw [← hAe]; exact Or.inr h
  have hS : va_S A s.heap s.heap [] := va_S.rf
  have hl := lv_entry ([.ref x0, .int (nI a), .int (nI b), .ref o9]) (n := 5) (Nat.le_of_ble_eq_true rfl)
  rw [lg_entry_eq]
  generalize (lg_sl ([.ref x0, .int (nI a), .int (nI b), .ref o9]) ++ List.replicate (5 - (lg_sl ([.ref x0, .int (nI a), .int (nI b), .ref o9])).length) Slot.unset).toArray = ls at hl ⊢
  have hl : lv_has ls 5 [(0, .ref x0), (1, .int (nI a)), (2, .int (nI b)), (3, .ref o9)] := hl
  refine lv_aload_n hx hb dL_sequence_0 rfl (lv_at hl 3 rfl) ?_
  refine lv_iconst (v := nI 0) hx hb dL_sequence_1 (by decide) ?_
  refine lv_aload_n hx hb dL_sequence_2 rfl (lv_at hl 0 rfl) ?_
  refine lv_iload_n hx hb dL_sequence_3 rfl (lv_at hl 1 rfl) ?_
  refine lv_iload_n hx hb dL_sequence_4 rfl (lv_at hl 2 rfl) ?_
  refine k_ci (wr := [(o9, .inl (cJ, 1, .inr (.inl (fun _ => 0))))]) (w1 := [(x0, .inr (6, [.int (nI N), .ref (n 0), .ref (q 0), .ref (tr 0), .int (nI 0)])), (n 0, .inr (2, [.int (nI N), .int (nI 0), .ref (n 1), .ref (n 2), .ref (n 3), .ref (n 9), .ref (n 16), .ref (n 23), .int (nI 0), .ref (n 32), .int (nI 0), .ref (n 33)])), (n 2, .inl (cI, 10, .inl (fun _ => 0))), (n 9, .inr (4, [.ref (n 10), .ref (n 11), .ref (n 12), .ref (n 13), .ref (n 14), .ref (n 15)])), (n 10, .inl (cI, 100, .inl (fun _ => 0)))]) (va_runV (As := [.int (nI a), .int (nI b)]) (rest := [.int (nI 0), .ref o9]) ⟨hx, hb, hml, hown, hts⟩ (c_X6_sequence l D cI cJ cM cG x0 n q tr N a b s.heap.size (ha) (hb9) (hN)) (cwV 2 hts (kB_V (fun _ => List.mem_cons_of_mem _) q_555 q_556 q_557 q_9 (kB_c q_558)) rfl rfl rfl (by decide +kernel) ⟨Nat.le_of_ble_eq_true rfl, Nat.le_of_ble_eq_true rfl⟩) (k_preV (T := TX6) hP hD hK hKN [0, 1, 2, 3, 4] rfl rfl (ci := 6) rfl (q0 := 0) rfl) rfl rfl hl.1 rfl (lv_room (Nat.le_of_ble_eq_true rfl)) dL_sequence_5 ⟨Nat.le_of_ble_eq_true rfl, Nat.le_of_ble_eq_true rfl⟩) hP hD hS hA [0, 1, 2, 3, 4] [5] rfl rfl rfl (by decide) (fun r5 H locs hw5 hP hD hS => ?_)
  replace hP : va_P D vwCl [(o9, .inl (cJ, 1, .inr (.inl (fun _ => 0)))), (x0, .inr (6, [.int (nI N), .ref (n 0), .ref (q 0), .ref (tr 0), .int (nI 0)])), (n 0, .inr (2, [.int (nI N), .int (nI 0), .ref (n 1), .ref (n 2), .ref (n 3), .ref (n 9), .ref (n 16), .ref (n 23), .int (nI 0), .ref (n 32), .int (nI 0), .ref (n 33)])), (n 2, .inl (cI, 10, .inl (fun _ => 0))), (n 9, .inr (4, [.ref (n 10), .ref (n 11), .ref (n 12), .ref (n 13), .ref (n 14), .ref (n 15)])), (n 10, .inl (cI, 100, .inl (fun _ => 0)))] H := hP
  replace hD : va_D A [(o9, .inl (cJ, 1, .inr (.inl (fun _ => 0)))), (x0, .inr (6, [.int (nI N), .ref (n 0), .ref (q 0), .ref (tr 0), .int (nI 0)])), (n 0, .inr (2, [.int (nI N), .int (nI 0), .ref (n 1), .ref (n 2), .ref (n 3), .ref (n 9), .ref (n 16), .ref (n 23), .int (nI 0), .ref (n 32), .int (nI 0), .ref (n 33)])), (n 2, .inl (cI, 10, .inl (fun _ => 0))), (n 9, .inr (4, [.ref (n 10), .ref (n 11), .ref (n 12), .ref (n 13), .ref (n 14), .ref (n 15)])), (n 10, .inl (cI, 100, .inl (fun _ => 0)))] := hD
  replace hw5 : r5 = if a = b then nI 0 else -2 := hw5
  refine k_ti hw5 ?_
  refine lv_i2l (v := (if a = b then nI 0 else -2).toInt64) hx hb dL_sequence_8 (rfl) ?_
  refine k_last (f' := vp_updL (fun _ => 0) 0 ((if a = b then nI 0 else -2).toInt64)) hx hb hK hP hD hS 0 1 rfl rfl (by omega) (by omega) (rfl) dL_sequence_9 (fun H locs hP hD hS => ?_)
  replace hP : va_P D vwCl [(o9, .inl (cJ, 1, .inr (.inl (vp_updL (fun _ => 0) 0 ((if a = b then nI 0 else -2).toInt64))))), (x0, .inr (6, [.int (nI N), .ref (n 0), .ref (q 0), .ref (tr 0), .int (nI 0)])), (n 0, .inr (2, [.int (nI N), .int (nI 0), .ref (n 1), .ref (n 2), .ref (n 3), .ref (n 9), .ref (n 16), .ref (n 23), .int (nI 0), .ref (n 32), .int (nI 0), .ref (n 33)])), (n 2, .inl (cI, 10, .inl (fun _ => 0))), (n 9, .inr (4, [.ref (n 10), .ref (n 11), .ref (n 12), .ref (n 13), .ref (n 14), .ref (n 15)])), (n 10, .inl (cI, 100, .inl (fun _ => 0)))] H := hP
  replace hD : va_D A [(o9, .inl (cJ, 1, .inr (.inl (vp_updL (fun _ => 0) 0 ((if a = b then nI 0 else -2).toInt64))))), (x0, .inr (6, [.int (nI N), .ref (n 0), .ref (q 0), .ref (tr 0), .int (nI 0)])), (n 0, .inr (2, [.int (nI N), .int (nI 0), .ref (n 1), .ref (n 2), .ref (n 3), .ref (n 9), .ref (n 16), .ref (n 23), .int (nI 0), .ref (n 32), .int (nI 0), .ref (n 33)])), (n 2, .inl (cI, 10, .inl (fun _ => 0))), (n 9, .inr (4, [.ref (n 10), .ref (n 11), .ref (n 12), .ref (n 13), .ref (n 14), .ref (n 15)])), (n 10, .inl (cI, 100, .inl (fun _ => 0)))] := hD
  refine lv_goto (tgt := 17) hx hb dL_sequence_10 (by decide) ?_
  refine lv_iconst (v := nI 0) hx hb dL_sequence_17 (by decide) ?_
  have hP9 := hP.sub (ws' := [(o9, .inl (cJ, 1, .inr (.inl (vp_updL (fun _ => 0) 0 ((if a = b then nI 0 else -2).toInt64)))))]) [0] rfl
  have hD9 := hD.sub (ws' := [(o9, .inl (cJ, 1, .inr (.inl (vp_updL (fun _ => 0) 0 ((if a = b then nI 0 else -2).toInt64)))))]) [0] rfl rfl
  exact W.iret (v := nI 0) hx hb hr (fun t9 ht9 hW9 => ⟨⟨nI 0, (), rfl, rfl, by rw [ht9]; exact hP9, hD9⟩, hS.F ht9⟩) hS.2.2 dL_sequence_18

set_option maxHeartbeats 4000000 in
set_option maxRecDepth 100000 in
theorem c_L_expiry1 (l : Launch) (D : va_G) (cI cJ cM cG : ClassId) (x0 : Nat) (n : Nat → Nat) (q : Nat → Nat) (tr : Nat → Nat) (N : Nat) (a : Nat) (b : Nat) (o9 : Nat) (sz : Nat) (ha : a < N) (hb9 : b < N) (hN : N ≤ 10) : Met l yL_expiry (Cond.codeWith yL_expiry cL_expiry 5 (some .int) [(0, 10, 13, 13)] :: kBig) ({ frames := 3, cells := 0, slots := 0, locals := 65 }) (va_Pc [.ref x0, .int (nI a), .int (nI b), .ref o9] (kP D [(cI, .int), (cJ, .long), (cM, .object "MeshRouting$Message"), (cG, .array .int)] [(x0, .inr (6, [.int (nI N), .ref (n 0), .ref (q 0), .ref (tr 0), .int (nI 0)])), (n 0, .inr (2, [.int (nI N), .int (nI 0), .ref (n 1), .ref (n 2), .ref (n 3), .ref (n 9), .ref (n 16), .ref (n 23), .int (nI 0), .ref (n 32), .int (nI 0), .ref (n 33)])), (n 9, .inr (4, [.ref (n 10), .ref (n 11), .ref (n 12), .ref (n 13), .ref (n 14), .ref (n 15)])), (n 14, .inl (cI, 100, .inl (fun _ => -1))), (o9, .inl (cJ, 1, .inr (.inl (fun _ => 0))))] sz)) (va_Qi (fun (r : Int32) (_ : Unit) => r = nI 0) (fun _ t9 => kB D (va_A [(x0, .inr (6, [.int (nI N), .ref (n 0), .ref (q 0), .ref (tr 0), .int (nI 0)])), (n 0, .inr (2, [.int (nI N), .int (nI 0), .ref (n 1), .ref (n 2), .ref (n 3), .ref (n 9), .ref (n 16), .ref (n 23), .int (nI 0), .ref (n 32), .int (nI 0), .ref (n 33)])), (n 9, .inr (4, [.ref (n 10), .ref (n 11), .ref (n 12), .ref (n 13), .ref (n 14), .ref (n 15)])), (n 14, .inl (cI, 100, .inl (fun _ => -1))), (o9, .inl (cJ, 1, .inr (.inl (fun _ => 0))))] sz) [(o9, .inl (cJ, 1, .inr (.inl (vp_updL (fun _ => 0) 0 (-1)))))] t9) (va_A [(x0, .inr (6, [.int (nI N), .ref (n 0), .ref (q 0), .ref (tr 0), .int (nI 0)])), (n 0, .inr (2, [.int (nI N), .int (nI 0), .ref (n 1), .ref (n 2), .ref (n 3), .ref (n 9), .ref (n 16), .ref (n 23), .int (nI 0), .ref (n 32), .int (nI 0), .ref (n 33)])), (n 9, .inr (4, [.ref (n 10), .ref (n 11), .ref (n 12), .ref (n 13), .ref (n 14), .ref (n 15)])), (n 14, .inl (cI, 100, .inl (fun _ => -1))), (o9, .inl (cJ, 1, .inr (.inl (fun _ => 0))))] sz)) 0 0 (va_A [(x0, .inr (6, [.int (nI N), .ref (n 0), .ref (q 0), .ref (tr 0), .int (nI 0)])), (n 0, .inr (2, [.int (nI N), .int (nI 0), .ref (n 1), .ref (n 2), .ref (n 3), .ref (n 9), .ref (n 16), .ref (n 23), .int (nI 0), .ref (n 32), .int (nI 0), .ref (n 33)])), (n 9, .inr (4, [.ref (n 10), .ref (n 11), .ref (n 12), .ref (n 13), .ref (n 14), .ref (n 15)])), (n 14, .inl (cI, 100, .inl (fun _ => -1))), (o9, .inl (cJ, 1, .inr (.inl (fun _ => 0))))] sz) := by
  refine va_MetW (cc := cL_expiry) (maxL := 5) (ret := (some .int)) (hh := [(0, 10, 13, 13)]) (by decide) rfl ?_
  intro p e s m args below meth c s₁ B hml hv
  obtain ⟨rfl, ⟨hsz, hP, hK, hD0, hKN⟩⟩ := hv
  have hx := B.exec
  have hb := B.bytes
  have hr := B.returns
  have hts := atoms_spec (ws := (Cond.codeWith yL_expiry cL_expiry 5 (some .int) [(0, 10, 13, 13)] :: kBig)) B.pre
  have hown : s.vm.findClass RL = some m.cls := findClass_of_methodNamed B.named
  have hlocks := B.notSynchronized
  have htab := vx_table (x := yL_expiry) B (hts _ List.mem_cons_self)
  subst hsz
  have hD := hD0.self (sz := s.heap.size)
  generalize hAe : va_A [(x0, .inr (6, [.int (nI N), .ref (n 0), .ref (q 0), .ref (tr 0), .int (nI 0)])), (n 0, .inr (2, [.int (nI N), .int (nI 0), .ref (n 1), .ref (n 2), .ref (n 3), .ref (n 9), .ref (n 16), .ref (n 23), .int (nI 0), .ref (n 32), .int (nI 0), .ref (n 33)])), (n 9, .inr (4, [.ref (n 10), .ref (n 11), .ref (n 12), .ref (n 13), .ref (n 14), .ref (n 15)])), (n 14, .inl (cI, 100, .inl (fun _ => -1))), (o9, .inl (cJ, 1, .inr (.inl (fun _ => 0))))] s.heap.size = A at hD ⊢
  have hA : ∀ q : Nat, s.heap.size ≤ q → A q := fun q h => by rw [← hAe]; exact Or.inr h
  have hS : va_S A s.heap s.heap [] := va_S.rf
  have hl := lv_entry ([.ref x0, .int (nI a), .int (nI b), .ref o9]) (n := 5) (Nat.le_of_ble_eq_true rfl)
  rw [lg_entry_eq]
  generalize (lg_sl ([.ref x0, .int (nI a), .int (nI b), .ref o9]) ++ List.replicate (5 - (lg_sl ([.ref x0, .int (nI a), .int (nI b), .ref o9])).length) Slot.unset).toArray = ls at hl ⊢
  have hl : lv_has ls 5 [(0, .ref x0), (1, .int (nI a)), (2, .int (nI b)), (3, .ref o9)] := hl
  refine lv_aload_n hx hb dL_expiry_0 rfl (lv_at hl 3 rfl) ?_
  refine lv_iconst (v := nI 0) hx hb dL_expiry_1 (by decide) ?_
  refine lv_aload_n hx hb dL_expiry_2 rfl (lv_at hl 0 rfl) ?_
  refine lv_iload_n hx hb dL_expiry_3 rfl (lv_at hl 1 rfl) ?_
  refine lv_iload_n hx hb dL_expiry_4 rfl (lv_at hl 2 rfl) ?_
  refine k_ci (wr := [(o9, .inl (cJ, 1, .inr (.inl (fun _ => 0))))]) (w1 := [(x0, .inr (6, [.int (nI N), .ref (n 0), .ref (q 0), .ref (tr 0), .int (nI 0)])), (n 0, .inr (2, [.int (nI N), .int (nI 0), .ref (n 1), .ref (n 2), .ref (n 3), .ref (n 9), .ref (n 16), .ref (n 23), .int (nI 0), .ref (n 32), .int (nI 0), .ref (n 33)])), (n 9, .inr (4, [.ref (n 10), .ref (n 11), .ref (n 12), .ref (n 13), .ref (n 14), .ref (n 15)])), (n 14, .inl (cI, 100, .inl (fun _ => -1)))]) (va_runV (As := [.int (nI a), .int (nI b)]) (rest := [.int (nI 0), .ref o9]) ⟨hx, hb, hml, hown, hts⟩ (c_X6_expiry l D cI cJ cM cG x0 n q tr N a b s.heap.size (ha) (hb9) (hN)) (cwV 2 hts (kB_V (fun _ => List.mem_cons_of_mem _) q_449 q_450 q_451 q_9 (kB_c q_452)) rfl rfl rfl (by decide +kernel) ⟨Nat.le_of_ble_eq_true rfl, Nat.le_of_ble_eq_true rfl⟩) (k_preV (T := TX6) hP hD hK hKN [0, 1, 2, 3] rfl rfl (ci := 6) rfl (q0 := 0) rfl) rfl rfl hl.1 rfl (lv_room (Nat.le_of_ble_eq_true rfl)) dL_expiry_5 ⟨Nat.le_of_ble_eq_true rfl, Nat.le_of_ble_eq_true rfl⟩) hP hD hS hA [0, 1, 2, 3] [4] rfl rfl rfl (by decide) (fun r5 H locs hw5 hP hD hS => ?_)
  replace hP : va_P D vwCl [(o9, .inl (cJ, 1, .inr (.inl (fun _ => 0)))), (x0, .inr (6, [.int (nI N), .ref (n 0), .ref (q 0), .ref (tr 0), .int (nI 0)])), (n 0, .inr (2, [.int (nI N), .int (nI 0), .ref (n 1), .ref (n 2), .ref (n 3), .ref (n 9), .ref (n 16), .ref (n 23), .int (nI 0), .ref (n 32), .int (nI 0), .ref (n 33)])), (n 9, .inr (4, [.ref (n 10), .ref (n 11), .ref (n 12), .ref (n 13), .ref (n 14), .ref (n 15)])), (n 14, .inl (cI, 100, .inl (fun _ => -1)))] H := hP
  replace hD : va_D A [(o9, .inl (cJ, 1, .inr (.inl (fun _ => 0)))), (x0, .inr (6, [.int (nI N), .ref (n 0), .ref (q 0), .ref (tr 0), .int (nI 0)])), (n 0, .inr (2, [.int (nI N), .int (nI 0), .ref (n 1), .ref (n 2), .ref (n 3), .ref (n 9), .ref (n 16), .ref (n 23), .int (nI 0), .ref (n 32), .int (nI 0), .ref (n 33)])), (n 9, .inr (4, [.ref (n 10), .ref (n 11), .ref (n 12), .ref (n 13), .ref (n 14), .ref (n 15)])), (n 14, .inl (cI, 100, .inl (fun _ => -1)))] := hD
  replace hw5 : r5 = (-1) := hw5
  refine k_ti hw5 ?_
  refine lv_i2l (v := (-1)) hx hb dL_expiry_8 (by decide) ?_
  refine k_last (f' := vp_updL (fun _ => 0) 0 (-1)) hx hb hK hP hD hS 0 1 rfl rfl (by omega) (by omega) (rfl) dL_expiry_9 (fun H locs hP hD hS => ?_)
  replace hP : va_P D vwCl [(o9, .inl (cJ, 1, .inr (.inl (vp_updL (fun _ => 0) 0 (-1))))), (x0, .inr (6, [.int (nI N), .ref (n 0), .ref (q 0), .ref (tr 0), .int (nI 0)])), (n 0, .inr (2, [.int (nI N), .int (nI 0), .ref (n 1), .ref (n 2), .ref (n 3), .ref (n 9), .ref (n 16), .ref (n 23), .int (nI 0), .ref (n 32), .int (nI 0), .ref (n 33)])), (n 9, .inr (4, [.ref (n 10), .ref (n 11), .ref (n 12), .ref (n 13), .ref (n 14), .ref (n 15)])), (n 14, .inl (cI, 100, .inl (fun _ => -1)))] H := hP
  replace hD : va_D A [(o9, .inl (cJ, 1, .inr (.inl (vp_updL (fun _ => 0) 0 (-1))))), (x0, .inr (6, [.int (nI N), .ref (n 0), .ref (q 0), .ref (tr 0), .int (nI 0)])), (n 0, .inr (2, [.int (nI N), .int (nI 0), .ref (n 1), .ref (n 2), .ref (n 3), .ref (n 9), .ref (n 16), .ref (n 23), .int (nI 0), .ref (n 32), .int (nI 0), .ref (n 33)])), (n 9, .inr (4, [.ref (n 10), .ref (n 11), .ref (n 12), .ref (n 13), .ref (n 14), .ref (n 15)])), (n 14, .inl (cI, 100, .inl (fun _ => -1)))] := hD
  refine lv_goto (tgt := 17) hx hb dL_expiry_10 (by decide) ?_
  refine lv_iconst (v := nI 0) hx hb dL_expiry_17 (by decide) ?_
  have hP9 := hP.sub (ws' := [(o9, .inl (cJ, 1, .inr (.inl (vp_updL (fun _ => 0) 0 (-1)))))]) [0] rfl
  have hD9 := hD.sub (ws' := [(o9, .inl (cJ, 1, .inr (.inl (vp_updL (fun _ => 0) 0 (-1)))))]) [0] rfl rfl
  exact W.iret (v := nI 0) hx hb hr (fun t9 ht9 hW9 => ⟨⟨nI 0, (), rfl, rfl, by rw [ht9]; exact hP9, hD9⟩, hS.F ht9⟩) hS.2.2 dL_expiry_18

set_option maxHeartbeats 4000000 in
set_option maxRecDepth 100000 in
theorem c_L_users1 (l : Launch) (D : va_G) (cI cJ cM cG : ClassId) (x0 : Nat) (n : Nat → Nat) (q : Nat → Nat) (tr : Nat → Nat) (N : Nat) (a : Nat) (b : Nat) (o9 : Nat) (sz : Nat) (ha : a < N) (hb9 : b < N) (hN : N ≤ 10) : Met l yL_users (Cond.codeWith yL_users cL_users 5 (some .int) [(0, 10, 13, 13)] :: kBig) ({ frames := 3, cells := 0, slots := 0, locals := 65 }) (va_Pc [.ref x0, .int (nI a), .int (nI b), .ref o9] (kP D [(cI, .int), (cJ, .long), (cM, .object "MeshRouting$Message"), (cG, .array .int)] [(x0, .inr (6, [.int (nI N), .ref (n 0), .ref (q 0), .ref (tr 0), .int (nI 0)])), (n 0, .inr (2, [.int (nI N), .int (nI 0), .ref (n 1), .ref (n 2), .ref (n 3), .ref (n 9), .ref (n 16), .ref (n 23), .int (nI 0), .ref (n 32), .int (nI 0), .ref (n 33)])), (n 9, .inr (4, [.ref (n 10), .ref (n 11), .ref (n 12), .ref (n 13), .ref (n 14), .ref (n 15)])), (n 15, .inl (cI, 100, .inl (fun _ => 0))), (o9, .inl (cJ, 1, .inr (.inl (fun _ => 0))))] sz)) (va_Qi (fun (r : Int32) (_ : Unit) => r = nI 0) (fun _ t9 => kB D (va_A [(x0, .inr (6, [.int (nI N), .ref (n 0), .ref (q 0), .ref (tr 0), .int (nI 0)])), (n 0, .inr (2, [.int (nI N), .int (nI 0), .ref (n 1), .ref (n 2), .ref (n 3), .ref (n 9), .ref (n 16), .ref (n 23), .int (nI 0), .ref (n 32), .int (nI 0), .ref (n 33)])), (n 9, .inr (4, [.ref (n 10), .ref (n 11), .ref (n 12), .ref (n 13), .ref (n 14), .ref (n 15)])), (n 15, .inl (cI, 100, .inl (fun _ => 0))), (o9, .inl (cJ, 1, .inr (.inl (fun _ => 0))))] sz) [(o9, .inl (cJ, 1, .inr (.inl (vp_updL (fun _ => 0) 0 (lN 0)))))] t9) (va_A [(x0, .inr (6, [.int (nI N), .ref (n 0), .ref (q 0), .ref (tr 0), .int (nI 0)])), (n 0, .inr (2, [.int (nI N), .int (nI 0), .ref (n 1), .ref (n 2), .ref (n 3), .ref (n 9), .ref (n 16), .ref (n 23), .int (nI 0), .ref (n 32), .int (nI 0), .ref (n 33)])), (n 9, .inr (4, [.ref (n 10), .ref (n 11), .ref (n 12), .ref (n 13), .ref (n 14), .ref (n 15)])), (n 15, .inl (cI, 100, .inl (fun _ => 0))), (o9, .inl (cJ, 1, .inr (.inl (fun _ => 0))))] sz)) 0 0 (va_A [(x0, .inr (6, [.int (nI N), .ref (n 0), .ref (q 0), .ref (tr 0), .int (nI 0)])), (n 0, .inr (2, [.int (nI N), .int (nI 0), .ref (n 1), .ref (n 2), .ref (n 3), .ref (n 9), .ref (n 16), .ref (n 23), .int (nI 0), .ref (n 32), .int (nI 0), .ref (n 33)])), (n 9, .inr (4, [.ref (n 10), .ref (n 11), .ref (n 12), .ref (n 13), .ref (n 14), .ref (n 15)])), (n 15, .inl (cI, 100, .inl (fun _ => 0))), (o9, .inl (cJ, 1, .inr (.inl (fun _ => 0))))] sz) := by
  refine va_MetW (cc := cL_users) (maxL := 5) (ret := (some .int)) (hh := [(0, 10, 13, 13)]) (by decide) rfl ?_
  intro p e s m args below meth c s₁ B hml hv
  obtain ⟨rfl, ⟨hsz, hP, hK, hD0, hKN⟩⟩ := hv
  have hx := B.exec
  have hb := B.bytes
  have hr := B.returns
  have hts := atoms_spec (ws := (Cond.codeWith yL_users cL_users 5 (some .int) [(0, 10, 13, 13)] :: kBig)) B.pre
  have hown : s.vm.findClass RL = some m.cls := findClass_of_methodNamed B.named
  have hlocks := B.notSynchronized
  have htab := vx_table (x := yL_users) B (hts _ List.mem_cons_self)
  subst hsz
  have hD := hD0.self (sz := s.heap.size)
  generalize hAe : va_A [(x0, .inr (6, [.int (nI N), .ref (n 0), .ref (q 0), .ref (tr 0), .int (nI 0)])), (n 0, .inr (2, [.int (nI N), .int (nI 0), .ref (n 1), .ref (n 2), .ref (n 3), .ref (n 9), .ref (n 16), .ref (n 23), .int (nI 0), .ref (n 32), .int (nI 0), .ref (n 33)])), (n 9, .inr (4, [.ref (n 10), .ref (n 11), .ref (n 12), .ref (n 13), .ref (n 14), .ref (n 15)])), (n 15, .inl (cI, 100, .inl (fun _ => 0))), (o9, .inl (cJ, 1, .inr (.inl (fun _ => 0))))] s.heap.size = A at hD ⊢
  have hA : ∀ q : Nat, s.heap.size ≤ q → A q := fun q h => by rw [← hAe]; exact Or.inr h
  have hS : va_S A s.heap s.heap [] := va_S.rf
  have hl := lv_entry ([.ref x0, .int (nI a), .int (nI b), .ref o9]) (n := 5) (Nat.le_of_ble_eq_true rfl)
  rw [lg_entry_eq]
  generalize (lg_sl ([.ref x0, .int (nI a), .int (nI b), .ref o9]) ++ List.replicate (5 - (lg_sl ([.ref x0, .int (nI a), .int (nI b), .ref o9])).length) Slot.unset).toArray = ls at hl ⊢
  have hl : lv_has ls 5 [(0, .ref x0), (1, .int (nI a)), (2, .int (nI b)), (3, .ref o9)] := hl
  refine lv_aload_n hx hb dL_users_0 rfl (lv_at hl 3 rfl) ?_
  refine lv_iconst (v := nI 0) hx hb dL_users_1 (by decide) ?_
  refine lv_aload_n hx hb dL_users_2 rfl (lv_at hl 0 rfl) ?_
  refine lv_iload_n hx hb dL_users_3 rfl (lv_at hl 1 rfl) ?_
  refine lv_iload_n hx hb dL_users_4 rfl (lv_at hl 2 rfl) ?_
  refine k_ci (wr := [(o9, .inl (cJ, 1, .inr (.inl (fun _ => 0))))]) (w1 := [(x0, .inr (6, [.int (nI N), .ref (n 0), .ref (q 0), .ref (tr 0), .int (nI 0)])), (n 0, .inr (2, [.int (nI N), .int (nI 0), .ref (n 1), .ref (n 2), .ref (n 3), .ref (n 9), .ref (n 16), .ref (n 23), .int (nI 0), .ref (n 32), .int (nI 0), .ref (n 33)])), (n 9, .inr (4, [.ref (n 10), .ref (n 11), .ref (n 12), .ref (n 13), .ref (n 14), .ref (n 15)])), (n 15, .inl (cI, 100, .inl (fun _ => 0)))]) (va_runV (As := [.int (nI a), .int (nI b)]) (rest := [.int (nI 0), .ref o9]) ⟨hx, hb, hml, hown, hts⟩ (c_X6_users l D cI cJ cM cG x0 n q tr N a b s.heap.size (ha) (hb9) (hN)) (cwV 2 hts (kB_V (fun _ => List.mem_cons_of_mem _) q_588 q_589 q_590 q_9 (kB_c q_591)) rfl rfl rfl (by decide +kernel) ⟨Nat.le_of_ble_eq_true rfl, Nat.le_of_ble_eq_true rfl⟩) (k_preV (T := TX6) hP hD hK hKN [0, 1, 2, 3] rfl rfl (ci := 6) rfl (q0 := 0) rfl) rfl rfl hl.1 rfl (lv_room (Nat.le_of_ble_eq_true rfl)) dL_users_5 ⟨Nat.le_of_ble_eq_true rfl, Nat.le_of_ble_eq_true rfl⟩) hP hD hS hA [0, 1, 2, 3] [4] rfl rfl rfl (by decide) (fun r5 H locs hw5 hP hD hS => ?_)
  replace hP : va_P D vwCl [(o9, .inl (cJ, 1, .inr (.inl (fun _ => 0)))), (x0, .inr (6, [.int (nI N), .ref (n 0), .ref (q 0), .ref (tr 0), .int (nI 0)])), (n 0, .inr (2, [.int (nI N), .int (nI 0), .ref (n 1), .ref (n 2), .ref (n 3), .ref (n 9), .ref (n 16), .ref (n 23), .int (nI 0), .ref (n 32), .int (nI 0), .ref (n 33)])), (n 9, .inr (4, [.ref (n 10), .ref (n 11), .ref (n 12), .ref (n 13), .ref (n 14), .ref (n 15)])), (n 15, .inl (cI, 100, .inl (fun _ => 0)))] H := hP
  replace hD : va_D A [(o9, .inl (cJ, 1, .inr (.inl (fun _ => 0)))), (x0, .inr (6, [.int (nI N), .ref (n 0), .ref (q 0), .ref (tr 0), .int (nI 0)])), (n 0, .inr (2, [.int (nI N), .int (nI 0), .ref (n 1), .ref (n 2), .ref (n 3), .ref (n 9), .ref (n 16), .ref (n 23), .int (nI 0), .ref (n 32), .int (nI 0), .ref (n 33)])), (n 9, .inr (4, [.ref (n 10), .ref (n 11), .ref (n 12), .ref (n 13), .ref (n 14), .ref (n 15)])), (n 15, .inl (cI, 100, .inl (fun _ => 0)))] := hD
  replace hw5 : r5 = nI 0 := hw5
  refine k_ti hw5 ?_
  refine lv_i2l (v := lN 0) hx hb dL_users_8 (by decide) ?_
  refine k_last (f' := vp_updL (fun _ => 0) 0 (lN 0)) hx hb hK hP hD hS 0 1 rfl rfl (by omega) (by omega) (rfl) dL_users_9 (fun H locs hP hD hS => ?_)
  replace hP : va_P D vwCl [(o9, .inl (cJ, 1, .inr (.inl (vp_updL (fun _ => 0) 0 (lN 0))))), (x0, .inr (6, [.int (nI N), .ref (n 0), .ref (q 0), .ref (tr 0), .int (nI 0)])), (n 0, .inr (2, [.int (nI N), .int (nI 0), .ref (n 1), .ref (n 2), .ref (n 3), .ref (n 9), .ref (n 16), .ref (n 23), .int (nI 0), .ref (n 32), .int (nI 0), .ref (n 33)])), (n 9, .inr (4, [.ref (n 10), .ref (n 11), .ref (n 12), .ref (n 13), .ref (n 14), .ref (n 15)])), (n 15, .inl (cI, 100, .inl (fun _ => 0)))] H := hP
  replace hD : va_D A [(o9, .inl (cJ, 1, .inr (.inl (vp_updL (fun _ => 0) 0 (lN 0))))), (x0, .inr (6, [.int (nI N), .ref (n 0), .ref (q 0), .ref (tr 0), .int (nI 0)])), (n 0, .inr (2, [.int (nI N), .int (nI 0), .ref (n 1), .ref (n 2), .ref (n 3), .ref (n 9), .ref (n 16), .ref (n 23), .int (nI 0), .ref (n 32), .int (nI 0), .ref (n 33)])), (n 9, .inr (4, [.ref (n 10), .ref (n 11), .ref (n 12), .ref (n 13), .ref (n 14), .ref (n 15)])), (n 15, .inl (cI, 100, .inl (fun _ => 0)))] := hD
  refine lv_goto (tgt := 17) hx hb dL_users_10 (by decide) ?_
  refine lv_iconst (v := nI 0) hx hb dL_users_17 (by decide) ?_
  have hP9 := hP.sub (ws' := [(o9, .inl (cJ, 1, .inr (.inl (vp_updL (fun _ => 0) 0 (lN 0)))))]) [0] rfl
  have hD9 := hD.sub (ws' := [(o9, .inl (cJ, 1, .inr (.inl (vp_updL (fun _ => 0) 0 (lN 0)))))]) [0] rfl rfl
  exact W.iret (v := nI 0) hx hb hr (fun t9 ht9 hW9 => ⟨⟨nI 0, (), rfl, rfl, by rw [ht9]; exact hP9, hD9⟩, hS.F ht9⟩) hS.2.2 dL_users_18

set_option maxHeartbeats 4000000 in
set_option maxRecDepth 100000 in
theorem c_L_searching1 (l : Launch) (D : va_G) (cI cJ cM cG : ClassId) (x0 : Nat) (n : Nat → Nat) (q : Nat → Nat) (tr : Nat → Nat) (N : Nat) (a : Nat) (b : Nat) (o9 : Nat) (sz : Nat) (ha : a < N) (hb9 : b < N) (hN : N ≤ 10) : Met l yL_searching (Cond.codeWith yL_searching cL_searching 5 (some .int) [(0, 10, 13, 13)] :: kBig) ({ frames := 3, cells := 0, slots := 0, locals := 65 }) (va_Pc [.ref x0, .int (nI a), .int (nI b), .ref o9] (kP D [(cI, .int), (cJ, .long), (cM, .object "MeshRouting$Message"), (cG, .array .int)] [(x0, .inr (6, [.int (nI N), .ref (n 0), .ref (q 0), .ref (tr 0), .int (nI 0)])), (n 0, .inr (2, [.int (nI N), .int (nI 0), .ref (n 1), .ref (n 2), .ref (n 3), .ref (n 9), .ref (n 16), .ref (n 23), .int (nI 0), .ref (n 32), .int (nI 0), .ref (n 33)])), (n 16, .inr (5, [.ref (n 17), .ref (n 18), .ref (n 19), .ref (n 20), .ref (n 21), .ref (n 22), .int (-1)])), (n 17, .inl (cI, 100, .inl (fun _ => 0))), (o9, .inl (cJ, 1, .inr (.inl (fun _ => 0))))] sz)) (va_Qi (fun (r : Int32) (_ : Unit) => r = nI 0) (fun _ t9 => kB D (va_A [(x0, .inr (6, [.int (nI N), .ref (n 0), .ref (q 0), .ref (tr 0), .int (nI 0)])), (n 0, .inr (2, [.int (nI N), .int (nI 0), .ref (n 1), .ref (n 2), .ref (n 3), .ref (n 9), .ref (n 16), .ref (n 23), .int (nI 0), .ref (n 32), .int (nI 0), .ref (n 33)])), (n 16, .inr (5, [.ref (n 17), .ref (n 18), .ref (n 19), .ref (n 20), .ref (n 21), .ref (n 22), .int (-1)])), (n 17, .inl (cI, 100, .inl (fun _ => 0))), (o9, .inl (cJ, 1, .inr (.inl (fun _ => 0))))] sz) [(o9, .inl (cJ, 1, .inr (.inl (vp_updL (fun _ => 0) 0 (lN 0)))))] t9) (va_A [(x0, .inr (6, [.int (nI N), .ref (n 0), .ref (q 0), .ref (tr 0), .int (nI 0)])), (n 0, .inr (2, [.int (nI N), .int (nI 0), .ref (n 1), .ref (n 2), .ref (n 3), .ref (n 9), .ref (n 16), .ref (n 23), .int (nI 0), .ref (n 32), .int (nI 0), .ref (n 33)])), (n 16, .inr (5, [.ref (n 17), .ref (n 18), .ref (n 19), .ref (n 20), .ref (n 21), .ref (n 22), .int (-1)])), (n 17, .inl (cI, 100, .inl (fun _ => 0))), (o9, .inl (cJ, 1, .inr (.inl (fun _ => 0))))] sz)) 0 0 (va_A [(x0, .inr (6, [.int (nI N), .ref (n 0), .ref (q 0), .ref (tr 0), .int (nI 0)])), (n 0, .inr (2, [.int (nI N), .int (nI 0), .ref (n 1), .ref (n 2), .ref (n 3), .ref (n 9), .ref (n 16), .ref (n 23), .int (nI 0), .ref (n 32), .int (nI 0), .ref (n 33)])), (n 16, .inr (5, [.ref (n 17), .ref (n 18), .ref (n 19), .ref (n 20), .ref (n 21), .ref (n 22), .int (-1)])), (n 17, .inl (cI, 100, .inl (fun _ => 0))), (o9, .inl (cJ, 1, .inr (.inl (fun _ => 0))))] sz) := by
  refine va_MetW (cc := cL_searching) (maxL := 5) (ret := (some .int)) (hh := [(0, 10, 13, 13)]) (by decide) rfl ?_
  intro p e s m args below meth c s₁ B hml hv
  obtain ⟨rfl, ⟨hsz, hP, hK, hD0, hKN⟩⟩ := hv
  have hx := B.exec
  have hb := B.bytes
  have hr := B.returns
  have hts := atoms_spec (ws := (Cond.codeWith yL_searching cL_searching 5 (some .int) [(0, 10, 13, 13)] :: kBig)) B.pre
  have hown : s.vm.findClass RL = some m.cls := findClass_of_methodNamed B.named
  have hlocks := B.notSynchronized
  have htab := vx_table (x := yL_searching) B (hts _ List.mem_cons_self)
  subst hsz
  have hD := hD0.self (sz := s.heap.size)
  generalize hAe : va_A [(x0, .inr (6, [.int (nI N), .ref (n 0), .ref (q 0), .ref (tr 0), .int (nI 0)])), (n 0, .inr (2, [.int (nI N), .int (nI 0), .ref (n 1), .ref (n 2), .ref (n 3), .ref (n 9), .ref (n 16), .ref (n 23), .int (nI 0), .ref (n 32), .int (nI 0), .ref (n 33)])), (n 16, .inr (5, [.ref (n 17), .ref (n 18), .ref (n 19), .ref (n 20), .ref (n 21), .ref (n 22), .int (-1)])), (n 17, .inl (cI, 100, .inl (fun _ => 0))), (o9, .inl (cJ, 1, .inr (.inl (fun _ => 0))))] s.heap.size = A at hD ⊢
  have hA : ∀ q : Nat, s.heap.size ≤ q → A q := fun q h => by rw [← hAe]; exact Or.inr h
  have hS : va_S A s.heap s.heap [] := va_S.rf
  have hl := lv_entry ([.ref x0, .int (nI a), .int (nI b), .ref o9]) (n := 5) (Nat.le_of_ble_eq_true rfl)
  rw [lg_entry_eq]
  generalize (lg_sl ([.ref x0, .int (nI a), .int (nI b), .ref o9]) ++ List.replicate (5 - (lg_sl ([.ref x0, .int (nI a), .int (nI b), .ref o9])).length) Slot.unset).toArray = ls at hl ⊢
  have hl : lv_has ls 5 [(0, .ref x0), (1, .int (nI a)), (2, .int (nI b)), (3, .ref o9)] := hl
  refine lv_aload_n hx hb dL_searching_0 rfl (lv_at hl 3 rfl) ?_
  refine lv_iconst (v := nI 0) hx hb dL_searching_1 (by decide) ?_
  refine lv_aload_n hx hb dL_searching_2 rfl (lv_at hl 0 rfl) ?_
  refine lv_iload_n hx hb dL_searching_3 rfl (lv_at hl 1 rfl) ?_
  refine lv_iload_n hx hb dL_searching_4 rfl (lv_at hl 2 rfl) ?_
  refine k_ci (wr := [(o9, .inl (cJ, 1, .inr (.inl (fun _ => 0))))]) (w1 := [(x0, .inr (6, [.int (nI N), .ref (n 0), .ref (q 0), .ref (tr 0), .int (nI 0)])), (n 0, .inr (2, [.int (nI N), .int (nI 0), .ref (n 1), .ref (n 2), .ref (n 3), .ref (n 9), .ref (n 16), .ref (n 23), .int (nI 0), .ref (n 32), .int (nI 0), .ref (n 33)])), (n 16, .inr (5, [.ref (n 17), .ref (n 18), .ref (n 19), .ref (n 20), .ref (n 21), .ref (n 22), .int (-1)])), (n 17, .inl (cI, 100, .inl (fun _ => 0)))]) (va_runV (As := [.int (nI a), .int (nI b)]) (rest := [.int (nI 0), .ref o9]) ⟨hx, hb, hml, hown, hts⟩ (c_X6_searching l D cI cJ cM cG x0 n q tr N a b s.heap.size (ha) (hb9) (hN)) (cwV 2 hts (kB_V (fun _ => List.mem_cons_of_mem _) q_538 q_539 q_540 q_9 (kB_c q_541)) rfl rfl rfl (by decide +kernel) ⟨Nat.le_of_ble_eq_true rfl, Nat.le_of_ble_eq_true rfl⟩) (k_preV (T := TX6) hP hD hK hKN [0, 1, 2, 3] rfl rfl (ci := 6) rfl (q0 := 0) rfl) rfl rfl hl.1 rfl (lv_room (Nat.le_of_ble_eq_true rfl)) dL_searching_5 ⟨Nat.le_of_ble_eq_true rfl, Nat.le_of_ble_eq_true rfl⟩) hP hD hS hA [0, 1, 2, 3] [4] rfl rfl rfl (by decide) (fun r5 H locs hw5 hP hD hS => ?_)
  replace hP : va_P D vwCl [(o9, .inl (cJ, 1, .inr (.inl (fun _ => 0)))), (x0, .inr (6, [.int (nI N), .ref (n 0), .ref (q 0), .ref (tr 0), .int (nI 0)])), (n 0, .inr (2, [.int (nI N), .int (nI 0), .ref (n 1), .ref (n 2), .ref (n 3), .ref (n 9), .ref (n 16), .ref (n 23), .int (nI 0), .ref (n 32), .int (nI 0), .ref (n 33)])), (n 16, .inr (5, [.ref (n 17), .ref (n 18), .ref (n 19), .ref (n 20), .ref (n 21), .ref (n 22), .int (-1)])), (n 17, .inl (cI, 100, .inl (fun _ => 0)))] H := hP
  replace hD : va_D A [(o9, .inl (cJ, 1, .inr (.inl (fun _ => 0)))), (x0, .inr (6, [.int (nI N), .ref (n 0), .ref (q 0), .ref (tr 0), .int (nI 0)])), (n 0, .inr (2, [.int (nI N), .int (nI 0), .ref (n 1), .ref (n 2), .ref (n 3), .ref (n 9), .ref (n 16), .ref (n 23), .int (nI 0), .ref (n 32), .int (nI 0), .ref (n 33)])), (n 16, .inr (5, [.ref (n 17), .ref (n 18), .ref (n 19), .ref (n 20), .ref (n 21), .ref (n 22), .int (-1)])), (n 17, .inl (cI, 100, .inl (fun _ => 0)))] := hD
  replace hw5 : r5 = nI 0 := hw5
  refine k_ti hw5 ?_
  refine lv_i2l (v := lN 0) hx hb dL_searching_8 (by decide) ?_
  refine k_last (f' := vp_updL (fun _ => 0) 0 (lN 0)) hx hb hK hP hD hS 0 1 rfl rfl (by omega) (by omega) (rfl) dL_searching_9 (fun H locs hP hD hS => ?_)
  replace hP : va_P D vwCl [(o9, .inl (cJ, 1, .inr (.inl (vp_updL (fun _ => 0) 0 (lN 0))))), (x0, .inr (6, [.int (nI N), .ref (n 0), .ref (q 0), .ref (tr 0), .int (nI 0)])), (n 0, .inr (2, [.int (nI N), .int (nI 0), .ref (n 1), .ref (n 2), .ref (n 3), .ref (n 9), .ref (n 16), .ref (n 23), .int (nI 0), .ref (n 32), .int (nI 0), .ref (n 33)])), (n 16, .inr (5, [.ref (n 17), .ref (n 18), .ref (n 19), .ref (n 20), .ref (n 21), .ref (n 22), .int (-1)])), (n 17, .inl (cI, 100, .inl (fun _ => 0)))] H := hP
  replace hD : va_D A [(o9, .inl (cJ, 1, .inr (.inl (vp_updL (fun _ => 0) 0 (lN 0))))), (x0, .inr (6, [.int (nI N), .ref (n 0), .ref (q 0), .ref (tr 0), .int (nI 0)])), (n 0, .inr (2, [.int (nI N), .int (nI 0), .ref (n 1), .ref (n 2), .ref (n 3), .ref (n 9), .ref (n 16), .ref (n 23), .int (nI 0), .ref (n 32), .int (nI 0), .ref (n 33)])), (n 16, .inr (5, [.ref (n 17), .ref (n 18), .ref (n 19), .ref (n 20), .ref (n 21), .ref (n 22), .int (-1)])), (n 17, .inl (cI, 100, .inl (fun _ => 0)))] := hD
  refine lv_goto (tgt := 17) hx hb dL_searching_10 (by decide) ?_
  refine lv_iconst (v := nI 0) hx hb dL_searching_17 (by decide) ?_
  have hP9 := hP.sub (ws' := [(o9, .inl (cJ, 1, .inr (.inl (vp_updL (fun _ => 0) 0 (lN 0)))))]) [0] rfl
  have hD9 := hD.sub (ws' := [(o9, .inl (cJ, 1, .inr (.inl (vp_updL (fun _ => 0) 0 (lN 0)))))]) [0] rfl rfl
  exact W.iret (v := nI 0) hx hb hr (fun t9 ht9 hW9 => ⟨⟨nI 0, (), rfl, rfl, by rw [ht9]; exact hP9, hD9⟩, hS.F ht9⟩) hS.2.2 dL_searching_18

set_option maxHeartbeats 4000000 in
set_option maxRecDepth 100000 in
theorem c_L_timeout1 (l : Launch) (D : va_G) (cI cJ cM cG : ClassId) (x0 : Nat) (n : Nat → Nat) (q : Nat → Nat) (tr : Nat → Nat) (N : Nat) (a : Nat) (b : Nat) (o9 : Nat) (sz : Nat) (ha : a < N) (hb9 : b < N) (hN : N ≤ 10) : Met l yL_timeout (Cond.codeWith yL_timeout cL_timeout 5 (some .int) [(0, 10, 13, 13)] :: kBig) ({ frames := 3, cells := 0, slots := 0, locals := 65 }) (va_Pc [.ref x0, .int (nI a), .int (nI b), .ref o9] (kP D [(cI, .int), (cJ, .long), (cM, .object "MeshRouting$Message"), (cG, .array .int)] [(x0, .inr (6, [.int (nI N), .ref (n 0), .ref (q 0), .ref (tr 0), .int (nI 0)])), (n 0, .inr (2, [.int (nI N), .int (nI 0), .ref (n 1), .ref (n 2), .ref (n 3), .ref (n 9), .ref (n 16), .ref (n 23), .int (nI 0), .ref (n 32), .int (nI 0), .ref (n 33)])), (n 16, .inr (5, [.ref (n 17), .ref (n 18), .ref (n 19), .ref (n 20), .ref (n 21), .ref (n 22), .int (-1)])), (n 18, .inl (cI, 100, .inl (fun _ => -1))), (o9, .inl (cJ, 1, .inr (.inl (fun _ => 0))))] sz)) (va_Qi (fun (r : Int32) (_ : Unit) => r = nI 0) (fun _ t9 => kB D (va_A [(x0, .inr (6, [.int (nI N), .ref (n 0), .ref (q 0), .ref (tr 0), .int (nI 0)])), (n 0, .inr (2, [.int (nI N), .int (nI 0), .ref (n 1), .ref (n 2), .ref (n 3), .ref (n 9), .ref (n 16), .ref (n 23), .int (nI 0), .ref (n 32), .int (nI 0), .ref (n 33)])), (n 16, .inr (5, [.ref (n 17), .ref (n 18), .ref (n 19), .ref (n 20), .ref (n 21), .ref (n 22), .int (-1)])), (n 18, .inl (cI, 100, .inl (fun _ => -1))), (o9, .inl (cJ, 1, .inr (.inl (fun _ => 0))))] sz) [(o9, .inl (cJ, 1, .inr (.inl (vp_updL (fun _ => 0) 0 (-1)))))] t9) (va_A [(x0, .inr (6, [.int (nI N), .ref (n 0), .ref (q 0), .ref (tr 0), .int (nI 0)])), (n 0, .inr (2, [.int (nI N), .int (nI 0), .ref (n 1), .ref (n 2), .ref (n 3), .ref (n 9), .ref (n 16), .ref (n 23), .int (nI 0), .ref (n 32), .int (nI 0), .ref (n 33)])), (n 16, .inr (5, [.ref (n 17), .ref (n 18), .ref (n 19), .ref (n 20), .ref (n 21), .ref (n 22), .int (-1)])), (n 18, .inl (cI, 100, .inl (fun _ => -1))), (o9, .inl (cJ, 1, .inr (.inl (fun _ => 0))))] sz)) 0 0 (va_A [(x0, .inr (6, [.int (nI N), .ref (n 0), .ref (q 0), .ref (tr 0), .int (nI 0)])), (n 0, .inr (2, [.int (nI N), .int (nI 0), .ref (n 1), .ref (n 2), .ref (n 3), .ref (n 9), .ref (n 16), .ref (n 23), .int (nI 0), .ref (n 32), .int (nI 0), .ref (n 33)])), (n 16, .inr (5, [.ref (n 17), .ref (n 18), .ref (n 19), .ref (n 20), .ref (n 21), .ref (n 22), .int (-1)])), (n 18, .inl (cI, 100, .inl (fun _ => -1))), (o9, .inl (cJ, 1, .inr (.inl (fun _ => 0))))] sz) := by
  refine va_MetW (cc := cL_timeout) (maxL := 5) (ret := (some .int)) (hh := [(0, 10, 13, 13)]) (by decide) rfl ?_
  intro p e s m args below meth c s₁ B hml hv
  obtain ⟨rfl, ⟨hsz, hP, hK, hD0, hKN⟩⟩ := hv
  have hx := B.exec
  have hb := B.bytes
  have hr := B.returns
  have hts := atoms_spec (ws := (Cond.codeWith yL_timeout cL_timeout 5 (some .int) [(0, 10, 13, 13)] :: kBig)) B.pre
  have hown : s.vm.findClass RL = some m.cls := findClass_of_methodNamed B.named
  have hlocks := B.notSynchronized
  have htab := vx_table (x := yL_timeout) B (hts _ List.mem_cons_self)
  subst hsz
  have hD := hD0.self (sz := s.heap.size)
  generalize hAe : va_A [(x0, .inr (6, [.int (nI N), .ref (n 0), .ref (q 0), .ref (tr 0), .int (nI 0)])), (n 0, .inr (2, [.int (nI N), .int (nI 0), .ref (n 1), .ref (n 2), .ref (n 3), .ref (n 9), .ref (n 16), .ref (n 23), .int (nI 0), .ref (n 32), .int (nI 0), .ref (n 33)])), (n 16, .inr (5, [.ref (n 17), .ref (n 18), .ref (n 19), .ref (n 20), .ref (n 21), .ref (n 22), .int (-1)])), (n 18, .inl (cI, 100, .inl (fun _ => -1))), (o9, .inl (cJ, 1, .inr (.inl (fun _ => 0))))] s.heap.size = A at hD ⊢
  have hA : ∀ q : Nat, s.heap.size ≤ q → A q := fun q h => by rw [← hAe]; exact Or.inr h
  have hS : va_S A s.heap s.heap [] := va_S.rf
  have hl := lv_entry ([.ref x0, .int (nI a), .int (nI b), .ref o9]) (n := 5) (Nat.le_of_ble_eq_true rfl)
  rw [lg_entry_eq]
  generalize (lg_sl ([.ref x0, .int (nI a), .int (nI b), .ref o9]) ++ List.replicate (5 - (lg_sl ([.ref x0, .int (nI a), .int (nI b), .ref o9])).length) Slot.unset).toArray = ls at hl ⊢
  have hl : lv_has ls 5 [(0, .ref x0), (1, .int (nI a)), (2, .int (nI b)), (3, .ref o9)] := hl
  refine lv_aload_n hx hb dL_timeout_0 rfl (lv_at hl 3 rfl) ?_
  refine lv_iconst (v := nI 0) hx hb dL_timeout_1 (by decide) ?_
  refine lv_aload_n hx hb dL_timeout_2 rfl (lv_at hl 0 rfl) ?_
  refine lv_iload_n hx hb dL_timeout_3 rfl (lv_at hl 1 rfl) ?_
  refine lv_iload_n hx hb dL_timeout_4 rfl (lv_at hl 2 rfl) ?_
  refine k_ci (wr := [(o9, .inl (cJ, 1, .inr (.inl (fun _ => 0))))]) (w1 := [(x0, .inr (6, [.int (nI N), .ref (n 0), .ref (q 0), .ref (tr 0), .int (nI 0)])), (n 0, .inr (2, [.int (nI N), .int (nI 0), .ref (n 1), .ref (n 2), .ref (n 3), .ref (n 9), .ref (n 16), .ref (n 23), .int (nI 0), .ref (n 32), .int (nI 0), .ref (n 33)])), (n 16, .inr (5, [.ref (n 17), .ref (n 18), .ref (n 19), .ref (n 20), .ref (n 21), .ref (n 22), .int (-1)])), (n 18, .inl (cI, 100, .inl (fun _ => -1)))]) (va_runV (As := [.int (nI a), .int (nI b)]) (rest := [.int (nI 0), .ref o9]) ⟨hx, hb, hml, hown, hts⟩ (c_X6_timeout l D cI cJ cM cG x0 n q tr N a b s.heap.size (ha) (hb9) (hN)) (cwV 2 hts (kB_V (fun _ => List.mem_cons_of_mem _) q_582 q_583 q_584 q_9 (kB_c q_585)) rfl rfl rfl (by decide +kernel) ⟨Nat.le_of_ble_eq_true rfl, Nat.le_of_ble_eq_true rfl⟩) (k_preV (T := TX6) hP hD hK hKN [0, 1, 2, 3] rfl rfl (ci := 6) rfl (q0 := 0) rfl) rfl rfl hl.1 rfl (lv_room (Nat.le_of_ble_eq_true rfl)) dL_timeout_5 ⟨Nat.le_of_ble_eq_true rfl, Nat.le_of_ble_eq_true rfl⟩) hP hD hS hA [0, 1, 2, 3] [4] rfl rfl rfl (by decide) (fun r5 H locs hw5 hP hD hS => ?_)
  replace hP : va_P D vwCl [(o9, .inl (cJ, 1, .inr (.inl (fun _ => 0)))), (x0, .inr (6, [.int (nI N), .ref (n 0), .ref (q 0), .ref (tr 0), .int (nI 0)])), (n 0, .inr (2, [.int (nI N), .int (nI 0), .ref (n 1), .ref (n 2), .ref (n 3), .ref (n 9), .ref (n 16), .ref (n 23), .int (nI 0), .ref (n 32), .int (nI 0), .ref (n 33)])), (n 16, .inr (5, [.ref (n 17), .ref (n 18), .ref (n 19), .ref (n 20), .ref (n 21), .ref (n 22), .int (-1)])), (n 18, .inl (cI, 100, .inl (fun _ => -1)))] H := hP
  replace hD : va_D A [(o9, .inl (cJ, 1, .inr (.inl (fun _ => 0)))), (x0, .inr (6, [.int (nI N), .ref (n 0), .ref (q 0), .ref (tr 0), .int (nI 0)])), (n 0, .inr (2, [.int (nI N), .int (nI 0), .ref (n 1), .ref (n 2), .ref (n 3), .ref (n 9), .ref (n 16), .ref (n 23), .int (nI 0), .ref (n 32), .int (nI 0), .ref (n 33)])), (n 16, .inr (5, [.ref (n 17), .ref (n 18), .ref (n 19), .ref (n 20), .ref (n 21), .ref (n 22), .int (-1)])), (n 18, .inl (cI, 100, .inl (fun _ => -1)))] := hD
  replace hw5 : r5 = (-1) := hw5
  refine k_ti hw5 ?_
  refine lv_i2l (v := (-1)) hx hb dL_timeout_8 (by decide) ?_
  refine k_last (f' := vp_updL (fun _ => 0) 0 (-1)) hx hb hK hP hD hS 0 1 rfl rfl (by omega) (by omega) (rfl) dL_timeout_9 (fun H locs hP hD hS => ?_)
  replace hP : va_P D vwCl [(o9, .inl (cJ, 1, .inr (.inl (vp_updL (fun _ => 0) 0 (-1))))), (x0, .inr (6, [.int (nI N), .ref (n 0), .ref (q 0), .ref (tr 0), .int (nI 0)])), (n 0, .inr (2, [.int (nI N), .int (nI 0), .ref (n 1), .ref (n 2), .ref (n 3), .ref (n 9), .ref (n 16), .ref (n 23), .int (nI 0), .ref (n 32), .int (nI 0), .ref (n 33)])), (n 16, .inr (5, [.ref (n 17), .ref (n 18), .ref (n 19), .ref (n 20), .ref (n 21), .ref (n 22), .int (-1)])), (n 18, .inl (cI, 100, .inl (fun _ => -1)))] H := hP
  replace hD : va_D A [(o9, .inl (cJ, 1, .inr (.inl (vp_updL (fun _ => 0) 0 (-1))))), (x0, .inr (6, [.int (nI N), .ref (n 0), .ref (q 0), .ref (tr 0), .int (nI 0)])), (n 0, .inr (2, [.int (nI N), .int (nI 0), .ref (n 1), .ref (n 2), .ref (n 3), .ref (n 9), .ref (n 16), .ref (n 23), .int (nI 0), .ref (n 32), .int (nI 0), .ref (n 33)])), (n 16, .inr (5, [.ref (n 17), .ref (n 18), .ref (n 19), .ref (n 20), .ref (n 21), .ref (n 22), .int (-1)])), (n 18, .inl (cI, 100, .inl (fun _ => -1)))] := hD
  refine lv_goto (tgt := 17) hx hb dL_timeout_10 (by decide) ?_
  refine lv_iconst (v := nI 0) hx hb dL_timeout_17 (by decide) ?_
  have hP9 := hP.sub (ws' := [(o9, .inl (cJ, 1, .inr (.inl (vp_updL (fun _ => 0) 0 (-1)))))]) [0] rfl
  have hD9 := hD.sub (ws' := [(o9, .inl (cJ, 1, .inr (.inl (vp_updL (fun _ => 0) 0 (-1)))))]) [0] rfl rfl
  exact W.iret (v := nI 0) hx hb hr (fun t9 ht9 hW9 => ⟨⟨nI 0, (), rfl, rfl, by rw [ht9]; exact hP9, hD9⟩, hS.F ht9⟩) hS.2.2 dL_timeout_18

set_option maxHeartbeats 4000000 in
set_option maxRecDepth 100000 in
theorem c_L_buffered1 (l : Launch) (D : va_G) (cI cJ cM cG : ClassId) (x0 : Nat) (n : Nat → Nat) (q : Nat → Nat) (tr : Nat → Nat) (N : Nat) (a : Nat) (b : Nat) (o9 : Nat) (sz : Nat) (ha : a < N) (hb9 : b < N) (hN : N ≤ 10) : Met l yL_buffered (Cond.codeWith yL_buffered cL_buffered 5 (some .int) [(0, 10, 13, 13)] :: kBig) ({ frames := 3, cells := 0, slots := 0, locals := 65 }) (va_Pc [.ref x0, .int (nI a), .int (nI b), .ref o9] (kP D [(cI, .int), (cJ, .long), (cM, .object "MeshRouting$Message"), (cG, .array .int)] [(x0, .inr (6, [.int (nI N), .ref (n 0), .ref (q 0), .ref (tr 0), .int (nI 0)])), (n 0, .inr (2, [.int (nI N), .int (nI 0), .ref (n 1), .ref (n 2), .ref (n 3), .ref (n 9), .ref (n 16), .ref (n 23), .int (nI 0), .ref (n 32), .int (nI 0), .ref (n 33)])), (n 16, .inr (5, [.ref (n 17), .ref (n 18), .ref (n 19), .ref (n 20), .ref (n 21), .ref (n 22), .int (-1)])), (n 21, .inl (cI, 100, .inl (fun _ => 0))), (o9, .inl (cJ, 1, .inr (.inl (fun _ => 0))))] sz)) (va_Qi (fun (r : Int32) (_ : Unit) => r = nI 0) (fun _ t9 => kB D (va_A [(x0, .inr (6, [.int (nI N), .ref (n 0), .ref (q 0), .ref (tr 0), .int (nI 0)])), (n 0, .inr (2, [.int (nI N), .int (nI 0), .ref (n 1), .ref (n 2), .ref (n 3), .ref (n 9), .ref (n 16), .ref (n 23), .int (nI 0), .ref (n 32), .int (nI 0), .ref (n 33)])), (n 16, .inr (5, [.ref (n 17), .ref (n 18), .ref (n 19), .ref (n 20), .ref (n 21), .ref (n 22), .int (-1)])), (n 21, .inl (cI, 100, .inl (fun _ => 0))), (o9, .inl (cJ, 1, .inr (.inl (fun _ => 0))))] sz) [(o9, .inl (cJ, 1, .inr (.inl (vp_updL (fun _ => 0) 0 (lN 0)))))] t9) (va_A [(x0, .inr (6, [.int (nI N), .ref (n 0), .ref (q 0), .ref (tr 0), .int (nI 0)])), (n 0, .inr (2, [.int (nI N), .int (nI 0), .ref (n 1), .ref (n 2), .ref (n 3), .ref (n 9), .ref (n 16), .ref (n 23), .int (nI 0), .ref (n 32), .int (nI 0), .ref (n 33)])), (n 16, .inr (5, [.ref (n 17), .ref (n 18), .ref (n 19), .ref (n 20), .ref (n 21), .ref (n 22), .int (-1)])), (n 21, .inl (cI, 100, .inl (fun _ => 0))), (o9, .inl (cJ, 1, .inr (.inl (fun _ => 0))))] sz)) 0 0 (va_A [(x0, .inr (6, [.int (nI N), .ref (n 0), .ref (q 0), .ref (tr 0), .int (nI 0)])), (n 0, .inr (2, [.int (nI N), .int (nI 0), .ref (n 1), .ref (n 2), .ref (n 3), .ref (n 9), .ref (n 16), .ref (n 23), .int (nI 0), .ref (n 32), .int (nI 0), .ref (n 33)])), (n 16, .inr (5, [.ref (n 17), .ref (n 18), .ref (n 19), .ref (n 20), .ref (n 21), .ref (n 22), .int (-1)])), (n 21, .inl (cI, 100, .inl (fun _ => 0))), (o9, .inl (cJ, 1, .inr (.inl (fun _ => 0))))] sz) := by
  refine va_MetW (cc := cL_buffered) (maxL := 5) (ret := (some .int)) (hh := [(0, 10, 13, 13)]) (by decide) rfl ?_
  intro p e s m args below meth c s₁ B hml hv
  obtain ⟨rfl, ⟨hsz, hP, hK, hD0, hKN⟩⟩ := hv
  have hx := B.exec
  have hb := B.bytes
  have hr := B.returns
  have hts := atoms_spec (ws := (Cond.codeWith yL_buffered cL_buffered 5 (some .int) [(0, 10, 13, 13)] :: kBig)) B.pre
  have hown : s.vm.findClass RL = some m.cls := findClass_of_methodNamed B.named
  have hlocks := B.notSynchronized
  have htab := vx_table (x := yL_buffered) B (hts _ List.mem_cons_self)
  subst hsz
  have hD := hD0.self (sz := s.heap.size)
  generalize hAe : va_A [(x0, .inr (6, [.int (nI N), .ref (n 0), .ref (q 0), .ref (tr 0), .int (nI 0)])), (n 0, .inr (2, [.int (nI N), .int (nI 0), .ref (n 1), .ref (n 2), .ref (n 3), .ref (n 9), .ref (n 16), .ref (n 23), .int (nI 0), .ref (n 32), .int (nI 0), .ref (n 33)])), (n 16, .inr (5, [.ref (n 17), .ref (n 18), .ref (n 19), .ref (n 20), .ref (n 21), .ref (n 22), .int (-1)])), (n 21, .inl (cI, 100, .inl (fun _ => 0))), (o9, .inl (cJ, 1, .inr (.inl (fun _ => 0))))] s.heap.size = A at hD ⊢
  have hA : ∀ q : Nat, s.heap.size ≤ q → A q := fun q h => by rw [← hAe]; exact Or.inr h
  have hS : va_S A s.heap s.heap [] := va_S.rf
  have hl := lv_entry ([.ref x0, .int (nI a), .int (nI b), .ref o9]) (n := 5) (Nat.le_of_ble_eq_true rfl)
  rw [lg_entry_eq]
  generalize (lg_sl ([.ref x0, .int (nI a), .int (nI b), .ref o9]) ++ List.replicate (5 - (lg_sl ([.ref x0, .int (nI a), .int (nI b), .ref o9])).length) Slot.unset).toArray = ls at hl ⊢
  have hl : lv_has ls 5 [(0, .ref x0), (1, .int (nI a)), (2, .int (nI b)), (3, .ref o9)] := hl
  refine lv_aload_n hx hb dL_buffered_0 rfl (lv_at hl 3 rfl) ?_
  refine lv_iconst (v := nI 0) hx hb dL_buffered_1 (by decide) ?_
  refine lv_aload_n hx hb dL_buffered_2 rfl (lv_at hl 0 rfl) ?_
  refine lv_iload_n hx hb dL_buffered_3 rfl (lv_at hl 1 rfl) ?_
  refine lv_iload_n hx hb dL_buffered_4 rfl (lv_at hl 2 rfl) ?_
  refine k_ci (wr := [(o9, .inl (cJ, 1, .inr (.inl (fun _ => 0))))]) (w1 := [(x0, .inr (6, [.int (nI N), .ref (n 0), .ref (q 0), .ref (tr 0), .int (nI 0)])), (n 0, .inr (2, [.int (nI N), .int (nI 0), .ref (n 1), .ref (n 2), .ref (n 3), .ref (n 9), .ref (n 16), .ref (n 23), .int (nI 0), .ref (n 32), .int (nI 0), .ref (n 33)])), (n 16, .inr (5, [.ref (n 17), .ref (n 18), .ref (n 19), .ref (n 20), .ref (n 21), .ref (n 22), .int (-1)])), (n 21, .inl (cI, 100, .inl (fun _ => 0)))]) (va_runV (As := [.int (nI a), .int (nI b)]) (rest := [.int (nI 0), .ref o9]) ⟨hx, hb, hml, hown, hts⟩ (c_X6_buffered l D cI cJ cM cG x0 n q tr N a b s.heap.size (ha) (hb9) (hN)) (cwV 2 hts (kB_V (fun _ => List.mem_cons_of_mem _) q_6 q_7 q_8 q_9 (kB_c q_10)) rfl rfl rfl (by decide +kernel) ⟨Nat.le_of_ble_eq_true rfl, Nat.le_of_ble_eq_true rfl⟩) (k_preV (T := TX6) hP hD hK hKN [0, 1, 2, 3] rfl rfl (ci := 6) rfl (q0 := 0) rfl) rfl rfl hl.1 rfl (lv_room (Nat.le_of_ble_eq_true rfl)) dL_buffered_5 ⟨Nat.le_of_ble_eq_true rfl, Nat.le_of_ble_eq_true rfl⟩) hP hD hS hA [0, 1, 2, 3] [4] rfl rfl rfl (by decide) (fun r5 H locs hw5 hP hD hS => ?_)
  replace hP : va_P D vwCl [(o9, .inl (cJ, 1, .inr (.inl (fun _ => 0)))), (x0, .inr (6, [.int (nI N), .ref (n 0), .ref (q 0), .ref (tr 0), .int (nI 0)])), (n 0, .inr (2, [.int (nI N), .int (nI 0), .ref (n 1), .ref (n 2), .ref (n 3), .ref (n 9), .ref (n 16), .ref (n 23), .int (nI 0), .ref (n 32), .int (nI 0), .ref (n 33)])), (n 16, .inr (5, [.ref (n 17), .ref (n 18), .ref (n 19), .ref (n 20), .ref (n 21), .ref (n 22), .int (-1)])), (n 21, .inl (cI, 100, .inl (fun _ => 0)))] H := hP
  replace hD : va_D A [(o9, .inl (cJ, 1, .inr (.inl (fun _ => 0)))), (x0, .inr (6, [.int (nI N), .ref (n 0), .ref (q 0), .ref (tr 0), .int (nI 0)])), (n 0, .inr (2, [.int (nI N), .int (nI 0), .ref (n 1), .ref (n 2), .ref (n 3), .ref (n 9), .ref (n 16), .ref (n 23), .int (nI 0), .ref (n 32), .int (nI 0), .ref (n 33)])), (n 16, .inr (5, [.ref (n 17), .ref (n 18), .ref (n 19), .ref (n 20), .ref (n 21), .ref (n 22), .int (-1)])), (n 21, .inl (cI, 100, .inl (fun _ => 0)))] := hD
  replace hw5 : r5 = nI 0 := hw5
  refine k_ti hw5 ?_
  refine lv_i2l (v := lN 0) hx hb dL_buffered_8 (by decide) ?_
  refine k_last (f' := vp_updL (fun _ => 0) 0 (lN 0)) hx hb hK hP hD hS 0 1 rfl rfl (by omega) (by omega) (rfl) dL_buffered_9 (fun H locs hP hD hS => ?_)
  replace hP : va_P D vwCl [(o9, .inl (cJ, 1, .inr (.inl (vp_updL (fun _ => 0) 0 (lN 0))))), (x0, .inr (6, [.int (nI N), .ref (n 0), .ref (q 0), .ref (tr 0), .int (nI 0)])), (n 0, .inr (2, [.int (nI N), .int (nI 0), .ref (n 1), .ref (n 2), .ref (n 3), .ref (n 9), .ref (n 16), .ref (n 23), .int (nI 0), .ref (n 32), .int (nI 0), .ref (n 33)])), (n 16, .inr (5, [.ref (n 17), .ref (n 18), .ref (n 19), .ref (n 20), .ref (n 21), .ref (n 22), .int (-1)])), (n 21, .inl (cI, 100, .inl (fun _ => 0)))] H := hP
  replace hD : va_D A [(o9, .inl (cJ, 1, .inr (.inl (vp_updL (fun _ => 0) 0 (lN 0))))), (x0, .inr (6, [.int (nI N), .ref (n 0), .ref (q 0), .ref (tr 0), .int (nI 0)])), (n 0, .inr (2, [.int (nI N), .int (nI 0), .ref (n 1), .ref (n 2), .ref (n 3), .ref (n 9), .ref (n 16), .ref (n 23), .int (nI 0), .ref (n 32), .int (nI 0), .ref (n 33)])), (n 16, .inr (5, [.ref (n 17), .ref (n 18), .ref (n 19), .ref (n 20), .ref (n 21), .ref (n 22), .int (-1)])), (n 21, .inl (cI, 100, .inl (fun _ => 0)))] := hD
  refine lv_goto (tgt := 17) hx hb dL_buffered_10 (by decide) ?_
  refine lv_iconst (v := nI 0) hx hb dL_buffered_17 (by decide) ?_
  have hP9 := hP.sub (ws' := [(o9, .inl (cJ, 1, .inr (.inl (vp_updL (fun _ => 0) 0 (lN 0)))))]) [0] rfl
  have hD9 := hD.sub (ws' := [(o9, .inl (cJ, 1, .inr (.inl (vp_updL (fun _ => 0) 0 (lN 0)))))]) [0] rfl rfl
  exact W.iret (v := nI 0) hx hb hr (fun t9 ht9 hW9 => ⟨⟨nI 0, (), rfl, rfl, by rw [ht9]; exact hP9, hD9⟩, hS.F ht9⟩) hS.2.2 dL_buffered_18

set_option maxHeartbeats 4000000 in
set_option maxRecDepth 100000 in
theorem c_L_packets1 (l : Launch) (D : va_G) (cI cJ cM cG : ClassId) (x0 : Nat) (n : Nat → Nat) (q : Nat → Nat) (tr : Nat → Nat) (N : Nat) (k : Nat) (o9 : Nat) (sz : Nat) (hk : k < 4) : Met l yL_packets (Cond.codeWith yL_packets cL_packets 4 (some .int) [(0, 9, 12, 13)] :: kBig) ({ frames := 2, cells := 0, slots := 0, locals := 44 }) (va_Pc [.ref x0, .int (nI k), .ref o9] (kP D [(cI, .int), (cJ, .long), (cM, .object "MeshRouting$Message"), (cG, .array .int)] [(x0, .inr (6, [.int (nI N), .ref (n 0), .ref (q 0), .ref (tr 0), .int (nI 0)])), (n 0, .inr (2, [.int (nI N), .int (nI 0), .ref (n 1), .ref (n 2), .ref (n 3), .ref (n 9), .ref (n 16), .ref (n 23), .int (nI 0), .ref (n 32), .int (nI 0), .ref (n 33)])), (n 23, .inr (3, [.int (nI 0), .ref (n 24), .ref (n 25), .ref (n 26), .ref (n 27), .ref (n 28), .ref (n 29), .ref (n 30), .ref (n 31)])), (n 26, .inl (cI, 200, .inl (fun _ => 0))), (o9, .inl (cJ, 1, .inr (.inl (fun _ => 0))))] sz)) (va_Qi (fun (r : Int32) (_ : Unit) => r = nI 0) (fun _ t9 => kB D (va_A [(x0, .inr (6, [.int (nI N), .ref (n 0), .ref (q 0), .ref (tr 0), .int (nI 0)])), (n 0, .inr (2, [.int (nI N), .int (nI 0), .ref (n 1), .ref (n 2), .ref (n 3), .ref (n 9), .ref (n 16), .ref (n 23), .int (nI 0), .ref (n 32), .int (nI 0), .ref (n 33)])), (n 23, .inr (3, [.int (nI 0), .ref (n 24), .ref (n 25), .ref (n 26), .ref (n 27), .ref (n 28), .ref (n 29), .ref (n 30), .ref (n 31)])), (n 26, .inl (cI, 200, .inl (fun _ => 0))), (o9, .inl (cJ, 1, .inr (.inl (fun _ => 0))))] sz) [(o9, .inl (cJ, 1, .inr (.inl (vp_updL (fun _ => 0) 0 (lN 0)))))] t9) (va_A [(x0, .inr (6, [.int (nI N), .ref (n 0), .ref (q 0), .ref (tr 0), .int (nI 0)])), (n 0, .inr (2, [.int (nI N), .int (nI 0), .ref (n 1), .ref (n 2), .ref (n 3), .ref (n 9), .ref (n 16), .ref (n 23), .int (nI 0), .ref (n 32), .int (nI 0), .ref (n 33)])), (n 23, .inr (3, [.int (nI 0), .ref (n 24), .ref (n 25), .ref (n 26), .ref (n 27), .ref (n 28), .ref (n 29), .ref (n 30), .ref (n 31)])), (n 26, .inl (cI, 200, .inl (fun _ => 0))), (o9, .inl (cJ, 1, .inr (.inl (fun _ => 0))))] sz)) 0 0 (va_A [(x0, .inr (6, [.int (nI N), .ref (n 0), .ref (q 0), .ref (tr 0), .int (nI 0)])), (n 0, .inr (2, [.int (nI N), .int (nI 0), .ref (n 1), .ref (n 2), .ref (n 3), .ref (n 9), .ref (n 16), .ref (n 23), .int (nI 0), .ref (n 32), .int (nI 0), .ref (n 33)])), (n 23, .inr (3, [.int (nI 0), .ref (n 24), .ref (n 25), .ref (n 26), .ref (n 27), .ref (n 28), .ref (n 29), .ref (n 30), .ref (n 31)])), (n 26, .inl (cI, 200, .inl (fun _ => 0))), (o9, .inl (cJ, 1, .inr (.inl (fun _ => 0))))] sz) := by
  refine va_MetW (cc := cL_packets) (maxL := 4) (ret := (some .int)) (hh := [(0, 9, 12, 13)]) (by decide) rfl ?_
  intro p e s m args below meth c s₁ B hml hv
  obtain ⟨rfl, ⟨hsz, hP, hK, hD0, hKN⟩⟩ := hv
  have hx := B.exec
  have hb := B.bytes
  have hr := B.returns
  have hts := atoms_spec (ws := (Cond.codeWith yL_packets cL_packets 4 (some .int) [(0, 9, 12, 13)] :: kBig)) B.pre
  have hown : s.vm.findClass RL = some m.cls := findClass_of_methodNamed B.named
  have hlocks := B.notSynchronized
  have htab := vx_table (x := yL_packets) B (hts _ List.mem_cons_self)
  subst hsz
  have hD := hD0.self (sz := s.heap.size)
  generalize hAe : va_A [(x0, .inr (6, [.int (nI N), .ref (n 0), .ref (q 0), .ref (tr 0), .int (nI 0)])), (n 0, .inr (2, [.int (nI N), .int (nI 0), .ref (n 1), .ref (n 2), .ref (n 3), .ref (n 9), .ref (n 16), .ref (n 23), .int (nI 0), .ref (n 32), .int (nI 0), .ref (n 33)])), (n 23, .inr (3, [.int (nI 0), .ref (n 24), .ref (n 25), .ref (n 26), .ref (n 27), .ref (n 28), .ref (n 29), .ref (n 30), .ref (n 31)])), (n 26, .inl (cI, 200, .inl (fun _ => 0))), (o9, .inl (cJ, 1, .inr (.inl (fun _ => 0))))] s.heap.size = A at hD ⊢
  have hA : ∀ q : Nat, s.heap.size ≤ q → A q := fun q h => by rw [← hAe]; exact Or.inr h
  have hS : va_S A s.heap s.heap [] := va_S.rf
  have hl := lv_entry ([.ref x0, .int (nI k), .ref o9]) (n := 4) (Nat.le_of_ble_eq_true rfl)
  rw [lg_entry_eq]
  generalize (lg_sl ([.ref x0, .int (nI k), .ref o9]) ++ List.replicate (4 - (lg_sl ([.ref x0, .int (nI k), .ref o9])).length) Slot.unset).toArray = ls at hl ⊢
  have hl : lv_has ls 4 [(0, .ref x0), (1, .int (nI k)), (2, .ref o9)] := hl
  refine lv_aload_n hx hb dL_packets_0 rfl (lv_at hl 2 rfl) ?_
  refine lv_iconst (v := nI 0) hx hb dL_packets_1 (by decide) ?_
  refine lv_aload_n hx hb dL_packets_2 rfl (lv_at hl 0 rfl) ?_
  refine lv_iload_n hx hb dL_packets_3 rfl (lv_at hl 1 rfl) ?_
  refine k_ci (wr := [(o9, .inl (cJ, 1, .inr (.inl (fun _ => 0))))]) (w1 := [(x0, .inr (6, [.int (nI N), .ref (n 0), .ref (q 0), .ref (tr 0), .int (nI 0)])), (n 0, .inr (2, [.int (nI N), .int (nI 0), .ref (n 1), .ref (n 2), .ref (n 3), .ref (n 9), .ref (n 16), .ref (n 23), .int (nI 0), .ref (n 32), .int (nI 0), .ref (n 33)])), (n 23, .inr (3, [.int (nI 0), .ref (n 24), .ref (n 25), .ref (n 26), .ref (n 27), .ref (n 28), .ref (n 29), .ref (n 30), .ref (n 31)])), (n 26, .inl (cI, 200, .inl (fun _ => 0)))]) (va_runV (As := [.int (nI k)]) (rest := [.int (nI 0), .ref o9]) ⟨hx, hb, hml, hown, hts⟩ (c_X6_packets l D cI cJ cM cG x0 n q tr N k s.heap.size (hk)) (cwV 1 hts (kB_V (fun _ => List.mem_cons_of_mem _) q_518 q_519 q_520 q_9 (kB_c q_521)) rfl rfl rfl (by decide +kernel) ⟨Nat.le_of_ble_eq_true rfl, Nat.le_of_ble_eq_true rfl⟩) (k_preV (T := TX6) hP hD hK hKN [0, 1, 2, 3] rfl rfl (ci := 6) rfl (q0 := 0) rfl) rfl rfl hl.1 rfl (lv_room (Nat.le_of_ble_eq_true rfl)) dL_packets_4 ⟨Nat.le_of_ble_eq_true rfl, Nat.le_of_ble_eq_true rfl⟩) hP hD hS hA [0, 1, 2, 3] [4] rfl rfl rfl (by decide) (fun r4 H locs hw4 hP hD hS => ?_)
  replace hP : va_P D vwCl [(o9, .inl (cJ, 1, .inr (.inl (fun _ => 0)))), (x0, .inr (6, [.int (nI N), .ref (n 0), .ref (q 0), .ref (tr 0), .int (nI 0)])), (n 0, .inr (2, [.int (nI N), .int (nI 0), .ref (n 1), .ref (n 2), .ref (n 3), .ref (n 9), .ref (n 16), .ref (n 23), .int (nI 0), .ref (n 32), .int (nI 0), .ref (n 33)])), (n 23, .inr (3, [.int (nI 0), .ref (n 24), .ref (n 25), .ref (n 26), .ref (n 27), .ref (n 28), .ref (n 29), .ref (n 30), .ref (n 31)])), (n 26, .inl (cI, 200, .inl (fun _ => 0)))] H := hP
  replace hD : va_D A [(o9, .inl (cJ, 1, .inr (.inl (fun _ => 0)))), (x0, .inr (6, [.int (nI N), .ref (n 0), .ref (q 0), .ref (tr 0), .int (nI 0)])), (n 0, .inr (2, [.int (nI N), .int (nI 0), .ref (n 1), .ref (n 2), .ref (n 3), .ref (n 9), .ref (n 16), .ref (n 23), .int (nI 0), .ref (n 32), .int (nI 0), .ref (n 33)])), (n 23, .inr (3, [.int (nI 0), .ref (n 24), .ref (n 25), .ref (n 26), .ref (n 27), .ref (n 28), .ref (n 29), .ref (n 30), .ref (n 31)])), (n 26, .inl (cI, 200, .inl (fun _ => 0)))] := hD
  replace hw4 : r4 = nI 0 := hw4
  refine k_ti hw4 ?_
  refine lv_i2l (v := lN 0) hx hb dL_packets_7 (by decide) ?_
  refine k_last (f' := vp_updL (fun _ => 0) 0 (lN 0)) hx hb hK hP hD hS 0 1 rfl rfl (by omega) (by omega) (rfl) dL_packets_8 (fun H locs hP hD hS => ?_)
  replace hP : va_P D vwCl [(o9, .inl (cJ, 1, .inr (.inl (vp_updL (fun _ => 0) 0 (lN 0))))), (x0, .inr (6, [.int (nI N), .ref (n 0), .ref (q 0), .ref (tr 0), .int (nI 0)])), (n 0, .inr (2, [.int (nI N), .int (nI 0), .ref (n 1), .ref (n 2), .ref (n 3), .ref (n 9), .ref (n 16), .ref (n 23), .int (nI 0), .ref (n 32), .int (nI 0), .ref (n 33)])), (n 23, .inr (3, [.int (nI 0), .ref (n 24), .ref (n 25), .ref (n 26), .ref (n 27), .ref (n 28), .ref (n 29), .ref (n 30), .ref (n 31)])), (n 26, .inl (cI, 200, .inl (fun _ => 0)))] H := hP
  replace hD : va_D A [(o9, .inl (cJ, 1, .inr (.inl (vp_updL (fun _ => 0) 0 (lN 0))))), (x0, .inr (6, [.int (nI N), .ref (n 0), .ref (q 0), .ref (tr 0), .int (nI 0)])), (n 0, .inr (2, [.int (nI N), .int (nI 0), .ref (n 1), .ref (n 2), .ref (n 3), .ref (n 9), .ref (n 16), .ref (n 23), .int (nI 0), .ref (n 32), .int (nI 0), .ref (n 33)])), (n 23, .inr (3, [.int (nI 0), .ref (n 24), .ref (n 25), .ref (n 26), .ref (n 27), .ref (n 28), .ref (n 29), .ref (n 30), .ref (n 31)])), (n 26, .inl (cI, 200, .inl (fun _ => 0)))] := hD
  refine lv_goto (tgt := 15) hx hb dL_packets_9 (by decide) ?_
  refine lv_iconst (v := nI 0) hx hb dL_packets_15 (by decide) ?_
  have hP9 := hP.sub (ws' := [(o9, .inl (cJ, 1, .inr (.inl (vp_updL (fun _ => 0) 0 (lN 0)))))]) [0] rfl
  have hD9 := hD.sub (ws' := [(o9, .inl (cJ, 1, .inr (.inl (vp_updL (fun _ => 0) 0 (lN 0)))))]) [0] rfl rfl
  exact W.iret (v := nI 0) hx hb hr (fun t9 ht9 hW9 => ⟨⟨nI 0, (), rfl, rfl, by rw [ht9]; exact hP9, hD9⟩, hS.F ht9⟩) hS.2.2 dL_packets_16

set_option maxHeartbeats 4000000 in
set_option maxRecDepth 100000 in
theorem c_L_follow1 (l : Launch) (D : va_G) (cI cJ cM cG : ClassId) (x0 : Nat) (n : Nat → Nat) (q : Nat → Nat) (tr : Nat → Nat) (N : Nat) (a : Nat) (b : Nat) (o9 : Nat) (sz : Nat) (ha : a < N) (hb9 : b < N) (hN : N ≤ 10) : Met l yL_follow (Cond.codeWith yL_follow cL_follow 5 (some .int) [(0, 10, 13, 13)] :: kBig) ({ frames := 3, cells := 0, slots := 0, locals := 69 }) (va_Pc [.ref x0, .int (nI a), .int (nI b), .ref o9] (kP D [(cI, .int), (cJ, .long), (cM, .object "MeshRouting$Message"), (cG, .array .int)] [(x0, .inr (6, [.int (nI N), .ref (n 0), .ref (q 0), .ref (tr 0), .int (nI 0)])), (n 0, .inr (2, [.int (nI N), .int (nI 0), .ref (n 1), .ref (n 2), .ref (n 3), .ref (n 9), .ref (n 16), .ref (n 23), .int (nI 0), .ref (n 32), .int (nI 0), .ref (n 33)])), (n 9, .inr (4, [.ref (n 10), .ref (n 11), .ref (n 12), .ref (n 13), .ref (n 14), .ref (n 15)])), (n 10, .inl (cI, 100, .inl (fun _ => 0))), (n 14, .inl (cI, 100, .inl (fun _ => -1))), (o9, .inl (cJ, 1, .inr (.inl (fun _ => 0))))] sz)) (va_Qi (fun (r : Int32) (_ : Unit) => r = nI 0) (fun _ t9 => kB D (va_A [(x0, .inr (6, [.int (nI N), .ref (n 0), .ref (q 0), .ref (tr 0), .int (nI 0)])), (n 0, .inr (2, [.int (nI N), .int (nI 0), .ref (n 1), .ref (n 2), .ref (n 3), .ref (n 9), .ref (n 16), .ref (n 23), .int (nI 0), .ref (n 32), .int (nI 0), .ref (n 33)])), (n 9, .inr (4, [.ref (n 10), .ref (n 11), .ref (n 12), .ref (n 13), .ref (n 14), .ref (n 15)])), (n 10, .inl (cI, 100, .inl (fun _ => 0))), (n 14, .inl (cI, 100, .inl (fun _ => -1))), (o9, .inl (cJ, 1, .inr (.inl (fun _ => 0))))] sz) [(o9, .inl (cJ, 1, .inr (.inl (vp_updL (fun _ => 0) 0 ((if a = b then nI 0 else -1).toInt64)))))] t9) (va_A [(x0, .inr (6, [.int (nI N), .ref (n 0), .ref (q 0), .ref (tr 0), .int (nI 0)])), (n 0, .inr (2, [.int (nI N), .int (nI 0), .ref (n 1), .ref (n 2), .ref (n 3), .ref (n 9), .ref (n 16), .ref (n 23), .int (nI 0), .ref (n 32), .int (nI 0), .ref (n 33)])), (n 9, .inr (4, [.ref (n 10), .ref (n 11), .ref (n 12), .ref (n 13), .ref (n 14), .ref (n 15)])), (n 10, .inl (cI, 100, .inl (fun _ => 0))), (n 14, .inl (cI, 100, .inl (fun _ => -1))), (o9, .inl (cJ, 1, .inr (.inl (fun _ => 0))))] sz)) 0 0 (va_A [(x0, .inr (6, [.int (nI N), .ref (n 0), .ref (q 0), .ref (tr 0), .int (nI 0)])), (n 0, .inr (2, [.int (nI N), .int (nI 0), .ref (n 1), .ref (n 2), .ref (n 3), .ref (n 9), .ref (n 16), .ref (n 23), .int (nI 0), .ref (n 32), .int (nI 0), .ref (n 33)])), (n 9, .inr (4, [.ref (n 10), .ref (n 11), .ref (n 12), .ref (n 13), .ref (n 14), .ref (n 15)])), (n 10, .inl (cI, 100, .inl (fun _ => 0))), (n 14, .inl (cI, 100, .inl (fun _ => -1))), (o9, .inl (cJ, 1, .inr (.inl (fun _ => 0))))] sz) := by
  refine va_MetW (cc := cL_follow) (maxL := 5) (ret := (some .int)) (hh := [(0, 10, 13, 13)]) (by decide) rfl ?_
  intro p e s m args below meth c s₁ B hml hv
  obtain ⟨rfl, ⟨hsz, hP, hK, hD0, hKN⟩⟩ := hv
  have hx := B.exec
  have hb := B.bytes
  have hr := B.returns
  have hts := atoms_spec (ws := (Cond.codeWith yL_follow cL_follow 5 (some .int) [(0, 10, 13, 13)] :: kBig)) B.pre
  have hown : s.vm.findClass RL = some m.cls := findClass_of_methodNamed B.named
  have hlocks := B.notSynchronized
  have htab := vx_table (x := yL_follow) B (hts _ List.mem_cons_self)
  subst hsz
  have hD := hD0.self (sz := s.heap.size)
  generalize hAe : va_A [(x0, .inr (6, [.int (nI N), .ref (n 0), .ref (q 0), .ref (tr 0), .int (nI 0)])), (n 0, .inr (2, [.int (nI N), .int (nI 0), .ref (n 1), .ref (n 2), .ref (n 3), .ref (n 9), .ref (n 16), .ref (n 23), .int (nI 0), .ref (n 32), .int (nI 0), .ref (n 33)])), (n 9, .inr (4, [.ref (n 10), .ref (n 11), .ref (n 12), .ref (n 13), .ref (n 14), .ref (n 15)])), (n 10, .inl (cI, 100, .inl (fun _ => 0))), (n 14, .inl (cI, 100, .inl (fun _ => -1))), (o9, .inl (cJ, 1, .inr (.inl (fun _ => 0))))] s.heap.size = A at hD ⊢
  have hA : ∀ q : Nat, s.heap.size ≤ q → A q := fun q h => by rw [← hAe]; exact Or.inr h
  have hS : va_S A s.heap s.heap [] := va_S.rf
  have hl := lv_entry ([.ref x0, .int (nI a), .int (nI b), .ref o9]) (n := 5) (Nat.le_of_ble_eq_true rfl)
  rw [lg_entry_eq]
  generalize (lg_sl ([.ref x0, .int (nI a), .int (nI b), .ref o9]) ++ List.replicate (5 - (lg_sl ([.ref x0, .int (nI a), .int (nI b), .ref o9])).length) Slot.unset).toArray = ls at hl ⊢
  have hl : lv_has ls 5 [(0, .ref x0), (1, .int (nI a)), (2, .int (nI b)), (3, .ref o9)] := hl
  refine lv_aload_n hx hb dL_follow_0 rfl (lv_at hl 3 rfl) ?_
  refine lv_iconst (v := nI 0) hx hb dL_follow_1 (by decide) ?_
  refine lv_aload_n hx hb dL_follow_2 rfl (lv_at hl 0 rfl) ?_
  refine lv_iload_n hx hb dL_follow_3 rfl (lv_at hl 1 rfl) ?_
  refine lv_iload_n hx hb dL_follow_4 rfl (lv_at hl 2 rfl) ?_
  refine k_ci (wr := [(o9, .inl (cJ, 1, .inr (.inl (fun _ => 0))))]) (w1 := [(x0, .inr (6, [.int (nI N), .ref (n 0), .ref (q 0), .ref (tr 0), .int (nI 0)])), (n 0, .inr (2, [.int (nI N), .int (nI 0), .ref (n 1), .ref (n 2), .ref (n 3), .ref (n 9), .ref (n 16), .ref (n 23), .int (nI 0), .ref (n 32), .int (nI 0), .ref (n 33)])), (n 9, .inr (4, [.ref (n 10), .ref (n 11), .ref (n 12), .ref (n 13), .ref (n 14), .ref (n 15)])), (n 10, .inl (cI, 100, .inl (fun _ => 0))), (n 14, .inl (cI, 100, .inl (fun _ => -1)))]) (va_runV (As := [.int (nI a), .int (nI b)]) (rest := [.int (nI 0), .ref o9]) ⟨hx, hb, hml, hown, hts⟩ (c_X6_follow l D cI cJ cM cG x0 n q tr N a b s.heap.size (ha) (hb9) (hN)) (cwV 2 hts (kB_V (fun _ => List.mem_cons_of_mem _) q_456 q_457 q_458 q_9 (kB_c q_459)) rfl rfl rfl (by decide +kernel) ⟨Nat.le_of_ble_eq_true rfl, Nat.le_of_ble_eq_true rfl⟩) (k_preV (T := TX6) hP hD hK hKN [0, 1, 2, 3, 4] rfl rfl (ci := 6) rfl (q0 := 0) rfl) rfl rfl hl.1 rfl (lv_room (Nat.le_of_ble_eq_true rfl)) dL_follow_5 ⟨Nat.le_of_ble_eq_true rfl, Nat.le_of_ble_eq_true rfl⟩) hP hD hS hA [0, 1, 2, 3, 4] [5] rfl rfl rfl (by decide) (fun r5 H locs hw5 hP hD hS => ?_)
  replace hP : va_P D vwCl [(o9, .inl (cJ, 1, .inr (.inl (fun _ => 0)))), (x0, .inr (6, [.int (nI N), .ref (n 0), .ref (q 0), .ref (tr 0), .int (nI 0)])), (n 0, .inr (2, [.int (nI N), .int (nI 0), .ref (n 1), .ref (n 2), .ref (n 3), .ref (n 9), .ref (n 16), .ref (n 23), .int (nI 0), .ref (n 32), .int (nI 0), .ref (n 33)])), (n 9, .inr (4, [.ref (n 10), .ref (n 11), .ref (n 12), .ref (n 13), .ref (n 14), .ref (n 15)])), (n 10, .inl (cI, 100, .inl (fun _ => 0))), (n 14, .inl (cI, 100, .inl (fun _ => -1)))] H := hP
  replace hD : va_D A [(o9, .inl (cJ, 1, .inr (.inl (fun _ => 0)))), (x0, .inr (6, [.int (nI N), .ref (n 0), .ref (q 0), .ref (tr 0), .int (nI 0)])), (n 0, .inr (2, [.int (nI N), .int (nI 0), .ref (n 1), .ref (n 2), .ref (n 3), .ref (n 9), .ref (n 16), .ref (n 23), .int (nI 0), .ref (n 32), .int (nI 0), .ref (n 33)])), (n 9, .inr (4, [.ref (n 10), .ref (n 11), .ref (n 12), .ref (n 13), .ref (n 14), .ref (n 15)])), (n 10, .inl (cI, 100, .inl (fun _ => 0))), (n 14, .inl (cI, 100, .inl (fun _ => -1)))] := hD
  replace hw5 : r5 = if a = b then nI 0 else -1 := hw5
  refine k_ti hw5 ?_
  refine lv_i2l (v := (if a = b then nI 0 else -1).toInt64) hx hb dL_follow_8 (rfl) ?_
  refine k_last (f' := vp_updL (fun _ => 0) 0 ((if a = b then nI 0 else -1).toInt64)) hx hb hK hP hD hS 0 1 rfl rfl (by omega) (by omega) (rfl) dL_follow_9 (fun H locs hP hD hS => ?_)
  replace hP : va_P D vwCl [(o9, .inl (cJ, 1, .inr (.inl (vp_updL (fun _ => 0) 0 ((if a = b then nI 0 else -1).toInt64))))), (x0, .inr (6, [.int (nI N), .ref (n 0), .ref (q 0), .ref (tr 0), .int (nI 0)])), (n 0, .inr (2, [.int (nI N), .int (nI 0), .ref (n 1), .ref (n 2), .ref (n 3), .ref (n 9), .ref (n 16), .ref (n 23), .int (nI 0), .ref (n 32), .int (nI 0), .ref (n 33)])), (n 9, .inr (4, [.ref (n 10), .ref (n 11), .ref (n 12), .ref (n 13), .ref (n 14), .ref (n 15)])), (n 10, .inl (cI, 100, .inl (fun _ => 0))), (n 14, .inl (cI, 100, .inl (fun _ => -1)))] H := hP
  replace hD : va_D A [(o9, .inl (cJ, 1, .inr (.inl (vp_updL (fun _ => 0) 0 ((if a = b then nI 0 else -1).toInt64))))), (x0, .inr (6, [.int (nI N), .ref (n 0), .ref (q 0), .ref (tr 0), .int (nI 0)])), (n 0, .inr (2, [.int (nI N), .int (nI 0), .ref (n 1), .ref (n 2), .ref (n 3), .ref (n 9), .ref (n 16), .ref (n 23), .int (nI 0), .ref (n 32), .int (nI 0), .ref (n 33)])), (n 9, .inr (4, [.ref (n 10), .ref (n 11), .ref (n 12), .ref (n 13), .ref (n 14), .ref (n 15)])), (n 10, .inl (cI, 100, .inl (fun _ => 0))), (n 14, .inl (cI, 100, .inl (fun _ => -1)))] := hD
  refine lv_goto (tgt := 17) hx hb dL_follow_10 (by decide) ?_
  refine lv_iconst (v := nI 0) hx hb dL_follow_17 (by decide) ?_
  have hP9 := hP.sub (ws' := [(o9, .inl (cJ, 1, .inr (.inl (vp_updL (fun _ => 0) 0 ((if a = b then nI 0 else -1).toInt64)))))]) [0] rfl
  have hD9 := hD.sub (ws' := [(o9, .inl (cJ, 1, .inr (.inl (vp_updL (fun _ => 0) 0 ((if a = b then nI 0 else -1).toInt64)))))]) [0] rfl rfl
  exact W.iret (v := nI 0) hx hb hr (fun t9 ht9 hW9 => ⟨⟨nI 0, (), rfl, rfl, by rw [ht9]; exact hP9, hD9⟩, hS.F ht9⟩) hS.2.2 dL_follow_18

set_option maxHeartbeats 4000000 in
set_option maxRecDepth 100000 in
theorem c_L_distance1 (l : Launch) (D : va_G) (cI cJ cM cG : ClassId) (x0 : Nat) (n : Nat → Nat) (q : Nat → Nat) (tr : Nat → Nat) (N : Nat) (a : Nat) (b : Nat) (o9 : Nat) (sz : Nat) (ha : a < N) (hb9 : b < N) (hN : N ≤ 10) : Met l yL_distance (Cond.codeWith yL_distance cL_distance 5 (some .int) [(0, 10, 13, 13)] :: kBig) ({ frames := 4, cells := 0, slots := 0, locals := 92 }) (va_Pc [.ref x0, .int (nI a), .int (nI b), .ref o9] (kP D [(cI, .int), (cJ, .long), (cM, .object "MeshRouting$Message"), (cG, .array .int)] [(x0, .inr (6, [.int (nI N), .ref (n 0), .ref (q 0), .ref (tr 0), .int (nI 0)])), (n 0, .inr (2, [.int (nI N), .int (nI 0), .ref (n 1), .ref (n 2), .ref (n 3), .ref (n 9), .ref (n 16), .ref (n 23), .int (nI 0), .ref (n 32), .int (nI 0), .ref (n 33)])), (n 3, .inr (0, [.int (nI N), .ref (n 4), .ref (n 5), .ref (n 6), .ref (n 7), .ref (n 8), .null])), (n 4, .inl (cG, 10, .inr (.inr (.inr (.inr (kRows n)))))), (n 34, .inl (cI, 10, .inl (fun _ => 0))), (n 35, .inl (cI, 10, .inl (fun _ => 0))), (n 36, .inl (cI, 10, .inl (fun _ => 0))), (n 37, .inl (cI, 10, .inl (fun _ => 0))), (n 38, .inl (cI, 10, .inl (fun _ => 0))), (n 39, .inl (cI, 10, .inl (fun _ => 0))), (n 40, .inl (cI, 10, .inl (fun _ => 0))), (n 41, .inl (cI, 10, .inl (fun _ => 0))), (n 42, .inl (cI, 10, .inl (fun _ => 0))), (n 43, .inl (cI, 10, .inl (fun _ => 0))), (o9, .inl (cJ, 1, .inr (.inl (fun _ => 0))))] sz)) (va_Qi (fun (r : Int32) (_ : Unit) => r = nI 0) (fun _ t9 => kB D (va_A [(x0, .inr (6, [.int (nI N), .ref (n 0), .ref (q 0), .ref (tr 0), .int (nI 0)])), (n 0, .inr (2, [.int (nI N), .int (nI 0), .ref (n 1), .ref (n 2), .ref (n 3), .ref (n 9), .ref (n 16), .ref (n 23), .int (nI 0), .ref (n 32), .int (nI 0), .ref (n 33)])), (n 3, .inr (0, [.int (nI N), .ref (n 4), .ref (n 5), .ref (n 6), .ref (n 7), .ref (n 8), .null])), (n 4, .inl (cG, 10, .inr (.inr (.inr (.inr (kRows n)))))), (n 34, .inl (cI, 10, .inl (fun _ => 0))), (n 35, .inl (cI, 10, .inl (fun _ => 0))), (n 36, .inl (cI, 10, .inl (fun _ => 0))), (n 37, .inl (cI, 10, .inl (fun _ => 0))), (n 38, .inl (cI, 10, .inl (fun _ => 0))), (n 39, .inl (cI, 10, .inl (fun _ => 0))), (n 40, .inl (cI, 10, .inl (fun _ => 0))), (n 41, .inl (cI, 10, .inl (fun _ => 0))), (n 42, .inl (cI, 10, .inl (fun _ => 0))), (n 43, .inl (cI, 10, .inl (fun _ => 0))), (o9, .inl (cJ, 1, .inr (.inl (fun _ => 0))))] sz) [(o9, .inl (cJ, 1, .inr (.inl (vp_updL (fun _ => 0) 0 ((if a = b then nI 0 else -1).toInt64)))))] t9) (va_A [(x0, .inr (6, [.int (nI N), .ref (n 0), .ref (q 0), .ref (tr 0), .int (nI 0)])), (n 0, .inr (2, [.int (nI N), .int (nI 0), .ref (n 1), .ref (n 2), .ref (n 3), .ref (n 9), .ref (n 16), .ref (n 23), .int (nI 0), .ref (n 32), .int (nI 0), .ref (n 33)])), (n 3, .inr (0, [.int (nI N), .ref (n 4), .ref (n 5), .ref (n 6), .ref (n 7), .ref (n 8), .null])), (n 4, .inl (cG, 10, .inr (.inr (.inr (.inr (kRows n)))))), (n 34, .inl (cI, 10, .inl (fun _ => 0))), (n 35, .inl (cI, 10, .inl (fun _ => 0))), (n 36, .inl (cI, 10, .inl (fun _ => 0))), (n 37, .inl (cI, 10, .inl (fun _ => 0))), (n 38, .inl (cI, 10, .inl (fun _ => 0))), (n 39, .inl (cI, 10, .inl (fun _ => 0))), (n 40, .inl (cI, 10, .inl (fun _ => 0))), (n 41, .inl (cI, 10, .inl (fun _ => 0))), (n 42, .inl (cI, 10, .inl (fun _ => 0))), (n 43, .inl (cI, 10, .inl (fun _ => 0))), (o9, .inl (cJ, 1, .inr (.inl (fun _ => 0))))] sz)) 0 0 (va_A [(x0, .inr (6, [.int (nI N), .ref (n 0), .ref (q 0), .ref (tr 0), .int (nI 0)])), (n 0, .inr (2, [.int (nI N), .int (nI 0), .ref (n 1), .ref (n 2), .ref (n 3), .ref (n 9), .ref (n 16), .ref (n 23), .int (nI 0), .ref (n 32), .int (nI 0), .ref (n 33)])), (n 3, .inr (0, [.int (nI N), .ref (n 4), .ref (n 5), .ref (n 6), .ref (n 7), .ref (n 8), .null])), (n 4, .inl (cG, 10, .inr (.inr (.inr (.inr (kRows n)))))), (n 34, .inl (cI, 10, .inl (fun _ => 0))), (n 35, .inl (cI, 10, .inl (fun _ => 0))), (n 36, .inl (cI, 10, .inl (fun _ => 0))), (n 37, .inl (cI, 10, .inl (fun _ => 0))), (n 38, .inl (cI, 10, .inl (fun _ => 0))), (n 39, .inl (cI, 10, .inl (fun _ => 0))), (n 40, .inl (cI, 10, .inl (fun _ => 0))), (n 41, .inl (cI, 10, .inl (fun _ => 0))), (n 42, .inl (cI, 10, .inl (fun _ => 0))), (n 43, .inl (cI, 10, .inl (fun _ => 0))), (o9, .inl (cJ, 1, .inr (.inl (fun _ => 0))))] sz) := by
  refine va_MetW (cc := cL_distance) (maxL := 5) (ret := (some .int)) (hh := [(0, 10, 13, 13)]) (by decide) rfl ?_
  intro p e s m args below meth c s₁ B hml hv
  obtain ⟨rfl, ⟨hsz, hP, hK, hD0, hKN⟩⟩ := hv
  have hx := B.exec
  have hb := B.bytes
  have hr := B.returns
  have hts := atoms_spec (ws := (Cond.codeWith yL_distance cL_distance 5 (some .int) [(0, 10, 13, 13)] :: kBig)) B.pre
  have hown : s.vm.findClass RL = some m.cls := findClass_of_methodNamed B.named
  have hlocks := B.notSynchronized
  have htab := vx_table (x := yL_distance) B (hts _ List.mem_cons_self)
  subst hsz
  have hD := hD0.self (sz := s.heap.size)
  generalize hAe : va_A [(x0, .inr (6, [.int (nI N), .ref (n 0), .ref (q 0), .ref (tr 0), .int (nI 0)])), (n 0, .inr (2, [.int (nI N), .int (nI 0), .ref (n 1), .ref (n 2), .ref (n 3), .ref (n 9), .ref (n 16), .ref (n 23), .int (nI 0), .ref (n 32), .int (nI 0), .ref (n 33)])), (n 3, .inr (0, [.int (nI N), .ref (n 4), .ref (n 5), .ref (n 6), .ref (n 7), .ref (n 8), .null])), (n 4, .inl (cG, 10, .inr (.inr (.inr (.inr (kRows n)))))), (n 34, .inl (cI, 10, .inl (fun _ => 0))), (n 35, .inl (cI, 10, .inl (fun _ => 0))), (n 36, .inl (cI, 10, .inl (fun _ => 0))), (n 37, .inl (cI, 10, .inl (fun _ => 0))), (n 38, .inl (cI, 10, .inl (fun _ => 0))), (n 39, .inl (cI, 10, .inl (fun _ => 0))), (n 40, .inl (cI, 10, .inl (fun _ => 0))), (n 41, .inl (cI, 10, .inl (fun _ => 0))), (n 42, .inl (cI, 10, .inl (fun _ => 0))), (n 43, .inl (cI, 10, .inl (fun _ => 0))), (o9, .inl (cJ, 1, .inr (.inl (fun _ => 0))))] s.heap.size = A at hD ⊢
  have hA : ∀ q : Nat, s.heap.size ≤ q → A q := fun q h => by rw [← hAe]; exact Or.inr h
  have hS : va_S A s.heap s.heap [] := va_S.rf
  have hl := lv_entry ([.ref x0, .int (nI a), .int (nI b), .ref o9]) (n := 5) (Nat.le_of_ble_eq_true rfl)
  rw [lg_entry_eq]
  generalize (lg_sl ([.ref x0, .int (nI a), .int (nI b), .ref o9]) ++ List.replicate (5 - (lg_sl ([.ref x0, .int (nI a), .int (nI b), .ref o9])).length) Slot.unset).toArray = ls at hl ⊢
  have hl : lv_has ls 5 [(0, .ref x0), (1, .int (nI a)), (2, .int (nI b)), (3, .ref o9)] := hl
  refine lv_aload_n hx hb dL_distance_0 rfl (lv_at hl 3 rfl) ?_
  refine lv_iconst (v := nI 0) hx hb dL_distance_1 (by decide) ?_
  refine lv_aload_n hx hb dL_distance_2 rfl (lv_at hl 0 rfl) ?_
  refine lv_iload_n hx hb dL_distance_3 rfl (lv_at hl 1 rfl) ?_
  refine lv_iload_n hx hb dL_distance_4 rfl (lv_at hl 2 rfl) ?_
  refine k_ci (wr := [(o9, .inl (cJ, 1, .inr (.inl (fun _ => 0))))]) (w1 := [(x0, .inr (6, [.int (nI N), .ref (n 0), .ref (q 0), .ref (tr 0), .int (nI 0)])), (n 0, .inr (2, [.int (nI N), .int (nI 0), .ref (n 1), .ref (n 2), .ref (n 3), .ref (n 9), .ref (n 16), .ref (n 23), .int (nI 0), .ref (n 32), .int (nI 0), .ref (n 33)])), (n 3, .inr (0, [.int (nI N), .ref (n 4), .ref (n 5), .ref (n 6), .ref (n 7), .ref (n 8), .null])), (n 4, .inl (cG, 10, .inr (.inr (.inr (.inr (kRows n)))))), (n 34, .inl (cI, 10, .inl (fun _ => 0))), (n 35, .inl (cI, 10, .inl (fun _ => 0))), (n 36, .inl (cI, 10, .inl (fun _ => 0))), (n 37, .inl (cI, 10, .inl (fun _ => 0))), (n 38, .inl (cI, 10, .inl (fun _ => 0))), (n 39, .inl (cI, 10, .inl (fun _ => 0))), (n 40, .inl (cI, 10, .inl (fun _ => 0))), (n 41, .inl (cI, 10, .inl (fun _ => 0))), (n 42, .inl (cI, 10, .inl (fun _ => 0))), (n 43, .inl (cI, 10, .inl (fun _ => 0)))]) (va_runV (As := [.int (nI a), .int (nI b)]) (rest := [.int (nI 0), .ref o9]) ⟨hx, hb, hml, hown, hts⟩ (c_X6_distance l D cI cJ cM cG x0 n q tr N a b s.heap.size (ha) (hb9) (hN)) (cwV 2 hts (kB_V (fun _ => List.mem_cons_of_mem _) q_426 q_427 q_428 q_9 (kB_c q_429)) rfl rfl rfl (by decide +kernel) ⟨Nat.le_of_ble_eq_true rfl, Nat.le_of_ble_eq_true rfl⟩) (k_preV (T := TX6) hP hD hK hKN [0, 1, 2, 3, 4, 5, 6, 7, 8, 9, 10, 11, 12, 13] rfl rfl (ci := 6) rfl (q0 := 0) rfl) rfl rfl hl.1 rfl (lv_room (Nat.le_of_ble_eq_true rfl)) dL_distance_5 ⟨Nat.le_of_ble_eq_true rfl, Nat.le_of_ble_eq_true rfl⟩) hP hD hS hA [0, 1, 2, 3, 4, 5, 6, 7, 8, 9, 10, 11, 12, 13] [14] rfl rfl rfl (by decide) (fun r5 H locs hw5 hP hD hS => ?_)
  replace hP : va_P D vwCl [(o9, .inl (cJ, 1, .inr (.inl (fun _ => 0)))), (x0, .inr (6, [.int (nI N), .ref (n 0), .ref (q 0), .ref (tr 0), .int (nI 0)])), (n 0, .inr (2, [.int (nI N), .int (nI 0), .ref (n 1), .ref (n 2), .ref (n 3), .ref (n 9), .ref (n 16), .ref (n 23), .int (nI 0), .ref (n 32), .int (nI 0), .ref (n 33)])), (n 3, .inr (0, [.int (nI N), .ref (n 4), .ref (n 5), .ref (n 6), .ref (n 7), .ref (n 8), .null])), (n 4, .inl (cG, 10, .inr (.inr (.inr (.inr (kRows n)))))), (n 34, .inl (cI, 10, .inl (fun _ => 0))), (n 35, .inl (cI, 10, .inl (fun _ => 0))), (n 36, .inl (cI, 10, .inl (fun _ => 0))), (n 37, .inl (cI, 10, .inl (fun _ => 0))), (n 38, .inl (cI, 10, .inl (fun _ => 0))), (n 39, .inl (cI, 10, .inl (fun _ => 0))), (n 40, .inl (cI, 10, .inl (fun _ => 0))), (n 41, .inl (cI, 10, .inl (fun _ => 0))), (n 42, .inl (cI, 10, .inl (fun _ => 0))), (n 43, .inl (cI, 10, .inl (fun _ => 0)))] H := hP
  replace hD : va_D A [(o9, .inl (cJ, 1, .inr (.inl (fun _ => 0)))), (x0, .inr (6, [.int (nI N), .ref (n 0), .ref (q 0), .ref (tr 0), .int (nI 0)])), (n 0, .inr (2, [.int (nI N), .int (nI 0), .ref (n 1), .ref (n 2), .ref (n 3), .ref (n 9), .ref (n 16), .ref (n 23), .int (nI 0), .ref (n 32), .int (nI 0), .ref (n 33)])), (n 3, .inr (0, [.int (nI N), .ref (n 4), .ref (n 5), .ref (n 6), .ref (n 7), .ref (n 8), .null])), (n 4, .inl (cG, 10, .inr (.inr (.inr (.inr (kRows n)))))), (n 34, .inl (cI, 10, .inl (fun _ => 0))), (n 35, .inl (cI, 10, .inl (fun _ => 0))), (n 36, .inl (cI, 10, .inl (fun _ => 0))), (n 37, .inl (cI, 10, .inl (fun _ => 0))), (n 38, .inl (cI, 10, .inl (fun _ => 0))), (n 39, .inl (cI, 10, .inl (fun _ => 0))), (n 40, .inl (cI, 10, .inl (fun _ => 0))), (n 41, .inl (cI, 10, .inl (fun _ => 0))), (n 42, .inl (cI, 10, .inl (fun _ => 0))), (n 43, .inl (cI, 10, .inl (fun _ => 0)))] := hD
  replace hw5 : r5 = if a = b then nI 0 else -1 := hw5
  refine k_ti hw5 ?_
  refine lv_i2l (v := (if a = b then nI 0 else -1).toInt64) hx hb dL_distance_8 (rfl) ?_
  refine k_last (f' := vp_updL (fun _ => 0) 0 ((if a = b then nI 0 else -1).toInt64)) hx hb hK hP hD hS 0 1 rfl rfl (by omega) (by omega) (rfl) dL_distance_9 (fun H locs hP hD hS => ?_)
  replace hP : va_P D vwCl [(o9, .inl (cJ, 1, .inr (.inl (vp_updL (fun _ => 0) 0 ((if a = b then nI 0 else -1).toInt64))))), (x0, .inr (6, [.int (nI N), .ref (n 0), .ref (q 0), .ref (tr 0), .int (nI 0)])), (n 0, .inr (2, [.int (nI N), .int (nI 0), .ref (n 1), .ref (n 2), .ref (n 3), .ref (n 9), .ref (n 16), .ref (n 23), .int (nI 0), .ref (n 32), .int (nI 0), .ref (n 33)])), (n 3, .inr (0, [.int (nI N), .ref (n 4), .ref (n 5), .ref (n 6), .ref (n 7), .ref (n 8), .null])), (n 4, .inl (cG, 10, .inr (.inr (.inr (.inr (kRows n)))))), (n 34, .inl (cI, 10, .inl (fun _ => 0))), (n 35, .inl (cI, 10, .inl (fun _ => 0))), (n 36, .inl (cI, 10, .inl (fun _ => 0))), (n 37, .inl (cI, 10, .inl (fun _ => 0))), (n 38, .inl (cI, 10, .inl (fun _ => 0))), (n 39, .inl (cI, 10, .inl (fun _ => 0))), (n 40, .inl (cI, 10, .inl (fun _ => 0))), (n 41, .inl (cI, 10, .inl (fun _ => 0))), (n 42, .inl (cI, 10, .inl (fun _ => 0))), (n 43, .inl (cI, 10, .inl (fun _ => 0)))] H := hP
  replace hD : va_D A [(o9, .inl (cJ, 1, .inr (.inl (vp_updL (fun _ => 0) 0 ((if a = b then nI 0 else -1).toInt64))))), (x0, .inr (6, [.int (nI N), .ref (n 0), .ref (q 0), .ref (tr 0), .int (nI 0)])), (n 0, .inr (2, [.int (nI N), .int (nI 0), .ref (n 1), .ref (n 2), .ref (n 3), .ref (n 9), .ref (n 16), .ref (n 23), .int (nI 0), .ref (n 32), .int (nI 0), .ref (n 33)])), (n 3, .inr (0, [.int (nI N), .ref (n 4), .ref (n 5), .ref (n 6), .ref (n 7), .ref (n 8), .null])), (n 4, .inl (cG, 10, .inr (.inr (.inr (.inr (kRows n)))))), (n 34, .inl (cI, 10, .inl (fun _ => 0))), (n 35, .inl (cI, 10, .inl (fun _ => 0))), (n 36, .inl (cI, 10, .inl (fun _ => 0))), (n 37, .inl (cI, 10, .inl (fun _ => 0))), (n 38, .inl (cI, 10, .inl (fun _ => 0))), (n 39, .inl (cI, 10, .inl (fun _ => 0))), (n 40, .inl (cI, 10, .inl (fun _ => 0))), (n 41, .inl (cI, 10, .inl (fun _ => 0))), (n 42, .inl (cI, 10, .inl (fun _ => 0))), (n 43, .inl (cI, 10, .inl (fun _ => 0)))] := hD
  refine lv_goto (tgt := 17) hx hb dL_distance_10 (by decide) ?_
  refine lv_iconst (v := nI 0) hx hb dL_distance_17 (by decide) ?_
  have hP9 := hP.sub (ws' := [(o9, .inl (cJ, 1, .inr (.inl (vp_updL (fun _ => 0) 0 ((if a = b then nI 0 else -1).toInt64)))))]) [0] rfl
  have hD9 := hD.sub (ws' := [(o9, .inl (cJ, 1, .inr (.inl (vp_updL (fun _ => 0) 0 ((if a = b then nI 0 else -1).toInt64)))))]) [0] rfl rfl
  exact W.iret (v := nI 0) hx hb hr (fun t9 ht9 hW9 => ⟨⟨nI 0, (), rfl, rfl, by rw [ht9]; exact hP9, hD9⟩, hS.F ht9⟩) hS.2.2 dL_distance_18

set_option maxHeartbeats 4000000 in
set_option maxRecDepth 100000 in
theorem c_L_forecast1 (l : Launch) (D : va_G) (cI cJ cM cG : ClassId) (x0 : Nat) (n : Nat → Nat) (q : Nat → Nat) (tr : Nat → Nat) (N : Nat) (a : Nat) (b : Nat) (u : Nat) (o9 : Nat) (sz : Nat) (ha : a < N) (hb9 : b < N) (hN : N ≤ 10) (hab : a ≠ b) (hu : u ≤ 100000) : Met l yL_forecast (Cond.codeWith yL_forecast cL_forecast 6 (some .int) [(0, 12, 15, 13), (0, 12, 19, 15)] :: kBig) ({ frames := 7, cells := 0, slots := 0, locals := 200 }) (va_Pc [.ref x0, .int (nI a), .int (nI b), .int (nI u), .ref o9] (kP D [(cI, .int), (cJ, .long), (cM, .object "MeshRouting$Message"), (cG, .array .int)] [(x0, .inr (6, [.int (nI N), .ref (n 0), .ref (q 0), .ref (tr 0), .int (nI 0)])), (n 0, .inr (2, [.int (nI N), .int (nI 0), .ref (n 1), .ref (n 2), .ref (n 3), .ref (n 9), .ref (n 16), .ref (n 23), .int (nI 0), .ref (n 32), .int (nI 0), .ref (n 33)])), (n 1, .inl (cI, 8, .inl kPar)), (n 2, .inl (cI, 10, .inl (fun _ => 0))), (n 3, .inr (0, [.int (nI N), .ref (n 4), .ref (n 5), .ref (n 6), .ref (n 7), .ref (n 8), .null])), (n 4, .inl (cG, 10, .inr (.inr (.inr (.inr (kRows n)))))), (n 5, .inl (cI, 4, .inl (fun _ => 0))), (n 6, .inl (cI, 4, .inl (fun _ => 0))), (n 7, .inl (cM, 10, .inr (.inr (.inr (.inr (fun _ => none)))))), (n 8, .inl (cM, 10, .inr (.inr (.inr (.inr (fun _ => none)))))), (n 34, .inl (cI, 10, .inl (fun _ => 0))), (n 35, .inl (cI, 10, .inl (fun _ => 0))), (n 36, .inl (cI, 10, .inl (fun _ => 0))), (n 37, .inl (cI, 10, .inl (fun _ => 0))), (n 38, .inl (cI, 10, .inl (fun _ => 0))), (n 39, .inl (cI, 10, .inl (fun _ => 0))), (n 40, .inl (cI, 10, .inl (fun _ => 0))), (n 41, .inl (cI, 10, .inl (fun _ => 0))), (n 42, .inl (cI, 10, .inl (fun _ => 0))), (n 43, .inl (cI, 10, .inl (fun _ => 0))), (n 9, .inr (4, [.ref (n 10), .ref (n 11), .ref (n 12), .ref (n 13), .ref (n 14), .ref (n 15)])), (n 10, .inl (cI, 100, .inl (fun _ => 0))), (n 11, .inl (cI, 100, .inl (fun _ => -1))), (n 12, .inl (cI, 100, .inl (fun _ => -1))), (n 13, .inl (cI, 100, .inl (fun _ => -1))), (n 14, .inl (cI, 100, .inl (fun _ => -1))), (n 15, .inl (cI, 100, .inl (fun _ => 0))), (n 16, .inr (5, [.ref (n 17), .ref (n 18), .ref (n 19), .ref (n 20), .ref (n 21), .ref (n 22), .int (-1)])), (n 17, .inl (cI, 100, .inl (fun _ => 0))), (n 18, .inl (cI, 100, .inl (fun _ => -1))), (n 19, .inl (cI, 100, .inl (fun _ => 0))), (n 20, .inl (cI, 100, .inl (fun _ => 0))), (n 21, .inl (cI, 100, .inl (fun _ => 0))), (n 22, .inl (cI, 400, .inl (fun _ => 0))), (n 23, .inr (3, [.int (nI 0), .ref (n 24), .ref (n 25), .ref (n 26), .ref (n 27), .ref (n 28), .ref (n 29), .ref (n 30), .ref (n 31)])), (n 24, .inl (cI, 200, .inl (fun _ => 0))), (n 25, .inl (cI, 200, .inl (fun _ => 0))), (n 26, .inl (cI, 200, .inl (fun _ => 0))), (n 27, .inl (cI, 200, .inl (fun _ => 0))), (n 28, .inl (cI, 200, .inl (fun _ => 0))), (n 29, .inl (cI, 200, .inl (fun _ => 0))), (n 30, .inl (cI, 200, .inl (fun _ => -1))), (n 31, .inl (cI, 200, .inl (fun _ => 0))), (n 32, .inl (cI, 256, .inl (fun _ => 0))), (n 33, .inr (1, [.int (nI 0), .int (nI 0), .int (nI 0), .int (nI 0), .int (nI 0), .int (nI 0), .int (nI 0), .int (nI 0), .int (nI 0), .int (nI 0), .int (nI 0), .int (nI 0), .null])), (tr 0, .inr (2, [.int (nI N), .int (nI 0), .ref (tr 1), .ref (tr 2), .ref (tr 3), .ref (tr 9), .ref (tr 16), .ref (tr 23), .int (nI 0), .ref (tr 32), .int (nI 0), .ref (tr 33)])), (tr 1, .inl (cI, 8, .inl kPar)), (tr 2, .inl (cI, 10, .inl (fun _ => 0))), (tr 3, .inr (0, [.int (nI N), .ref (tr 4), .ref (tr 5), .ref (tr 6), .ref (tr 7), .ref (tr 8), .null])), (tr 4, .inl (cG, 10, .inr (.inr (.inr (.inr (kRows tr)))))), (tr 5, .inl (cI, 4, .inl (fun _ => 0))), (tr 6, .inl (cI, 4, .inl (fun _ => 0))), (tr 7, .inl (cM, 10, .inr (.inr (.inr (.inr (fun _ => none)))))), (tr 8, .inl (cM, 10, .inr (.inr (.inr (.inr (fun _ => none)))))), (tr 34, .inl (cI, 10, .inl (fun _ => 0))), (tr 35, .inl (cI, 10, .inl (fun _ => 0))), (tr 36, .inl (cI, 10, .inl (fun _ => 0))), (tr 37, .inl (cI, 10, .inl (fun _ => 0))), (tr 38, .inl (cI, 10, .inl (fun _ => 0))), (tr 39, .inl (cI, 10, .inl (fun _ => 0))), (tr 40, .inl (cI, 10, .inl (fun _ => 0))), (tr 41, .inl (cI, 10, .inl (fun _ => 0))), (tr 42, .inl (cI, 10, .inl (fun _ => 0))), (tr 43, .inl (cI, 10, .inl (fun _ => 0))), (tr 9, .inr (4, [.ref (tr 10), .ref (tr 11), .ref (tr 12), .ref (tr 13), .ref (tr 14), .ref (tr 15)])), (tr 10, .inl (cI, 100, .inl (fun _ => 0))), (tr 11, .inl (cI, 100, .inl (fun _ => -1))), (tr 12, .inl (cI, 100, .inl (fun _ => -1))), (tr 13, .inl (cI, 100, .inl (fun _ => -1))), (tr 14, .inl (cI, 100, .inl (fun _ => -1))), (tr 15, .inl (cI, 100, .inl (fun _ => 0))), (tr 16, .inr (5, [.ref (tr 17), .ref (tr 18), .ref (tr 19), .ref (tr 20), .ref (tr 21), .ref (tr 22), .int (-1)])), (tr 17, .inl (cI, 100, .inl (fun _ => 0))), (tr 18, .inl (cI, 100, .inl (fun _ => -1))), (tr 19, .inl (cI, 100, .inl (fun _ => 0))), (tr 20, .inl (cI, 100, .inl (fun _ => 0))), (tr 21, .inl (cI, 100, .inl (fun _ => 0))), (tr 22, .inl (cI, 400, .inl (fun _ => 0))), (tr 23, .inr (3, [.int (nI 0), .ref (tr 24), .ref (tr 25), .ref (tr 26), .ref (tr 27), .ref (tr 28), .ref (tr 29), .ref (tr 30), .ref (tr 31)])), (tr 24, .inl (cI, 200, .inl (fun _ => 0))), (tr 25, .inl (cI, 200, .inl (fun _ => 0))), (tr 26, .inl (cI, 200, .inl (fun _ => 0))), (tr 27, .inl (cI, 200, .inl (fun _ => 0))), (tr 28, .inl (cI, 200, .inl (fun _ => 0))), (tr 29, .inl (cI, 200, .inl (fun _ => 0))), (tr 30, .inl (cI, 200, .inl (fun _ => -1))), (tr 31, .inl (cI, 200, .inl (fun _ => 0))), (tr 32, .inl (cI, 256, .inl (fun _ => 0))), (tr 33, .inr (1, [.int (nI 0), .int (nI 0), .int (nI 0), .int (nI 0), .int (nI 0), .int (nI 0), .int (nI 0), .int (nI 0), .int (nI 0), .int (nI 0), .int (nI 0), .int (nI 0), .null])), (o9, .inl (cJ, 1, .inr (.inl (fun _ => 0))))] sz)) (va_Qi (fun (r : Int32) (_ : Unit) => r = nI 0) (fun _ t9 => kB D (va_A [(x0, .inr (6, [.int (nI N), .ref (n 0), .ref (q 0), .ref (tr 0), .int (nI 0)])), (n 0, .inr (2, [.int (nI N), .int (nI 0), .ref (n 1), .ref (n 2), .ref (n 3), .ref (n 9), .ref (n 16), .ref (n 23), .int (nI 0), .ref (n 32), .int (nI 0), .ref (n 33)])), (n 1, .inl (cI, 8, .inl kPar)), (n 2, .inl (cI, 10, .inl (fun _ => 0))), (n 3, .inr (0, [.int (nI N), .ref (n 4), .ref (n 5), .ref (n 6), .ref (n 7), .ref (n 8), .null])), (n 4, .inl (cG, 10, .inr (.inr (.inr (.inr (kRows n)))))), (n 5, .inl (cI, 4, .inl (fun _ => 0))), (n 6, .inl (cI, 4, .inl (fun _ => 0))), (n 7, .inl (cM, 10, .inr (.inr (.inr (.inr (fun _ => none)))))), (n 8, .inl (cM, 10, .inr (.inr (.inr (.inr (fun _ => none)))))), (n 34, .inl (cI, 10, .inl (fun _ => 0))), (n 35, .inl (cI, 10, .inl (fun _ => 0))), (n 36, .inl (cI, 10, .inl (fun _ => 0))), (n 37, .inl (cI, 10, .inl (fun _ => 0))), (n 38, .inl (cI, 10, .inl (fun _ => 0))), (n 39, .inl (cI, 10, .inl (fun _ => 0))), (n 40, .inl (cI, 10, .inl (fun _ => 0))), (n 41, .inl (cI, 10, .inl (fun _ => 0))), (n 42, .inl (cI, 10, .inl (fun _ => 0))), (n 43, .inl (cI, 10, .inl (fun _ => 0))), (n 9, .inr (4, [.ref (n 10), .ref (n 11), .ref (n 12), .ref (n 13), .ref (n 14), .ref (n 15)])), (n 10, .inl (cI, 100, .inl (fun _ => 0))), (n 11, .inl (cI, 100, .inl (fun _ => -1))), (n 12, .inl (cI, 100, .inl (fun _ => -1))), (n 13, .inl (cI, 100, .inl (fun _ => -1))), (n 14, .inl (cI, 100, .inl (fun _ => -1))), (n 15, .inl (cI, 100, .inl (fun _ => 0))), (n 16, .inr (5, [.ref (n 17), .ref (n 18), .ref (n 19), .ref (n 20), .ref (n 21), .ref (n 22), .int (-1)])), (n 17, .inl (cI, 100, .inl (fun _ => 0))), (n 18, .inl (cI, 100, .inl (fun _ => -1))), (n 19, .inl (cI, 100, .inl (fun _ => 0))), (n 20, .inl (cI, 100, .inl (fun _ => 0))), (n 21, .inl (cI, 100, .inl (fun _ => 0))), (n 22, .inl (cI, 400, .inl (fun _ => 0))), (n 23, .inr (3, [.int (nI 0), .ref (n 24), .ref (n 25), .ref (n 26), .ref (n 27), .ref (n 28), .ref (n 29), .ref (n 30), .ref (n 31)])), (n 24, .inl (cI, 200, .inl (fun _ => 0))), (n 25, .inl (cI, 200, .inl (fun _ => 0))), (n 26, .inl (cI, 200, .inl (fun _ => 0))), (n 27, .inl (cI, 200, .inl (fun _ => 0))), (n 28, .inl (cI, 200, .inl (fun _ => 0))), (n 29, .inl (cI, 200, .inl (fun _ => 0))), (n 30, .inl (cI, 200, .inl (fun _ => -1))), (n 31, .inl (cI, 200, .inl (fun _ => 0))), (n 32, .inl (cI, 256, .inl (fun _ => 0))), (n 33, .inr (1, [.int (nI 0), .int (nI 0), .int (nI 0), .int (nI 0), .int (nI 0), .int (nI 0), .int (nI 0), .int (nI 0), .int (nI 0), .int (nI 0), .int (nI 0), .int (nI 0), .null])), (tr 0, .inr (2, [.int (nI N), .int (nI 0), .ref (tr 1), .ref (tr 2), .ref (tr 3), .ref (tr 9), .ref (tr 16), .ref (tr 23), .int (nI 0), .ref (tr 32), .int (nI 0), .ref (tr 33)])), (tr 1, .inl (cI, 8, .inl kPar)), (tr 2, .inl (cI, 10, .inl (fun _ => 0))), (tr 3, .inr (0, [.int (nI N), .ref (tr 4), .ref (tr 5), .ref (tr 6), .ref (tr 7), .ref (tr 8), .null])), (tr 4, .inl (cG, 10, .inr (.inr (.inr (.inr (kRows tr)))))), (tr 5, .inl (cI, 4, .inl (fun _ => 0))), (tr 6, .inl (cI, 4, .inl (fun _ => 0))), (tr 7, .inl (cM, 10, .inr (.inr (.inr (.inr (fun _ => none)))))), (tr 8, .inl (cM, 10, .inr (.inr (.inr (.inr (fun _ => none)))))), (tr 34, .inl (cI, 10, .inl (fun _ => 0))), (tr 35, .inl (cI, 10, .inl (fun _ => 0))), (tr 36, .inl (cI, 10, .inl (fun _ => 0))), (tr 37, .inl (cI, 10, .inl (fun _ => 0))), (tr 38, .inl (cI, 10, .inl (fun _ => 0))), (tr 39, .inl (cI, 10, .inl (fun _ => 0))), (tr 40, .inl (cI, 10, .inl (fun _ => 0))), (tr 41, .inl (cI, 10, .inl (fun _ => 0))), (tr 42, .inl (cI, 10, .inl (fun _ => 0))), (tr 43, .inl (cI, 10, .inl (fun _ => 0))), (tr 9, .inr (4, [.ref (tr 10), .ref (tr 11), .ref (tr 12), .ref (tr 13), .ref (tr 14), .ref (tr 15)])), (tr 10, .inl (cI, 100, .inl (fun _ => 0))), (tr 11, .inl (cI, 100, .inl (fun _ => -1))), (tr 12, .inl (cI, 100, .inl (fun _ => -1))), (tr 13, .inl (cI, 100, .inl (fun _ => -1))), (tr 14, .inl (cI, 100, .inl (fun _ => -1))), (tr 15, .inl (cI, 100, .inl (fun _ => 0))), (tr 16, .inr (5, [.ref (tr 17), .ref (tr 18), .ref (tr 19), .ref (tr 20), .ref (tr 21), .ref (tr 22), .int (-1)])), (tr 17, .inl (cI, 100, .inl (fun _ => 0))), (tr 18, .inl (cI, 100, .inl (fun _ => -1))), (tr 19, .inl (cI, 100, .inl (fun _ => 0))), (tr 20, .inl (cI, 100, .inl (fun _ => 0))), (tr 21, .inl (cI, 100, .inl (fun _ => 0))), (tr 22, .inl (cI, 400, .inl (fun _ => 0))), (tr 23, .inr (3, [.int (nI 0), .ref (tr 24), .ref (tr 25), .ref (tr 26), .ref (tr 27), .ref (tr 28), .ref (tr 29), .ref (tr 30), .ref (tr 31)])), (tr 24, .inl (cI, 200, .inl (fun _ => 0))), (tr 25, .inl (cI, 200, .inl (fun _ => 0))), (tr 26, .inl (cI, 200, .inl (fun _ => 0))), (tr 27, .inl (cI, 200, .inl (fun _ => 0))), (tr 28, .inl (cI, 200, .inl (fun _ => 0))), (tr 29, .inl (cI, 200, .inl (fun _ => 0))), (tr 30, .inl (cI, 200, .inl (fun _ => -1))), (tr 31, .inl (cI, 200, .inl (fun _ => 0))), (tr 32, .inl (cI, 256, .inl (fun _ => 0))), (tr 33, .inr (1, [.int (nI 0), .int (nI 0), .int (nI 0), .int (nI 0), .int (nI 0), .int (nI 0), .int (nI 0), .int (nI 0), .int (nI 0), .int (nI 0), .int (nI 0), .int (nI 0), .null])), (o9, .inl (cJ, 1, .inr (.inl (fun _ => 0))))] sz) [(o9, .inl (cJ, 1, .inr (.inl (vp_updL (fun _ => 0) 0 ((kSt u 0).toInt64)))))] t9) (va_A [(x0, .inr (6, [.int (nI N), .ref (n 0), .ref (q 0), .ref (tr 0), .int (nI 0)])), (n 0, .inr (2, [.int (nI N), .int (nI 0), .ref (n 1), .ref (n 2), .ref (n 3), .ref (n 9), .ref (n 16), .ref (n 23), .int (nI 0), .ref (n 32), .int (nI 0), .ref (n 33)])), (n 1, .inl (cI, 8, .inl kPar)), (n 2, .inl (cI, 10, .inl (fun _ => 0))), (n 3, .inr (0, [.int (nI N), .ref (n 4), .ref (n 5), .ref (n 6), .ref (n 7), .ref (n 8), .null])), (n 4, .inl (cG, 10, .inr (.inr (.inr (.inr (kRows n)))))), (n 5, .inl (cI, 4, .inl (fun _ => 0))), (n 6, .inl (cI, 4, .inl (fun _ => 0))), (n 7, .inl (cM, 10, .inr (.inr (.inr (.inr (fun _ => none)))))), (n 8, .inl (cM, 10, .inr (.inr (.inr (.inr (fun _ => none)))))), (n 34, .inl (cI, 10, .inl (fun _ => 0))), (n 35, .inl (cI, 10, .inl (fun _ => 0))), (n 36, .inl (cI, 10, .inl (fun _ => 0))), (n 37, .inl (cI, 10, .inl (fun _ => 0))), (n 38, .inl (cI, 10, .inl (fun _ => 0))), (n 39, .inl (cI, 10, .inl (fun _ => 0))), (n 40, .inl (cI, 10, .inl (fun _ => 0))), (n 41, .inl (cI, 10, .inl (fun _ => 0))), (n 42, .inl (cI, 10, .inl (fun _ => 0))), (n 43, .inl (cI, 10, .inl (fun _ => 0))), (n 9, .inr (4, [.ref (n 10), .ref (n 11), .ref (n 12), .ref (n 13), .ref (n 14), .ref (n 15)])), (n 10, .inl (cI, 100, .inl (fun _ => 0))), (n 11, .inl (cI, 100, .inl (fun _ => -1))), (n 12, .inl (cI, 100, .inl (fun _ => -1))), (n 13, .inl (cI, 100, .inl (fun _ => -1))), (n 14, .inl (cI, 100, .inl (fun _ => -1))), (n 15, .inl (cI, 100, .inl (fun _ => 0))), (n 16, .inr (5, [.ref (n 17), .ref (n 18), .ref (n 19), .ref (n 20), .ref (n 21), .ref (n 22), .int (-1)])), (n 17, .inl (cI, 100, .inl (fun _ => 0))), (n 18, .inl (cI, 100, .inl (fun _ => -1))), (n 19, .inl (cI, 100, .inl (fun _ => 0))), (n 20, .inl (cI, 100, .inl (fun _ => 0))), (n 21, .inl (cI, 100, .inl (fun _ => 0))), (n 22, .inl (cI, 400, .inl (fun _ => 0))), (n 23, .inr (3, [.int (nI 0), .ref (n 24), .ref (n 25), .ref (n 26), .ref (n 27), .ref (n 28), .ref (n 29), .ref (n 30), .ref (n 31)])), (n 24, .inl (cI, 200, .inl (fun _ => 0))), (n 25, .inl (cI, 200, .inl (fun _ => 0))), (n 26, .inl (cI, 200, .inl (fun _ => 0))), (n 27, .inl (cI, 200, .inl (fun _ => 0))), (n 28, .inl (cI, 200, .inl (fun _ => 0))), (n 29, .inl (cI, 200, .inl (fun _ => 0))), (n 30, .inl (cI, 200, .inl (fun _ => -1))), (n 31, .inl (cI, 200, .inl (fun _ => 0))), (n 32, .inl (cI, 256, .inl (fun _ => 0))), (n 33, .inr (1, [.int (nI 0), .int (nI 0), .int (nI 0), .int (nI 0), .int (nI 0), .int (nI 0), .int (nI 0), .int (nI 0), .int (nI 0), .int (nI 0), .int (nI 0), .int (nI 0), .null])), (tr 0, .inr (2, [.int (nI N), .int (nI 0), .ref (tr 1), .ref (tr 2), .ref (tr 3), .ref (tr 9), .ref (tr 16), .ref (tr 23), .int (nI 0), .ref (tr 32), .int (nI 0), .ref (tr 33)])), (tr 1, .inl (cI, 8, .inl kPar)), (tr 2, .inl (cI, 10, .inl (fun _ => 0))), (tr 3, .inr (0, [.int (nI N), .ref (tr 4), .ref (tr 5), .ref (tr 6), .ref (tr 7), .ref (tr 8), .null])), (tr 4, .inl (cG, 10, .inr (.inr (.inr (.inr (kRows tr)))))), (tr 5, .inl (cI, 4, .inl (fun _ => 0))), (tr 6, .inl (cI, 4, .inl (fun _ => 0))), (tr 7, .inl (cM, 10, .inr (.inr (.inr (.inr (fun _ => none)))))), (tr 8, .inl (cM, 10, .inr (.inr (.inr (.inr (fun _ => none)))))), (tr 34, .inl (cI, 10, .inl (fun _ => 0))), (tr 35, .inl (cI, 10, .inl (fun _ => 0))), (tr 36, .inl (cI, 10, .inl (fun _ => 0))), (tr 37, .inl (cI, 10, .inl (fun _ => 0))), (tr 38, .inl (cI, 10, .inl (fun _ => 0))), (tr 39, .inl (cI, 10, .inl (fun _ => 0))), (tr 40, .inl (cI, 10, .inl (fun _ => 0))), (tr 41, .inl (cI, 10, .inl (fun _ => 0))), (tr 42, .inl (cI, 10, .inl (fun _ => 0))), (tr 43, .inl (cI, 10, .inl (fun _ => 0))), (tr 9, .inr (4, [.ref (tr 10), .ref (tr 11), .ref (tr 12), .ref (tr 13), .ref (tr 14), .ref (tr 15)])), (tr 10, .inl (cI, 100, .inl (fun _ => 0))), (tr 11, .inl (cI, 100, .inl (fun _ => -1))), (tr 12, .inl (cI, 100, .inl (fun _ => -1))), (tr 13, .inl (cI, 100, .inl (fun _ => -1))), (tr 14, .inl (cI, 100, .inl (fun _ => -1))), (tr 15, .inl (cI, 100, .inl (fun _ => 0))), (tr 16, .inr (5, [.ref (tr 17), .ref (tr 18), .ref (tr 19), .ref (tr 20), .ref (tr 21), .ref (tr 22), .int (-1)])), (tr 17, .inl (cI, 100, .inl (fun _ => 0))), (tr 18, .inl (cI, 100, .inl (fun _ => -1))), (tr 19, .inl (cI, 100, .inl (fun _ => 0))), (tr 20, .inl (cI, 100, .inl (fun _ => 0))), (tr 21, .inl (cI, 100, .inl (fun _ => 0))), (tr 22, .inl (cI, 400, .inl (fun _ => 0))), (tr 23, .inr (3, [.int (nI 0), .ref (tr 24), .ref (tr 25), .ref (tr 26), .ref (tr 27), .ref (tr 28), .ref (tr 29), .ref (tr 30), .ref (tr 31)])), (tr 24, .inl (cI, 200, .inl (fun _ => 0))), (tr 25, .inl (cI, 200, .inl (fun _ => 0))), (tr 26, .inl (cI, 200, .inl (fun _ => 0))), (tr 27, .inl (cI, 200, .inl (fun _ => 0))), (tr 28, .inl (cI, 200, .inl (fun _ => 0))), (tr 29, .inl (cI, 200, .inl (fun _ => 0))), (tr 30, .inl (cI, 200, .inl (fun _ => -1))), (tr 31, .inl (cI, 200, .inl (fun _ => 0))), (tr 32, .inl (cI, 256, .inl (fun _ => 0))), (tr 33, .inr (1, [.int (nI 0), .int (nI 0), .int (nI 0), .int (nI 0), .int (nI 0), .int (nI 0), .int (nI 0), .int (nI 0), .int (nI 0), .int (nI 0), .int (nI 0), .int (nI 0), .null])), (o9, .inl (cJ, 1, .inr (.inl (fun _ => 0))))] sz)) 0 0 (va_A [(x0, .inr (6, [.int (nI N), .ref (n 0), .ref (q 0), .ref (tr 0), .int (nI 0)])), (n 0, .inr (2, [.int (nI N), .int (nI 0), .ref (n 1), .ref (n 2), .ref (n 3), .ref (n 9), .ref (n 16), .ref (n 23), .int (nI 0), .ref (n 32), .int (nI 0), .ref (n 33)])), (n 1, .inl (cI, 8, .inl kPar)), (n 2, .inl (cI, 10, .inl (fun _ => 0))), (n 3, .inr (0, [.int (nI N), .ref (n 4), .ref (n 5), .ref (n 6), .ref (n 7), .ref (n 8), .null])), (n 4, .inl (cG, 10, .inr (.inr (.inr (.inr (kRows n)))))), (n 5, .inl (cI, 4, .inl (fun _ => 0))), (n 6, .inl (cI, 4, .inl (fun _ => 0))), (n 7, .inl (cM, 10, .inr (.inr (.inr (.inr (fun _ => none)))))), (n 8, .inl (cM, 10, .inr (.inr (.inr (.inr (fun _ => none)))))), (n 34, .inl (cI, 10, .inl (fun _ => 0))), (n 35, .inl (cI, 10, .inl (fun _ => 0))), (n 36, .inl (cI, 10, .inl (fun _ => 0))), (n 37, .inl (cI, 10, .inl (fun _ => 0))), (n 38, .inl (cI, 10, .inl (fun _ => 0))), (n 39, .inl (cI, 10, .inl (fun _ => 0))), (n 40, .inl (cI, 10, .inl (fun _ => 0))), (n 41, .inl (cI, 10, .inl (fun _ => 0))), (n 42, .inl (cI, 10, .inl (fun _ => 0))), (n 43, .inl (cI, 10, .inl (fun _ => 0))), (n 9, .inr (4, [.ref (n 10), .ref (n 11), .ref (n 12), .ref (n 13), .ref (n 14), .ref (n 15)])), (n 10, .inl (cI, 100, .inl (fun _ => 0))), (n 11, .inl (cI, 100, .inl (fun _ => -1))), (n 12, .inl (cI, 100, .inl (fun _ => -1))), (n 13, .inl (cI, 100, .inl (fun _ => -1))), (n 14, .inl (cI, 100, .inl (fun _ => -1))), (n 15, .inl (cI, 100, .inl (fun _ => 0))), (n 16, .inr (5, [.ref (n 17), .ref (n 18), .ref (n 19), .ref (n 20), .ref (n 21), .ref (n 22), .int (-1)])), (n 17, .inl (cI, 100, .inl (fun _ => 0))), (n 18, .inl (cI, 100, .inl (fun _ => -1))), (n 19, .inl (cI, 100, .inl (fun _ => 0))), (n 20, .inl (cI, 100, .inl (fun _ => 0))), (n 21, .inl (cI, 100, .inl (fun _ => 0))), (n 22, .inl (cI, 400, .inl (fun _ => 0))), (n 23, .inr (3, [.int (nI 0), .ref (n 24), .ref (n 25), .ref (n 26), .ref (n 27), .ref (n 28), .ref (n 29), .ref (n 30), .ref (n 31)])), (n 24, .inl (cI, 200, .inl (fun _ => 0))), (n 25, .inl (cI, 200, .inl (fun _ => 0))), (n 26, .inl (cI, 200, .inl (fun _ => 0))), (n 27, .inl (cI, 200, .inl (fun _ => 0))), (n 28, .inl (cI, 200, .inl (fun _ => 0))), (n 29, .inl (cI, 200, .inl (fun _ => 0))), (n 30, .inl (cI, 200, .inl (fun _ => -1))), (n 31, .inl (cI, 200, .inl (fun _ => 0))), (n 32, .inl (cI, 256, .inl (fun _ => 0))), (n 33, .inr (1, [.int (nI 0), .int (nI 0), .int (nI 0), .int (nI 0), .int (nI 0), .int (nI 0), .int (nI 0), .int (nI 0), .int (nI 0), .int (nI 0), .int (nI 0), .int (nI 0), .null])), (tr 0, .inr (2, [.int (nI N), .int (nI 0), .ref (tr 1), .ref (tr 2), .ref (tr 3), .ref (tr 9), .ref (tr 16), .ref (tr 23), .int (nI 0), .ref (tr 32), .int (nI 0), .ref (tr 33)])), (tr 1, .inl (cI, 8, .inl kPar)), (tr 2, .inl (cI, 10, .inl (fun _ => 0))), (tr 3, .inr (0, [.int (nI N), .ref (tr 4), .ref (tr 5), .ref (tr 6), .ref (tr 7), .ref (tr 8), .null])), (tr 4, .inl (cG, 10, .inr (.inr (.inr (.inr (kRows tr)))))), (tr 5, .inl (cI, 4, .inl (fun _ => 0))), (tr 6, .inl (cI, 4, .inl (fun _ => 0))), (tr 7, .inl (cM, 10, .inr (.inr (.inr (.inr (fun _ => none)))))), (tr 8, .inl (cM, 10, .inr (.inr (.inr (.inr (fun _ => none)))))), (tr 34, .inl (cI, 10, .inl (fun _ => 0))), (tr 35, .inl (cI, 10, .inl (fun _ => 0))), (tr 36, .inl (cI, 10, .inl (fun _ => 0))), (tr 37, .inl (cI, 10, .inl (fun _ => 0))), (tr 38, .inl (cI, 10, .inl (fun _ => 0))), (tr 39, .inl (cI, 10, .inl (fun _ => 0))), (tr 40, .inl (cI, 10, .inl (fun _ => 0))), (tr 41, .inl (cI, 10, .inl (fun _ => 0))), (tr 42, .inl (cI, 10, .inl (fun _ => 0))), (tr 43, .inl (cI, 10, .inl (fun _ => 0))), (tr 9, .inr (4, [.ref (tr 10), .ref (tr 11), .ref (tr 12), .ref (tr 13), .ref (tr 14), .ref (tr 15)])), (tr 10, .inl (cI, 100, .inl (fun _ => 0))), (tr 11, .inl (cI, 100, .inl (fun _ => -1))), (tr 12, .inl (cI, 100, .inl (fun _ => -1))), (tr 13, .inl (cI, 100, .inl (fun _ => -1))), (tr 14, .inl (cI, 100, .inl (fun _ => -1))), (tr 15, .inl (cI, 100, .inl (fun _ => 0))), (tr 16, .inr (5, [.ref (tr 17), .ref (tr 18), .ref (tr 19), .ref (tr 20), .ref (tr 21), .ref (tr 22), .int (-1)])), (tr 17, .inl (cI, 100, .inl (fun _ => 0))), (tr 18, .inl (cI, 100, .inl (fun _ => -1))), (tr 19, .inl (cI, 100, .inl (fun _ => 0))), (tr 20, .inl (cI, 100, .inl (fun _ => 0))), (tr 21, .inl (cI, 100, .inl (fun _ => 0))), (tr 22, .inl (cI, 400, .inl (fun _ => 0))), (tr 23, .inr (3, [.int (nI 0), .ref (tr 24), .ref (tr 25), .ref (tr 26), .ref (tr 27), .ref (tr 28), .ref (tr 29), .ref (tr 30), .ref (tr 31)])), (tr 24, .inl (cI, 200, .inl (fun _ => 0))), (tr 25, .inl (cI, 200, .inl (fun _ => 0))), (tr 26, .inl (cI, 200, .inl (fun _ => 0))), (tr 27, .inl (cI, 200, .inl (fun _ => 0))), (tr 28, .inl (cI, 200, .inl (fun _ => 0))), (tr 29, .inl (cI, 200, .inl (fun _ => 0))), (tr 30, .inl (cI, 200, .inl (fun _ => -1))), (tr 31, .inl (cI, 200, .inl (fun _ => 0))), (tr 32, .inl (cI, 256, .inl (fun _ => 0))), (tr 33, .inr (1, [.int (nI 0), .int (nI 0), .int (nI 0), .int (nI 0), .int (nI 0), .int (nI 0), .int (nI 0), .int (nI 0), .int (nI 0), .int (nI 0), .int (nI 0), .int (nI 0), .null])), (o9, .inl (cJ, 1, .inr (.inl (fun _ => 0))))] sz) := by
  refine va_MetW (cc := cL_forecast) (maxL := 6) (ret := (some .int)) (hh := [(0, 12, 15, 13), (0, 12, 19, 15)]) (by decide) rfl ?_
  intro p e s m args below meth c s₁ B hml hv
  obtain ⟨rfl, ⟨hsz, hP, hK, hD0, hKN⟩⟩ := hv
  have hx := B.exec
  have hb := B.bytes
  have hr := B.returns
  have hts := atoms_spec (ws := (Cond.codeWith yL_forecast cL_forecast 6 (some .int) [(0, 12, 15, 13), (0, 12, 19, 15)] :: kBig)) B.pre
  have hown : s.vm.findClass RL = some m.cls := findClass_of_methodNamed B.named
  have hlocks := B.notSynchronized
  have htab := vx_table (x := yL_forecast) B (hts _ List.mem_cons_self)
  subst hsz
  have hD := hD0.self (sz := s.heap.size)
  generalize hAe : va_A [(x0, .inr (6, [.int (nI N), .ref (n 0), .ref (q 0), .ref (tr 0), .int (nI 0)])), (n 0, .inr (2, [.int (nI N), .int (nI 0), .ref (n 1), .ref (n 2), .ref (n 3), .ref (n 9), .ref (n 16), .ref (n 23), .int (nI 0), .ref (n 32), .int (nI 0), .ref (n 33)])), (n 1, .inl (cI, 8, .inl kPar)), (n 2, .inl (cI, 10, .inl (fun _ => 0))), (n 3, .inr (0, [.int (nI N), .ref (n 4), .ref (n 5), .ref (n 6), .ref (n 7), .ref (n 8), .null])), (n 4, .inl (cG, 10, .inr (.inr (.inr (.inr (kRows n)))))), (n 5, .inl (cI, 4, .inl (fun _ => 0))), (n 6, .inl (cI, 4, .inl (fun _ => 0))), (n 7, .inl (cM, 10, .inr (.inr (.inr (.inr (fun _ => none)))))), (n 8, .inl (cM, 10, .inr (.inr (.inr (.inr (fun _ => none)))))), (n 34, .inl (cI, 10, .inl (fun _ => 0))), (n 35, .inl (cI, 10, .inl (fun _ => 0))), (n 36, .inl (cI, 10, .inl (fun _ => 0))), (n 37, .inl (cI, 10, .inl (fun _ => 0))), (n 38, .inl (cI, 10, .inl (fun _ => 0))), (n 39, .inl (cI, 10, .inl (fun _ => 0))), (n 40, .inl (cI, 10, .inl (fun _ => 0))), (n 41, .inl (cI, 10, .inl (fun _ => 0))), (n 42, .inl (cI, 10, .inl (fun _ => 0))), (n 43, .inl (cI, 10, .inl (fun _ => 0))), (n 9, .inr (4, [.ref (n 10), .ref (n 11), .ref (n 12), .ref (n 13), .ref (n 14), .ref (n 15)])), (n 10, .inl (cI, 100, .inl (fun _ => 0))), (n 11, .inl (cI, 100, .inl (fun _ => -1))), (n 12, .inl (cI, 100, .inl (fun _ => -1))), (n 13, .inl (cI, 100, .inl (fun _ => -1))), (n 14, .inl (cI, 100, .inl (fun _ => -1))), (n 15, .inl (cI, 100, .inl (fun _ => 0))), (n 16, .inr (5, [.ref (n 17), .ref (n 18), .ref (n 19), .ref (n 20), .ref (n 21), .ref (n 22), .int (-1)])), (n 17, .inl (cI, 100, .inl (fun _ => 0))), (n 18, .inl (cI, 100, .inl (fun _ => -1))), (n 19, .inl (cI, 100, .inl (fun _ => 0))), (n 20, .inl (cI, 100, .inl (fun _ => 0))), (n 21, .inl (cI, 100, .inl (fun _ => 0))), (n 22, .inl (cI, 400, .inl (fun _ => 0))), (n 23, .inr (3, [.int (nI 0), .ref (n 24), .ref (n 25), .ref (n 26), .ref (n 27), .ref (n 28), .ref (n 29), .ref (n 30), .ref (n 31)])), (n 24, .inl (cI, 200, .inl (fun _ => 0))), (n 25, .inl (cI, 200, .inl (fun _ => 0))), (n 26, .inl (cI, 200, .inl (fun _ => 0))), (n 27, .inl (cI, 200, .inl (fun _ => 0))), (n 28, .inl (cI, 200, .inl (fun _ => 0))), (n 29, .inl (cI, 200, .inl (fun _ => 0))), (n 30, .inl (cI, 200, .inl (fun _ => -1))), (n 31, .inl (cI, 200, .inl (fun _ => 0))), (n 32, .inl (cI, 256, .inl (fun _ => 0))), (n 33, .inr (1, [.int (nI 0), .int (nI 0), .int (nI 0), .int (nI 0), .int (nI 0), .int (nI 0), .int (nI 0), .int (nI 0), .int (nI 0), .int (nI 0), .int (nI 0), .int (nI 0), .null])), (tr 0, .inr (2, [.int (nI N), .int (nI 0), .ref (tr 1), .ref (tr 2), .ref (tr 3), .ref (tr 9), .ref (tr 16), .ref (tr 23), .int (nI 0), .ref (tr 32), .int (nI 0), .ref (tr 33)])), (tr 1, .inl (cI, 8, .inl kPar)), (tr 2, .inl (cI, 10, .inl (fun _ => 0))), (tr 3, .inr (0, [.int (nI N), .ref (tr 4), .ref (tr 5), .ref (tr 6), .ref (tr 7), .ref (tr 8), .null])), (tr 4, .inl (cG, 10, .inr (.inr (.inr (.inr (kRows tr)))))), (tr 5, .inl (cI, 4, .inl (fun _ => 0))), (tr 6, .inl (cI, 4, .inl (fun _ => 0))), (tr 7, .inl (cM, 10, .inr (.inr (.inr (.inr (fun _ => none)))))), (tr 8, .inl (cM, 10, .inr (.inr (.inr (.inr (fun _ => none)))))), (tr 34, .inl (cI, 10, .inl (fun _ => 0))), (tr 35, .inl (cI, 10, .inl (fun _ => 0))), (tr 36, .inl (cI, 10, .inl (fun _ => 0))), (tr 37, .inl (cI, 10, .inl (fun _ => 0))), (tr 38, .inl (cI, 10, .inl (fun _ => 0))), (tr 39, .inl (cI, 10, .inl (fun _ => 0))), (tr 40, .inl (cI, 10, .inl (fun _ => 0))), (tr 41, .inl (cI, 10, .inl (fun _ => 0))), (tr 42, .inl (cI, 10, .inl (fun _ => 0))), (tr 43, .inl (cI, 10, .inl (fun _ => 0))), (tr 9, .inr (4, [.ref (tr 10), .ref (tr 11), .ref (tr 12), .ref (tr 13), .ref (tr 14), .ref (tr 15)])), (tr 10, .inl (cI, 100, .inl (fun _ => 0))), (tr 11, .inl (cI, 100, .inl (fun _ => -1))), (tr 12, .inl (cI, 100, .inl (fun _ => -1))), (tr 13, .inl (cI, 100, .inl (fun _ => -1))), (tr 14, .inl (cI, 100, .inl (fun _ => -1))), (tr 15, .inl (cI, 100, .inl (fun _ => 0))), (tr 16, .inr (5, [.ref (tr 17), .ref (tr 18), .ref (tr 19), .ref (tr 20), .ref (tr 21), .ref (tr 22), .int (-1)])), (tr 17, .inl (cI, 100, .inl (fun _ => 0))), (tr 18, .inl (cI, 100, .inl (fun _ => -1))), (tr 19, .inl (cI, 100, .inl (fun _ => 0))), (tr 20, .inl (cI, 100, .inl (fun _ => 0))), (tr 21, .inl (cI, 100, .inl (fun _ => 0))), (tr 22, .inl (cI, 400, .inl (fun _ => 0))), (tr 23, .inr (3, [.int (nI 0), .ref (tr 24), .ref (tr 25), .ref (tr 26), .ref (tr 27), .ref (tr 28), .ref (tr 29), .ref (tr 30), .ref (tr 31)])), (tr 24, .inl (cI, 200, .inl (fun _ => 0))), (tr 25, .inl (cI, 200, .inl (fun _ => 0))), (tr 26, .inl (cI, 200, .inl (fun _ => 0))), (tr 27, .inl (cI, 200, .inl (fun _ => 0))), (tr 28, .inl (cI, 200, .inl (fun _ => 0))), (tr 29, .inl (cI, 200, .inl (fun _ => 0))), (tr 30, .inl (cI, 200, .inl (fun _ => -1))), (tr 31, .inl (cI, 200, .inl (fun _ => 0))), (tr 32, .inl (cI, 256, .inl (fun _ => 0))), (tr 33, .inr (1, [.int (nI 0), .int (nI 0), .int (nI 0), .int (nI 0), .int (nI 0), .int (nI 0), .int (nI 0), .int (nI 0), .int (nI 0), .int (nI 0), .int (nI 0), .int (nI 0), .null])), (o9, .inl (cJ, 1, .inr (.inl (fun _ => 0))))] s.heap.size = A at hD ⊢
  have hA : ∀ q : Nat, s.heap.size ≤ q → A q := fun q h => by rw [← hAe]; exact Or.inr h
  have hS : va_S A s.heap s.heap [] := va_S.rf
  have hl := lv_entry ([.ref x0, .int (nI a), .int (nI b), .int (nI u), .ref o9]) (n := 6) (Nat.le_of_ble_eq_true rfl)
  rw [lg_entry_eq]
  generalize (lg_sl ([.ref x0, .int (nI a), .int (nI b), .int (nI u), .ref o9]) ++ List.replicate (6 - (lg_sl ([.ref x0, .int (nI a), .int (nI b), .int (nI u), .ref o9])).length) Slot.unset).toArray = ls at hl ⊢
  have hl : lv_has ls 6 [(0, .ref x0), (1, .int (nI a)), (2, .int (nI b)), (3, .int (nI u)), (4, .ref o9)] := hl
  refine lv_aload hx hb dL_forecast_0 (lv_at hl 4 rfl) ?_
  refine lv_iconst (v := nI 0) hx hb dL_forecast_2 (by decide) ?_
  refine lv_aload_n hx hb dL_forecast_3 rfl (lv_at hl 0 rfl) ?_
  refine lv_iload_n hx hb dL_forecast_4 rfl (lv_at hl 1 rfl) ?_
  refine lv_iload_n hx hb dL_forecast_5 rfl (lv_at hl 2 rfl) ?_
  refine lv_iload_n hx hb dL_forecast_6 rfl (lv_at hl 3 rfl) ?_
  refine k_ci (wr := [(o9, .inl (cJ, 1, .inr (.inl (fun _ => 0))))]) (w1 := []) (va_runV (As := [.int (nI a), .int (nI b), .int (nI u)]) (rest := [.int (nI 0), .ref o9]) ⟨hx, hb, hml, hown, hts⟩ (c_X6_forecast l D cI cJ cM cG x0 n q tr N a b u s.heap.size (ha) (hb9) (hN) (hab) (hu)) (cwV 3 hts (kB_V (fun _ => List.mem_cons_of_mem _) q_465 q_466 q_467 q_9 (kB_c q_468)) rfl rfl rfl (by decide +kernel) ⟨Nat.le_of_ble_eq_true rfl, Nat.le_of_ble_eq_true rfl⟩) (k_preV (T := TX6) hP hD hK hKN [0, 1, 2, 3, 4, 5, 6, 7, 8, 9, 10, 11, 12, 13, 14, 15, 16, 17, 18, 19, 20, 21, 22, 23, 24, 25, 26, 27, 28, 29, 30, 31, 32, 33, 34, 35, 36, 37, 38, 39, 40, 41, 42, 43, 44, 45, 46, 47, 48, 49, 50, 51, 52, 53, 54, 55, 56, 57, 58, 59, 60, 61, 62, 63, 64, 65, 66, 67, 68, 69, 70, 71, 72, 73, 74, 75, 76, 77, 78, 79, 80, 81, 82, 83, 84, 85, 86, 87, 88] rfl rfl (ci := 6) rfl (q0 := 0) rfl) rfl rfl hl.1 rfl (lv_room (Nat.le_of_ble_eq_true rfl)) dL_forecast_7 ⟨Nat.le_of_ble_eq_true rfl, Nat.le_of_ble_eq_true rfl⟩) hP hD hS hA [0, 1, 2, 3, 4, 5, 6, 7, 8, 9, 10, 11, 12, 13, 14, 15, 16, 17, 18, 19, 20, 21, 22, 23, 24, 25, 26, 27, 28, 29, 30, 31, 32, 33, 34, 35, 36, 37, 38, 39, 40, 41, 42, 43, 44, 45, 46, 47, 48, 49, 50, 51, 52, 53, 54, 55, 56, 57, 58, 59, 60, 61, 62, 63, 64, 65, 66, 67, 68, 69, 70, 71, 72, 73, 74, 75, 76, 77, 78, 79, 80, 81, 82, 83, 84, 85, 86, 87, 88] [89] rfl rfl rfl (by decide) (fun r7 H locs hw7 hP hD hS => ?_)
  replace hP : va_P D vwCl [(o9, .inl (cJ, 1, .inr (.inl (fun _ => 0))))] H := hP
  replace hD : va_D A [(o9, .inl (cJ, 1, .inr (.inl (fun _ => 0))))] := hD
  replace hw7 : r7 = kSt u 0 := hw7
  refine k_ti hw7 ?_
  refine lv_i2l (v := (kSt u 0).toInt64) hx hb dL_forecast_10 (rfl) ?_
  refine k_last (f' := vp_updL (fun _ => 0) 0 ((kSt u 0).toInt64)) hx hb hK hP hD hS 0 1 rfl rfl (by omega) (by omega) (rfl) dL_forecast_11 (fun H locs hP hD hS => ?_)
  replace hP : va_P D vwCl [(o9, .inl (cJ, 1, .inr (.inl (vp_updL (fun _ => 0) 0 ((kSt u 0).toInt64)))))] H := hP
  replace hD : va_D A [(o9, .inl (cJ, 1, .inr (.inl (vp_updL (fun _ => 0) 0 ((kSt u 0).toInt64)))))] := hD
  refine lv_goto (tgt := 23) hx hb dL_forecast_12 (by decide) ?_
  refine lv_iconst (v := nI 0) hx hb dL_forecast_23 (by decide) ?_
  have hP9 := hP.sub (ws' := [(o9, .inl (cJ, 1, .inr (.inl (vp_updL (fun _ => 0) 0 ((kSt u 0).toInt64)))))]) [0] rfl
  have hD9 := hD.sub (ws' := [(o9, .inl (cJ, 1, .inr (.inl (vp_updL (fun _ => 0) 0 ((kSt u 0).toInt64)))))]) [0] rfl rfl
  exact W.iret (v := nI 0) hx hb hr (fun t9 ht9 hW9 => ⟨⟨nI 0, (), rfl, rfl, by rw [ht9]; exact hP9, hD9⟩, hS.F ht9⟩) hS.2.2 dL_forecast_24

set_option maxHeartbeats 4000000 in
set_option maxRecDepth 100000 in
theorem c_L_damage1 (l : Launch) (D : va_G) (cI cJ cM cG : ClassId) (x0 : Nat) (n : Nat → Nat) (q : Nat → Nat) (tr : Nat → Nat) (N : Nat) (a : Nat) (b : Nat) (u : Nat) (o9 : Nat) (sz : Nat) (ha : a < N) (hb9 : b < N) (hN : N ≤ 10) (hab : a ≠ b) (hu : u ≤ 100000) : Met l yL_damage (Cond.codeWith yL_damage cL_damage 6 (some .int) [(0, 12, 15, 13), (0, 12, 19, 15)] :: kBig) ({ frames := 5, cells := 0, slots := 0, locals := 149 }) (va_Pc [.ref x0, .int (nI a), .int (nI b), .int (nI u), .ref o9] (kP D [(cI, .int), (cJ, .long), (cM, .object "MeshRouting$Message"), (cG, .array .int)] [(x0, .inr (6, [.int (nI N), .ref (n 0), .ref (q 0), .ref (tr 0), .int (nI 0)])), (n 0, .inr (2, [.int (nI N), .int (nI 0), .ref (n 1), .ref (n 2), .ref (n 3), .ref (n 9), .ref (n 16), .ref (n 23), .int (nI 0), .ref (n 32), .int (nI 0), .ref (n 33)])), (n 1, .inl (cI, 8, .inl kPar)), (n 2, .inl (cI, 10, .inl (fun _ => 0))), (n 3, .inr (0, [.int (nI N), .ref (n 4), .ref (n 5), .ref (n 6), .ref (n 7), .ref (n 8), .null])), (n 4, .inl (cG, 10, .inr (.inr (.inr (.inr (kRows n)))))), (n 5, .inl (cI, 4, .inl (fun _ => 0))), (n 6, .inl (cI, 4, .inl (fun _ => 0))), (n 7, .inl (cM, 10, .inr (.inr (.inr (.inr (fun _ => none)))))), (n 8, .inl (cM, 10, .inr (.inr (.inr (.inr (fun _ => none)))))), (n 34, .inl (cI, 10, .inl (fun _ => 0))), (n 35, .inl (cI, 10, .inl (fun _ => 0))), (n 36, .inl (cI, 10, .inl (fun _ => 0))), (n 37, .inl (cI, 10, .inl (fun _ => 0))), (n 38, .inl (cI, 10, .inl (fun _ => 0))), (n 39, .inl (cI, 10, .inl (fun _ => 0))), (n 40, .inl (cI, 10, .inl (fun _ => 0))), (n 41, .inl (cI, 10, .inl (fun _ => 0))), (n 42, .inl (cI, 10, .inl (fun _ => 0))), (n 43, .inl (cI, 10, .inl (fun _ => 0))), (n 9, .inr (4, [.ref (n 10), .ref (n 11), .ref (n 12), .ref (n 13), .ref (n 14), .ref (n 15)])), (n 10, .inl (cI, 100, .inl (fun _ => 0))), (n 11, .inl (cI, 100, .inl (fun _ => -1))), (n 12, .inl (cI, 100, .inl (fun _ => -1))), (n 13, .inl (cI, 100, .inl (fun _ => -1))), (n 14, .inl (cI, 100, .inl (fun _ => -1))), (n 15, .inl (cI, 100, .inl (fun _ => 0))), (n 16, .inr (5, [.ref (n 17), .ref (n 18), .ref (n 19), .ref (n 20), .ref (n 21), .ref (n 22), .int (-1)])), (n 17, .inl (cI, 100, .inl (fun _ => 0))), (n 18, .inl (cI, 100, .inl (fun _ => -1))), (n 19, .inl (cI, 100, .inl (fun _ => 0))), (n 20, .inl (cI, 100, .inl (fun _ => 0))), (n 21, .inl (cI, 100, .inl (fun _ => 0))), (n 22, .inl (cI, 400, .inl (fun _ => 0))), (n 23, .inr (3, [.int (nI 0), .ref (n 24), .ref (n 25), .ref (n 26), .ref (n 27), .ref (n 28), .ref (n 29), .ref (n 30), .ref (n 31)])), (n 24, .inl (cI, 200, .inl (fun _ => 0))), (n 25, .inl (cI, 200, .inl (fun _ => 0))), (n 26, .inl (cI, 200, .inl (fun _ => 0))), (n 27, .inl (cI, 200, .inl (fun _ => 0))), (n 28, .inl (cI, 200, .inl (fun _ => 0))), (n 29, .inl (cI, 200, .inl (fun _ => 0))), (n 30, .inl (cI, 200, .inl (fun _ => -1))), (n 31, .inl (cI, 200, .inl (fun _ => 0))), (n 32, .inl (cI, 256, .inl (fun _ => 0))), (n 33, .inr (1, [.int (nI 0), .int (nI 0), .int (nI 0), .int (nI 0), .int (nI 0), .int (nI 0), .int (nI 0), .int (nI 0), .int (nI 0), .int (nI 0), .int (nI 0), .int (nI 0), .null])), (tr 0, .inr (2, [.int (nI N), .int (nI 0), .ref (tr 1), .ref (tr 2), .ref (tr 3), .ref (tr 9), .ref (tr 16), .ref (tr 23), .int (nI 0), .ref (tr 32), .int (nI 0), .ref (tr 33)])), (tr 1, .inl (cI, 8, .inl kPar)), (tr 2, .inl (cI, 10, .inl (fun _ => 0))), (tr 3, .inr (0, [.int (nI N), .ref (tr 4), .ref (tr 5), .ref (tr 6), .ref (tr 7), .ref (tr 8), .null])), (tr 4, .inl (cG, 10, .inr (.inr (.inr (.inr (kRows tr)))))), (tr 5, .inl (cI, 4, .inl (fun _ => 0))), (tr 6, .inl (cI, 4, .inl (fun _ => 0))), (tr 7, .inl (cM, 10, .inr (.inr (.inr (.inr (fun _ => none)))))), (tr 8, .inl (cM, 10, .inr (.inr (.inr (.inr (fun _ => none)))))), (tr 34, .inl (cI, 10, .inl (fun _ => 0))), (tr 35, .inl (cI, 10, .inl (fun _ => 0))), (tr 36, .inl (cI, 10, .inl (fun _ => 0))), (tr 37, .inl (cI, 10, .inl (fun _ => 0))), (tr 38, .inl (cI, 10, .inl (fun _ => 0))), (tr 39, .inl (cI, 10, .inl (fun _ => 0))), (tr 40, .inl (cI, 10, .inl (fun _ => 0))), (tr 41, .inl (cI, 10, .inl (fun _ => 0))), (tr 42, .inl (cI, 10, .inl (fun _ => 0))), (tr 43, .inl (cI, 10, .inl (fun _ => 0))), (tr 9, .inr (4, [.ref (tr 10), .ref (tr 11), .ref (tr 12), .ref (tr 13), .ref (tr 14), .ref (tr 15)])), (tr 10, .inl (cI, 100, .inl (fun _ => 0))), (tr 11, .inl (cI, 100, .inl (fun _ => -1))), (tr 12, .inl (cI, 100, .inl (fun _ => -1))), (tr 13, .inl (cI, 100, .inl (fun _ => -1))), (tr 14, .inl (cI, 100, .inl (fun _ => -1))), (tr 15, .inl (cI, 100, .inl (fun _ => 0))), (tr 16, .inr (5, [.ref (tr 17), .ref (tr 18), .ref (tr 19), .ref (tr 20), .ref (tr 21), .ref (tr 22), .int (-1)])), (tr 17, .inl (cI, 100, .inl (fun _ => 0))), (tr 18, .inl (cI, 100, .inl (fun _ => -1))), (tr 19, .inl (cI, 100, .inl (fun _ => 0))), (tr 20, .inl (cI, 100, .inl (fun _ => 0))), (tr 21, .inl (cI, 100, .inl (fun _ => 0))), (tr 22, .inl (cI, 400, .inl (fun _ => 0))), (tr 23, .inr (3, [.int (nI 0), .ref (tr 24), .ref (tr 25), .ref (tr 26), .ref (tr 27), .ref (tr 28), .ref (tr 29), .ref (tr 30), .ref (tr 31)])), (tr 24, .inl (cI, 200, .inl (fun _ => 0))), (tr 25, .inl (cI, 200, .inl (fun _ => 0))), (tr 26, .inl (cI, 200, .inl (fun _ => 0))), (tr 27, .inl (cI, 200, .inl (fun _ => 0))), (tr 28, .inl (cI, 200, .inl (fun _ => 0))), (tr 29, .inl (cI, 200, .inl (fun _ => 0))), (tr 30, .inl (cI, 200, .inl (fun _ => -1))), (tr 31, .inl (cI, 200, .inl (fun _ => 0))), (tr 32, .inl (cI, 256, .inl (fun _ => 0))), (tr 33, .inr (1, [.int (nI 0), .int (nI 0), .int (nI 0), .int (nI 0), .int (nI 0), .int (nI 0), .int (nI 0), .int (nI 0), .int (nI 0), .int (nI 0), .int (nI 0), .int (nI 0), .null])), (o9, .inl (cJ, 1, .inr (.inl (fun _ => 0))))] sz)) (va_Qi (fun (r : Int32) (_ : Unit) => r = nI 0) (fun _ t9 => kB D (va_A [(x0, .inr (6, [.int (nI N), .ref (n 0), .ref (q 0), .ref (tr 0), .int (nI 0)])), (n 0, .inr (2, [.int (nI N), .int (nI 0), .ref (n 1), .ref (n 2), .ref (n 3), .ref (n 9), .ref (n 16), .ref (n 23), .int (nI 0), .ref (n 32), .int (nI 0), .ref (n 33)])), (n 1, .inl (cI, 8, .inl kPar)), (n 2, .inl (cI, 10, .inl (fun _ => 0))), (n 3, .inr (0, [.int (nI N), .ref (n 4), .ref (n 5), .ref (n 6), .ref (n 7), .ref (n 8), .null])), (n 4, .inl (cG, 10, .inr (.inr (.inr (.inr (kRows n)))))), (n 5, .inl (cI, 4, .inl (fun _ => 0))), (n 6, .inl (cI, 4, .inl (fun _ => 0))), (n 7, .inl (cM, 10, .inr (.inr (.inr (.inr (fun _ => none)))))), (n 8, .inl (cM, 10, .inr (.inr (.inr (.inr (fun _ => none)))))), (n 34, .inl (cI, 10, .inl (fun _ => 0))), (n 35, .inl (cI, 10, .inl (fun _ => 0))), (n 36, .inl (cI, 10, .inl (fun _ => 0))), (n 37, .inl (cI, 10, .inl (fun _ => 0))), (n 38, .inl (cI, 10, .inl (fun _ => 0))), (n 39, .inl (cI, 10, .inl (fun _ => 0))), (n 40, .inl (cI, 10, .inl (fun _ => 0))), (n 41, .inl (cI, 10, .inl (fun _ => 0))), (n 42, .inl (cI, 10, .inl (fun _ => 0))), (n 43, .inl (cI, 10, .inl (fun _ => 0))), (n 9, .inr (4, [.ref (n 10), .ref (n 11), .ref (n 12), .ref (n 13), .ref (n 14), .ref (n 15)])), (n 10, .inl (cI, 100, .inl (fun _ => 0))), (n 11, .inl (cI, 100, .inl (fun _ => -1))), (n 12, .inl (cI, 100, .inl (fun _ => -1))), (n 13, .inl (cI, 100, .inl (fun _ => -1))), (n 14, .inl (cI, 100, .inl (fun _ => -1))), (n 15, .inl (cI, 100, .inl (fun _ => 0))), (n 16, .inr (5, [.ref (n 17), .ref (n 18), .ref (n 19), .ref (n 20), .ref (n 21), .ref (n 22), .int (-1)])), (n 17, .inl (cI, 100, .inl (fun _ => 0))), (n 18, .inl (cI, 100, .inl (fun _ => -1))), (n 19, .inl (cI, 100, .inl (fun _ => 0))), (n 20, .inl (cI, 100, .inl (fun _ => 0))), (n 21, .inl (cI, 100, .inl (fun _ => 0))), (n 22, .inl (cI, 400, .inl (fun _ => 0))), (n 23, .inr (3, [.int (nI 0), .ref (n 24), .ref (n 25), .ref (n 26), .ref (n 27), .ref (n 28), .ref (n 29), .ref (n 30), .ref (n 31)])), (n 24, .inl (cI, 200, .inl (fun _ => 0))), (n 25, .inl (cI, 200, .inl (fun _ => 0))), (n 26, .inl (cI, 200, .inl (fun _ => 0))), (n 27, .inl (cI, 200, .inl (fun _ => 0))), (n 28, .inl (cI, 200, .inl (fun _ => 0))), (n 29, .inl (cI, 200, .inl (fun _ => 0))), (n 30, .inl (cI, 200, .inl (fun _ => -1))), (n 31, .inl (cI, 200, .inl (fun _ => 0))), (n 32, .inl (cI, 256, .inl (fun _ => 0))), (n 33, .inr (1, [.int (nI 0), .int (nI 0), .int (nI 0), .int (nI 0), .int (nI 0), .int (nI 0), .int (nI 0), .int (nI 0), .int (nI 0), .int (nI 0), .int (nI 0), .int (nI 0), .null])), (tr 0, .inr (2, [.int (nI N), .int (nI 0), .ref (tr 1), .ref (tr 2), .ref (tr 3), .ref (tr 9), .ref (tr 16), .ref (tr 23), .int (nI 0), .ref (tr 32), .int (nI 0), .ref (tr 33)])), (tr 1, .inl (cI, 8, .inl kPar)), (tr 2, .inl (cI, 10, .inl (fun _ => 0))), (tr 3, .inr (0, [.int (nI N), .ref (tr 4), .ref (tr 5), .ref (tr 6), .ref (tr 7), .ref (tr 8), .null])), (tr 4, .inl (cG, 10, .inr (.inr (.inr (.inr (kRows tr)))))), (tr 5, .inl (cI, 4, .inl (fun _ => 0))), (tr 6, .inl (cI, 4, .inl (fun _ => 0))), (tr 7, .inl (cM, 10, .inr (.inr (.inr (.inr (fun _ => none)))))), (tr 8, .inl (cM, 10, .inr (.inr (.inr (.inr (fun _ => none)))))), (tr 34, .inl (cI, 10, .inl (fun _ => 0))), (tr 35, .inl (cI, 10, .inl (fun _ => 0))), (tr 36, .inl (cI, 10, .inl (fun _ => 0))), (tr 37, .inl (cI, 10, .inl (fun _ => 0))), (tr 38, .inl (cI, 10, .inl (fun _ => 0))), (tr 39, .inl (cI, 10, .inl (fun _ => 0))), (tr 40, .inl (cI, 10, .inl (fun _ => 0))), (tr 41, .inl (cI, 10, .inl (fun _ => 0))), (tr 42, .inl (cI, 10, .inl (fun _ => 0))), (tr 43, .inl (cI, 10, .inl (fun _ => 0))), (tr 9, .inr (4, [.ref (tr 10), .ref (tr 11), .ref (tr 12), .ref (tr 13), .ref (tr 14), .ref (tr 15)])), (tr 10, .inl (cI, 100, .inl (fun _ => 0))), (tr 11, .inl (cI, 100, .inl (fun _ => -1))), (tr 12, .inl (cI, 100, .inl (fun _ => -1))), (tr 13, .inl (cI, 100, .inl (fun _ => -1))), (tr 14, .inl (cI, 100, .inl (fun _ => -1))), (tr 15, .inl (cI, 100, .inl (fun _ => 0))), (tr 16, .inr (5, [.ref (tr 17), .ref (tr 18), .ref (tr 19), .ref (tr 20), .ref (tr 21), .ref (tr 22), .int (-1)])), (tr 17, .inl (cI, 100, .inl (fun _ => 0))), (tr 18, .inl (cI, 100, .inl (fun _ => -1))), (tr 19, .inl (cI, 100, .inl (fun _ => 0))), (tr 20, .inl (cI, 100, .inl (fun _ => 0))), (tr 21, .inl (cI, 100, .inl (fun _ => 0))), (tr 22, .inl (cI, 400, .inl (fun _ => 0))), (tr 23, .inr (3, [.int (nI 0), .ref (tr 24), .ref (tr 25), .ref (tr 26), .ref (tr 27), .ref (tr 28), .ref (tr 29), .ref (tr 30), .ref (tr 31)])), (tr 24, .inl (cI, 200, .inl (fun _ => 0))), (tr 25, .inl (cI, 200, .inl (fun _ => 0))), (tr 26, .inl (cI, 200, .inl (fun _ => 0))), (tr 27, .inl (cI, 200, .inl (fun _ => 0))), (tr 28, .inl (cI, 200, .inl (fun _ => 0))), (tr 29, .inl (cI, 200, .inl (fun _ => 0))), (tr 30, .inl (cI, 200, .inl (fun _ => -1))), (tr 31, .inl (cI, 200, .inl (fun _ => 0))), (tr 32, .inl (cI, 256, .inl (fun _ => 0))), (tr 33, .inr (1, [.int (nI 0), .int (nI 0), .int (nI 0), .int (nI 0), .int (nI 0), .int (nI 0), .int (nI 0), .int (nI 0), .int (nI 0), .int (nI 0), .int (nI 0), .int (nI 0), .null])), (o9, .inl (cJ, 1, .inr (.inl (fun _ => 0))))] sz) [(o9, .inl (cJ, 1, .inr (.inl (vp_updL (fun _ => 0) 0 (lN 0)))))] t9) (va_A [(x0, .inr (6, [.int (nI N), .ref (n 0), .ref (q 0), .ref (tr 0), .int (nI 0)])), (n 0, .inr (2, [.int (nI N), .int (nI 0), .ref (n 1), .ref (n 2), .ref (n 3), .ref (n 9), .ref (n 16), .ref (n 23), .int (nI 0), .ref (n 32), .int (nI 0), .ref (n 33)])), (n 1, .inl (cI, 8, .inl kPar)), (n 2, .inl (cI, 10, .inl (fun _ => 0))), (n 3, .inr (0, [.int (nI N), .ref (n 4), .ref (n 5), .ref (n 6), .ref (n 7), .ref (n 8), .null])), (n 4, .inl (cG, 10, .inr (.inr (.inr (.inr (kRows n)))))), (n 5, .inl (cI, 4, .inl (fun _ => 0))), (n 6, .inl (cI, 4, .inl (fun _ => 0))), (n 7, .inl (cM, 10, .inr (.inr (.inr (.inr (fun _ => none)))))), (n 8, .inl (cM, 10, .inr (.inr (.inr (.inr (fun _ => none)))))), (n 34, .inl (cI, 10, .inl (fun _ => 0))), (n 35, .inl (cI, 10, .inl (fun _ => 0))), (n 36, .inl (cI, 10, .inl (fun _ => 0))), (n 37, .inl (cI, 10, .inl (fun _ => 0))), (n 38, .inl (cI, 10, .inl (fun _ => 0))), (n 39, .inl (cI, 10, .inl (fun _ => 0))), (n 40, .inl (cI, 10, .inl (fun _ => 0))), (n 41, .inl (cI, 10, .inl (fun _ => 0))), (n 42, .inl (cI, 10, .inl (fun _ => 0))), (n 43, .inl (cI, 10, .inl (fun _ => 0))), (n 9, .inr (4, [.ref (n 10), .ref (n 11), .ref (n 12), .ref (n 13), .ref (n 14), .ref (n 15)])), (n 10, .inl (cI, 100, .inl (fun _ => 0))), (n 11, .inl (cI, 100, .inl (fun _ => -1))), (n 12, .inl (cI, 100, .inl (fun _ => -1))), (n 13, .inl (cI, 100, .inl (fun _ => -1))), (n 14, .inl (cI, 100, .inl (fun _ => -1))), (n 15, .inl (cI, 100, .inl (fun _ => 0))), (n 16, .inr (5, [.ref (n 17), .ref (n 18), .ref (n 19), .ref (n 20), .ref (n 21), .ref (n 22), .int (-1)])), (n 17, .inl (cI, 100, .inl (fun _ => 0))), (n 18, .inl (cI, 100, .inl (fun _ => -1))), (n 19, .inl (cI, 100, .inl (fun _ => 0))), (n 20, .inl (cI, 100, .inl (fun _ => 0))), (n 21, .inl (cI, 100, .inl (fun _ => 0))), (n 22, .inl (cI, 400, .inl (fun _ => 0))), (n 23, .inr (3, [.int (nI 0), .ref (n 24), .ref (n 25), .ref (n 26), .ref (n 27), .ref (n 28), .ref (n 29), .ref (n 30), .ref (n 31)])), (n 24, .inl (cI, 200, .inl (fun _ => 0))), (n 25, .inl (cI, 200, .inl (fun _ => 0))), (n 26, .inl (cI, 200, .inl (fun _ => 0))), (n 27, .inl (cI, 200, .inl (fun _ => 0))), (n 28, .inl (cI, 200, .inl (fun _ => 0))), (n 29, .inl (cI, 200, .inl (fun _ => 0))), (n 30, .inl (cI, 200, .inl (fun _ => -1))), (n 31, .inl (cI, 200, .inl (fun _ => 0))), (n 32, .inl (cI, 256, .inl (fun _ => 0))), (n 33, .inr (1, [.int (nI 0), .int (nI 0), .int (nI 0), .int (nI 0), .int (nI 0), .int (nI 0), .int (nI 0), .int (nI 0), .int (nI 0), .int (nI 0), .int (nI 0), .int (nI 0), .null])), (tr 0, .inr (2, [.int (nI N), .int (nI 0), .ref (tr 1), .ref (tr 2), .ref (tr 3), .ref (tr 9), .ref (tr 16), .ref (tr 23), .int (nI 0), .ref (tr 32), .int (nI 0), .ref (tr 33)])), (tr 1, .inl (cI, 8, .inl kPar)), (tr 2, .inl (cI, 10, .inl (fun _ => 0))), (tr 3, .inr (0, [.int (nI N), .ref (tr 4), .ref (tr 5), .ref (tr 6), .ref (tr 7), .ref (tr 8), .null])), (tr 4, .inl (cG, 10, .inr (.inr (.inr (.inr (kRows tr)))))), (tr 5, .inl (cI, 4, .inl (fun _ => 0))), (tr 6, .inl (cI, 4, .inl (fun _ => 0))), (tr 7, .inl (cM, 10, .inr (.inr (.inr (.inr (fun _ => none)))))), (tr 8, .inl (cM, 10, .inr (.inr (.inr (.inr (fun _ => none)))))), (tr 34, .inl (cI, 10, .inl (fun _ => 0))), (tr 35, .inl (cI, 10, .inl (fun _ => 0))), (tr 36, .inl (cI, 10, .inl (fun _ => 0))), (tr 37, .inl (cI, 10, .inl (fun _ => 0))), (tr 38, .inl (cI, 10, .inl (fun _ => 0))), (tr 39, .inl (cI, 10, .inl (fun _ => 0))), (tr 40, .inl (cI, 10, .inl (fun _ => 0))), (tr 41, .inl (cI, 10, .inl (fun _ => 0))), (tr 42, .inl (cI, 10, .inl (fun _ => 0))), (tr 43, .inl (cI, 10, .inl (fun _ => 0))), (tr 9, .inr (4, [.ref (tr 10), .ref (tr 11), .ref (tr 12), .ref (tr 13), .ref (tr 14), .ref (tr 15)])), (tr 10, .inl (cI, 100, .inl (fun _ => 0))), (tr 11, .inl (cI, 100, .inl (fun _ => -1))), (tr 12, .inl (cI, 100, .inl (fun _ => -1))), (tr 13, .inl (cI, 100, .inl (fun _ => -1))), (tr 14, .inl (cI, 100, .inl (fun _ => -1))), (tr 15, .inl (cI, 100, .inl (fun _ => 0))), (tr 16, .inr (5, [.ref (tr 17), .ref (tr 18), .ref (tr 19), .ref (tr 20), .ref (tr 21), .ref (tr 22), .int (-1)])), (tr 17, .inl (cI, 100, .inl (fun _ => 0))), (tr 18, .inl (cI, 100, .inl (fun _ => -1))), (tr 19, .inl (cI, 100, .inl (fun _ => 0))), (tr 20, .inl (cI, 100, .inl (fun _ => 0))), (tr 21, .inl (cI, 100, .inl (fun _ => 0))), (tr 22, .inl (cI, 400, .inl (fun _ => 0))), (tr 23, .inr (3, [.int (nI 0), .ref (tr 24), .ref (tr 25), .ref (tr 26), .ref (tr 27), .ref (tr 28), .ref (tr 29), .ref (tr 30), .ref (tr 31)])), (tr 24, .inl (cI, 200, .inl (fun _ => 0))), (tr 25, .inl (cI, 200, .inl (fun _ => 0))), (tr 26, .inl (cI, 200, .inl (fun _ => 0))), (tr 27, .inl (cI, 200, .inl (fun _ => 0))), (tr 28, .inl (cI, 200, .inl (fun _ => 0))), (tr 29, .inl (cI, 200, .inl (fun _ => 0))), (tr 30, .inl (cI, 200, .inl (fun _ => -1))), (tr 31, .inl (cI, 200, .inl (fun _ => 0))), (tr 32, .inl (cI, 256, .inl (fun _ => 0))), (tr 33, .inr (1, [.int (nI 0), .int (nI 0), .int (nI 0), .int (nI 0), .int (nI 0), .int (nI 0), .int (nI 0), .int (nI 0), .int (nI 0), .int (nI 0), .int (nI 0), .int (nI 0), .null])), (o9, .inl (cJ, 1, .inr (.inl (fun _ => 0))))] sz)) 0 0 (va_A [(x0, .inr (6, [.int (nI N), .ref (n 0), .ref (q 0), .ref (tr 0), .int (nI 0)])), (n 0, .inr (2, [.int (nI N), .int (nI 0), .ref (n 1), .ref (n 2), .ref (n 3), .ref (n 9), .ref (n 16), .ref (n 23), .int (nI 0), .ref (n 32), .int (nI 0), .ref (n 33)])), (n 1, .inl (cI, 8, .inl kPar)), (n 2, .inl (cI, 10, .inl (fun _ => 0))), (n 3, .inr (0, [.int (nI N), .ref (n 4), .ref (n 5), .ref (n 6), .ref (n 7), .ref (n 8), .null])), (n 4, .inl (cG, 10, .inr (.inr (.inr (.inr (kRows n)))))), (n 5, .inl (cI, 4, .inl (fun _ => 0))), (n 6, .inl (cI, 4, .inl (fun _ => 0))), (n 7, .inl (cM, 10, .inr (.inr (.inr (.inr (fun _ => none)))))), (n 8, .inl (cM, 10, .inr (.inr (.inr (.inr (fun _ => none)))))), (n 34, .inl (cI, 10, .inl (fun _ => 0))), (n 35, .inl (cI, 10, .inl (fun _ => 0))), (n 36, .inl (cI, 10, .inl (fun _ => 0))), (n 37, .inl (cI, 10, .inl (fun _ => 0))), (n 38, .inl (cI, 10, .inl (fun _ => 0))), (n 39, .inl (cI, 10, .inl (fun _ => 0))), (n 40, .inl (cI, 10, .inl (fun _ => 0))), (n 41, .inl (cI, 10, .inl (fun _ => 0))), (n 42, .inl (cI, 10, .inl (fun _ => 0))), (n 43, .inl (cI, 10, .inl (fun _ => 0))), (n 9, .inr (4, [.ref (n 10), .ref (n 11), .ref (n 12), .ref (n 13), .ref (n 14), .ref (n 15)])), (n 10, .inl (cI, 100, .inl (fun _ => 0))), (n 11, .inl (cI, 100, .inl (fun _ => -1))), (n 12, .inl (cI, 100, .inl (fun _ => -1))), (n 13, .inl (cI, 100, .inl (fun _ => -1))), (n 14, .inl (cI, 100, .inl (fun _ => -1))), (n 15, .inl (cI, 100, .inl (fun _ => 0))), (n 16, .inr (5, [.ref (n 17), .ref (n 18), .ref (n 19), .ref (n 20), .ref (n 21), .ref (n 22), .int (-1)])), (n 17, .inl (cI, 100, .inl (fun _ => 0))), (n 18, .inl (cI, 100, .inl (fun _ => -1))), (n 19, .inl (cI, 100, .inl (fun _ => 0))), (n 20, .inl (cI, 100, .inl (fun _ => 0))), (n 21, .inl (cI, 100, .inl (fun _ => 0))), (n 22, .inl (cI, 400, .inl (fun _ => 0))), (n 23, .inr (3, [.int (nI 0), .ref (n 24), .ref (n 25), .ref (n 26), .ref (n 27), .ref (n 28), .ref (n 29), .ref (n 30), .ref (n 31)])), (n 24, .inl (cI, 200, .inl (fun _ => 0))), (n 25, .inl (cI, 200, .inl (fun _ => 0))), (n 26, .inl (cI, 200, .inl (fun _ => 0))), (n 27, .inl (cI, 200, .inl (fun _ => 0))), (n 28, .inl (cI, 200, .inl (fun _ => 0))), (n 29, .inl (cI, 200, .inl (fun _ => 0))), (n 30, .inl (cI, 200, .inl (fun _ => -1))), (n 31, .inl (cI, 200, .inl (fun _ => 0))), (n 32, .inl (cI, 256, .inl (fun _ => 0))), (n 33, .inr (1, [.int (nI 0), .int (nI 0), .int (nI 0), .int (nI 0), .int (nI 0), .int (nI 0), .int (nI 0), .int (nI 0), .int (nI 0), .int (nI 0), .int (nI 0), .int (nI 0), .null])), (tr 0, .inr (2, [.int (nI N), .int (nI 0), .ref (tr 1), .ref (tr 2), .ref (tr 3), .ref (tr 9), .ref (tr 16), .ref (tr 23), .int (nI 0), .ref (tr 32), .int (nI 0), .ref (tr 33)])), (tr 1, .inl (cI, 8, .inl kPar)), (tr 2, .inl (cI, 10, .inl (fun _ => 0))), (tr 3, .inr (0, [.int (nI N), .ref (tr 4), .ref (tr 5), .ref (tr 6), .ref (tr 7), .ref (tr 8), .null])), (tr 4, .inl (cG, 10, .inr (.inr (.inr (.inr (kRows tr)))))), (tr 5, .inl (cI, 4, .inl (fun _ => 0))), (tr 6, .inl (cI, 4, .inl (fun _ => 0))), (tr 7, .inl (cM, 10, .inr (.inr (.inr (.inr (fun _ => none)))))), (tr 8, .inl (cM, 10, .inr (.inr (.inr (.inr (fun _ => none)))))), (tr 34, .inl (cI, 10, .inl (fun _ => 0))), (tr 35, .inl (cI, 10, .inl (fun _ => 0))), (tr 36, .inl (cI, 10, .inl (fun _ => 0))), (tr 37, .inl (cI, 10, .inl (fun _ => 0))), (tr 38, .inl (cI, 10, .inl (fun _ => 0))), (tr 39, .inl (cI, 10, .inl (fun _ => 0))), (tr 40, .inl (cI, 10, .inl (fun _ => 0))), (tr 41, .inl (cI, 10, .inl (fun _ => 0))), (tr 42, .inl (cI, 10, .inl (fun _ => 0))), (tr 43, .inl (cI, 10, .inl (fun _ => 0))), (tr 9, .inr (4, [.ref (tr 10), .ref (tr 11), .ref (tr 12), .ref (tr 13), .ref (tr 14), .ref (tr 15)])), (tr 10, .inl (cI, 100, .inl (fun _ => 0))), (tr 11, .inl (cI, 100, .inl (fun _ => -1))), (tr 12, .inl (cI, 100, .inl (fun _ => -1))), (tr 13, .inl (cI, 100, .inl (fun _ => -1))), (tr 14, .inl (cI, 100, .inl (fun _ => -1))), (tr 15, .inl (cI, 100, .inl (fun _ => 0))), (tr 16, .inr (5, [.ref (tr 17), .ref (tr 18), .ref (tr 19), .ref (tr 20), .ref (tr 21), .ref (tr 22), .int (-1)])), (tr 17, .inl (cI, 100, .inl (fun _ => 0))), (tr 18, .inl (cI, 100, .inl (fun _ => -1))), (tr 19, .inl (cI, 100, .inl (fun _ => 0))), (tr 20, .inl (cI, 100, .inl (fun _ => 0))), (tr 21, .inl (cI, 100, .inl (fun _ => 0))), (tr 22, .inl (cI, 400, .inl (fun _ => 0))), (tr 23, .inr (3, [.int (nI 0), .ref (tr 24), .ref (tr 25), .ref (tr 26), .ref (tr 27), .ref (tr 28), .ref (tr 29), .ref (tr 30), .ref (tr 31)])), (tr 24, .inl (cI, 200, .inl (fun _ => 0))), (tr 25, .inl (cI, 200, .inl (fun _ => 0))), (tr 26, .inl (cI, 200, .inl (fun _ => 0))), (tr 27, .inl (cI, 200, .inl (fun _ => 0))), (tr 28, .inl (cI, 200, .inl (fun _ => 0))), (tr 29, .inl (cI, 200, .inl (fun _ => 0))), (tr 30, .inl (cI, 200, .inl (fun _ => -1))), (tr 31, .inl (cI, 200, .inl (fun _ => 0))), (tr 32, .inl (cI, 256, .inl (fun _ => 0))), (tr 33, .inr (1, [.int (nI 0), .int (nI 0), .int (nI 0), .int (nI 0), .int (nI 0), .int (nI 0), .int (nI 0), .int (nI 0), .int (nI 0), .int (nI 0), .int (nI 0), .int (nI 0), .null])), (o9, .inl (cJ, 1, .inr (.inl (fun _ => 0))))] sz) := by
  refine va_MetW (cc := cL_damage) (maxL := 6) (ret := (some .int)) (hh := [(0, 12, 15, 13), (0, 12, 19, 15)]) (by decide) rfl ?_
  intro p e s m args below meth c s₁ B hml hv
  obtain ⟨rfl, ⟨hsz, hP, hK, hD0, hKN⟩⟩ := hv
  have hx := B.exec
  have hb := B.bytes
  have hr := B.returns
  have hts := atoms_spec (ws := (Cond.codeWith yL_damage cL_damage 6 (some .int) [(0, 12, 15, 13), (0, 12, 19, 15)] :: kBig)) B.pre
  have hown : s.vm.findClass RL = some m.cls := findClass_of_methodNamed B.named
  have hlocks := B.notSynchronized
  have htab := vx_table (x := yL_damage) B (hts _ List.mem_cons_self)
  subst hsz
  have hD := hD0.self (sz := s.heap.size)
  generalize hAe : va_A [(x0, .inr (6, [.int (nI N), .ref (n 0), .ref (q 0), .ref (tr 0), .int (nI 0)])), (n 0, .inr (2, [.int (nI N), .int (nI 0), .ref (n 1), .ref (n 2), .ref (n 3), .ref (n 9), .ref (n 16), .ref (n 23), .int (nI 0), .ref (n 32), .int (nI 0), .ref (n 33)])), (n 1, .inl (cI, 8, .inl kPar)), (n 2, .inl (cI, 10, .inl (fun _ => 0))), (n 3, .inr (0, [.int (nI N), .ref (n 4), .ref (n 5), .ref (n 6), .ref (n 7), .ref (n 8), .null])), (n 4, .inl (cG, 10, .inr (.inr (.inr (.inr (kRows n)))))), (n 5, .inl (cI, 4, .inl (fun _ => 0))), (n 6, .inl (cI, 4, .inl (fun _ => 0))), (n 7, .inl (cM, 10, .inr (.inr (.inr (.inr (fun _ => none)))))), (n 8, .inl (cM, 10, .inr (.inr (.inr (.inr (fun _ => none)))))), (n 34, .inl (cI, 10, .inl (fun _ => 0))), (n 35, .inl (cI, 10, .inl (fun _ => 0))), (n 36, .inl (cI, 10, .inl (fun _ => 0))), (n 37, .inl (cI, 10, .inl (fun _ => 0))), (n 38, .inl (cI, 10, .inl (fun _ => 0))), (n 39, .inl (cI, 10, .inl (fun _ => 0))), (n 40, .inl (cI, 10, .inl (fun _ => 0))), (n 41, .inl (cI, 10, .inl (fun _ => 0))), (n 42, .inl (cI, 10, .inl (fun _ => 0))), (n 43, .inl (cI, 10, .inl (fun _ => 0))), (n 9, .inr (4, [.ref (n 10), .ref (n 11), .ref (n 12), .ref (n 13), .ref (n 14), .ref (n 15)])), (n 10, .inl (cI, 100, .inl (fun _ => 0))), (n 11, .inl (cI, 100, .inl (fun _ => -1))), (n 12, .inl (cI, 100, .inl (fun _ => -1))), (n 13, .inl (cI, 100, .inl (fun _ => -1))), (n 14, .inl (cI, 100, .inl (fun _ => -1))), (n 15, .inl (cI, 100, .inl (fun _ => 0))), (n 16, .inr (5, [.ref (n 17), .ref (n 18), .ref (n 19), .ref (n 20), .ref (n 21), .ref (n 22), .int (-1)])), (n 17, .inl (cI, 100, .inl (fun _ => 0))), (n 18, .inl (cI, 100, .inl (fun _ => -1))), (n 19, .inl (cI, 100, .inl (fun _ => 0))), (n 20, .inl (cI, 100, .inl (fun _ => 0))), (n 21, .inl (cI, 100, .inl (fun _ => 0))), (n 22, .inl (cI, 400, .inl (fun _ => 0))), (n 23, .inr (3, [.int (nI 0), .ref (n 24), .ref (n 25), .ref (n 26), .ref (n 27), .ref (n 28), .ref (n 29), .ref (n 30), .ref (n 31)])), (n 24, .inl (cI, 200, .inl (fun _ => 0))), (n 25, .inl (cI, 200, .inl (fun _ => 0))), (n 26, .inl (cI, 200, .inl (fun _ => 0))), (n 27, .inl (cI, 200, .inl (fun _ => 0))), (n 28, .inl (cI, 200, .inl (fun _ => 0))), (n 29, .inl (cI, 200, .inl (fun _ => 0))), (n 30, .inl (cI, 200, .inl (fun _ => -1))), (n 31, .inl (cI, 200, .inl (fun _ => 0))), (n 32, .inl (cI, 256, .inl (fun _ => 0))), (n 33, .inr (1, [.int (nI 0), .int (nI 0), .int (nI 0), .int (nI 0), .int (nI 0), .int (nI 0), .int (nI 0), .int (nI 0), .int (nI 0), .int (nI 0), .int (nI 0), .int (nI 0), .null])), (tr 0, .inr (2, [.int (nI N), .int (nI 0), .ref (tr 1), .ref (tr 2), .ref (tr 3), .ref (tr 9), .ref (tr 16), .ref (tr 23), .int (nI 0), .ref (tr 32), .int (nI 0), .ref (tr 33)])), (tr 1, .inl (cI, 8, .inl kPar)), (tr 2, .inl (cI, 10, .inl (fun _ => 0))), (tr 3, .inr (0, [.int (nI N), .ref (tr 4), .ref (tr 5), .ref (tr 6), .ref (tr 7), .ref (tr 8), .null])), (tr 4, .inl (cG, 10, .inr (.inr (.inr (.inr (kRows tr)))))), (tr 5, .inl (cI, 4, .inl (fun _ => 0))), (tr 6, .inl (cI, 4, .inl (fun _ => 0))), (tr 7, .inl (cM, 10, .inr (.inr (.inr (.inr (fun _ => none)))))), (tr 8, .inl (cM, 10, .inr (.inr (.inr (.inr (fun _ => none)))))), (tr 34, .inl (cI, 10, .inl (fun _ => 0))), (tr 35, .inl (cI, 10, .inl (fun _ => 0))), (tr 36, .inl (cI, 10, .inl (fun _ => 0))), (tr 37, .inl (cI, 10, .inl (fun _ => 0))), (tr 38, .inl (cI, 10, .inl (fun _ => 0))), (tr 39, .inl (cI, 10, .inl (fun _ => 0))), (tr 40, .inl (cI, 10, .inl (fun _ => 0))), (tr 41, .inl (cI, 10, .inl (fun _ => 0))), (tr 42, .inl (cI, 10, .inl (fun _ => 0))), (tr 43, .inl (cI, 10, .inl (fun _ => 0))), (tr 9, .inr (4, [.ref (tr 10), .ref (tr 11), .ref (tr 12), .ref (tr 13), .ref (tr 14), .ref (tr 15)])), (tr 10, .inl (cI, 100, .inl (fun _ => 0))), (tr 11, .inl (cI, 100, .inl (fun _ => -1))), (tr 12, .inl (cI, 100, .inl (fun _ => -1))), (tr 13, .inl (cI, 100, .inl (fun _ => -1))), (tr 14, .inl (cI, 100, .inl (fun _ => -1))), (tr 15, .inl (cI, 100, .inl (fun _ => 0))), (tr 16, .inr (5, [.ref (tr 17), .ref (tr 18), .ref (tr 19), .ref (tr 20), .ref (tr 21), .ref (tr 22), .int (-1)])), (tr 17, .inl (cI, 100, .inl (fun _ => 0))), (tr 18, .inl (cI, 100, .inl (fun _ => -1))), (tr 19, .inl (cI, 100, .inl (fun _ => 0))), (tr 20, .inl (cI, 100, .inl (fun _ => 0))), (tr 21, .inl (cI, 100, .inl (fun _ => 0))), (tr 22, .inl (cI, 400, .inl (fun _ => 0))), (tr 23, .inr (3, [.int (nI 0), .ref (tr 24), .ref (tr 25), .ref (tr 26), .ref (tr 27), .ref (tr 28), .ref (tr 29), .ref (tr 30), .ref (tr 31)])), (tr 24, .inl (cI, 200, .inl (fun _ => 0))), (tr 25, .inl (cI, 200, .inl (fun _ => 0))), (tr 26, .inl (cI, 200, .inl (fun _ => 0))), (tr 27, .inl (cI, 200, .inl (fun _ => 0))), (tr 28, .inl (cI, 200, .inl (fun _ => 0))), (tr 29, .inl (cI, 200, .inl (fun _ => 0))), (tr 30, .inl (cI, 200, .inl (fun _ => -1))), (tr 31, .inl (cI, 200, .inl (fun _ => 0))), (tr 32, .inl (cI, 256, .inl (fun _ => 0))), (tr 33, .inr (1, [.int (nI 0), .int (nI 0), .int (nI 0), .int (nI 0), .int (nI 0), .int (nI 0), .int (nI 0), .int (nI 0), .int (nI 0), .int (nI 0), .int (nI 0), .int (nI 0), .null])), (o9, .inl (cJ, 1, .inr (.inl (fun _ => 0))))] s.heap.size = A at hD ⊢
  have hA : ∀ q : Nat, s.heap.size ≤ q → A q := fun q h => by rw [← hAe]; exact Or.inr h
  have hS : va_S A s.heap s.heap [] := va_S.rf
  have hl := lv_entry ([.ref x0, .int (nI a), .int (nI b), .int (nI u), .ref o9]) (n := 6) (Nat.le_of_ble_eq_true rfl)
  rw [lg_entry_eq]
  generalize (lg_sl ([.ref x0, .int (nI a), .int (nI b), .int (nI u), .ref o9]) ++ List.replicate (6 - (lg_sl ([.ref x0, .int (nI a), .int (nI b), .int (nI u), .ref o9])).length) Slot.unset).toArray = ls at hl ⊢
  have hl : lv_has ls 6 [(0, .ref x0), (1, .int (nI a)), (2, .int (nI b)), (3, .int (nI u)), (4, .ref o9)] := hl
  refine lv_aload hx hb dL_damage_0 (lv_at hl 4 rfl) ?_
  refine lv_iconst (v := nI 0) hx hb dL_damage_2 (by decide) ?_
  refine lv_aload_n hx hb dL_damage_3 rfl (lv_at hl 0 rfl) ?_
  refine lv_iload_n hx hb dL_damage_4 rfl (lv_at hl 1 rfl) ?_
  refine lv_iload_n hx hb dL_damage_5 rfl (lv_at hl 2 rfl) ?_
  refine lv_iload_n hx hb dL_damage_6 rfl (lv_at hl 3 rfl) ?_
  refine k_ci (wr := [(o9, .inl (cJ, 1, .inr (.inl (fun _ => 0))))]) (w1 := []) (va_runV (As := [.int (nI a), .int (nI b), .int (nI u)]) (rest := [.int (nI 0), .ref o9]) ⟨hx, hb, hml, hown, hts⟩ (c_X6_damage l D cI cJ cM cG x0 n q tr N a b u s.heap.size (ha) (hb9) (hN) (hab) (hu)) (cwV 3 hts (kB_V (fun _ => List.mem_cons_of_mem _) q_30 q_31 q_32 q_9 (kB_c q_33)) rfl rfl rfl (by decide +kernel) ⟨Nat.le_of_ble_eq_true rfl, Nat.le_of_ble_eq_true rfl⟩) (k_preV (T := TX6) hP hD hK hKN [0, 1, 2, 3, 4, 5, 6, 7, 8, 9, 10, 11, 12, 13, 14, 15, 16, 17, 18, 19, 20, 21, 22, 23, 24, 25, 26, 27, 28, 29, 30, 31, 32, 33, 34, 35, 36, 37, 38, 39, 40, 41, 42, 43, 44, 45, 46, 47, 48, 49, 50, 51, 52, 53, 54, 55, 56, 57, 58, 59, 60, 61, 62, 63, 64, 65, 66, 67, 68, 69, 70, 71, 72, 73, 74, 75, 76, 77, 78, 79, 80, 81, 82, 83, 84, 85, 86, 87, 88] rfl rfl (ci := 6) rfl (q0 := 0) rfl) rfl rfl hl.1 rfl (lv_room (Nat.le_of_ble_eq_true rfl)) dL_damage_7 ⟨Nat.le_of_ble_eq_true rfl, Nat.le_of_ble_eq_true rfl⟩) hP hD hS hA [0, 1, 2, 3, 4, 5, 6, 7, 8, 9, 10, 11, 12, 13, 14, 15, 16, 17, 18, 19, 20, 21, 22, 23, 24, 25, 26, 27, 28, 29, 30, 31, 32, 33, 34, 35, 36, 37, 38, 39, 40, 41, 42, 43, 44, 45, 46, 47, 48, 49, 50, 51, 52, 53, 54, 55, 56, 57, 58, 59, 60, 61, 62, 63, 64, 65, 66, 67, 68, 69, 70, 71, 72, 73, 74, 75, 76, 77, 78, 79, 80, 81, 82, 83, 84, 85, 86, 87, 88] [89] rfl rfl rfl (by decide) (fun r7 H locs hw7 hP hD hS => ?_)
  replace hP : va_P D vwCl [(o9, .inl (cJ, 1, .inr (.inl (fun _ => 0))))] H := hP
  replace hD : va_D A [(o9, .inl (cJ, 1, .inr (.inl (fun _ => 0))))] := hD
  replace hw7 : r7 = nI 0 := hw7
  refine k_ti hw7 ?_
  refine lv_i2l (v := lN 0) hx hb dL_damage_10 (by decide) ?_
  refine k_last (f' := vp_updL (fun _ => 0) 0 (lN 0)) hx hb hK hP hD hS 0 1 rfl rfl (by omega) (by omega) (rfl) dL_damage_11 (fun H locs hP hD hS => ?_)
  replace hP : va_P D vwCl [(o9, .inl (cJ, 1, .inr (.inl (vp_updL (fun _ => 0) 0 (lN 0)))))] H := hP
  replace hD : va_D A [(o9, .inl (cJ, 1, .inr (.inl (vp_updL (fun _ => 0) 0 (lN 0)))))] := hD
  refine lv_goto (tgt := 23) hx hb dL_damage_12 (by decide) ?_
  refine lv_iconst (v := nI 0) hx hb dL_damage_23 (by decide) ?_
  have hP9 := hP.sub (ws' := [(o9, .inl (cJ, 1, .inr (.inl (vp_updL (fun _ => 0) 0 (lN 0)))))]) [0] rfl
  have hD9 := hD.sub (ws' := [(o9, .inl (cJ, 1, .inr (.inl (vp_updL (fun _ => 0) 0 (lN 0)))))]) [0] rfl rfl
  exact W.iret (v := nI 0) hx hb hr (fun t9 ht9 hW9 => ⟨⟨nI 0, (), rfl, rfl, by rw [ht9]; exact hP9, hD9⟩, hS.F ht9⟩) hS.2.2 dL_damage_24

set_option maxHeartbeats 4000000 in
set_option maxRecDepth 100000 in
theorem x_L_link0 (l : Launch) (hl9 : l.stackTraces = false) (D : va_G) (cI cJ cM cG : ClassId) (x0 : Nat) (n : Nat → Nat) (q : Nat → Nat) (tr : Nat → Nat) (N : Nat) (x : Int32) (y : Int32) (o9 : Nat) (sz : Nat) (hN : N ≤ 10) (hb2 : kBad2 N x y) : Met l yL_link (Cond.codeWith yL_link cL_link 5 (some .int) [(0, 10, 13, 13)] :: kBig) ({ frames := 9, cells := 1, slots := 6, locals := 147 }) (va_Pc [.ref x0, .int x, .int y, .ref o9] (kX D [(cI, .int), (cJ, .long), (cM, .object "MeshRouting$Message"), (cG, .array .int)] [(x0, .inr (6, [.int (nI N), .ref (n 0), .ref (q 0), .ref (tr 0), .int (nI 0)])), (o9, .inl (cJ, 1, .inr (.inl (fun _ => 0))))] sz)) (va_Qi (fun (r : Int32) (_ : Unit) => r = nI 1) (fun _ t9 => kB D (va_A [(x0, .inr (6, [.int (nI N), .ref (n 0), .ref (q 0), .ref (tr 0), .int (nI 0)])), (o9, .inl (cJ, 1, .inr (.inl (fun _ => 0))))] sz) [(o9, .inl (cJ, 1, .inr (.inl (fun _ => 0))))] t9) (va_A [(x0, .inr (6, [.int (nI N), .ref (n 0), .ref (q 0), .ref (tr 0), .int (nI 0)])), (o9, .inl (cJ, 1, .inr (.inl (fun _ => 0))))] sz)) 1 6 (va_A [(x0, .inr (6, [.int (nI N), .ref (n 0), .ref (q 0), .ref (tr 0), .int (nI 0)])), (o9, .inl (cJ, 1, .inr (.inl (fun _ => 0))))] sz) := by
  refine va_MetW (cc := cL_link) (maxL := 5) (ret := (some .int)) (hh := [(0, 10, 13, 13)]) (by decide) rfl ?_
  intro p e s m args below meth c s₁ B hml hv
  obtain ⟨rfl, ⟨hsz, hP, hK, hD0, hKN⟩, hZ, hR⟩ := hv
  have hx := B.exec
  have hb := B.bytes
  have hr := B.returns
  have hts := atoms_spec (ws := (Cond.codeWith yL_link cL_link 5 (some .int) [(0, 10, 13, 13)] :: kBig)) B.pre
  have hown : s.vm.findClass RL = some m.cls := findClass_of_methodNamed B.named
  have hlocks := B.notSynchronized
  have htab := vx_table (x := yL_link) B (hts _ List.mem_cons_self)
  subst hsz
  have hD := hD0.self (sz := s.heap.size)
  generalize hAe : va_A [(x0, .inr (6, [.int (nI N), .ref (n 0), .ref (q 0), .ref (tr 0), .int (nI 0)])), (o9, .inl (cJ, 1, .inr (.inl (fun _ => 0))))] s.heap.size = A at hD hZ ⊢
  have hA : ∀ q : Nat, s.heap.size ≤ q → A q := fun q h => by rw [← hAe]; exact Or.inr h
  have hS : va_S A s.heap s.heap [] := va_S.rf
  have hl := lv_entry ([.ref x0, .int x, .int y, .ref o9]) (n := 5) (Nat.le_of_ble_eq_true rfl)
  rw [lg_entry_eq]
  generalize (lg_sl ([.ref x0, .int x, .int y, .ref o9]) ++ List.replicate (5 - (lg_sl ([.ref x0, .int x, .int y, .ref o9])).length) Slot.unset).toArray = ls at hl ⊢
  have hl : lv_has ls 5 [(0, .ref x0), (1, .int x), (2, .int y), (3, .ref o9)] := hl
  refine lv_aload_n hx hb dL_link_0 rfl (lv_at hl 3 rfl) ?_
  refine lv_iconst (v := nI 0) hx hb dL_link_1 (by decide) ?_
  refine lv_aload_n hx hb dL_link_2 rfl (lv_at hl 0 rfl) ?_
  refine lv_iload_n hx hb dL_link_3 rfl (lv_at hl 1 rfl) ?_
  refine lv_iload_n hx hb dL_link_4 rfl (lv_at hl 2 rfl) ?_
  refine k_cx (A1 := A) (vx_runV (As := [.int x, .int y]) (rest := [.int (nI 0), .ref o9]) ⟨hx, hb, hml, hown, hts⟩ (x_link0 l hl9 D cI cJ cM cG x0 n q tr N x y s.heap.size (hN) (hb2)) (cwV 2 hts (kB_V (fun _ => List.mem_cons_of_mem _) q_500 q_501 q_502 q_9 (kB_c q_503)) rfl rfl rfl (by decide +kernel) ⟨Nat.le_of_ble_eq_true rfl, Nat.le_of_ble_eq_true rfl⟩) (k_preVX (T := TX6) hZ hR hS hA hP hD hK hKN [0] rfl rfl (ci := 6) rfl (q0 := 0) rfl) rfl rfl hl.1 rfl (lv_room (Nat.le_of_ble_eq_true rfl)) dL_link_5 ⟨Nat.le_of_ble_eq_true rfl, Nat.le_of_ble_eq_true rfl⟩) hD hS hA [0] rfl (fun ce q9 H1 locs1 hz9 hk9 hS1 hce hcv hcl9 => ?_)
  obtain ⟨hP, hD⟩ := k_rest (wr := [(o9, .inl (cJ, 1, .inr (.inl (fun _ => 0))))]) hP hD [0] [1] rfl rfl rfl (by decide) (va_free hD hS hA [0] rfl) hk9
  have hS := hS1
  obtain ⟨-, -, -, hNc, g0, g1, g2, g3, g4, g5⟩ := id hR
  refine vx_catch (own := RL) (name := "java/lang/IndexOutOfBoundsException") hown [] ⟨0, 10, 13, 13⟩ [] (htab.trans rfl) (fun z h => absurd h List.not_mem_nil) rfl (by decide) (hts (.classLink RL 13 "java/lang/IndexOutOfBoundsException") (List.mem_cons_of_mem _ q_5)) (va_Nw.use rfl g3) hce hcv hcl9 ?_
  refine lv_astore (lv' := [(4, .ref q9), (0, .ref x0), (1, .int x), (2, .int y), (3, .ref o9)]) hx hb dL_link_13 hl (by decide) rfl (fun ls hl => ?_)
  refine lv_iconst (v := nI 1) hx hb dL_link_15 (by decide) ?_
  have hP9 := hP.sub (ws' := [(o9, .inl (cJ, 1, .inr (.inl (fun _ => 0))))]) [0] rfl
  have hD9 := hD.sub (ws' := [(o9, .inl (cJ, 1, .inr (.inl (fun _ => 0))))]) [0] rfl rfl
  exact W.iret (v := nI 1) hx hb hr (fun t9 ht9 hW9 => ⟨⟨nI 1, (), rfl, rfl, by rw [ht9]; exact hP9, hD9⟩, hS.F ht9⟩) hS.2.2 dL_link_16

set_option maxHeartbeats 4000000 in
set_option maxRecDepth 100000 in
theorem x_L_isValid0 (l : Launch) (hl9 : l.stackTraces = false) (D : va_G) (cI cJ cM cG : ClassId) (x0 : Nat) (n : Nat → Nat) (q : Nat → Nat) (tr : Nat → Nat) (N : Nat) (x : Int32) (y : Int32) (o9 : Nat) (sz : Nat) (hN : N ≤ 10) (hb2 : kBad2 N x y) : Met l yL_isValid (Cond.codeWith yL_isValid cL_isValid 5 (some .int) [(0, 17, 20, 13)] :: kBig) ({ frames := 9, cells := 1, slots := 6, locals := 147 }) (va_Pc [.ref x0, .int x, .int y, .ref o9] (kX D [(cI, .int), (cJ, .long), (cM, .object "MeshRouting$Message"), (cG, .array .int)] [(x0, .inr (6, [.int (nI N), .ref (n 0), .ref (q 0), .ref (tr 0), .int (nI 0)])), (o9, .inl (cJ, 1, .inr (.inl (fun _ => 0))))] sz)) (va_Qi (fun (r : Int32) (_ : Unit) => r = nI 1) (fun _ t9 => kB D (va_A [(x0, .inr (6, [.int (nI N), .ref (n 0), .ref (q 0), .ref (tr 0), .int (nI 0)])), (o9, .inl (cJ, 1, .inr (.inl (fun _ => 0))))] sz) [(o9, .inl (cJ, 1, .inr (.inl (fun _ => 0))))] t9) (va_A [(x0, .inr (6, [.int (nI N), .ref (n 0), .ref (q 0), .ref (tr 0), .int (nI 0)])), (o9, .inl (cJ, 1, .inr (.inl (fun _ => 0))))] sz)) 1 6 (va_A [(x0, .inr (6, [.int (nI N), .ref (n 0), .ref (q 0), .ref (tr 0), .int (nI 0)])), (o9, .inl (cJ, 1, .inr (.inl (fun _ => 0))))] sz) := by
  refine va_MetW (cc := cL_isValid) (maxL := 5) (ret := (some .int)) (hh := [(0, 17, 20, 13)]) (by decide) rfl ?_
  intro p e s m args below meth c s₁ B hml hv
  obtain ⟨rfl, ⟨hsz, hP, hK, hD0, hKN⟩, hZ, hR⟩ := hv
  have hx := B.exec
  have hb := B.bytes
  have hr := B.returns
  have hts := atoms_spec (ws := (Cond.codeWith yL_isValid cL_isValid 5 (some .int) [(0, 17, 20, 13)] :: kBig)) B.pre
  have hown : s.vm.findClass RL = some m.cls := findClass_of_methodNamed B.named
  have hlocks := B.notSynchronized
  have htab := vx_table (x := yL_isValid) B (hts _ List.mem_cons_self)
  subst hsz
  have hD := hD0.self (sz := s.heap.size)
  generalize hAe : va_A [(x0, .inr (6, [.int (nI N), .ref (n 0), .ref (q 0), .ref (tr 0), .int (nI 0)])), (o9, .inl (cJ, 1, .inr (.inl (fun _ => 0))))] s.heap.size = A at hD hZ ⊢
  have hA : ∀ q : Nat, s.heap.size ≤ q → A q := fun q h => by rw [← hAe]; exact Or.inr h
  have hS : va_S A s.heap s.heap [] := va_S.rf
  have hl := lv_entry ([.ref x0, .int x, .int y, .ref o9]) (n := 5) (Nat.le_of_ble_eq_true rfl)
  rw [lg_entry_eq]
  generalize (lg_sl ([.ref x0, .int x, .int y, .ref o9]) ++ List.replicate (5 - (lg_sl ([.ref x0, .int x, .int y, .ref o9])).length) Slot.unset).toArray = ls at hl ⊢
  have hl : lv_has ls 5 [(0, .ref x0), (1, .int x), (2, .int y), (3, .ref o9)] := hl
  refine lv_aload_n hx hb dL_isValid_0 rfl (lv_at hl 3 rfl) ?_
  refine lv_iconst (v := nI 0) hx hb dL_isValid_1 (by decide) ?_
  refine lv_aload_n hx hb dL_isValid_2 rfl (lv_at hl 0 rfl) ?_
  refine lv_iload_n hx hb dL_isValid_3 rfl (lv_at hl 1 rfl) ?_
  refine lv_iload_n hx hb dL_isValid_4 rfl (lv_at hl 2 rfl) ?_
  refine k_cx (A1 := A) (vx_runV (As := [.int x, .int y]) (rest := [.int (nI 0), .ref o9]) ⟨hx, hb, hml, hown, hts⟩ (x_isValid0 l hl9 D cI cJ cM cG x0 n q tr N x y s.heap.size (hN) (hb2)) (cwV 2 hts (kB_V (fun _ => List.mem_cons_of_mem _) q_493 q_494 q_495 q_9 (kB_c q_496)) rfl rfl rfl (by decide +kernel) ⟨Nat.le_of_ble_eq_true rfl, Nat.le_of_ble_eq_true rfl⟩) (k_preVX (T := TX6) hZ hR hS hA hP hD hK hKN [0] rfl rfl (ci := 6) rfl (q0 := 0) rfl) rfl rfl hl.1 rfl (lv_room (Nat.le_of_ble_eq_true rfl)) dL_isValid_5 ⟨Nat.le_of_ble_eq_true rfl, Nat.le_of_ble_eq_true rfl⟩) hD hS hA [0] rfl (fun ce q9 H1 locs1 hz9 hk9 hS1 hce hcv hcl9 => ?_)
  obtain ⟨hP, hD⟩ := k_rest (wr := [(o9, .inl (cJ, 1, .inr (.inl (fun _ => 0))))]) hP hD [0] [1] rfl rfl rfl (by decide) (va_free hD hS hA [0] rfl) hk9
  have hS := hS1
  obtain ⟨-, -, -, hNc, g0, g1, g2, g3, g4, g5⟩ := id hR
  refine vx_catch (own := RL) (name := "java/lang/IndexOutOfBoundsException") hown [] ⟨0, 17, 20, 13⟩ [] (htab.trans rfl) (fun z h => absurd h List.not_mem_nil) rfl (by decide) (hts (.classLink RL 13 "java/lang/IndexOutOfBoundsException") (List.mem_cons_of_mem _ q_5)) (va_Nw.use rfl g3) hce hcv hcl9 ?_
  refine lv_astore (lv' := [(4, .ref q9), (0, .ref x0), (1, .int x), (2, .int y), (3, .ref o9)]) hx hb dL_isValid_20 hl (by decide) rfl (fun ls hl => ?_)
  refine lv_iconst (v := nI 1) hx hb dL_isValid_22 (by decide) ?_
  have hP9 := hP.sub (ws' := [(o9, .inl (cJ, 1, .inr (.inl (fun _ => 0))))]) [0] rfl
  have hD9 := hD.sub (ws' := [(o9, .inl (cJ, 1, .inr (.inl (fun _ => 0))))]) [0] rfl rfl
  exact W.iret (v := nI 1) hx hb hr (fun t9 ht9 hW9 => ⟨⟨nI 1, (), rfl, rfl, by rw [ht9]; exact hP9, hD9⟩, hS.F ht9⟩) hS.2.2 dL_isValid_23

set_option maxHeartbeats 4000000 in
set_option maxRecDepth 100000 in
theorem x_L_nextNode0 (l : Launch) (hl9 : l.stackTraces = false) (D : va_G) (cI cJ cM cG : ClassId) (x0 : Nat) (n : Nat → Nat) (q : Nat → Nat) (tr : Nat → Nat) (N : Nat) (x : Int32) (y : Int32) (o9 : Nat) (sz : Nat) (hN : N ≤ 10) (hb2 : kBad2 N x y) : Met l yL_nextNode (Cond.codeWith yL_nextNode cL_nextNode 5 (some .int) [(0, 10, 13, 13)] :: kBig) ({ frames := 9, cells := 1, slots := 6, locals := 147 }) (va_Pc [.ref x0, .int x, .int y, .ref o9] (kX D [(cI, .int), (cJ, .long), (cM, .object "MeshRouting$Message"), (cG, .array .int)] [(x0, .inr (6, [.int (nI N), .ref (n 0), .ref (q 0), .ref (tr 0), .int (nI 0)])), (o9, .inl (cJ, 1, .inr (.inl (fun _ => 0))))] sz)) (va_Qi (fun (r : Int32) (_ : Unit) => r = nI 1) (fun _ t9 => kB D (va_A [(x0, .inr (6, [.int (nI N), .ref (n 0), .ref (q 0), .ref (tr 0), .int (nI 0)])), (o9, .inl (cJ, 1, .inr (.inl (fun _ => 0))))] sz) [(o9, .inl (cJ, 1, .inr (.inl (fun _ => 0))))] t9) (va_A [(x0, .inr (6, [.int (nI N), .ref (n 0), .ref (q 0), .ref (tr 0), .int (nI 0)])), (o9, .inl (cJ, 1, .inr (.inl (fun _ => 0))))] sz)) 1 6 (va_A [(x0, .inr (6, [.int (nI N), .ref (n 0), .ref (q 0), .ref (tr 0), .int (nI 0)])), (o9, .inl (cJ, 1, .inr (.inl (fun _ => 0))))] sz) := by
  refine va_MetW (cc := cL_nextNode) (maxL := 5) (ret := (some .int)) (hh := [(0, 10, 13, 13)]) (by decide) rfl ?_
  intro p e s m args below meth c s₁ B hml hv
  obtain ⟨rfl, ⟨hsz, hP, hK, hD0, hKN⟩, hZ, hR⟩ := hv
  have hx := B.exec
  have hb := B.bytes
  have hr := B.returns
  have hts := atoms_spec (ws := (Cond.codeWith yL_nextNode cL_nextNode 5 (some .int) [(0, 10, 13, 13)] :: kBig)) B.pre
  have hown : s.vm.findClass RL = some m.cls := findClass_of_methodNamed B.named
  have hlocks := B.notSynchronized
  have htab := vx_table (x := yL_nextNode) B (hts _ List.mem_cons_self)
  subst hsz
  have hD := hD0.self (sz := s.heap.size)
  generalize hAe : va_A [(x0, .inr (6, [.int (nI N), .ref (n 0), .ref (q 0), .ref (tr 0), .int (nI 0)])), (o9, .inl (cJ, 1, .inr (.inl (fun _ => 0))))] s.heap.size = A at hD hZ ⊢
  have hA : ∀ q : Nat, s.heap.size ≤ q → A q := fun q h => by rw [← hAe]; exact Or.inr h
  have hS : va_S A s.heap s.heap [] := va_S.rf
  have hl := lv_entry ([.ref x0, .int x, .int y, .ref o9]) (n := 5) (Nat.le_of_ble_eq_true rfl)
  rw [lg_entry_eq]
  generalize (lg_sl ([.ref x0, .int x, .int y, .ref o9]) ++ List.replicate (5 - (lg_sl ([.ref x0, .int x, .int y, .ref o9])).length) Slot.unset).toArray = ls at hl ⊢
  have hl : lv_has ls 5 [(0, .ref x0), (1, .int x), (2, .int y), (3, .ref o9)] := hl
  refine lv_aload_n hx hb dL_nextNode_0 rfl (lv_at hl 3 rfl) ?_
  refine lv_iconst (v := nI 0) hx hb dL_nextNode_1 (by decide) ?_
  refine lv_aload_n hx hb dL_nextNode_2 rfl (lv_at hl 0 rfl) ?_
  refine lv_iload_n hx hb dL_nextNode_3 rfl (lv_at hl 1 rfl) ?_
  refine lv_iload_n hx hb dL_nextNode_4 rfl (lv_at hl 2 rfl) ?_
  refine k_cx (A1 := A) (vx_runV (As := [.int x, .int y]) (rest := [.int (nI 0), .ref o9]) ⟨hx, hb, hml, hown, hts⟩ (x_nextNode0 l hl9 D cI cJ cM cG x0 n q tr N x y s.heap.size (hN) (hb2)) (cwV 2 hts (kB_V (fun _ => List.mem_cons_of_mem _) q_506 q_507 q_508 q_9 (kB_c q_509)) rfl rfl rfl (by decide +kernel) ⟨Nat.le_of_ble_eq_true rfl, Nat.le_of_ble_eq_true rfl⟩) (k_preVX (T := TX6) hZ hR hS hA hP hD hK hKN [0] rfl rfl (ci := 6) rfl (q0 := 0) rfl) rfl rfl hl.1 rfl (lv_room (Nat.le_of_ble_eq_true rfl)) dL_nextNode_5 ⟨Nat.le_of_ble_eq_true rfl, Nat.le_of_ble_eq_true rfl⟩) hD hS hA [0] rfl (fun ce q9 H1 locs1 hz9 hk9 hS1 hce hcv hcl9 => ?_)
  obtain ⟨hP, hD⟩ := k_rest (wr := [(o9, .inl (cJ, 1, .inr (.inl (fun _ => 0))))]) hP hD [0] [1] rfl rfl rfl (by decide) (va_free hD hS hA [0] rfl) hk9
  have hS := hS1
  obtain ⟨-, -, -, hNc, g0, g1, g2, g3, g4, g5⟩ := id hR
  refine vx_catch (own := RL) (name := "java/lang/IndexOutOfBoundsException") hown [] ⟨0, 10, 13, 13⟩ [] (htab.trans rfl) (fun z h => absurd h List.not_mem_nil) rfl (by decide) (hts (.classLink RL 13 "java/lang/IndexOutOfBoundsException") (List.mem_cons_of_mem _ q_5)) (va_Nw.use rfl g3) hce hcv hcl9 ?_
  refine lv_astore (lv' := [(4, .ref q9), (0, .ref x0), (1, .int x), (2, .int y), (3, .ref o9)]) hx hb dL_nextNode_13 hl (by decide) rfl (fun ls hl => ?_)
  refine lv_iconst (v := nI 1) hx hb dL_nextNode_15 (by decide) ?_
  have hP9 := hP.sub (ws' := [(o9, .inl (cJ, 1, .inr (.inl (fun _ => 0))))]) [0] rfl
  have hD9 := hD.sub (ws' := [(o9, .inl (cJ, 1, .inr (.inl (fun _ => 0))))]) [0] rfl rfl
  exact W.iret (v := nI 1) hx hb hr (fun t9 ht9 hW9 => ⟨⟨nI 1, (), rfl, rfl, by rw [ht9]; exact hP9, hD9⟩, hS.F ht9⟩) hS.2.2 dL_nextNode_16

set_option maxHeartbeats 4000000 in
set_option maxRecDepth 100000 in
theorem x_L_hops0 (l : Launch) (hl9 : l.stackTraces = false) (D : va_G) (cI cJ cM cG : ClassId) (x0 : Nat) (n : Nat → Nat) (q : Nat → Nat) (tr : Nat → Nat) (N : Nat) (x : Int32) (y : Int32) (o9 : Nat) (sz : Nat) (hN : N ≤ 10) (hb2 : kBad2 N x y) : Met l yL_hops (Cond.codeWith yL_hops cL_hops 5 (some .int) [(0, 10, 13, 13)] :: kBig) ({ frames := 9, cells := 1, slots := 6, locals := 147 }) (va_Pc [.ref x0, .int x, .int y, .ref o9] (kX D [(cI, .int), (cJ, .long), (cM, .object "MeshRouting$Message"), (cG, .array .int)] [(x0, .inr (6, [.int (nI N), .ref (n 0), .ref (q 0), .ref (tr 0), .int (nI 0)])), (o9, .inl (cJ, 1, .inr (.inl (fun _ => 0))))] sz)) (va_Qi (fun (r : Int32) (_ : Unit) => r = nI 1) (fun _ t9 => kB D (va_A [(x0, .inr (6, [.int (nI N), .ref (n 0), .ref (q 0), .ref (tr 0), .int (nI 0)])), (o9, .inl (cJ, 1, .inr (.inl (fun _ => 0))))] sz) [(o9, .inl (cJ, 1, .inr (.inl (fun _ => 0))))] t9) (va_A [(x0, .inr (6, [.int (nI N), .ref (n 0), .ref (q 0), .ref (tr 0), .int (nI 0)])), (o9, .inl (cJ, 1, .inr (.inl (fun _ => 0))))] sz)) 1 6 (va_A [(x0, .inr (6, [.int (nI N), .ref (n 0), .ref (q 0), .ref (tr 0), .int (nI 0)])), (o9, .inl (cJ, 1, .inr (.inl (fun _ => 0))))] sz) := by
  refine va_MetW (cc := cL_hops) (maxL := 5) (ret := (some .int)) (hh := [(0, 10, 13, 13)]) (by decide) rfl ?_
  intro p e s m args below meth c s₁ B hml hv
  obtain ⟨rfl, ⟨hsz, hP, hK, hD0, hKN⟩, hZ, hR⟩ := hv
  have hx := B.exec
  have hb := B.bytes
  have hr := B.returns
  have hts := atoms_spec (ws := (Cond.codeWith yL_hops cL_hops 5 (some .int) [(0, 10, 13, 13)] :: kBig)) B.pre
  have hown : s.vm.findClass RL = some m.cls := findClass_of_methodNamed B.named
  have hlocks := B.notSynchronized
  have htab := vx_table (x := yL_hops) B (hts _ List.mem_cons_self)
  subst hsz
  have hD := hD0.self (sz := s.heap.size)
  generalize hAe : va_A [(x0, .inr (6, [.int (nI N), .ref (n 0), .ref (q 0), .ref (tr 0), .int (nI 0)])), (o9, .inl (cJ, 1, .inr (.inl (fun _ => 0))))] s.heap.size = A at hD hZ ⊢
  have hA : ∀ q : Nat, s.heap.size ≤ q → A q := fun q h => by rw [← hAe]; exact Or.inr h
  have hS : va_S A s.heap s.heap [] := va_S.rf
  have hl := lv_entry ([.ref x0, .int x, .int y, .ref o9]) (n := 5) (Nat.le_of_ble_eq_true rfl)
  rw [lg_entry_eq]
  generalize (lg_sl ([.ref x0, .int x, .int y, .ref o9]) ++ List.replicate (5 - (lg_sl ([.ref x0, .int x, .int y, .ref o9])).length) Slot.unset).toArray = ls at hl ⊢
  have hl : lv_has ls 5 [(0, .ref x0), (1, .int x), (2, .int y), (3, .ref o9)] := hl
  refine lv_aload_n hx hb dL_hops_0 rfl (lv_at hl 3 rfl) ?_
  refine lv_iconst (v := nI 0) hx hb dL_hops_1 (by decide) ?_
  refine lv_aload_n hx hb dL_hops_2 rfl (lv_at hl 0 rfl) ?_
  refine lv_iload_n hx hb dL_hops_3 rfl (lv_at hl 1 rfl) ?_
  refine lv_iload_n hx hb dL_hops_4 rfl (lv_at hl 2 rfl) ?_
  refine k_cx (A1 := A) (vx_runV (As := [.int x, .int y]) (rest := [.int (nI 0), .ref o9]) ⟨hx, hb, hml, hown, hts⟩ (x_hops0 l hl9 D cI cJ cM cG x0 n q tr N x y s.heap.size (hN) (hb2)) (cwV 2 hts (kB_V (fun _ => List.mem_cons_of_mem _) q_475 q_476 q_477 q_9 (kB_c q_478)) rfl rfl rfl (by decide +kernel) ⟨Nat.le_of_ble_eq_true rfl, Nat.le_of_ble_eq_true rfl⟩) (k_preVX (T := TX6) hZ hR hS hA hP hD hK hKN [0] rfl rfl (ci := 6) rfl (q0 := 0) rfl) rfl rfl hl.1 rfl (lv_room (Nat.le_of_ble_eq_true rfl)) dL_hops_5 ⟨Nat.le_of_ble_eq_true rfl, Nat.le_of_ble_eq_true rfl⟩) hD hS hA [0] rfl (fun ce q9 H1 locs1 hz9 hk9 hS1 hce hcv hcl9 => ?_)
  obtain ⟨hP, hD⟩ := k_rest (wr := [(o9, .inl (cJ, 1, .inr (.inl (fun _ => 0))))]) hP hD [0] [1] rfl rfl rfl (by decide) (va_free hD hS hA [0] rfl) hk9
  have hS := hS1
  obtain ⟨-, -, -, hNc, g0, g1, g2, g3, g4, g5⟩ := id hR
  refine vx_catch (own := RL) (name := "java/lang/IndexOutOfBoundsException") hown [] ⟨0, 10, 13, 13⟩ [] (htab.trans rfl) (fun z h => absurd h List.not_mem_nil) rfl (by decide) (hts (.classLink RL 13 "java/lang/IndexOutOfBoundsException") (List.mem_cons_of_mem _ q_5)) (va_Nw.use rfl g3) hce hcv hcl9 ?_
  refine lv_astore (lv' := [(4, .ref q9), (0, .ref x0), (1, .int x), (2, .int y), (3, .ref o9)]) hx hb dL_hops_13 hl (by decide) rfl (fun ls hl => ?_)
  refine lv_iconst (v := nI 1) hx hb dL_hops_15 (by decide) ?_
  have hP9 := hP.sub (ws' := [(o9, .inl (cJ, 1, .inr (.inl (fun _ => 0))))]) [0] rfl
  have hD9 := hD.sub (ws' := [(o9, .inl (cJ, 1, .inr (.inl (fun _ => 0))))]) [0] rfl rfl
  exact W.iret (v := nI 1) hx hb hr (fun t9 ht9 hW9 => ⟨⟨nI 1, (), rfl, rfl, by rw [ht9]; exact hP9, hD9⟩, hS.F ht9⟩) hS.2.2 dL_hops_16

set_option maxHeartbeats 4000000 in
set_option maxRecDepth 100000 in
theorem x_L_sequence0 (l : Launch) (hl9 : l.stackTraces = false) (D : va_G) (cI cJ cM cG : ClassId) (x0 : Nat) (n : Nat → Nat) (q : Nat → Nat) (tr : Nat → Nat) (N : Nat) (x : Int32) (y : Int32) (o9 : Nat) (sz : Nat) (hN : N ≤ 10) (hb2 : kBad2 N x y) : Met l yL_sequence (Cond.codeWith yL_sequence cL_sequence 5 (some .int) [(0, 10, 13, 13)] :: kBig) ({ frames := 9, cells := 1, slots := 6, locals := 147 }) (va_Pc [.ref x0, .int x, .int y, .ref o9] (kX D [(cI, .int), (cJ, .long), (cM, .object "MeshRouting$Message"), (cG, .array .int)] [(x0, .inr (6, [.int (nI N), .ref (n 0), .ref (q 0), .ref (tr 0), .int (nI 0)])), (o9, .inl (cJ, 1, .inr (.inl (fun _ => 0))))] sz)) (va_Qi (fun (r : Int32) (_ : Unit) => r = nI 1) (fun _ t9 => kB D (va_A [(x0, .inr (6, [.int (nI N), .ref (n 0), .ref (q 0), .ref (tr 0), .int (nI 0)])), (o9, .inl (cJ, 1, .inr (.inl (fun _ => 0))))] sz) [(o9, .inl (cJ, 1, .inr (.inl (fun _ => 0))))] t9) (va_A [(x0, .inr (6, [.int (nI N), .ref (n 0), .ref (q 0), .ref (tr 0), .int (nI 0)])), (o9, .inl (cJ, 1, .inr (.inl (fun _ => 0))))] sz)) 1 6 (va_A [(x0, .inr (6, [.int (nI N), .ref (n 0), .ref (q 0), .ref (tr 0), .int (nI 0)])), (o9, .inl (cJ, 1, .inr (.inl (fun _ => 0))))] sz) := by
  refine va_MetW (cc := cL_sequence) (maxL := 5) (ret := (some .int)) (hh := [(0, 10, 13, 13)]) (by decide) rfl ?_
  intro p e s m args below meth c s₁ B hml hv
  obtain ⟨rfl, ⟨hsz, hP, hK, hD0, hKN⟩, hZ, hR⟩ := hv
  have hx := B.exec
  have hb := B.bytes
  have hr := B.returns
  have hts := atoms_spec (ws := (Cond.codeWith yL_sequence cL_sequence 5 (some .int) [(0, 10, 13, 13)] :: kBig)) B.pre
  have hown : s.vm.findClass RL = some m.cls := findClass_of_methodNamed B.named
  have hlocks := B.notSynchronized
  have htab := vx_table (x := yL_sequence) B (hts _ List.mem_cons_self)
  subst hsz
  have hD := hD0.self (sz := s.heap.size)
  generalize hAe : va_A [(x0, .inr (6, [.int (nI N), .ref (n 0), .ref (q 0), .ref (tr 0), .int (nI 0)])), (o9, .inl (cJ, 1, .inr (.inl (fun _ => 0))))] s.heap.size = A at hD hZ ⊢
  have hA : ∀ q : Nat, s.heap.size ≤ q → A q := fun q h => by rw [← hAe]; exact Or.inr h
  have hS : va_S A s.heap s.heap [] := va_S.rf
  have hl := lv_entry ([.ref x0, .int x, .int y, .ref o9]) (n := 5) (Nat.le_of_ble_eq_true rfl)
  rw [lg_entry_eq]
  generalize (lg_sl ([.ref x0, .int x, .int y, .ref o9]) ++ List.replicate (5 - (lg_sl ([.ref x0, .int x, .int y, .ref o9])).length) Slot.unset).toArray = ls at hl ⊢
  have hl : lv_has ls 5 [(0, .ref x0), (1, .int x), (2, .int y), (3, .ref o9)] := hl
  refine lv_aload_n hx hb dL_sequence_0 rfl (lv_at hl 3 rfl) ?_
  refine lv_iconst (v := nI 0) hx hb dL_sequence_1 (by decide) ?_
  refine lv_aload_n hx hb dL_sequence_2 rfl (lv_at hl 0 rfl) ?_
  refine lv_iload_n hx hb dL_sequence_3 rfl (lv_at hl 1 rfl) ?_
  refine lv_iload_n hx hb dL_sequence_4 rfl (lv_at hl 2 rfl) ?_
  refine k_cx (A1 := A) (vx_runV (As := [.int x, .int y]) (rest := [.int (nI 0), .ref o9]) ⟨hx, hb, hml, hown, hts⟩ (x_sequence0 l hl9 D cI cJ cM cG x0 n q tr N x y s.heap.size (hN) (hb2)) (cwV 2 hts (kB_V (fun _ => List.mem_cons_of_mem _) q_555 q_556 q_557 q_9 (kB_c q_558)) rfl rfl rfl (by decide +kernel) ⟨Nat.le_of_ble_eq_true rfl, Nat.le_of_ble_eq_true rfl⟩) (k_preVX (T := TX6) hZ hR hS hA hP hD hK hKN [0] rfl rfl (ci := 6) rfl (q0 := 0) rfl) rfl rfl hl.1 rfl (lv_room (Nat.le_of_ble_eq_true rfl)) dL_sequence_5 ⟨Nat.le_of_ble_eq_true rfl, Nat.le_of_ble_eq_true rfl⟩) hD hS hA [0] rfl (fun ce q9 H1 locs1 hz9 hk9 hS1 hce hcv hcl9 => ?_)
  obtain ⟨hP, hD⟩ := k_rest (wr := [(o9, .inl (cJ, 1, .inr (.inl (fun _ => 0))))]) hP hD [0] [1] rfl rfl rfl (by decide) (va_free hD hS hA [0] rfl) hk9
  have hS := hS1
  obtain ⟨-, -, -, hNc, g0, g1, g2, g3, g4, g5⟩ := id hR
  refine vx_catch (own := RL) (name := "java/lang/IndexOutOfBoundsException") hown [] ⟨0, 10, 13, 13⟩ [] (htab.trans rfl) (fun z h => absurd h List.not_mem_nil) rfl (by decide) (hts (.classLink RL 13 "java/lang/IndexOutOfBoundsException") (List.mem_cons_of_mem _ q_5)) (va_Nw.use rfl g3) hce hcv hcl9 ?_
  refine lv_astore (lv' := [(4, .ref q9), (0, .ref x0), (1, .int x), (2, .int y), (3, .ref o9)]) hx hb dL_sequence_13 hl (by decide) rfl (fun ls hl => ?_)
  refine lv_iconst (v := nI 1) hx hb dL_sequence_15 (by decide) ?_
  have hP9 := hP.sub (ws' := [(o9, .inl (cJ, 1, .inr (.inl (fun _ => 0))))]) [0] rfl
  have hD9 := hD.sub (ws' := [(o9, .inl (cJ, 1, .inr (.inl (fun _ => 0))))]) [0] rfl rfl
  exact W.iret (v := nI 1) hx hb hr (fun t9 ht9 hW9 => ⟨⟨nI 1, (), rfl, rfl, by rw [ht9]; exact hP9, hD9⟩, hS.F ht9⟩) hS.2.2 dL_sequence_16

set_option maxHeartbeats 4000000 in
set_option maxRecDepth 100000 in
theorem x_L_expiry0 (l : Launch) (hl9 : l.stackTraces = false) (D : va_G) (cI cJ cM cG : ClassId) (x0 : Nat) (n : Nat → Nat) (q : Nat → Nat) (tr : Nat → Nat) (N : Nat) (x : Int32) (y : Int32) (o9 : Nat) (sz : Nat) (hN : N ≤ 10) (hb2 : kBad2 N x y) : Met l yL_expiry (Cond.codeWith yL_expiry cL_expiry 5 (some .int) [(0, 10, 13, 13)] :: kBig) ({ frames := 9, cells := 1, slots := 6, locals := 147 }) (va_Pc [.ref x0, .int x, .int y, .ref o9] (kX D [(cI, .int), (cJ, .long), (cM, .object "MeshRouting$Message"), (cG, .array .int)] [(x0, .inr (6, [.int (nI N), .ref (n 0), .ref (q 0), .ref (tr 0), .int (nI 0)])), (o9, .inl (cJ, 1, .inr (.inl (fun _ => 0))))] sz)) (va_Qi (fun (r : Int32) (_ : Unit) => r = nI 1) (fun _ t9 => kB D (va_A [(x0, .inr (6, [.int (nI N), .ref (n 0), .ref (q 0), .ref (tr 0), .int (nI 0)])), (o9, .inl (cJ, 1, .inr (.inl (fun _ => 0))))] sz) [(o9, .inl (cJ, 1, .inr (.inl (fun _ => 0))))] t9) (va_A [(x0, .inr (6, [.int (nI N), .ref (n 0), .ref (q 0), .ref (tr 0), .int (nI 0)])), (o9, .inl (cJ, 1, .inr (.inl (fun _ => 0))))] sz)) 1 6 (va_A [(x0, .inr (6, [.int (nI N), .ref (n 0), .ref (q 0), .ref (tr 0), .int (nI 0)])), (o9, .inl (cJ, 1, .inr (.inl (fun _ => 0))))] sz) := by
  refine va_MetW (cc := cL_expiry) (maxL := 5) (ret := (some .int)) (hh := [(0, 10, 13, 13)]) (by decide) rfl ?_
  intro p e s m args below meth c s₁ B hml hv
  obtain ⟨rfl, ⟨hsz, hP, hK, hD0, hKN⟩, hZ, hR⟩ := hv
  have hx := B.exec
  have hb := B.bytes
  have hr := B.returns
  have hts := atoms_spec (ws := (Cond.codeWith yL_expiry cL_expiry 5 (some .int) [(0, 10, 13, 13)] :: kBig)) B.pre
  have hown : s.vm.findClass RL = some m.cls := findClass_of_methodNamed B.named
  have hlocks := B.notSynchronized
  have htab := vx_table (x := yL_expiry) B (hts _ List.mem_cons_self)
  subst hsz
  have hD := hD0.self (sz := s.heap.size)
  generalize hAe : va_A [(x0, .inr (6, [.int (nI N), .ref (n 0), .ref (q 0), .ref (tr 0), .int (nI 0)])), (o9, .inl (cJ, 1, .inr (.inl (fun _ => 0))))] s.heap.size = A at hD hZ ⊢
  have hA : ∀ q : Nat, s.heap.size ≤ q → A q := fun q h => by rw [← hAe]; exact Or.inr h
  have hS : va_S A s.heap s.heap [] := va_S.rf
  have hl := lv_entry ([.ref x0, .int x, .int y, .ref o9]) (n := 5) (Nat.le_of_ble_eq_true rfl)
  rw [lg_entry_eq]
  generalize (lg_sl ([.ref x0, .int x, .int y, .ref o9]) ++ List.replicate (5 - (lg_sl ([.ref x0, .int x, .int y, .ref o9])).length) Slot.unset).toArray = ls at hl ⊢
  have hl : lv_has ls 5 [(0, .ref x0), (1, .int x), (2, .int y), (3, .ref o9)] := hl
  refine lv_aload_n hx hb dL_expiry_0 rfl (lv_at hl 3 rfl) ?_
  refine lv_iconst (v := nI 0) hx hb dL_expiry_1 (by decide) ?_
  refine lv_aload_n hx hb dL_expiry_2 rfl (lv_at hl 0 rfl) ?_
  refine lv_iload_n hx hb dL_expiry_3 rfl (lv_at hl 1 rfl) ?_
  refine lv_iload_n hx hb dL_expiry_4 rfl (lv_at hl 2 rfl) ?_
  refine k_cx (A1 := A) (vx_runV (As := [.int x, .int y]) (rest := [.int (nI 0), .ref o9]) ⟨hx, hb, hml, hown, hts⟩ (x_expiry0 l hl9 D cI cJ cM cG x0 n q tr N x y s.heap.size (hN) (hb2)) (cwV 2 hts (kB_V (fun _ => List.mem_cons_of_mem _) q_449 q_450 q_451 q_9 (kB_c q_452)) rfl rfl rfl (by decide +kernel) ⟨Nat.le_of_ble_eq_true rfl, Nat.le_of_ble_eq_true rfl⟩) (k_preVX (T := TX6) hZ hR hS hA hP hD hK hKN [0] rfl rfl (ci := 6) rfl (q0 := 0) rfl) rfl rfl hl.1 rfl (lv_room (Nat.le_of_ble_eq_true rfl)) dL_expiry_5 ⟨Nat.le_of_ble_eq_true rfl, Nat.le_of_ble_eq_true rfl⟩) hD hS hA [0] rfl (fun ce q9 H1 locs1 hz9 hk9 hS1 hce hcv hcl9 => ?_)
  obtain ⟨hP, hD⟩ := k_rest (wr := [(o9, .inl (cJ, 1, .inr (.inl (fun _ => 0))))]) hP hD [0] [1] rfl rfl rfl (by decide) (va_free hD hS hA [0] rfl) hk9
  have hS := hS1
  obtain ⟨-, -, -, hNc, g0, g1, g2, g3, g4, g5⟩ := id hR
  refine vx_catch (own := RL) (name := "java/lang/IndexOutOfBoundsException") hown [] ⟨0, 10, 13, 13⟩ [] (htab.trans rfl) (fun z h => absurd h List.not_mem_nil) rfl (by decide) (hts (.classLink RL 13 "java/lang/IndexOutOfBoundsException") (List.mem_cons_of_mem _ q_5)) (va_Nw.use rfl g3) hce hcv hcl9 ?_
  refine lv_astore (lv' := [(4, .ref q9), (0, .ref x0), (1, .int x), (2, .int y), (3, .ref o9)]) hx hb dL_expiry_13 hl (by decide) rfl (fun ls hl => ?_)
  refine lv_iconst (v := nI 1) hx hb dL_expiry_15 (by decide) ?_
  have hP9 := hP.sub (ws' := [(o9, .inl (cJ, 1, .inr (.inl (fun _ => 0))))]) [0] rfl
  have hD9 := hD.sub (ws' := [(o9, .inl (cJ, 1, .inr (.inl (fun _ => 0))))]) [0] rfl rfl
  exact W.iret (v := nI 1) hx hb hr (fun t9 ht9 hW9 => ⟨⟨nI 1, (), rfl, rfl, by rw [ht9]; exact hP9, hD9⟩, hS.F ht9⟩) hS.2.2 dL_expiry_16

set_option maxHeartbeats 4000000 in
set_option maxRecDepth 100000 in
theorem x_L_users0 (l : Launch) (hl9 : l.stackTraces = false) (D : va_G) (cI cJ cM cG : ClassId) (x0 : Nat) (n : Nat → Nat) (q : Nat → Nat) (tr : Nat → Nat) (N : Nat) (x : Int32) (y : Int32) (o9 : Nat) (sz : Nat) (hN : N ≤ 10) (hb2 : kBad2 N x y) : Met l yL_users (Cond.codeWith yL_users cL_users 5 (some .int) [(0, 10, 13, 13)] :: kBig) ({ frames := 9, cells := 1, slots := 6, locals := 147 }) (va_Pc [.ref x0, .int x, .int y, .ref o9] (kX D [(cI, .int), (cJ, .long), (cM, .object "MeshRouting$Message"), (cG, .array .int)] [(x0, .inr (6, [.int (nI N), .ref (n 0), .ref (q 0), .ref (tr 0), .int (nI 0)])), (o9, .inl (cJ, 1, .inr (.inl (fun _ => 0))))] sz)) (va_Qi (fun (r : Int32) (_ : Unit) => r = nI 1) (fun _ t9 => kB D (va_A [(x0, .inr (6, [.int (nI N), .ref (n 0), .ref (q 0), .ref (tr 0), .int (nI 0)])), (o9, .inl (cJ, 1, .inr (.inl (fun _ => 0))))] sz) [(o9, .inl (cJ, 1, .inr (.inl (fun _ => 0))))] t9) (va_A [(x0, .inr (6, [.int (nI N), .ref (n 0), .ref (q 0), .ref (tr 0), .int (nI 0)])), (o9, .inl (cJ, 1, .inr (.inl (fun _ => 0))))] sz)) 1 6 (va_A [(x0, .inr (6, [.int (nI N), .ref (n 0), .ref (q 0), .ref (tr 0), .int (nI 0)])), (o9, .inl (cJ, 1, .inr (.inl (fun _ => 0))))] sz) := by
  refine va_MetW (cc := cL_users) (maxL := 5) (ret := (some .int)) (hh := [(0, 10, 13, 13)]) (by decide) rfl ?_
  intro p e s m args below meth c s₁ B hml hv
  obtain ⟨rfl, ⟨hsz, hP, hK, hD0, hKN⟩, hZ, hR⟩ := hv
  have hx := B.exec
  have hb := B.bytes
  have hr := B.returns
  have hts := atoms_spec (ws := (Cond.codeWith yL_users cL_users 5 (some .int) [(0, 10, 13, 13)] :: kBig)) B.pre
  have hown : s.vm.findClass RL = some m.cls := findClass_of_methodNamed B.named
  have hlocks := B.notSynchronized
  have htab := vx_table (x := yL_users) B (hts _ List.mem_cons_self)
  subst hsz
  have hD := hD0.self (sz := s.heap.size)
  generalize hAe : va_A [(x0, .inr (6, [.int (nI N), .ref (n 0), .ref (q 0), .ref (tr 0), .int (nI 0)])), (o9, .inl (cJ, 1, .inr (.inl (fun _ => 0))))] s.heap.size = A at hD hZ ⊢
  have hA : ∀ q : Nat, s.heap.size ≤ q → A q := fun q h => by rw [← hAe]; exact Or.inr h
  have hS : va_S A s.heap s.heap [] := va_S.rf
  have hl := lv_entry ([.ref x0, .int x, .int y, .ref o9]) (n := 5) (Nat.le_of_ble_eq_true rfl)
  rw [lg_entry_eq]
  generalize (lg_sl ([.ref x0, .int x, .int y, .ref o9]) ++ List.replicate (5 - (lg_sl ([.ref x0, .int x, .int y, .ref o9])).length) Slot.unset).toArray = ls at hl ⊢
  have hl : lv_has ls 5 [(0, .ref x0), (1, .int x), (2, .int y), (3, .ref o9)] := hl
  refine lv_aload_n hx hb dL_users_0 rfl (lv_at hl 3 rfl) ?_
  refine lv_iconst (v := nI 0) hx hb dL_users_1 (by decide) ?_
  refine lv_aload_n hx hb dL_users_2 rfl (lv_at hl 0 rfl) ?_
  refine lv_iload_n hx hb dL_users_3 rfl (lv_at hl 1 rfl) ?_
  refine lv_iload_n hx hb dL_users_4 rfl (lv_at hl 2 rfl) ?_
  refine k_cx (A1 := A) (vx_runV (As := [.int x, .int y]) (rest := [.int (nI 0), .ref o9]) ⟨hx, hb, hml, hown, hts⟩ (x_users0 l hl9 D cI cJ cM cG x0 n q tr N x y s.heap.size (hN) (hb2)) (cwV 2 hts (kB_V (fun _ => List.mem_cons_of_mem _) q_588 q_589 q_590 q_9 (kB_c q_591)) rfl rfl rfl (by decide +kernel) ⟨Nat.le_of_ble_eq_true rfl, Nat.le_of_ble_eq_true rfl⟩) (k_preVX (T := TX6) hZ hR hS hA hP hD hK hKN [0] rfl rfl (ci := 6) rfl (q0 := 0) rfl) rfl rfl hl.1 rfl (lv_room (Nat.le_of_ble_eq_true rfl)) dL_users_5 ⟨Nat.le_of_ble_eq_true rfl, Nat.le_of_ble_eq_true rfl⟩) hD hS hA [0] rfl (fun ce q9 H1 locs1 hz9 hk9 hS1 hce hcv hcl9 => ?_)
  obtain ⟨hP, hD⟩ := k_rest (wr := [(o9, .inl (cJ, 1, .inr (.inl (fun _ => 0))))]) hP hD [0] [1] rfl rfl rfl (by decide) (va_free hD hS hA [0] rfl) hk9
  have hS := hS1
  obtain ⟨-, -, -, hNc, g0, g1, g2, g3, g4, g5⟩ := id hR
  refine vx_catch (own := RL) (name := "java/lang/IndexOutOfBoundsException") hown [] ⟨0, 10, 13, 13⟩ [] (htab.trans rfl) (fun z h => absurd h List.not_mem_nil) rfl (by decide) (hts (.classLink RL 13 "java/lang/IndexOutOfBoundsException") (List.mem_cons_of_mem _ q_5)) (va_Nw.use rfl g3) hce hcv hcl9 ?_
  refine lv_astore (lv' := [(4, .ref q9), (0, .ref x0), (1, .int x), (2, .int y), (3, .ref o9)]) hx hb dL_users_13 hl (by decide) rfl (fun ls hl => ?_)
  refine lv_iconst (v := nI 1) hx hb dL_users_15 (by decide) ?_
  have hP9 := hP.sub (ws' := [(o9, .inl (cJ, 1, .inr (.inl (fun _ => 0))))]) [0] rfl
  have hD9 := hD.sub (ws' := [(o9, .inl (cJ, 1, .inr (.inl (fun _ => 0))))]) [0] rfl rfl
  exact W.iret (v := nI 1) hx hb hr (fun t9 ht9 hW9 => ⟨⟨nI 1, (), rfl, rfl, by rw [ht9]; exact hP9, hD9⟩, hS.F ht9⟩) hS.2.2 dL_users_16

set_option maxHeartbeats 4000000 in
set_option maxRecDepth 100000 in
theorem x_L_searching0 (l : Launch) (hl9 : l.stackTraces = false) (D : va_G) (cI cJ cM cG : ClassId) (x0 : Nat) (n : Nat → Nat) (q : Nat → Nat) (tr : Nat → Nat) (N : Nat) (x : Int32) (y : Int32) (o9 : Nat) (sz : Nat) (hN : N ≤ 10) (hb2 : kBad2 N x y) : Met l yL_searching (Cond.codeWith yL_searching cL_searching 5 (some .int) [(0, 10, 13, 13)] :: kBig) ({ frames := 9, cells := 1, slots := 6, locals := 147 }) (va_Pc [.ref x0, .int x, .int y, .ref o9] (kX D [(cI, .int), (cJ, .long), (cM, .object "MeshRouting$Message"), (cG, .array .int)] [(x0, .inr (6, [.int (nI N), .ref (n 0), .ref (q 0), .ref (tr 0), .int (nI 0)])), (o9, .inl (cJ, 1, .inr (.inl (fun _ => 0))))] sz)) (va_Qi (fun (r : Int32) (_ : Unit) => r = nI 1) (fun _ t9 => kB D (va_A [(x0, .inr (6, [.int (nI N), .ref (n 0), .ref (q 0), .ref (tr 0), .int (nI 0)])), (o9, .inl (cJ, 1, .inr (.inl (fun _ => 0))))] sz) [(o9, .inl (cJ, 1, .inr (.inl (fun _ => 0))))] t9) (va_A [(x0, .inr (6, [.int (nI N), .ref (n 0), .ref (q 0), .ref (tr 0), .int (nI 0)])), (o9, .inl (cJ, 1, .inr (.inl (fun _ => 0))))] sz)) 1 6 (va_A [(x0, .inr (6, [.int (nI N), .ref (n 0), .ref (q 0), .ref (tr 0), .int (nI 0)])), (o9, .inl (cJ, 1, .inr (.inl (fun _ => 0))))] sz) := by
  refine va_MetW (cc := cL_searching) (maxL := 5) (ret := (some .int)) (hh := [(0, 10, 13, 13)]) (by decide) rfl ?_
  intro p e s m args below meth c s₁ B hml hv
  obtain ⟨rfl, ⟨hsz, hP, hK, hD0, hKN⟩, hZ, hR⟩ := hv
  have hx := B.exec
  have hb := B.bytes
  have hr := B.returns
  have hts := atoms_spec (ws := (Cond.codeWith yL_searching cL_searching 5 (some .int) [(0, 10, 13, 13)] :: kBig)) B.pre
  have hown : s.vm.findClass RL = some m.cls := findClass_of_methodNamed B.named
  have hlocks := B.notSynchronized
  have htab := vx_table (x := yL_searching) B (hts _ List.mem_cons_self)
  subst hsz
  have hD := hD0.self (sz := s.heap.size)
  generalize hAe : va_A [(x0, .inr (6, [.int (nI N), .ref (n 0), .ref (q 0), .ref (tr 0), .int (nI 0)])), (o9, .inl (cJ, 1, .inr (.inl (fun _ => 0))))] s.heap.size = A at hD hZ ⊢
  have hA : ∀ q : Nat, s.heap.size ≤ q → A q := fun q h => by rw [← hAe]; exact Or.inr h
  have hS : va_S A s.heap s.heap [] := va_S.rf
  have hl := lv_entry ([.ref x0, .int x, .int y, .ref o9]) (n := 5) (Nat.le_of_ble_eq_true rfl)
  rw [lg_entry_eq]
  generalize (lg_sl ([.ref x0, .int x, .int y, .ref o9]) ++ List.replicate (5 - (lg_sl ([.ref x0, .int x, .int y, .ref o9])).length) Slot.unset).toArray = ls at hl ⊢
  have hl : lv_has ls 5 [(0, .ref x0), (1, .int x), (2, .int y), (3, .ref o9)] := hl
  refine lv_aload_n hx hb dL_searching_0 rfl (lv_at hl 3 rfl) ?_
  refine lv_iconst (v := nI 0) hx hb dL_searching_1 (by decide) ?_
  refine lv_aload_n hx hb dL_searching_2 rfl (lv_at hl 0 rfl) ?_
  refine lv_iload_n hx hb dL_searching_3 rfl (lv_at hl 1 rfl) ?_
  refine lv_iload_n hx hb dL_searching_4 rfl (lv_at hl 2 rfl) ?_
  refine k_cx (A1 := A) (vx_runV (As := [.int x, .int y]) (rest := [.int (nI 0), .ref o9]) ⟨hx, hb, hml, hown, hts⟩ (x_searching0 l hl9 D cI cJ cM cG x0 n q tr N x y s.heap.size (hN) (hb2)) (cwV 2 hts (kB_V (fun _ => List.mem_cons_of_mem _) q_538 q_539 q_540 q_9 (kB_c q_541)) rfl rfl rfl (by decide +kernel) ⟨Nat.le_of_ble_eq_true rfl, Nat.le_of_ble_eq_true rfl⟩) (k_preVX (T := TX6) hZ hR hS hA hP hD hK hKN [0] rfl rfl (ci := 6) rfl (q0 := 0) rfl) rfl rfl hl.1 rfl (lv_room (Nat.le_of_ble_eq_true rfl)) dL_searching_5 ⟨Nat.le_of_ble_eq_true rfl, Nat.le_of_ble_eq_true rfl⟩) hD hS hA [0] rfl (fun ce q9 H1 locs1 hz9 hk9 hS1 hce hcv hcl9 => ?_)
  obtain ⟨hP, hD⟩ := k_rest (wr := [(o9, .inl (cJ, 1, .inr (.inl (fun _ => 0))))]) hP hD [0] [1] rfl rfl rfl (by decide) (va_free hD hS hA [0] rfl) hk9
  have hS := hS1
  obtain ⟨-, -, -, hNc, g0, g1, g2, g3, g4, g5⟩ := id hR
  refine vx_catch (own := RL) (name := "java/lang/IndexOutOfBoundsException") hown [] ⟨0, 10, 13, 13⟩ [] (htab.trans rfl) (fun z h => absurd h List.not_mem_nil) rfl (by decide) (hts (.classLink RL 13 "java/lang/IndexOutOfBoundsException") (List.mem_cons_of_mem _ q_5)) (va_Nw.use rfl g3) hce hcv hcl9 ?_
  refine lv_astore (lv' := [(4, .ref q9), (0, .ref x0), (1, .int x), (2, .int y), (3, .ref o9)]) hx hb dL_searching_13 hl (by decide) rfl (fun ls hl => ?_)
  refine lv_iconst (v := nI 1) hx hb dL_searching_15 (by decide) ?_
  have hP9 := hP.sub (ws' := [(o9, .inl (cJ, 1, .inr (.inl (fun _ => 0))))]) [0] rfl
  have hD9 := hD.sub (ws' := [(o9, .inl (cJ, 1, .inr (.inl (fun _ => 0))))]) [0] rfl rfl
  exact W.iret (v := nI 1) hx hb hr (fun t9 ht9 hW9 => ⟨⟨nI 1, (), rfl, rfl, by rw [ht9]; exact hP9, hD9⟩, hS.F ht9⟩) hS.2.2 dL_searching_16

set_option maxHeartbeats 4000000 in
set_option maxRecDepth 100000 in
theorem x_L_timeout0 (l : Launch) (hl9 : l.stackTraces = false) (D : va_G) (cI cJ cM cG : ClassId) (x0 : Nat) (n : Nat → Nat) (q : Nat → Nat) (tr : Nat → Nat) (N : Nat) (x : Int32) (y : Int32) (o9 : Nat) (sz : Nat) (hN : N ≤ 10) (hb2 : kBad2 N x y) : Met l yL_timeout (Cond.codeWith yL_timeout cL_timeout 5 (some .int) [(0, 10, 13, 13)] :: kBig) ({ frames := 9, cells := 1, slots := 6, locals := 147 }) (va_Pc [.ref x0, .int x, .int y, .ref o9] (kX D [(cI, .int), (cJ, .long), (cM, .object "MeshRouting$Message"), (cG, .array .int)] [(x0, .inr (6, [.int (nI N), .ref (n 0), .ref (q 0), .ref (tr 0), .int (nI 0)])), (o9, .inl (cJ, 1, .inr (.inl (fun _ => 0))))] sz)) (va_Qi (fun (r : Int32) (_ : Unit) => r = nI 1) (fun _ t9 => kB D (va_A [(x0, .inr (6, [.int (nI N), .ref (n 0), .ref (q 0), .ref (tr 0), .int (nI 0)])), (o9, .inl (cJ, 1, .inr (.inl (fun _ => 0))))] sz) [(o9, .inl (cJ, 1, .inr (.inl (fun _ => 0))))] t9) (va_A [(x0, .inr (6, [.int (nI N), .ref (n 0), .ref (q 0), .ref (tr 0), .int (nI 0)])), (o9, .inl (cJ, 1, .inr (.inl (fun _ => 0))))] sz)) 1 6 (va_A [(x0, .inr (6, [.int (nI N), .ref (n 0), .ref (q 0), .ref (tr 0), .int (nI 0)])), (o9, .inl (cJ, 1, .inr (.inl (fun _ => 0))))] sz) := by
  refine va_MetW (cc := cL_timeout) (maxL := 5) (ret := (some .int)) (hh := [(0, 10, 13, 13)]) (by decide) rfl ?_
  intro p e s m args below meth c s₁ B hml hv
  obtain ⟨rfl, ⟨hsz, hP, hK, hD0, hKN⟩, hZ, hR⟩ := hv
  have hx := B.exec
  have hb := B.bytes
  have hr := B.returns
  have hts := atoms_spec (ws := (Cond.codeWith yL_timeout cL_timeout 5 (some .int) [(0, 10, 13, 13)] :: kBig)) B.pre
  have hown : s.vm.findClass RL = some m.cls := findClass_of_methodNamed B.named
  have hlocks := B.notSynchronized
  have htab := vx_table (x := yL_timeout) B (hts _ List.mem_cons_self)
  subst hsz
  have hD := hD0.self (sz := s.heap.size)
  generalize hAe : va_A [(x0, .inr (6, [.int (nI N), .ref (n 0), .ref (q 0), .ref (tr 0), .int (nI 0)])), (o9, .inl (cJ, 1, .inr (.inl (fun _ => 0))))] s.heap.size = A at hD hZ ⊢
  have hA : ∀ q : Nat, s.heap.size ≤ q → A q := fun q h => by rw [← hAe]; exact Or.inr h
  have hS : va_S A s.heap s.heap [] := va_S.rf
  have hl := lv_entry ([.ref x0, .int x, .int y, .ref o9]) (n := 5) (Nat.le_of_ble_eq_true rfl)
  rw [lg_entry_eq]
  generalize (lg_sl ([.ref x0, .int x, .int y, .ref o9]) ++ List.replicate (5 - (lg_sl ([.ref x0, .int x, .int y, .ref o9])).length) Slot.unset).toArray = ls at hl ⊢
  have hl : lv_has ls 5 [(0, .ref x0), (1, .int x), (2, .int y), (3, .ref o9)] := hl
  refine lv_aload_n hx hb dL_timeout_0 rfl (lv_at hl 3 rfl) ?_
  refine lv_iconst (v := nI 0) hx hb dL_timeout_1 (by decide) ?_
  refine lv_aload_n hx hb dL_timeout_2 rfl (lv_at hl 0 rfl) ?_
  refine lv_iload_n hx hb dL_timeout_3 rfl (lv_at hl 1 rfl) ?_
  refine lv_iload_n hx hb dL_timeout_4 rfl (lv_at hl 2 rfl) ?_
  refine k_cx (A1 := A) (vx_runV (As := [.int x, .int y]) (rest := [.int (nI 0), .ref o9]) ⟨hx, hb, hml, hown, hts⟩ (x_timeout0 l hl9 D cI cJ cM cG x0 n q tr N x y s.heap.size (hN) (hb2)) (cwV 2 hts (kB_V (fun _ => List.mem_cons_of_mem _) q_582 q_583 q_584 q_9 (kB_c q_585)) rfl rfl rfl (by decide +kernel) ⟨Nat.le_of_ble_eq_true rfl, Nat.le_of_ble_eq_true rfl⟩) (k_preVX (T := TX6) hZ hR hS hA hP hD hK hKN [0] rfl rfl (ci := 6) rfl (q0 := 0) rfl) rfl rfl hl.1 rfl (lv_room (Nat.le_of_ble_eq_true rfl)) dL_timeout_5 ⟨Nat.le_of_ble_eq_true rfl, Nat.le_of_ble_eq_true rfl⟩) hD hS hA [0] rfl (fun ce q9 H1 locs1 hz9 hk9 hS1 hce hcv hcl9 => ?_)
  obtain ⟨hP, hD⟩ := k_rest (wr := [(o9, .inl (cJ, 1, .inr (.inl (fun _ => 0))))]) hP hD [0] [1] rfl rfl rfl (by decide) (va_free hD hS hA [0] rfl) hk9
  have hS := hS1
  obtain ⟨-, -, -, hNc, g0, g1, g2, g3, g4, g5⟩ := id hR
  refine vx_catch (own := RL) (name := "java/lang/IndexOutOfBoundsException") hown [] ⟨0, 10, 13, 13⟩ [] (htab.trans rfl) (fun z h => absurd h List.not_mem_nil) rfl (by decide) (hts (.classLink RL 13 "java/lang/IndexOutOfBoundsException") (List.mem_cons_of_mem _ q_5)) (va_Nw.use rfl g3) hce hcv hcl9 ?_
  refine lv_astore (lv' := [(4, .ref q9), (0, .ref x0), (1, .int x), (2, .int y), (3, .ref o9)]) hx hb dL_timeout_13 hl (by decide) rfl (fun ls hl => ?_)
  refine lv_iconst (v := nI 1) hx hb dL_timeout_15 (by decide) ?_
  have hP9 := hP.sub (ws' := [(o9, .inl (cJ, 1, .inr (.inl (fun _ => 0))))]) [0] rfl
  have hD9 := hD.sub (ws' := [(o9, .inl (cJ, 1, .inr (.inl (fun _ => 0))))]) [0] rfl rfl
  exact W.iret (v := nI 1) hx hb hr (fun t9 ht9 hW9 => ⟨⟨nI 1, (), rfl, rfl, by rw [ht9]; exact hP9, hD9⟩, hS.F ht9⟩) hS.2.2 dL_timeout_16

set_option maxHeartbeats 4000000 in
set_option maxRecDepth 100000 in
theorem x_L_buffered0 (l : Launch) (hl9 : l.stackTraces = false) (D : va_G) (cI cJ cM cG : ClassId) (x0 : Nat) (n : Nat → Nat) (q : Nat → Nat) (tr : Nat → Nat) (N : Nat) (x : Int32) (y : Int32) (o9 : Nat) (sz : Nat) (hN : N ≤ 10) (hb2 : kBad2 N x y) : Met l yL_buffered (Cond.codeWith yL_buffered cL_buffered 5 (some .int) [(0, 10, 13, 13)] :: kBig) ({ frames := 9, cells := 1, slots := 6, locals := 147 }) (va_Pc [.ref x0, .int x, .int y, .ref o9] (kX D [(cI, .int), (cJ, .long), (cM, .object "MeshRouting$Message"), (cG, .array .int)] [(x0, .inr (6, [.int (nI N), .ref (n 0), .ref (q 0), .ref (tr 0), .int (nI 0)])), (o9, .inl (cJ, 1, .inr (.inl (fun _ => 0))))] sz)) (va_Qi (fun (r : Int32) (_ : Unit) => r = nI 1) (fun _ t9 => kB D (va_A [(x0, .inr (6, [.int (nI N), .ref (n 0), .ref (q 0), .ref (tr 0), .int (nI 0)])), (o9, .inl (cJ, 1, .inr (.inl (fun _ => 0))))] sz) [(o9, .inl (cJ, 1, .inr (.inl (fun _ => 0))))] t9) (va_A [(x0, .inr (6, [.int (nI N), .ref (n 0), .ref (q 0), .ref (tr 0), .int (nI 0)])), (o9, .inl (cJ, 1, .inr (.inl (fun _ => 0))))] sz)) 1 6 (va_A [(x0, .inr (6, [.int (nI N), .ref (n 0), .ref (q 0), .ref (tr 0), .int (nI 0)])), (o9, .inl (cJ, 1, .inr (.inl (fun _ => 0))))] sz) := by
  refine va_MetW (cc := cL_buffered) (maxL := 5) (ret := (some .int)) (hh := [(0, 10, 13, 13)]) (by decide) rfl ?_
  intro p e s m args below meth c s₁ B hml hv
  obtain ⟨rfl, ⟨hsz, hP, hK, hD0, hKN⟩, hZ, hR⟩ := hv
  have hx := B.exec
  have hb := B.bytes
  have hr := B.returns
  have hts := atoms_spec (ws := (Cond.codeWith yL_buffered cL_buffered 5 (some .int) [(0, 10, 13, 13)] :: kBig)) B.pre
  have hown : s.vm.findClass RL = some m.cls := findClass_of_methodNamed B.named
  have hlocks := B.notSynchronized
  have htab := vx_table (x := yL_buffered) B (hts _ List.mem_cons_self)
  subst hsz
  have hD := hD0.self (sz := s.heap.size)
  generalize hAe : va_A [(x0, .inr (6, [.int (nI N), .ref (n 0), .ref (q 0), .ref (tr 0), .int (nI 0)])), (o9, .inl (cJ, 1, .inr (.inl (fun _ => 0))))] s.heap.size = A at hD hZ ⊢
  have hA : ∀ q : Nat, s.heap.size ≤ q → A q := fun q h => by rw [← hAe]; exact Or.inr h
  have hS : va_S A s.heap s.heap [] := va_S.rf
  have hl := lv_entry ([.ref x0, .int x, .int y, .ref o9]) (n := 5) (Nat.le_of_ble_eq_true rfl)
  rw [lg_entry_eq]
  generalize (lg_sl ([.ref x0, .int x, .int y, .ref o9]) ++ List.replicate (5 - (lg_sl ([.ref x0, .int x, .int y, .ref o9])).length) Slot.unset).toArray = ls at hl ⊢
  have hl : lv_has ls 5 [(0, .ref x0), (1, .int x), (2, .int y), (3, .ref o9)] := hl
  refine lv_aload_n hx hb dL_buffered_0 rfl (lv_at hl 3 rfl) ?_
  refine lv_iconst (v := nI 0) hx hb dL_buffered_1 (by decide) ?_
  refine lv_aload_n hx hb dL_buffered_2 rfl (lv_at hl 0 rfl) ?_
  refine lv_iload_n hx hb dL_buffered_3 rfl (lv_at hl 1 rfl) ?_
  refine lv_iload_n hx hb dL_buffered_4 rfl (lv_at hl 2 rfl) ?_
  refine k_cx (A1 := A) (vx_runV (As := [.int x, .int y]) (rest := [.int (nI 0), .ref o9]) ⟨hx, hb, hml, hown, hts⟩ (x_buffered0 l hl9 D cI cJ cM cG x0 n q tr N x y s.heap.size (hN) (hb2)) (cwV 2 hts (kB_V (fun _ => List.mem_cons_of_mem _) q_6 q_7 q_8 q_9 (kB_c q_10)) rfl rfl rfl (by decide +kernel) ⟨Nat.le_of_ble_eq_true rfl, Nat.le_of_ble_eq_true rfl⟩) (k_preVX (T := TX6) hZ hR hS hA hP hD hK hKN [0] rfl rfl (ci := 6) rfl (q0 := 0) rfl) rfl rfl hl.1 rfl (lv_room (Nat.le_of_ble_eq_true rfl)) dL_buffered_5 ⟨Nat.le_of_ble_eq_true rfl, Nat.le_of_ble_eq_true rfl⟩) hD hS hA [0] rfl (fun ce q9 H1 locs1 hz9 hk9 hS1 hce hcv hcl9 => ?_)
  obtain ⟨hP, hD⟩ := k_rest (wr := [(o9, .inl (cJ, 1, .inr (.inl (fun _ => 0))))]) hP hD [0] [1] rfl rfl rfl (by decide) (va_free hD hS hA [0] rfl) hk9
  have hS := hS1
  obtain ⟨-, -, -, hNc, g0, g1, g2, g3, g4, g5⟩ := id hR
  refine vx_catch (own := RL) (name := "java/lang/IndexOutOfBoundsException") hown [] ⟨0, 10, 13, 13⟩ [] (htab.trans rfl) (fun z h => absurd h List.not_mem_nil) rfl (by decide) (hts (.classLink RL 13 "java/lang/IndexOutOfBoundsException") (List.mem_cons_of_mem _ q_5)) (va_Nw.use rfl g3) hce hcv hcl9 ?_
  refine lv_astore (lv' := [(4, .ref q9), (0, .ref x0), (1, .int x), (2, .int y), (3, .ref o9)]) hx hb dL_buffered_13 hl (by decide) rfl (fun ls hl => ?_)
  refine lv_iconst (v := nI 1) hx hb dL_buffered_15 (by decide) ?_
  have hP9 := hP.sub (ws' := [(o9, .inl (cJ, 1, .inr (.inl (fun _ => 0))))]) [0] rfl
  have hD9 := hD.sub (ws' := [(o9, .inl (cJ, 1, .inr (.inl (fun _ => 0))))]) [0] rfl rfl
  exact W.iret (v := nI 1) hx hb hr (fun t9 ht9 hW9 => ⟨⟨nI 1, (), rfl, rfl, by rw [ht9]; exact hP9, hD9⟩, hS.F ht9⟩) hS.2.2 dL_buffered_16

set_option maxHeartbeats 4000000 in
set_option maxRecDepth 100000 in
theorem x_L_follow0 (l : Launch) (hl9 : l.stackTraces = false) (D : va_G) (cI cJ cM cG : ClassId) (x0 : Nat) (n : Nat → Nat) (q : Nat → Nat) (tr : Nat → Nat) (N : Nat) (x : Int32) (y : Int32) (o9 : Nat) (sz : Nat) (hN : N ≤ 10) (hb2 : kBad2 N x y) : Met l yL_follow (Cond.codeWith yL_follow cL_follow 5 (some .int) [(0, 10, 13, 13)] :: kBig) ({ frames := 9, cells := 1, slots := 6, locals := 147 }) (va_Pc [.ref x0, .int x, .int y, .ref o9] (kX D [(cI, .int), (cJ, .long), (cM, .object "MeshRouting$Message"), (cG, .array .int)] [(x0, .inr (6, [.int (nI N), .ref (n 0), .ref (q 0), .ref (tr 0), .int (nI 0)])), (o9, .inl (cJ, 1, .inr (.inl (fun _ => 0))))] sz)) (va_Qi (fun (r : Int32) (_ : Unit) => r = nI 1) (fun _ t9 => kB D (va_A [(x0, .inr (6, [.int (nI N), .ref (n 0), .ref (q 0), .ref (tr 0), .int (nI 0)])), (o9, .inl (cJ, 1, .inr (.inl (fun _ => 0))))] sz) [(o9, .inl (cJ, 1, .inr (.inl (fun _ => 0))))] t9) (va_A [(x0, .inr (6, [.int (nI N), .ref (n 0), .ref (q 0), .ref (tr 0), .int (nI 0)])), (o9, .inl (cJ, 1, .inr (.inl (fun _ => 0))))] sz)) 1 6 (va_A [(x0, .inr (6, [.int (nI N), .ref (n 0), .ref (q 0), .ref (tr 0), .int (nI 0)])), (o9, .inl (cJ, 1, .inr (.inl (fun _ => 0))))] sz) := by
  refine va_MetW (cc := cL_follow) (maxL := 5) (ret := (some .int)) (hh := [(0, 10, 13, 13)]) (by decide) rfl ?_
  intro p e s m args below meth c s₁ B hml hv
  obtain ⟨rfl, ⟨hsz, hP, hK, hD0, hKN⟩, hZ, hR⟩ := hv
  have hx := B.exec
  have hb := B.bytes
  have hr := B.returns
  have hts := atoms_spec (ws := (Cond.codeWith yL_follow cL_follow 5 (some .int) [(0, 10, 13, 13)] :: kBig)) B.pre
  have hown : s.vm.findClass RL = some m.cls := findClass_of_methodNamed B.named
  have hlocks := B.notSynchronized
  have htab := vx_table (x := yL_follow) B (hts _ List.mem_cons_self)
  subst hsz
  have hD := hD0.self (sz := s.heap.size)
  generalize hAe : va_A [(x0, .inr (6, [.int (nI N), .ref (n 0), .ref (q 0), .ref (tr 0), .int (nI 0)])), (o9, .inl (cJ, 1, .inr (.inl (fun _ => 0))))] s.heap.size = A at hD hZ ⊢
  have hA : ∀ q : Nat, s.heap.size ≤ q → A q := fun q h => by rw [← hAe]; exact Or.inr h
  have hS : va_S A s.heap s.heap [] := va_S.rf
  have hl := lv_entry ([.ref x0, .int x, .int y, .ref o9]) (n := 5) (Nat.le_of_ble_eq_true rfl)
  rw [lg_entry_eq]
  generalize (lg_sl ([.ref x0, .int x, .int y, .ref o9]) ++ List.replicate (5 - (lg_sl ([.ref x0, .int x, .int y, .ref o9])).length) Slot.unset).toArray = ls at hl ⊢
  have hl : lv_has ls 5 [(0, .ref x0), (1, .int x), (2, .int y), (3, .ref o9)] := hl
  refine lv_aload_n hx hb dL_follow_0 rfl (lv_at hl 3 rfl) ?_
  refine lv_iconst (v := nI 0) hx hb dL_follow_1 (by decide) ?_
  refine lv_aload_n hx hb dL_follow_2 rfl (lv_at hl 0 rfl) ?_
  refine lv_iload_n hx hb dL_follow_3 rfl (lv_at hl 1 rfl) ?_
  refine lv_iload_n hx hb dL_follow_4 rfl (lv_at hl 2 rfl) ?_
  refine k_cx (A1 := A) (vx_runV (As := [.int x, .int y]) (rest := [.int (nI 0), .ref o9]) ⟨hx, hb, hml, hown, hts⟩ (x_follow0 l hl9 D cI cJ cM cG x0 n q tr N x y s.heap.size (hN) (hb2)) (cwV 2 hts (kB_V (fun _ => List.mem_cons_of_mem _) q_456 q_457 q_458 q_9 (kB_c q_459)) rfl rfl rfl (by decide +kernel) ⟨Nat.le_of_ble_eq_true rfl, Nat.le_of_ble_eq_true rfl⟩) (k_preVX (T := TX6) hZ hR hS hA hP hD hK hKN [0] rfl rfl (ci := 6) rfl (q0 := 0) rfl) rfl rfl hl.1 rfl (lv_room (Nat.le_of_ble_eq_true rfl)) dL_follow_5 ⟨Nat.le_of_ble_eq_true rfl, Nat.le_of_ble_eq_true rfl⟩) hD hS hA [0] rfl (fun ce q9 H1 locs1 hz9 hk9 hS1 hce hcv hcl9 => ?_)
  obtain ⟨hP, hD⟩ := k_rest (wr := [(o9, .inl (cJ, 1, .inr (.inl (fun _ => 0))))]) hP hD [0] [1] rfl rfl rfl (by decide) (va_free hD hS hA [0] rfl) hk9
  have hS := hS1
  obtain ⟨-, -, -, hNc, g0, g1, g2, g3, g4, g5⟩ := id hR
  refine vx_catch (own := RL) (name := "java/lang/IndexOutOfBoundsException") hown [] ⟨0, 10, 13, 13⟩ [] (htab.trans rfl) (fun z h => absurd h List.not_mem_nil) rfl (by decide) (hts (.classLink RL 13 "java/lang/IndexOutOfBoundsException") (List.mem_cons_of_mem _ q_5)) (va_Nw.use rfl g3) hce hcv hcl9 ?_
  refine lv_astore (lv' := [(4, .ref q9), (0, .ref x0), (1, .int x), (2, .int y), (3, .ref o9)]) hx hb dL_follow_13 hl (by decide) rfl (fun ls hl => ?_)
  refine lv_iconst (v := nI 1) hx hb dL_follow_15 (by decide) ?_
  have hP9 := hP.sub (ws' := [(o9, .inl (cJ, 1, .inr (.inl (fun _ => 0))))]) [0] rfl
  have hD9 := hD.sub (ws' := [(o9, .inl (cJ, 1, .inr (.inl (fun _ => 0))))]) [0] rfl rfl
  exact W.iret (v := nI 1) hx hb hr (fun t9 ht9 hW9 => ⟨⟨nI 1, (), rfl, rfl, by rw [ht9]; exact hP9, hD9⟩, hS.F ht9⟩) hS.2.2 dL_follow_16

set_option maxHeartbeats 4000000 in
set_option maxRecDepth 100000 in
theorem x_L_distance0 (l : Launch) (hl9 : l.stackTraces = false) (D : va_G) (cI cJ cM cG : ClassId) (x0 : Nat) (n : Nat → Nat) (q : Nat → Nat) (tr : Nat → Nat) (N : Nat) (x : Int32) (y : Int32) (o9 : Nat) (sz : Nat) (hN : N ≤ 10) (hb2 : kBad2 N x y) : Met l yL_distance (Cond.codeWith yL_distance cL_distance 5 (some .int) [(0, 10, 13, 13)] :: kBig) ({ frames := 9, cells := 1, slots := 6, locals := 147 }) (va_Pc [.ref x0, .int x, .int y, .ref o9] (kX D [(cI, .int), (cJ, .long), (cM, .object "MeshRouting$Message"), (cG, .array .int)] [(x0, .inr (6, [.int (nI N), .ref (n 0), .ref (q 0), .ref (tr 0), .int (nI 0)])), (o9, .inl (cJ, 1, .inr (.inl (fun _ => 0))))] sz)) (va_Qi (fun (r : Int32) (_ : Unit) => r = nI 1) (fun _ t9 => kB D (va_A [(x0, .inr (6, [.int (nI N), .ref (n 0), .ref (q 0), .ref (tr 0), .int (nI 0)])), (o9, .inl (cJ, 1, .inr (.inl (fun _ => 0))))] sz) [(o9, .inl (cJ, 1, .inr (.inl (fun _ => 0))))] t9) (va_A [(x0, .inr (6, [.int (nI N), .ref (n 0), .ref (q 0), .ref (tr 0), .int (nI 0)])), (o9, .inl (cJ, 1, .inr (.inl (fun _ => 0))))] sz)) 1 6 (va_A [(x0, .inr (6, [.int (nI N), .ref (n 0), .ref (q 0), .ref (tr 0), .int (nI 0)])), (o9, .inl (cJ, 1, .inr (.inl (fun _ => 0))))] sz) := by
  refine va_MetW (cc := cL_distance) (maxL := 5) (ret := (some .int)) (hh := [(0, 10, 13, 13)]) (by decide) rfl ?_
  intro p e s m args below meth c s₁ B hml hv
  obtain ⟨rfl, ⟨hsz, hP, hK, hD0, hKN⟩, hZ, hR⟩ := hv
  have hx := B.exec
  have hb := B.bytes
  have hr := B.returns
  have hts := atoms_spec (ws := (Cond.codeWith yL_distance cL_distance 5 (some .int) [(0, 10, 13, 13)] :: kBig)) B.pre
  have hown : s.vm.findClass RL = some m.cls := findClass_of_methodNamed B.named
  have hlocks := B.notSynchronized
  have htab := vx_table (x := yL_distance) B (hts _ List.mem_cons_self)
  subst hsz
  have hD := hD0.self (sz := s.heap.size)
  generalize hAe : va_A [(x0, .inr (6, [.int (nI N), .ref (n 0), .ref (q 0), .ref (tr 0), .int (nI 0)])), (o9, .inl (cJ, 1, .inr (.inl (fun _ => 0))))] s.heap.size = A at hD hZ ⊢
  have hA : ∀ q : Nat, s.heap.size ≤ q → A q := fun q h => by rw [← hAe]; exact Or.inr h
  have hS : va_S A s.heap s.heap [] := va_S.rf
  have hl := lv_entry ([.ref x0, .int x, .int y, .ref o9]) (n := 5) (Nat.le_of_ble_eq_true rfl)
  rw [lg_entry_eq]
  generalize (lg_sl ([.ref x0, .int x, .int y, .ref o9]) ++ List.replicate (5 - (lg_sl ([.ref x0, .int x, .int y, .ref o9])).length) Slot.unset).toArray = ls at hl ⊢
  have hl : lv_has ls 5 [(0, .ref x0), (1, .int x), (2, .int y), (3, .ref o9)] := hl
  refine lv_aload_n hx hb dL_distance_0 rfl (lv_at hl 3 rfl) ?_
  refine lv_iconst (v := nI 0) hx hb dL_distance_1 (by decide) ?_
  refine lv_aload_n hx hb dL_distance_2 rfl (lv_at hl 0 rfl) ?_
  refine lv_iload_n hx hb dL_distance_3 rfl (lv_at hl 1 rfl) ?_
  refine lv_iload_n hx hb dL_distance_4 rfl (lv_at hl 2 rfl) ?_
  refine k_cx (A1 := A) (vx_runV (As := [.int x, .int y]) (rest := [.int (nI 0), .ref o9]) ⟨hx, hb, hml, hown, hts⟩ (x_distance0 l hl9 D cI cJ cM cG x0 n q tr N x y s.heap.size (hN) (hb2)) (cwV 2 hts (kB_V (fun _ => List.mem_cons_of_mem _) q_426 q_427 q_428 q_9 (kB_c q_429)) rfl rfl rfl (by decide +kernel) ⟨Nat.le_of_ble_eq_true rfl, Nat.le_of_ble_eq_true rfl⟩) (k_preVX (T := TX6) hZ hR hS hA hP hD hK hKN [0] rfl rfl (ci := 6) rfl (q0 := 0) rfl) rfl rfl hl.1 rfl (lv_room (Nat.le_of_ble_eq_true rfl)) dL_distance_5 ⟨Nat.le_of_ble_eq_true rfl, Nat.le_of_ble_eq_true rfl⟩) hD hS hA [0] rfl (fun ce q9 H1 locs1 hz9 hk9 hS1 hce hcv hcl9 => ?_)
  obtain ⟨hP, hD⟩ := k_rest (wr := [(o9, .inl (cJ, 1, .inr (.inl (fun _ => 0))))]) hP hD [0] [1] rfl rfl rfl (by decide) (va_free hD hS hA [0] rfl) hk9
  have hS := hS1
  obtain ⟨-, -, -, hNc, g0, g1, g2, g3, g4, g5⟩ := id hR
  refine vx_catch (own := RL) (name := "java/lang/IndexOutOfBoundsException") hown [] ⟨0, 10, 13, 13⟩ [] (htab.trans rfl) (fun z h => absurd h List.not_mem_nil) rfl (by decide) (hts (.classLink RL 13 "java/lang/IndexOutOfBoundsException") (List.mem_cons_of_mem _ q_5)) (va_Nw.use rfl g3) hce hcv hcl9 ?_
  refine lv_astore (lv' := [(4, .ref q9), (0, .ref x0), (1, .int x), (2, .int y), (3, .ref o9)]) hx hb dL_distance_13 hl (by decide) rfl (fun ls hl => ?_)
  refine lv_iconst (v := nI 1) hx hb dL_distance_15 (by decide) ?_
  have hP9 := hP.sub (ws' := [(o9, .inl (cJ, 1, .inr (.inl (fun _ => 0))))]) [0] rfl
  have hD9 := hD.sub (ws' := [(o9, .inl (cJ, 1, .inr (.inl (fun _ => 0))))]) [0] rfl rfl
  exact W.iret (v := nI 1) hx hb hr (fun t9 ht9 hW9 => ⟨⟨nI 1, (), rfl, rfl, by rw [ht9]; exact hP9, hD9⟩, hS.F ht9⟩) hS.2.2 dL_distance_16

set_option maxHeartbeats 4000000 in
set_option maxRecDepth 100000 in
theorem x_L_inFlight0 (l : Launch) (hl9 : l.stackTraces = false) (D : va_G) (cI cJ cM cG : ClassId) (x0 : Nat) (n : Nat → Nat) (q : Nat → Nat) (tr : Nat → Nat) (N : Nat) (z3 : Int32) (o9 : Nat) (sz : Nat) (hN : N ≤ 10) (hz3 : z3 < 0 ∨ nI (3 + 1) ≤ z3) : Met l yL_inFlight (Cond.codeWith yL_inFlight cL_inFlight 4 (some .int) [(0, 9, 12, 13)] :: kBig) ({ frames := 8, cells := 1, slots := 6, locals := 124 }) (va_Pc [.ref x0, .int z3, .ref o9] (kX D [(cI, .int), (cJ, .long), (cM, .object "MeshRouting$Message"), (cG, .array .int)] [(x0, .inr (6, [.int (nI N), .ref (n 0), .ref (q 0), .ref (tr 0), .int (nI 0)])), (o9, .inl (cJ, 1, .inr (.inl (fun _ => 0))))] sz)) (va_Qi (fun (r : Int32) (_ : Unit) => r = nI 1) (fun _ t9 => kB D (va_A [(x0, .inr (6, [.int (nI N), .ref (n 0), .ref (q 0), .ref (tr 0), .int (nI 0)])), (o9, .inl (cJ, 1, .inr (.inl (fun _ => 0))))] sz) [(o9, .inl (cJ, 1, .inr (.inl (fun _ => 0))))] t9) (va_A [(x0, .inr (6, [.int (nI N), .ref (n 0), .ref (q 0), .ref (tr 0), .int (nI 0)])), (o9, .inl (cJ, 1, .inr (.inl (fun _ => 0))))] sz)) 1 6 (va_A [(x0, .inr (6, [.int (nI N), .ref (n 0), .ref (q 0), .ref (tr 0), .int (nI 0)])), (o9, .inl (cJ, 1, .inr (.inl (fun _ => 0))))] sz) := by
  refine va_MetW (cc := cL_inFlight) (maxL := 4) (ret := (some .int)) (hh := [(0, 9, 12, 13)]) (by decide) rfl ?_
  intro p e s m args below meth c s₁ B hml hv
  obtain ⟨rfl, ⟨hsz, hP, hK, hD0, hKN⟩, hZ, hR⟩ := hv
  have hx := B.exec
  have hb := B.bytes
  have hr := B.returns
  have hts := atoms_spec (ws := (Cond.codeWith yL_inFlight cL_inFlight 4 (some .int) [(0, 9, 12, 13)] :: kBig)) B.pre
  have hown : s.vm.findClass RL = some m.cls := findClass_of_methodNamed B.named
  have hlocks := B.notSynchronized
  have htab := vx_table (x := yL_inFlight) B (hts _ List.mem_cons_self)
  subst hsz
  have hD := hD0.self (sz := s.heap.size)
  generalize hAe : va_A [(x0, .inr (6, [.int (nI N), .ref (n 0), .ref (q 0), .ref (tr 0), .int (nI 0)])), (o9, .inl (cJ, 1, .inr (.inl (fun _ => 0))))] s.heap.size = A at hD hZ ⊢
  have hA : ∀ q : Nat, s.heap.size ≤ q → A q := fun q h => by rw [← hAe]; exact Or.inr h
  have hS : va_S A s.heap s.heap [] := va_S.rf
  have hl := lv_entry ([.ref x0, .int z3, .ref o9]) (n := 4) (Nat.le_of_ble_eq_true rfl)
  rw [lg_entry_eq]
  generalize (lg_sl ([.ref x0, .int z3, .ref o9]) ++ List.replicate (4 - (lg_sl ([.ref x0, .int z3, .ref o9])).length) Slot.unset).toArray = ls at hl ⊢
  have hl : lv_has ls 4 [(0, .ref x0), (1, .int z3), (2, .ref o9)] := hl
  refine lv_aload_n hx hb dL_inFlight_0 rfl (lv_at hl 2 rfl) ?_
  refine lv_iconst (v := nI 0) hx hb dL_inFlight_1 (by decide) ?_
  refine lv_aload_n hx hb dL_inFlight_2 rfl (lv_at hl 0 rfl) ?_
  refine lv_iload_n hx hb dL_inFlight_3 rfl (lv_at hl 1 rfl) ?_
  refine k_cx (A1 := A) (vx_runV (As := [.int z3]) (rest := [.int (nI 0), .ref o9]) ⟨hx, hb, hml, hown, hts⟩ (x_inFlight0 l hl9 D cI cJ cM cG x0 n q tr N z3 s.heap.size (hN) (hz3)) (cwV 1 hts (kB_V (fun _ => List.mem_cons_of_mem _) q_487 q_488 q_489 q_9 (kB_c q_490)) rfl rfl rfl (by decide +kernel) ⟨Nat.le_of_ble_eq_true rfl, Nat.le_of_ble_eq_true rfl⟩) (k_preVX (T := TX6) hZ hR hS hA hP hD hK hKN [0] rfl rfl (ci := 6) rfl (q0 := 0) rfl) rfl rfl hl.1 rfl (lv_room (Nat.le_of_ble_eq_true rfl)) dL_inFlight_4 ⟨Nat.le_of_ble_eq_true rfl, Nat.le_of_ble_eq_true rfl⟩) hD hS hA [0] rfl (fun ce q9 H1 locs1 hz9 hk9 hS1 hce hcv hcl9 => ?_)
  obtain ⟨hP, hD⟩ := k_rest (wr := [(o9, .inl (cJ, 1, .inr (.inl (fun _ => 0))))]) hP hD [0] [1] rfl rfl rfl (by decide) (va_free hD hS hA [0] rfl) hk9
  have hS := hS1
  obtain ⟨-, -, -, hNc, g0, g1, g2, g3, g4, g5⟩ := id hR
  refine vx_catch (own := RL) (name := "java/lang/IndexOutOfBoundsException") hown [] ⟨0, 9, 12, 13⟩ [] (htab.trans rfl) (fun z h => absurd h List.not_mem_nil) rfl (by decide) (hts (.classLink RL 13 "java/lang/IndexOutOfBoundsException") (List.mem_cons_of_mem _ q_5)) (va_Nw.use rfl g3) hce hcv hcl9 ?_
  refine lv_astore_n (lv' := [(3, .ref q9), (0, .ref x0), (1, .int z3), (2, .ref o9)]) hx hb dL_inFlight_12 rfl hl (by decide) rfl (fun ls hl => ?_)
  refine lv_iconst (v := nI 1) hx hb dL_inFlight_13 (by decide) ?_
  have hP9 := hP.sub (ws' := [(o9, .inl (cJ, 1, .inr (.inl (fun _ => 0))))]) [0] rfl
  have hD9 := hD.sub (ws' := [(o9, .inl (cJ, 1, .inr (.inl (fun _ => 0))))]) [0] rfl rfl
  exact W.iret (v := nI 1) hx hb hr (fun t9 ht9 hW9 => ⟨⟨nI 1, (), rfl, rfl, by rw [ht9]; exact hP9, hD9⟩, hS.F ht9⟩) hS.2.2 dL_inFlight_14

set_option maxHeartbeats 4000000 in
set_option maxRecDepth 100000 in
theorem x_L_sent0 (l : Launch) (hl9 : l.stackTraces = false) (D : va_G) (cI cJ cM cG : ClassId) (x0 : Nat) (n : Nat → Nat) (q : Nat → Nat) (tr : Nat → Nat) (N : Nat) (z3 : Int32) (o9 : Nat) (sz : Nat) (hN : N ≤ 10) (hz3 : z3 < 0 ∨ nI (3 + 1) ≤ z3) : Met l yL_sent (Cond.codeWith yL_sent cL_sent 4 (some .int) [(0, 9, 12, 13)] :: kBig) ({ frames := 8, cells := 1, slots := 6, locals := 124 }) (va_Pc [.ref x0, .int z3, .ref o9] (kX D [(cI, .int), (cJ, .long), (cM, .object "MeshRouting$Message"), (cG, .array .int)] [(x0, .inr (6, [.int (nI N), .ref (n 0), .ref (q 0), .ref (tr 0), .int (nI 0)])), (o9, .inl (cJ, 1, .inr (.inl (fun _ => 0))))] sz)) (va_Qi (fun (r : Int32) (_ : Unit) => r = nI 1) (fun _ t9 => kB D (va_A [(x0, .inr (6, [.int (nI N), .ref (n 0), .ref (q 0), .ref (tr 0), .int (nI 0)])), (o9, .inl (cJ, 1, .inr (.inl (fun _ => 0))))] sz) [(o9, .inl (cJ, 1, .inr (.inl (fun _ => 0))))] t9) (va_A [(x0, .inr (6, [.int (nI N), .ref (n 0), .ref (q 0), .ref (tr 0), .int (nI 0)])), (o9, .inl (cJ, 1, .inr (.inl (fun _ => 0))))] sz)) 1 6 (va_A [(x0, .inr (6, [.int (nI N), .ref (n 0), .ref (q 0), .ref (tr 0), .int (nI 0)])), (o9, .inl (cJ, 1, .inr (.inl (fun _ => 0))))] sz) := by
  refine va_MetW (cc := cL_sent) (maxL := 4) (ret := (some .int)) (hh := [(0, 9, 12, 13)]) (by decide) rfl ?_
  intro p e s m args below meth c s₁ B hml hv
  obtain ⟨rfl, ⟨hsz, hP, hK, hD0, hKN⟩, hZ, hR⟩ := hv
  have hx := B.exec
  have hb := B.bytes
  have hr := B.returns
  have hts := atoms_spec (ws := (Cond.codeWith yL_sent cL_sent 4 (some .int) [(0, 9, 12, 13)] :: kBig)) B.pre
  have hown : s.vm.findClass RL = some m.cls := findClass_of_methodNamed B.named
  have hlocks := B.notSynchronized
  have htab := vx_table (x := yL_sent) B (hts _ List.mem_cons_self)
  subst hsz
  have hD := hD0.self (sz := s.heap.size)
  generalize hAe : va_A [(x0, .inr (6, [.int (nI N), .ref (n 0), .ref (q 0), .ref (tr 0), .int (nI 0)])), (o9, .inl (cJ, 1, .inr (.inl (fun _ => 0))))] s.heap.size = A at hD hZ ⊢
  have hA : ∀ q : Nat, s.heap.size ≤ q → A q := fun q h => by rw [← hAe]; exact Or.inr h
  have hS : va_S A s.heap s.heap [] := va_S.rf
  have hl := lv_entry ([.ref x0, .int z3, .ref o9]) (n := 4) (Nat.le_of_ble_eq_true rfl)
  rw [lg_entry_eq]
  generalize (lg_sl ([.ref x0, .int z3, .ref o9]) ++ List.replicate (4 - (lg_sl ([.ref x0, .int z3, .ref o9])).length) Slot.unset).toArray = ls at hl ⊢
  have hl : lv_has ls 4 [(0, .ref x0), (1, .int z3), (2, .ref o9)] := hl
  refine lv_aload_n hx hb dL_sent_0 rfl (lv_at hl 2 rfl) ?_
  refine lv_iconst (v := nI 0) hx hb dL_sent_1 (by decide) ?_
  refine lv_aload_n hx hb dL_sent_2 rfl (lv_at hl 0 rfl) ?_
  refine lv_iload_n hx hb dL_sent_3 rfl (lv_at hl 1 rfl) ?_
  refine k_cx (A1 := A) (vx_runV (As := [.int z3]) (rest := [.int (nI 0), .ref o9]) ⟨hx, hb, hml, hown, hts⟩ (x_sent0 l hl9 D cI cJ cM cG x0 n q tr N z3 s.heap.size (hN) (hz3)) (cwV 1 hts (kB_V (fun _ => List.mem_cons_of_mem _) q_549 q_550 q_551 q_9 (kB_c q_552)) rfl rfl rfl (by decide +kernel) ⟨Nat.le_of_ble_eq_true rfl, Nat.le_of_ble_eq_true rfl⟩) (k_preVX (T := TX6) hZ hR hS hA hP hD hK hKN [0] rfl rfl (ci := 6) rfl (q0 := 0) rfl) rfl rfl hl.1 rfl (lv_room (Nat.le_of_ble_eq_true rfl)) dL_sent_4 ⟨Nat.le_of_ble_eq_true rfl, Nat.le_of_ble_eq_true rfl⟩) hD hS hA [0] rfl (fun ce q9 H1 locs1 hz9 hk9 hS1 hce hcv hcl9 => ?_)
  obtain ⟨hP, hD⟩ := k_rest (wr := [(o9, .inl (cJ, 1, .inr (.inl (fun _ => 0))))]) hP hD [0] [1] rfl rfl rfl (by decide) (va_free hD hS hA [0] rfl) hk9
  have hS := hS1
  obtain ⟨-, -, -, hNc, g0, g1, g2, g3, g4, g5⟩ := id hR
  refine vx_catch (own := RL) (name := "java/lang/IndexOutOfBoundsException") hown [] ⟨0, 9, 12, 13⟩ [] (htab.trans rfl) (fun z h => absurd h List.not_mem_nil) rfl (by decide) (hts (.classLink RL 13 "java/lang/IndexOutOfBoundsException") (List.mem_cons_of_mem _ q_5)) (va_Nw.use rfl g3) hce hcv hcl9 ?_
  refine lv_astore_n (lv' := [(3, .ref q9), (0, .ref x0), (1, .int z3), (2, .ref o9)]) hx hb dL_sent_12 rfl hl (by decide) rfl (fun ls hl => ?_)
  refine lv_iconst (v := nI 1) hx hb dL_sent_13 (by decide) ?_
  have hP9 := hP.sub (ws' := [(o9, .inl (cJ, 1, .inr (.inl (fun _ => 0))))]) [0] rfl
  have hD9 := hD.sub (ws' := [(o9, .inl (cJ, 1, .inr (.inl (fun _ => 0))))]) [0] rfl rfl
  exact W.iret (v := nI 1) hx hb hr (fun t9 ht9 hW9 => ⟨⟨nI 1, (), rfl, rfl, by rw [ht9]; exact hP9, hD9⟩, hS.F ht9⟩) hS.2.2 dL_sent_14

set_option maxHeartbeats 4000000 in
set_option maxRecDepth 100000 in
theorem x_L_packets0 (l : Launch) (hl9 : l.stackTraces = false) (D : va_G) (cI cJ cM cG : ClassId) (x0 : Nat) (n : Nat → Nat) (q : Nat → Nat) (tr : Nat → Nat) (N : Nat) (z3 : Int32) (o9 : Nat) (sz : Nat) (hN : N ≤ 10) (hz3 : z3 < 0 ∨ nI (3 + 1) ≤ z3) : Met l yL_packets (Cond.codeWith yL_packets cL_packets 4 (some .int) [(0, 9, 12, 13)] :: kBig) ({ frames := 8, cells := 1, slots := 6, locals := 124 }) (va_Pc [.ref x0, .int z3, .ref o9] (kX D [(cI, .int), (cJ, .long), (cM, .object "MeshRouting$Message"), (cG, .array .int)] [(x0, .inr (6, [.int (nI N), .ref (n 0), .ref (q 0), .ref (tr 0), .int (nI 0)])), (o9, .inl (cJ, 1, .inr (.inl (fun _ => 0))))] sz)) (va_Qi (fun (r : Int32) (_ : Unit) => r = nI 1) (fun _ t9 => kB D (va_A [(x0, .inr (6, [.int (nI N), .ref (n 0), .ref (q 0), .ref (tr 0), .int (nI 0)])), (o9, .inl (cJ, 1, .inr (.inl (fun _ => 0))))] sz) [(o9, .inl (cJ, 1, .inr (.inl (fun _ => 0))))] t9) (va_A [(x0, .inr (6, [.int (nI N), .ref (n 0), .ref (q 0), .ref (tr 0), .int (nI 0)])), (o9, .inl (cJ, 1, .inr (.inl (fun _ => 0))))] sz)) 1 6 (va_A [(x0, .inr (6, [.int (nI N), .ref (n 0), .ref (q 0), .ref (tr 0), .int (nI 0)])), (o9, .inl (cJ, 1, .inr (.inl (fun _ => 0))))] sz) := by
  refine va_MetW (cc := cL_packets) (maxL := 4) (ret := (some .int)) (hh := [(0, 9, 12, 13)]) (by decide) rfl ?_
  intro p e s m args below meth c s₁ B hml hv
  obtain ⟨rfl, ⟨hsz, hP, hK, hD0, hKN⟩, hZ, hR⟩ := hv
  have hx := B.exec
  have hb := B.bytes
  have hr := B.returns
  have hts := atoms_spec (ws := (Cond.codeWith yL_packets cL_packets 4 (some .int) [(0, 9, 12, 13)] :: kBig)) B.pre
  have hown : s.vm.findClass RL = some m.cls := findClass_of_methodNamed B.named
  have hlocks := B.notSynchronized
  have htab := vx_table (x := yL_packets) B (hts _ List.mem_cons_self)
  subst hsz
  have hD := hD0.self (sz := s.heap.size)
  generalize hAe : va_A [(x0, .inr (6, [.int (nI N), .ref (n 0), .ref (q 0), .ref (tr 0), .int (nI 0)])), (o9, .inl (cJ, 1, .inr (.inl (fun _ => 0))))] s.heap.size = A at hD hZ ⊢
  have hA : ∀ q : Nat, s.heap.size ≤ q → A q := fun q h => by rw [← hAe]; exact Or.inr h
  have hS : va_S A s.heap s.heap [] := va_S.rf
  have hl := lv_entry ([.ref x0, .int z3, .ref o9]) (n := 4) (Nat.le_of_ble_eq_true rfl)
  rw [lg_entry_eq]
  generalize (lg_sl ([.ref x0, .int z3, .ref o9]) ++ List.replicate (4 - (lg_sl ([.ref x0, .int z3, .ref o9])).length) Slot.unset).toArray = ls at hl ⊢
  have hl : lv_has ls 4 [(0, .ref x0), (1, .int z3), (2, .ref o9)] := hl
  refine lv_aload_n hx hb dL_packets_0 rfl (lv_at hl 2 rfl) ?_
  refine lv_iconst (v := nI 0) hx hb dL_packets_1 (by decide) ?_
  refine lv_aload_n hx hb dL_packets_2 rfl (lv_at hl 0 rfl) ?_
  refine lv_iload_n hx hb dL_packets_3 rfl (lv_at hl 1 rfl) ?_
  refine k_cx (A1 := A) (vx_runV (As := [.int z3]) (rest := [.int (nI 0), .ref o9]) ⟨hx, hb, hml, hown, hts⟩ (x_packets0 l hl9 D cI cJ cM cG x0 n q tr N z3 s.heap.size (hN) (hz3)) (cwV 1 hts (kB_V (fun _ => List.mem_cons_of_mem _) q_518 q_519 q_520 q_9 (kB_c q_521)) rfl rfl rfl (by decide +kernel) ⟨Nat.le_of_ble_eq_true rfl, Nat.le_of_ble_eq_true rfl⟩) (k_preVX (T := TX6) hZ hR hS hA hP hD hK hKN [0] rfl rfl (ci := 6) rfl (q0 := 0) rfl) rfl rfl hl.1 rfl (lv_room (Nat.le_of_ble_eq_true rfl)) dL_packets_4 ⟨Nat.le_of_ble_eq_true rfl, Nat.le_of_ble_eq_true rfl⟩) hD hS hA [0] rfl (fun ce q9 H1 locs1 hz9 hk9 hS1 hce hcv hcl9 => ?_)
  obtain ⟨hP, hD⟩ := k_rest (wr := [(o9, .inl (cJ, 1, .inr (.inl (fun _ => 0))))]) hP hD [0] [1] rfl rfl rfl (by decide) (va_free hD hS hA [0] rfl) hk9
  have hS := hS1
  obtain ⟨-, -, -, hNc, g0, g1, g2, g3, g4, g5⟩ := id hR
  refine vx_catch (own := RL) (name := "java/lang/IndexOutOfBoundsException") hown [] ⟨0, 9, 12, 13⟩ [] (htab.trans rfl) (fun z h => absurd h List.not_mem_nil) rfl (by decide) (hts (.classLink RL 13 "java/lang/IndexOutOfBoundsException") (List.mem_cons_of_mem _ q_5)) (va_Nw.use rfl g3) hce hcv hcl9 ?_
  refine lv_astore_n (lv' := [(3, .ref q9), (0, .ref x0), (1, .int z3), (2, .ref o9)]) hx hb dL_packets_12 rfl hl (by decide) rfl (fun ls hl => ?_)
  refine lv_iconst (v := nI 1) hx hb dL_packets_13 (by decide) ?_
  have hP9 := hP.sub (ws' := [(o9, .inl (cJ, 1, .inr (.inl (fun _ => 0))))]) [0] rfl
  have hD9 := hD.sub (ws' := [(o9, .inl (cJ, 1, .inr (.inl (fun _ => 0))))]) [0] rfl rfl
  exact W.iret (v := nI 1) hx hb hr (fun t9 ht9 hW9 => ⟨⟨nI 1, (), rfl, rfl, by rw [ht9]; exact hP9, hD9⟩, hS.F ht9⟩) hS.2.2 dL_packets_14

set_option maxHeartbeats 4000000 in
set_option maxRecDepth 100000 in
theorem x_L_stateOf0 (l : Launch) (hl9 : l.stackTraces = false) (D : va_G) (cI cJ cM cG : ClassId) (x0 : Nat) (n : Nat → Nat) (q : Nat → Nat) (tr : Nat → Nat) (N : Nat) (z3 : Int32) (o9 : Nat) (sz : Nat) (hN : N ≤ 10) : Met l yL_stateOf (Cond.codeWith yL_stateOf cL_stateOf 4 (some .int) [(0, 9, 12, 13)] :: kBig) ({ frames := 8, cells := 1, slots := 6, locals := 124 }) (va_Pc [.ref x0, .int z3, .ref o9] (kX D [(cI, .int), (cJ, .long), (cM, .object "MeshRouting$Message"), (cG, .array .int)] [(x0, .inr (6, [.int (nI N), .ref (n 0), .ref (q 0), .ref (tr 0), .int (nI 0)])), (n 0, .inr (2, [.int (nI N), .int (nI 0), .ref (n 1), .ref (n 2), .ref (n 3), .ref (n 9), .ref (n 16), .ref (n 23), .int (nI 0), .ref (n 32), .int (nI 0), .ref (n 33)])), (n 23, .inr (3, [.int (nI 0), .ref (n 24), .ref (n 25), .ref (n 26), .ref (n 27), .ref (n 28), .ref (n 29), .ref (n 30), .ref (n 31)])), (o9, .inl (cJ, 1, .inr (.inl (fun _ => 0))))] sz)) (va_Qi (fun (r : Int32) (_ : Unit) => r = nI 1) (fun _ t9 => kB D (va_A [(x0, .inr (6, [.int (nI N), .ref (n 0), .ref (q 0), .ref (tr 0), .int (nI 0)])), (n 0, .inr (2, [.int (nI N), .int (nI 0), .ref (n 1), .ref (n 2), .ref (n 3), .ref (n 9), .ref (n 16), .ref (n 23), .int (nI 0), .ref (n 32), .int (nI 0), .ref (n 33)])), (n 23, .inr (3, [.int (nI 0), .ref (n 24), .ref (n 25), .ref (n 26), .ref (n 27), .ref (n 28), .ref (n 29), .ref (n 30), .ref (n 31)])), (o9, .inl (cJ, 1, .inr (.inl (fun _ => 0))))] sz) [(o9, .inl (cJ, 1, .inr (.inl (fun _ => 0))))] t9) (va_A [(x0, .inr (6, [.int (nI N), .ref (n 0), .ref (q 0), .ref (tr 0), .int (nI 0)])), (n 0, .inr (2, [.int (nI N), .int (nI 0), .ref (n 1), .ref (n 2), .ref (n 3), .ref (n 9), .ref (n 16), .ref (n 23), .int (nI 0), .ref (n 32), .int (nI 0), .ref (n 33)])), (n 23, .inr (3, [.int (nI 0), .ref (n 24), .ref (n 25), .ref (n 26), .ref (n 27), .ref (n 28), .ref (n 29), .ref (n 30), .ref (n 31)])), (o9, .inl (cJ, 1, .inr (.inl (fun _ => 0))))] sz)) 1 6 (va_A [(x0, .inr (6, [.int (nI N), .ref (n 0), .ref (q 0), .ref (tr 0), .int (nI 0)])), (n 0, .inr (2, [.int (nI N), .int (nI 0), .ref (n 1), .ref (n 2), .ref (n 3), .ref (n 9), .ref (n 16), .ref (n 23), .int (nI 0), .ref (n 32), .int (nI 0), .ref (n 33)])), (n 23, .inr (3, [.int (nI 0), .ref (n 24), .ref (n 25), .ref (n 26), .ref (n 27), .ref (n 28), .ref (n 29), .ref (n 30), .ref (n 31)])), (o9, .inl (cJ, 1, .inr (.inl (fun _ => 0))))] sz) := by
  refine va_MetW (cc := cL_stateOf) (maxL := 4) (ret := (some .int)) (hh := [(0, 9, 12, 13)]) (by decide) rfl ?_
  intro p e s m args below meth c s₁ B hml hv
  obtain ⟨rfl, ⟨hsz, hP, hK, hD0, hKN⟩, hZ, hR⟩ := hv
  have hx := B.exec
  have hb := B.bytes
  have hr := B.returns
  have hts := atoms_spec (ws := (Cond.codeWith yL_stateOf cL_stateOf 4 (some .int) [(0, 9, 12, 13)] :: kBig)) B.pre
  have hown : s.vm.findClass RL = some m.cls := findClass_of_methodNamed B.named
  have hlocks := B.notSynchronized
  have htab := vx_table (x := yL_stateOf) B (hts _ List.mem_cons_self)
  subst hsz
  have hD := hD0.self (sz := s.heap.size)
  generalize hAe : va_A [(x0, .inr (6, [.int (nI N), .ref (n 0), .ref (q 0), .ref (tr 0), .int (nI 0)])), (n 0, .inr (2, [.int (nI N), .int (nI 0), .ref (n 1), .ref (n 2), .ref (n 3), .ref (n 9), .ref (n 16), .ref (n 23), .int (nI 0), .ref (n 32), .int (nI 0), .ref (n 33)])), (n 23, .inr (3, [.int (nI 0), .ref (n 24), .ref (n 25), .ref (n 26), .ref (n 27), .ref (n 28), .ref (n 29), .ref (n 30), .ref (n 31)])), (o9, .inl (cJ, 1, .inr (.inl (fun _ => 0))))] s.heap.size = A at hD hZ ⊢
  have hA : ∀ q : Nat, s.heap.size ≤ q → A q := fun q h => by rw [← hAe]; exact Or.inr h
  have hS : va_S A s.heap s.heap [] := va_S.rf
  have hl := lv_entry ([.ref x0, .int z3, .ref o9]) (n := 4) (Nat.le_of_ble_eq_true rfl)
  rw [lg_entry_eq]
  generalize (lg_sl ([.ref x0, .int z3, .ref o9]) ++ List.replicate (4 - (lg_sl ([.ref x0, .int z3, .ref o9])).length) Slot.unset).toArray = ls at hl ⊢
  have hl : lv_has ls 4 [(0, .ref x0), (1, .int z3), (2, .ref o9)] := hl
  refine lv_aload_n hx hb dL_stateOf_0 rfl (lv_at hl 2 rfl) ?_
  refine lv_iconst (v := nI 0) hx hb dL_stateOf_1 (by decide) ?_
  refine lv_aload_n hx hb dL_stateOf_2 rfl (lv_at hl 0 rfl) ?_
  refine lv_iload_n hx hb dL_stateOf_3 rfl (lv_at hl 1 rfl) ?_
  refine k_cx (A1 := A) (vx_runV (As := [.int z3]) (rest := [.int (nI 0), .ref o9]) ⟨hx, hb, hml, hown, hts⟩ (x_stateOf0 l hl9 D cI cJ cM cG x0 n q tr N z3 s.heap.size (hN)) (cwV 1 hts (kB_V (fun _ => List.mem_cons_of_mem _) q_577 q_578 q_579 q_9 (kB_c q_580)) rfl rfl rfl (by decide +kernel) ⟨Nat.le_of_ble_eq_true rfl, Nat.le_of_ble_eq_true rfl⟩) (k_preVX (T := TX6) hZ hR hS hA hP hD hK hKN [0, 1, 2] rfl rfl (ci := 6) rfl (q0 := 0) rfl) rfl rfl hl.1 rfl (lv_room (Nat.le_of_ble_eq_true rfl)) dL_stateOf_4 ⟨Nat.le_of_ble_eq_true rfl, Nat.le_of_ble_eq_true rfl⟩) hD hS hA [0, 1, 2] rfl (fun ce q9 H1 locs1 hz9 hk9 hS1 hce hcv hcl9 => ?_)
  obtain ⟨hP, hD⟩ := k_rest (wr := [(o9, .inl (cJ, 1, .inr (.inl (fun _ => 0))))]) hP hD [0, 1, 2] [3] rfl rfl rfl (by decide) (va_free hD hS hA [0, 1, 2] rfl) hk9
  have hS := hS1
  obtain ⟨-, -, -, hNc, g0, g1, g2, g3, g4, g5⟩ := id hR
  refine vx_catch (own := RL) (name := "java/lang/IndexOutOfBoundsException") hown [] ⟨0, 9, 12, 13⟩ [] (htab.trans rfl) (fun z h => absurd h List.not_mem_nil) rfl (by decide) (hts (.classLink RL 13 "java/lang/IndexOutOfBoundsException") (List.mem_cons_of_mem _ q_5)) (va_Nw.use rfl g3) hce hcv hcl9 ?_
  refine lv_astore_n (lv' := [(3, .ref q9), (0, .ref x0), (1, .int z3), (2, .ref o9)]) hx hb dL_stateOf_12 rfl hl (by decide) rfl (fun ls hl => ?_)
  refine lv_iconst (v := nI 1) hx hb dL_stateOf_13 (by decide) ?_
  have hP9 := hP.sub (ws' := [(o9, .inl (cJ, 1, .inr (.inl (fun _ => 0))))]) [0] rfl
  have hD9 := hD.sub (ws' := [(o9, .inl (cJ, 1, .inr (.inl (fun _ => 0))))]) [0] rfl rfl
  exact W.iret (v := nI 1) hx hb hr (fun t9 ht9 hW9 => ⟨⟨nI 1, (), rfl, rfl, by rw [ht9]; exact hP9, hD9⟩, hS.F ht9⟩) hS.2.2 dL_stateOf_14

set_option maxHeartbeats 4000000 in
set_option maxRecDepth 100000 in
theorem x_L_nodeOf0 (l : Launch) (hl9 : l.stackTraces = false) (D : va_G) (cI cJ cM cG : ClassId) (x0 : Nat) (n : Nat → Nat) (q : Nat → Nat) (tr : Nat → Nat) (N : Nat) (z3 : Int32) (o9 : Nat) (sz : Nat) (hN : N ≤ 10) : Met l yL_nodeOf (Cond.codeWith yL_nodeOf cL_nodeOf 4 (some .int) [(0, 9, 12, 13)] :: kBig) ({ frames := 8, cells := 1, slots := 6, locals := 124 }) (va_Pc [.ref x0, .int z3, .ref o9] (kX D [(cI, .int), (cJ, .long), (cM, .object "MeshRouting$Message"), (cG, .array .int)] [(x0, .inr (6, [.int (nI N), .ref (n 0), .ref (q 0), .ref (tr 0), .int (nI 0)])), (n 0, .inr (2, [.int (nI N), .int (nI 0), .ref (n 1), .ref (n 2), .ref (n 3), .ref (n 9), .ref (n 16), .ref (n 23), .int (nI 0), .ref (n 32), .int (nI 0), .ref (n 33)])), (n 23, .inr (3, [.int (nI 0), .ref (n 24), .ref (n 25), .ref (n 26), .ref (n 27), .ref (n 28), .ref (n 29), .ref (n 30), .ref (n 31)])), (o9, .inl (cJ, 1, .inr (.inl (fun _ => 0))))] sz)) (va_Qi (fun (r : Int32) (_ : Unit) => r = nI 1) (fun _ t9 => kB D (va_A [(x0, .inr (6, [.int (nI N), .ref (n 0), .ref (q 0), .ref (tr 0), .int (nI 0)])), (n 0, .inr (2, [.int (nI N), .int (nI 0), .ref (n 1), .ref (n 2), .ref (n 3), .ref (n 9), .ref (n 16), .ref (n 23), .int (nI 0), .ref (n 32), .int (nI 0), .ref (n 33)])), (n 23, .inr (3, [.int (nI 0), .ref (n 24), .ref (n 25), .ref (n 26), .ref (n 27), .ref (n 28), .ref (n 29), .ref (n 30), .ref (n 31)])), (o9, .inl (cJ, 1, .inr (.inl (fun _ => 0))))] sz) [(o9, .inl (cJ, 1, .inr (.inl (fun _ => 0))))] t9) (va_A [(x0, .inr (6, [.int (nI N), .ref (n 0), .ref (q 0), .ref (tr 0), .int (nI 0)])), (n 0, .inr (2, [.int (nI N), .int (nI 0), .ref (n 1), .ref (n 2), .ref (n 3), .ref (n 9), .ref (n 16), .ref (n 23), .int (nI 0), .ref (n 32), .int (nI 0), .ref (n 33)])), (n 23, .inr (3, [.int (nI 0), .ref (n 24), .ref (n 25), .ref (n 26), .ref (n 27), .ref (n 28), .ref (n 29), .ref (n 30), .ref (n 31)])), (o9, .inl (cJ, 1, .inr (.inl (fun _ => 0))))] sz)) 1 6 (va_A [(x0, .inr (6, [.int (nI N), .ref (n 0), .ref (q 0), .ref (tr 0), .int (nI 0)])), (n 0, .inr (2, [.int (nI N), .int (nI 0), .ref (n 1), .ref (n 2), .ref (n 3), .ref (n 9), .ref (n 16), .ref (n 23), .int (nI 0), .ref (n 32), .int (nI 0), .ref (n 33)])), (n 23, .inr (3, [.int (nI 0), .ref (n 24), .ref (n 25), .ref (n 26), .ref (n 27), .ref (n 28), .ref (n 29), .ref (n 30), .ref (n 31)])), (o9, .inl (cJ, 1, .inr (.inl (fun _ => 0))))] sz) := by
  refine va_MetW (cc := cL_nodeOf) (maxL := 4) (ret := (some .int)) (hh := [(0, 9, 12, 13)]) (by decide) rfl ?_
  intro p e s m args below meth c s₁ B hml hv
  obtain ⟨rfl, ⟨hsz, hP, hK, hD0, hKN⟩, hZ, hR⟩ := hv
  have hx := B.exec
  have hb := B.bytes
  have hr := B.returns
  have hts := atoms_spec (ws := (Cond.codeWith yL_nodeOf cL_nodeOf 4 (some .int) [(0, 9, 12, 13)] :: kBig)) B.pre
  have hown : s.vm.findClass RL = some m.cls := findClass_of_methodNamed B.named
  have hlocks := B.notSynchronized
  have htab := vx_table (x := yL_nodeOf) B (hts _ List.mem_cons_self)
  subst hsz
  have hD := hD0.self (sz := s.heap.size)
  generalize hAe : va_A [(x0, .inr (6, [.int (nI N), .ref (n 0), .ref (q 0), .ref (tr 0), .int (nI 0)])), (n 0, .inr (2, [.int (nI N), .int (nI 0), .ref (n 1), .ref (n 2), .ref (n 3), .ref (n 9), .ref (n 16), .ref (n 23), .int (nI 0), .ref (n 32), .int (nI 0), .ref (n 33)])), (n 23, .inr (3, [.int (nI 0), .ref (n 24), .ref (n 25), .ref (n 26), .ref (n 27), .ref (n 28), .ref (n 29), .ref (n 30), .ref (n 31)])), (o9, .inl (cJ, 1, .inr (.inl (fun _ => 0))))] s.heap.size = A at hD hZ ⊢
  have hA : ∀ q : Nat, s.heap.size ≤ q → A q := fun q h => by rw [← hAe]; exact Or.inr h
  have hS : va_S A s.heap s.heap [] := va_S.rf
  have hl := lv_entry ([.ref x0, .int z3, .ref o9]) (n := 4) (Nat.le_of_ble_eq_true rfl)
  rw [lg_entry_eq]
  generalize (lg_sl ([.ref x0, .int z3, .ref o9]) ++ List.replicate (4 - (lg_sl ([.ref x0, .int z3, .ref o9])).length) Slot.unset).toArray = ls at hl ⊢
  have hl : lv_has ls 4 [(0, .ref x0), (1, .int z3), (2, .ref o9)] := hl
  refine lv_aload_n hx hb dL_nodeOf_0 rfl (lv_at hl 2 rfl) ?_
  refine lv_iconst (v := nI 0) hx hb dL_nodeOf_1 (by decide) ?_
  refine lv_aload_n hx hb dL_nodeOf_2 rfl (lv_at hl 0 rfl) ?_
  refine lv_iload_n hx hb dL_nodeOf_3 rfl (lv_at hl 1 rfl) ?_
  refine k_cx (A1 := A) (vx_runV (As := [.int z3]) (rest := [.int (nI 0), .ref o9]) ⟨hx, hb, hml, hown, hts⟩ (x_nodeOf0 l hl9 D cI cJ cM cG x0 n q tr N z3 s.heap.size (hN)) (cwV 1 hts (kB_V (fun _ => List.mem_cons_of_mem _) q_512 q_513 q_514 q_9 (kB_c q_515)) rfl rfl rfl (by decide +kernel) ⟨Nat.le_of_ble_eq_true rfl, Nat.le_of_ble_eq_true rfl⟩) (k_preVX (T := TX6) hZ hR hS hA hP hD hK hKN [0, 1, 2] rfl rfl (ci := 6) rfl (q0 := 0) rfl) rfl rfl hl.1 rfl (lv_room (Nat.le_of_ble_eq_true rfl)) dL_nodeOf_4 ⟨Nat.le_of_ble_eq_true rfl, Nat.le_of_ble_eq_true rfl⟩) hD hS hA [0, 1, 2] rfl (fun ce q9 H1 locs1 hz9 hk9 hS1 hce hcv hcl9 => ?_)
  obtain ⟨hP, hD⟩ := k_rest (wr := [(o9, .inl (cJ, 1, .inr (.inl (fun _ => 0))))]) hP hD [0, 1, 2] [3] rfl rfl rfl (by decide) (va_free hD hS hA [0, 1, 2] rfl) hk9
  have hS := hS1
  obtain ⟨-, -, -, hNc, g0, g1, g2, g3, g4, g5⟩ := id hR
  refine vx_catch (own := RL) (name := "java/lang/IndexOutOfBoundsException") hown [] ⟨0, 9, 12, 13⟩ [] (htab.trans rfl) (fun z h => absurd h List.not_mem_nil) rfl (by decide) (hts (.classLink RL 13 "java/lang/IndexOutOfBoundsException") (List.mem_cons_of_mem _ q_5)) (va_Nw.use rfl g3) hce hcv hcl9 ?_
  refine lv_astore_n (lv' := [(3, .ref q9), (0, .ref x0), (1, .int z3), (2, .ref o9)]) hx hb dL_nodeOf_12 rfl hl (by decide) rfl (fun ls hl => ?_)
  refine lv_iconst (v := nI 1) hx hb dL_nodeOf_13 (by decide) ?_
  have hP9 := hP.sub (ws' := [(o9, .inl (cJ, 1, .inr (.inl (fun _ => 0))))]) [0] rfl
  have hD9 := hD.sub (ws' := [(o9, .inl (cJ, 1, .inr (.inl (fun _ => 0))))]) [0] rfl rfl
  exact W.iret (v := nI 1) hx hb hr (fun t9 ht9 hW9 => ⟨⟨nI 1, (), rfl, rfl, by rw [ht9]; exact hP9, hD9⟩, hS.F ht9⟩) hS.2.2 dL_nodeOf_14

set_option maxHeartbeats 4000000 in
set_option maxRecDepth 100000 in
theorem x_L_hopsOf0 (l : Launch) (hl9 : l.stackTraces = false) (D : va_G) (cI cJ cM cG : ClassId) (x0 : Nat) (n : Nat → Nat) (q : Nat → Nat) (tr : Nat → Nat) (N : Nat) (z3 : Int32) (o9 : Nat) (sz : Nat) (hN : N ≤ 10) : Met l yL_hopsOf (Cond.codeWith yL_hopsOf cL_hopsOf 4 (some .int) [(0, 9, 12, 13)] :: kBig) ({ frames := 8, cells := 1, slots := 6, locals := 124 }) (va_Pc [.ref x0, .int z3, .ref o9] (kX D [(cI, .int), (cJ, .long), (cM, .object "MeshRouting$Message"), (cG, .array .int)] [(x0, .inr (6, [.int (nI N), .ref (n 0), .ref (q 0), .ref (tr 0), .int (nI 0)])), (n 0, .inr (2, [.int (nI N), .int (nI 0), .ref (n 1), .ref (n 2), .ref (n 3), .ref (n 9), .ref (n 16), .ref (n 23), .int (nI 0), .ref (n 32), .int (nI 0), .ref (n 33)])), (n 23, .inr (3, [.int (nI 0), .ref (n 24), .ref (n 25), .ref (n 26), .ref (n 27), .ref (n 28), .ref (n 29), .ref (n 30), .ref (n 31)])), (o9, .inl (cJ, 1, .inr (.inl (fun _ => 0))))] sz)) (va_Qi (fun (r : Int32) (_ : Unit) => r = nI 1) (fun _ t9 => kB D (va_A [(x0, .inr (6, [.int (nI N), .ref (n 0), .ref (q 0), .ref (tr 0), .int (nI 0)])), (n 0, .inr (2, [.int (nI N), .int (nI 0), .ref (n 1), .ref (n 2), .ref (n 3), .ref (n 9), .ref (n 16), .ref (n 23), .int (nI 0), .ref (n 32), .int (nI 0), .ref (n 33)])), (n 23, .inr (3, [.int (nI 0), .ref (n 24), .ref (n 25), .ref (n 26), .ref (n 27), .ref (n 28), .ref (n 29), .ref (n 30), .ref (n 31)])), (o9, .inl (cJ, 1, .inr (.inl (fun _ => 0))))] sz) [(o9, .inl (cJ, 1, .inr (.inl (fun _ => 0))))] t9) (va_A [(x0, .inr (6, [.int (nI N), .ref (n 0), .ref (q 0), .ref (tr 0), .int (nI 0)])), (n 0, .inr (2, [.int (nI N), .int (nI 0), .ref (n 1), .ref (n 2), .ref (n 3), .ref (n 9), .ref (n 16), .ref (n 23), .int (nI 0), .ref (n 32), .int (nI 0), .ref (n 33)])), (n 23, .inr (3, [.int (nI 0), .ref (n 24), .ref (n 25), .ref (n 26), .ref (n 27), .ref (n 28), .ref (n 29), .ref (n 30), .ref (n 31)])), (o9, .inl (cJ, 1, .inr (.inl (fun _ => 0))))] sz)) 1 6 (va_A [(x0, .inr (6, [.int (nI N), .ref (n 0), .ref (q 0), .ref (tr 0), .int (nI 0)])), (n 0, .inr (2, [.int (nI N), .int (nI 0), .ref (n 1), .ref (n 2), .ref (n 3), .ref (n 9), .ref (n 16), .ref (n 23), .int (nI 0), .ref (n 32), .int (nI 0), .ref (n 33)])), (n 23, .inr (3, [.int (nI 0), .ref (n 24), .ref (n 25), .ref (n 26), .ref (n 27), .ref (n 28), .ref (n 29), .ref (n 30), .ref (n 31)])), (o9, .inl (cJ, 1, .inr (.inl (fun _ => 0))))] sz) := by
  refine va_MetW (cc := cL_hopsOf) (maxL := 4) (ret := (some .int)) (hh := [(0, 9, 12, 13)]) (by decide) rfl ?_
  intro p e s m args below meth c s₁ B hml hv
  obtain ⟨rfl, ⟨hsz, hP, hK, hD0, hKN⟩, hZ, hR⟩ := hv
  have hx := B.exec
  have hb := B.bytes
  have hr := B.returns
  have hts := atoms_spec (ws := (Cond.codeWith yL_hopsOf cL_hopsOf 4 (some .int) [(0, 9, 12, 13)] :: kBig)) B.pre
  have hown : s.vm.findClass RL = some m.cls := findClass_of_methodNamed B.named
  have hlocks := B.notSynchronized
  have htab := vx_table (x := yL_hopsOf) B (hts _ List.mem_cons_self)
  subst hsz
  have hD := hD0.self (sz := s.heap.size)
  generalize hAe : va_A [(x0, .inr (6, [.int (nI N), .ref (n 0), .ref (q 0), .ref (tr 0), .int (nI 0)])), (n 0, .inr (2, [.int (nI N), .int (nI 0), .ref (n 1), .ref (n 2), .ref (n 3), .ref (n 9), .ref (n 16), .ref (n 23), .int (nI 0), .ref (n 32), .int (nI 0), .ref (n 33)])), (n 23, .inr (3, [.int (nI 0), .ref (n 24), .ref (n 25), .ref (n 26), .ref (n 27), .ref (n 28), .ref (n 29), .ref (n 30), .ref (n 31)])), (o9, .inl (cJ, 1, .inr (.inl (fun _ => 0))))] s.heap.size = A at hD hZ ⊢
  have hA : ∀ q : Nat, s.heap.size ≤ q → A q := fun q h => by rw [← hAe]; exact Or.inr h
  have hS : va_S A s.heap s.heap [] := va_S.rf
  have hl := lv_entry ([.ref x0, .int z3, .ref o9]) (n := 4) (Nat.le_of_ble_eq_true rfl)
  rw [lg_entry_eq]
  generalize (lg_sl ([.ref x0, .int z3, .ref o9]) ++ List.replicate (4 - (lg_sl ([.ref x0, .int z3, .ref o9])).length) Slot.unset).toArray = ls at hl ⊢
  have hl : lv_has ls 4 [(0, .ref x0), (1, .int z3), (2, .ref o9)] := hl
  refine lv_aload_n hx hb dL_hopsOf_0 rfl (lv_at hl 2 rfl) ?_
  refine lv_iconst (v := nI 0) hx hb dL_hopsOf_1 (by decide) ?_
  refine lv_aload_n hx hb dL_hopsOf_2 rfl (lv_at hl 0 rfl) ?_
  refine lv_iload_n hx hb dL_hopsOf_3 rfl (lv_at hl 1 rfl) ?_
  refine k_cx (A1 := A) (vx_runV (As := [.int z3]) (rest := [.int (nI 0), .ref o9]) ⟨hx, hb, hml, hown, hts⟩ (x_hopsOf0 l hl9 D cI cJ cM cG x0 n q tr N z3 s.heap.size (hN)) (cwV 1 hts (kB_V (fun _ => List.mem_cons_of_mem _) q_481 q_482 q_483 q_9 (kB_c q_484)) rfl rfl rfl (by decide +kernel) ⟨Nat.le_of_ble_eq_true rfl, Nat.le_of_ble_eq_true rfl⟩) (k_preVX (T := TX6) hZ hR hS hA hP hD hK hKN [0, 1, 2] rfl rfl (ci := 6) rfl (q0 := 0) rfl) rfl rfl hl.1 rfl (lv_room (Nat.le_of_ble_eq_true rfl)) dL_hopsOf_4 ⟨Nat.le_of_ble_eq_true rfl, Nat.le_of_ble_eq_true rfl⟩) hD hS hA [0, 1, 2] rfl (fun ce q9 H1 locs1 hz9 hk9 hS1 hce hcv hcl9 => ?_)
  obtain ⟨hP, hD⟩ := k_rest (wr := [(o9, .inl (cJ, 1, .inr (.inl (fun _ => 0))))]) hP hD [0, 1, 2] [3] rfl rfl rfl (by decide) (va_free hD hS hA [0, 1, 2] rfl) hk9
  have hS := hS1
  obtain ⟨-, -, -, hNc, g0, g1, g2, g3, g4, g5⟩ := id hR
  refine vx_catch (own := RL) (name := "java/lang/IndexOutOfBoundsException") hown [] ⟨0, 9, 12, 13⟩ [] (htab.trans rfl) (fun z h => absurd h List.not_mem_nil) rfl (by decide) (hts (.classLink RL 13 "java/lang/IndexOutOfBoundsException") (List.mem_cons_of_mem _ q_5)) (va_Nw.use rfl g3) hce hcv hcl9 ?_
  refine lv_astore_n (lv' := [(3, .ref q9), (0, .ref x0), (1, .int z3), (2, .ref o9)]) hx hb dL_hopsOf_12 rfl hl (by decide) rfl (fun ls hl => ?_)
  refine lv_iconst (v := nI 1) hx hb dL_hopsOf_13 (by decide) ?_
  have hP9 := hP.sub (ws' := [(o9, .inl (cJ, 1, .inr (.inl (fun _ => 0))))]) [0] rfl
  have hD9 := hD.sub (ws' := [(o9, .inl (cJ, 1, .inr (.inl (fun _ => 0))))]) [0] rfl rfl
  exact W.iret (v := nI 1) hx hb hr (fun t9 ht9 hW9 => ⟨⟨nI 1, (), rfl, rfl, by rw [ht9]; exact hP9, hD9⟩, hS.F ht9⟩) hS.2.2 dL_hopsOf_14

set_option maxHeartbeats 4000000 in
set_option maxRecDepth 100000 in
theorem x_L_endOf0 (l : Launch) (hl9 : l.stackTraces = false) (D : va_G) (cI cJ cM cG : ClassId) (x0 : Nat) (n : Nat → Nat) (q : Nat → Nat) (tr : Nat → Nat) (N : Nat) (z3 : Int32) (o9 : Nat) (sz : Nat) (hN : N ≤ 10) : Met l yL_endOf (Cond.codeWith yL_endOf cL_endOf 4 (some .int) [(0, 9, 12, 13)] :: kBig) ({ frames := 8, cells := 1, slots := 6, locals := 124 }) (va_Pc [.ref x0, .int z3, .ref o9] (kX D [(cI, .int), (cJ, .long), (cM, .object "MeshRouting$Message"), (cG, .array .int)] [(x0, .inr (6, [.int (nI N), .ref (n 0), .ref (q 0), .ref (tr 0), .int (nI 0)])), (n 0, .inr (2, [.int (nI N), .int (nI 0), .ref (n 1), .ref (n 2), .ref (n 3), .ref (n 9), .ref (n 16), .ref (n 23), .int (nI 0), .ref (n 32), .int (nI 0), .ref (n 33)])), (n 23, .inr (3, [.int (nI 0), .ref (n 24), .ref (n 25), .ref (n 26), .ref (n 27), .ref (n 28), .ref (n 29), .ref (n 30), .ref (n 31)])), (o9, .inl (cJ, 1, .inr (.inl (fun _ => 0))))] sz)) (va_Qi (fun (r : Int32) (_ : Unit) => r = nI 1) (fun _ t9 => kB D (va_A [(x0, .inr (6, [.int (nI N), .ref (n 0), .ref (q 0), .ref (tr 0), .int (nI 0)])), (n 0, .inr (2, [.int (nI N), .int (nI 0), .ref (n 1), .ref (n 2), .ref (n 3), .ref (n 9), .ref (n 16), .ref (n 23), .int (nI 0), .ref (n 32), .int (nI 0), .ref (n 33)])), (n 23, .inr (3, [.int (nI 0), .ref (n 24), .ref (n 25), .ref (n 26), .ref (n 27), .ref (n 28), .ref (n 29), .ref (n 30), .ref (n 31)])), (o9, .inl (cJ, 1, .inr (.inl (fun _ => 0))))] sz) [(o9, .inl (cJ, 1, .inr (.inl (fun _ => 0))))] t9) (va_A [(x0, .inr (6, [.int (nI N), .ref (n 0), .ref (q 0), .ref (tr 0), .int (nI 0)])), (n 0, .inr (2, [.int (nI N), .int (nI 0), .ref (n 1), .ref (n 2), .ref (n 3), .ref (n 9), .ref (n 16), .ref (n 23), .int (nI 0), .ref (n 32), .int (nI 0), .ref (n 33)])), (n 23, .inr (3, [.int (nI 0), .ref (n 24), .ref (n 25), .ref (n 26), .ref (n 27), .ref (n 28), .ref (n 29), .ref (n 30), .ref (n 31)])), (o9, .inl (cJ, 1, .inr (.inl (fun _ => 0))))] sz)) 1 6 (va_A [(x0, .inr (6, [.int (nI N), .ref (n 0), .ref (q 0), .ref (tr 0), .int (nI 0)])), (n 0, .inr (2, [.int (nI N), .int (nI 0), .ref (n 1), .ref (n 2), .ref (n 3), .ref (n 9), .ref (n 16), .ref (n 23), .int (nI 0), .ref (n 32), .int (nI 0), .ref (n 33)])), (n 23, .inr (3, [.int (nI 0), .ref (n 24), .ref (n 25), .ref (n 26), .ref (n 27), .ref (n 28), .ref (n 29), .ref (n 30), .ref (n 31)])), (o9, .inl (cJ, 1, .inr (.inl (fun _ => 0))))] sz) := by
  refine va_MetW (cc := cL_endOf) (maxL := 4) (ret := (some .int)) (hh := [(0, 9, 12, 13)]) (by decide) rfl ?_
  intro p e s m args below meth c s₁ B hml hv
  obtain ⟨rfl, ⟨hsz, hP, hK, hD0, hKN⟩, hZ, hR⟩ := hv
  have hx := B.exec
  have hb := B.bytes
  have hr := B.returns
  have hts := atoms_spec (ws := (Cond.codeWith yL_endOf cL_endOf 4 (some .int) [(0, 9, 12, 13)] :: kBig)) B.pre
  have hown : s.vm.findClass RL = some m.cls := findClass_of_methodNamed B.named
  have hlocks := B.notSynchronized
  have htab := vx_table (x := yL_endOf) B (hts _ List.mem_cons_self)
  subst hsz
  have hD := hD0.self (sz := s.heap.size)
  generalize hAe : va_A [(x0, .inr (6, [.int (nI N), .ref (n 0), .ref (q 0), .ref (tr 0), .int (nI 0)])), (n 0, .inr (2, [.int (nI N), .int (nI 0), .ref (n 1), .ref (n 2), .ref (n 3), .ref (n 9), .ref (n 16), .ref (n 23), .int (nI 0), .ref (n 32), .int (nI 0), .ref (n 33)])), (n 23, .inr (3, [.int (nI 0), .ref (n 24), .ref (n 25), .ref (n 26), .ref (n 27), .ref (n 28), .ref (n 29), .ref (n 30), .ref (n 31)])), (o9, .inl (cJ, 1, .inr (.inl (fun _ => 0))))] s.heap.size = A at hD hZ ⊢
  have hA : ∀ q : Nat, s.heap.size ≤ q → A q := fun q h => by rw [← hAe]; exact Or.inr h
  have hS : va_S A s.heap s.heap [] := va_S.rf
  have hl := lv_entry ([.ref x0, .int z3, .ref o9]) (n := 4) (Nat.le_of_ble_eq_true rfl)
  rw [lg_entry_eq]
  generalize (lg_sl ([.ref x0, .int z3, .ref o9]) ++ List.replicate (4 - (lg_sl ([.ref x0, .int z3, .ref o9])).length) Slot.unset).toArray = ls at hl ⊢
  have hl : lv_has ls 4 [(0, .ref x0), (1, .int z3), (2, .ref o9)] := hl
  refine lv_aload_n hx hb dL_endOf_0 rfl (lv_at hl 2 rfl) ?_
  refine lv_iconst (v := nI 0) hx hb dL_endOf_1 (by decide) ?_
  refine lv_aload_n hx hb dL_endOf_2 rfl (lv_at hl 0 rfl) ?_
  refine lv_iload_n hx hb dL_endOf_3 rfl (lv_at hl 1 rfl) ?_
  refine k_cx (A1 := A) (vx_runV (As := [.int z3]) (rest := [.int (nI 0), .ref o9]) ⟨hx, hb, hml, hown, hts⟩ (x_endOf0 l hl9 D cI cJ cM cG x0 n q tr N z3 s.heap.size (hN)) (cwV 1 hts (kB_V (fun _ => List.mem_cons_of_mem _) q_442 q_443 q_444 q_9 (kB_c q_445)) rfl rfl rfl (by decide +kernel) ⟨Nat.le_of_ble_eq_true rfl, Nat.le_of_ble_eq_true rfl⟩) (k_preVX (T := TX6) hZ hR hS hA hP hD hK hKN [0, 1, 2] rfl rfl (ci := 6) rfl (q0 := 0) rfl) rfl rfl hl.1 rfl (lv_room (Nat.le_of_ble_eq_true rfl)) dL_endOf_4 ⟨Nat.le_of_ble_eq_true rfl, Nat.le_of_ble_eq_true rfl⟩) hD hS hA [0, 1, 2] rfl (fun ce q9 H1 locs1 hz9 hk9 hS1 hce hcv hcl9 => ?_)
  obtain ⟨hP, hD⟩ := k_rest (wr := [(o9, .inl (cJ, 1, .inr (.inl (fun _ => 0))))]) hP hD [0, 1, 2] [3] rfl rfl rfl (by decide) (va_free hD hS hA [0, 1, 2] rfl) hk9
  have hS := hS1
  obtain ⟨-, -, -, hNc, g0, g1, g2, g3, g4, g5⟩ := id hR
  refine vx_catch (own := RL) (name := "java/lang/IndexOutOfBoundsException") hown [] ⟨0, 9, 12, 13⟩ [] (htab.trans rfl) (fun z h => absurd h List.not_mem_nil) rfl (by decide) (hts (.classLink RL 13 "java/lang/IndexOutOfBoundsException") (List.mem_cons_of_mem _ q_5)) (va_Nw.use rfl g3) hce hcv hcl9 ?_
  refine lv_astore_n (lv' := [(3, .ref q9), (0, .ref x0), (1, .int z3), (2, .ref o9)]) hx hb dL_endOf_12 rfl hl (by decide) rfl (fun ls hl => ?_)
  refine lv_iconst (v := nI 1) hx hb dL_endOf_13 (by decide) ?_
  have hP9 := hP.sub (ws' := [(o9, .inl (cJ, 1, .inr (.inl (fun _ => 0))))]) [0] rfl
  have hD9 := hD.sub (ws' := [(o9, .inl (cJ, 1, .inr (.inl (fun _ => 0))))]) [0] rfl rfl
  exact W.iret (v := nI 1) hx hb hr (fun t9 ht9 hW9 => ⟨⟨nI 1, (), rfl, rfl, by rw [ht9]; exact hP9, hD9⟩, hS.F ht9⟩) hS.2.2 dL_endOf_14

set_option maxHeartbeats 4000000 in
set_option maxRecDepth 100000 in
theorem x_L_whyDropped0 (l : Launch) (hl9 : l.stackTraces = false) (D : va_G) (cI cJ cM cG : ClassId) (x0 : Nat) (n : Nat → Nat) (q : Nat → Nat) (tr : Nat → Nat) (N : Nat) (z3 : Int32) (z4 : Int32) (o9 : Nat) (sz : Nat) (hN : N ≤ 10) : Met l yL_whyDropped (Cond.codeWith yL_whyDropped cL_whyDropped 5 (some .int) [(0, 10, 13, 13)] :: kBig) ({ frames := 8, cells := 1, slots := 6, locals := 126 }) (va_Pc [.ref x0, .int z3, .int z4, .ref o9] (kX D [(cI, .int), (cJ, .long), (cM, .object "MeshRouting$Message"), (cG, .array .int)] [(x0, .inr (6, [.int (nI N), .ref (n 0), .ref (q 0), .ref (tr 0), .int (nI 0)])), (n 0, .inr (2, [.int (nI N), .int (nI 0), .ref (n 1), .ref (n 2), .ref (n 3), .ref (n 9), .ref (n 16), .ref (n 23), .int (nI 0), .ref (n 32), .int (nI 0), .ref (n 33)])), (n 23, .inr (3, [.int (nI 0), .ref (n 24), .ref (n 25), .ref (n 26), .ref (n 27), .ref (n 28), .ref (n 29), .ref (n 30), .ref (n 31)])), (o9, .inl (cJ, 1, .inr (.inl (fun _ => 0))))] sz)) (va_Qi (fun (r : Int32) (_ : Unit) => r = nI 1) (fun _ t9 => kB D (va_A [(x0, .inr (6, [.int (nI N), .ref (n 0), .ref (q 0), .ref (tr 0), .int (nI 0)])), (n 0, .inr (2, [.int (nI N), .int (nI 0), .ref (n 1), .ref (n 2), .ref (n 3), .ref (n 9), .ref (n 16), .ref (n 23), .int (nI 0), .ref (n 32), .int (nI 0), .ref (n 33)])), (n 23, .inr (3, [.int (nI 0), .ref (n 24), .ref (n 25), .ref (n 26), .ref (n 27), .ref (n 28), .ref (n 29), .ref (n 30), .ref (n 31)])), (o9, .inl (cJ, 1, .inr (.inl (fun _ => 0))))] sz) [(o9, .inl (cJ, 1, .inr (.inl (fun _ => 0))))] t9) (va_A [(x0, .inr (6, [.int (nI N), .ref (n 0), .ref (q 0), .ref (tr 0), .int (nI 0)])), (n 0, .inr (2, [.int (nI N), .int (nI 0), .ref (n 1), .ref (n 2), .ref (n 3), .ref (n 9), .ref (n 16), .ref (n 23), .int (nI 0), .ref (n 32), .int (nI 0), .ref (n 33)])), (n 23, .inr (3, [.int (nI 0), .ref (n 24), .ref (n 25), .ref (n 26), .ref (n 27), .ref (n 28), .ref (n 29), .ref (n 30), .ref (n 31)])), (o9, .inl (cJ, 1, .inr (.inl (fun _ => 0))))] sz)) 1 6 (va_A [(x0, .inr (6, [.int (nI N), .ref (n 0), .ref (q 0), .ref (tr 0), .int (nI 0)])), (n 0, .inr (2, [.int (nI N), .int (nI 0), .ref (n 1), .ref (n 2), .ref (n 3), .ref (n 9), .ref (n 16), .ref (n 23), .int (nI 0), .ref (n 32), .int (nI 0), .ref (n 33)])), (n 23, .inr (3, [.int (nI 0), .ref (n 24), .ref (n 25), .ref (n 26), .ref (n 27), .ref (n 28), .ref (n 29), .ref (n 30), .ref (n 31)])), (o9, .inl (cJ, 1, .inr (.inl (fun _ => 0))))] sz) := by
  refine va_MetW (cc := cL_whyDropped) (maxL := 5) (ret := (some .int)) (hh := [(0, 10, 13, 13)]) (by decide) rfl ?_
  intro p e s m args below meth c s₁ B hml hv
  obtain ⟨rfl, ⟨hsz, hP, hK, hD0, hKN⟩, hZ, hR⟩ := hv
  have hx := B.exec
  have hb := B.bytes
  have hr := B.returns
  have hts := atoms_spec (ws := (Cond.codeWith yL_whyDropped cL_whyDropped 5 (some .int) [(0, 10, 13, 13)] :: kBig)) B.pre
  have hown : s.vm.findClass RL = some m.cls := findClass_of_methodNamed B.named
  have hlocks := B.notSynchronized
  have htab := vx_table (x := yL_whyDropped) B (hts _ List.mem_cons_self)
  subst hsz
  have hD := hD0.self (sz := s.heap.size)
  generalize hAe : va_A [(x0, .inr (6, [.int (nI N), .ref (n 0), .ref (q 0), .ref (tr 0), .int (nI 0)])), (n 0, .inr (2, [.int (nI N), .int (nI 0), .ref (n 1), .ref (n 2), .ref (n 3), .ref (n 9), .ref (n 16), .ref (n 23), .int (nI 0), .ref (n 32), .int (nI 0), .ref (n 33)])), (n 23, .inr (3, [.int (nI 0), .ref (n 24), .ref (n 25), .ref (n 26), .ref (n 27), .ref (n 28), .ref (n 29), .ref (n 30), .ref (n 31)])), (o9, .inl (cJ, 1, .inr (.inl (fun _ => 0))))] s.heap.size = A at hD hZ ⊢
  have hA : ∀ q : Nat, s.heap.size ≤ q → A q := fun q h => by rw [← hAe]; exact Or.inr h
  have hS : va_S A s.heap s.heap [] := va_S.rf
  have hl := lv_entry ([.ref x0, .int z3, .int z4, .ref o9]) (n := 5) (Nat.le_of_ble_eq_true rfl)
  rw [lg_entry_eq]
  generalize (lg_sl ([.ref x0, .int z3, .int z4, .ref o9]) ++ List.replicate (5 - (lg_sl ([.ref x0, .int z3, .int z4, .ref o9])).length) Slot.unset).toArray = ls at hl ⊢
  have hl : lv_has ls 5 [(0, .ref x0), (1, .int z3), (2, .int z4), (3, .ref o9)] := hl
  refine lv_aload_n hx hb dL_whyDropped_0 rfl (lv_at hl 3 rfl) ?_
  refine lv_iconst (v := nI 0) hx hb dL_whyDropped_1 (by decide) ?_
  refine lv_aload_n hx hb dL_whyDropped_2 rfl (lv_at hl 0 rfl) ?_
  refine lv_iload_n hx hb dL_whyDropped_3 rfl (lv_at hl 1 rfl) ?_
  refine lv_iload_n hx hb dL_whyDropped_4 rfl (lv_at hl 2 rfl) ?_
  refine k_cx (A1 := A) (vx_runV (As := [.int z3, .int z4]) (rest := [.int (nI 0), .ref o9]) ⟨hx, hb, hml, hown, hts⟩ (x_whyDropped0 l hl9 D cI cJ cM cG x0 n q tr N z3 z4 s.heap.size (hN)) (cwV 2 hts (kB_V (fun _ => List.mem_cons_of_mem _) q_594 q_595 q_596 q_9 (kB_c q_597)) rfl rfl rfl (by decide +kernel) ⟨Nat.le_of_ble_eq_true rfl, Nat.le_of_ble_eq_true rfl⟩) (k_preVX (T := TX6) hZ hR hS hA hP hD hK hKN [0, 1, 2] rfl rfl (ci := 6) rfl (q0 := 0) rfl) rfl rfl hl.1 rfl (lv_room (Nat.le_of_ble_eq_true rfl)) dL_whyDropped_5 ⟨Nat.le_of_ble_eq_true rfl, Nat.le_of_ble_eq_true rfl⟩) hD hS hA [0, 1, 2] rfl (fun ce q9 H1 locs1 hz9 hk9 hS1 hce hcv hcl9 => ?_)
  obtain ⟨hP, hD⟩ := k_rest (wr := [(o9, .inl (cJ, 1, .inr (.inl (fun _ => 0))))]) hP hD [0, 1, 2] [3] rfl rfl rfl (by decide) (va_free hD hS hA [0, 1, 2] rfl) hk9
  have hS := hS1
  obtain ⟨-, -, -, hNc, g0, g1, g2, g3, g4, g5⟩ := id hR
  refine vx_catch (own := RL) (name := "java/lang/IndexOutOfBoundsException") hown [] ⟨0, 10, 13, 13⟩ [] (htab.trans rfl) (fun z h => absurd h List.not_mem_nil) rfl (by decide) (hts (.classLink RL 13 "java/lang/IndexOutOfBoundsException") (List.mem_cons_of_mem _ q_5)) (va_Nw.use rfl g3) hce hcv hcl9 ?_
  refine lv_astore (lv' := [(4, .ref q9), (0, .ref x0), (1, .int z3), (2, .int z4), (3, .ref o9)]) hx hb dL_whyDropped_13 hl (by decide) rfl (fun ls hl => ?_)
  refine lv_iconst (v := nI 1) hx hb dL_whyDropped_15 (by decide) ?_
  have hP9 := hP.sub (ws' := [(o9, .inl (cJ, 1, .inr (.inl (fun _ => 0))))]) [0] rfl
  have hD9 := hD.sub (ws' := [(o9, .inl (cJ, 1, .inr (.inl (fun _ => 0))))]) [0] rfl rfl
  exact W.iret (v := nI 1) hx hb hr (fun t9 ht9 hW9 => ⟨⟨nI 1, (), rfl, rfl, by rw [ht9]; exact hP9, hD9⟩, hS.F ht9⟩) hS.2.2 dL_whyDropped_16

set_option maxHeartbeats 4000000 in
set_option maxRecDepth 100000 in
theorem x_L_setLink0 (l : Launch) (hl9 : l.stackTraces = false) (D : va_G) (cI cJ cM cG : ClassId) (x0 : Nat) (n : Nat → Nat) (q : Nat → Nat) (tr : Nat → Nat) (N : Nat) (x : Int32) (y : Int32) (z3 : Int32) (o9 : Nat) (sz : Nat) (hN : N ≤ 10) (hb2 : kBad2 N x y) : Met l yL_setLink (Cond.codeWith yL_setLink cL_setLink 6 (some .int) [(0, 12, 15, 13), (0, 12, 19, 15)] :: kBig) ({ frames := 10, cells := 1, slots := 6, locals := 170 }) (va_Pc [.ref x0, .int x, .int y, .int z3, .ref o9] (kX D [(cI, .int), (cJ, .long), (cM, .object "MeshRouting$Message"), (cG, .array .int)] [(x0, .inr (6, [.int (nI N), .ref (n 0), .ref (q 0), .ref (tr 0), .int (nI 0)])), (o9, .inl (cJ, 1, .inr (.inl (fun _ => 0))))] sz)) (va_Qi (fun (r : Int32) (_ : Unit) => r = nI 1) (fun _ t9 => kB D (va_A [(x0, .inr (6, [.int (nI N), .ref (n 0), .ref (q 0), .ref (tr 0), .int (nI 0)])), (o9, .inl (cJ, 1, .inr (.inl (fun _ => 0))))] sz) [(o9, .inl (cJ, 1, .inr (.inl (fun _ => 0))))] t9) (va_A [(x0, .inr (6, [.int (nI N), .ref (n 0), .ref (q 0), .ref (tr 0), .int (nI 0)])), (o9, .inl (cJ, 1, .inr (.inl (fun _ => 0))))] sz)) 1 6 (va_A [(x0, .inr (6, [.int (nI N), .ref (n 0), .ref (q 0), .ref (tr 0), .int (nI 0)])), (o9, .inl (cJ, 1, .inr (.inl (fun _ => 0))))] sz) := by
  refine va_MetW (cc := cL_setLink) (maxL := 6) (ret := (some .int)) (hh := [(0, 12, 15, 13), (0, 12, 19, 15)]) (by decide) rfl ?_
  intro p e s m args below meth c s₁ B hml hv
  obtain ⟨rfl, ⟨hsz, hP, hK, hD0, hKN⟩, hZ, hR⟩ := hv
  have hx := B.exec
  have hb := B.bytes
  have hr := B.returns
  have hts := atoms_spec (ws := (Cond.codeWith yL_setLink cL_setLink 6 (some .int) [(0, 12, 15, 13), (0, 12, 19, 15)] :: kBig)) B.pre
  have hown : s.vm.findClass RL = some m.cls := findClass_of_methodNamed B.named
  have hlocks := B.notSynchronized
  have htab := vx_table (x := yL_setLink) B (hts _ List.mem_cons_self)
  subst hsz
  have hD := hD0.self (sz := s.heap.size)
  generalize hAe : va_A [(x0, .inr (6, [.int (nI N), .ref (n 0), .ref (q 0), .ref (tr 0), .int (nI 0)])), (o9, .inl (cJ, 1, .inr (.inl (fun _ => 0))))] s.heap.size = A at hD hZ ⊢
  have hA : ∀ q : Nat, s.heap.size ≤ q → A q := fun q h => by rw [← hAe]; exact Or.inr h
  have hS : va_S A s.heap s.heap [] := va_S.rf
  have hl := lv_entry ([.ref x0, .int x, .int y, .int z3, .ref o9]) (n := 6) (Nat.le_of_ble_eq_true rfl)
  rw [lg_entry_eq]
  generalize (lg_sl ([.ref x0, .int x, .int y, .int z3, .ref o9]) ++ List.replicate (6 - (lg_sl ([.ref x0, .int x, .int y, .int z3, .ref o9])).length) Slot.unset).toArray = ls at hl ⊢
  have hl : lv_has ls 6 [(0, .ref x0), (1, .int x), (2, .int y), (3, .int z3), (4, .ref o9)] := hl
  refine lv_aload hx hb dL_setLink_0 (lv_at hl 4 rfl) ?_
  refine lv_iconst (v := nI 0) hx hb dL_setLink_2 (by decide) ?_
  refine lv_aload_n hx hb dL_setLink_3 rfl (lv_at hl 0 rfl) ?_
  refine lv_iload_n hx hb dL_setLink_4 rfl (lv_at hl 1 rfl) ?_
  refine lv_iload_n hx hb dL_setLink_5 rfl (lv_at hl 2 rfl) ?_
  refine lv_iload_n hx hb dL_setLink_6 rfl (lv_at hl 3 rfl) ?_
  refine k_cx (A1 := A) (vx_runV (As := [.int x, .int y, .int z3]) (rest := [.int (nI 0), .ref o9]) ⟨hx, hb, hml, hown, hts⟩ (x_setLink0 l hl9 D cI cJ cM cG x0 n q tr N x y z3 s.heap.size (hN) (hb2)) (cwV 3 hts (kB_V (fun _ => List.mem_cons_of_mem _) q_564 q_565 q_566 q_9 (kB_c q_567)) rfl rfl rfl (by decide +kernel) ⟨Nat.le_of_ble_eq_true rfl, Nat.le_of_ble_eq_true rfl⟩) (k_preVX (T := TX6) hZ hR hS hA hP hD hK hKN [0] rfl rfl (ci := 6) rfl (q0 := 0) rfl) rfl rfl hl.1 rfl (lv_room (Nat.le_of_ble_eq_true rfl)) dL_setLink_7 ⟨Nat.le_of_ble_eq_true rfl, Nat.le_of_ble_eq_true rfl⟩) hD hS hA [0] rfl (fun ce q9 H1 locs1 hz9 hk9 hS1 hce hcv hcl9 => ?_)
  obtain ⟨hP, hD⟩ := k_rest (wr := [(o9, .inl (cJ, 1, .inr (.inl (fun _ => 0))))]) hP hD [0] [1] rfl rfl rfl (by decide) (va_free hD hS hA [0] rfl) hk9
  have hS := hS1
  obtain ⟨-, -, -, hNc, g0, g1, g2, g3, g4, g5⟩ := id hR
  refine vx_catch (own := RL) (name := "java/lang/IndexOutOfBoundsException") hown [] ⟨0, 12, 15, 13⟩ [⟨0, 12, 19, 15⟩] (htab.trans rfl) (fun z h => absurd h List.not_mem_nil) rfl (by decide) (hts (.classLink RL 13 "java/lang/IndexOutOfBoundsException") (List.mem_cons_of_mem _ q_5)) (va_Nw.use rfl g3) hce hcv hcl9 ?_
  refine lv_astore (lv' := [(5, .ref q9), (0, .ref x0), (1, .int x), (2, .int y), (3, .int z3), (4, .ref o9)]) hx hb dL_setLink_15 hl (by decide) rfl (fun ls hl => ?_)
  refine lv_iconst (v := nI 1) hx hb dL_setLink_17 (by decide) ?_
  have hP9 := hP.sub (ws' := [(o9, .inl (cJ, 1, .inr (.inl (fun _ => 0))))]) [0] rfl
  have hD9 := hD.sub (ws' := [(o9, .inl (cJ, 1, .inr (.inl (fun _ => 0))))]) [0] rfl rfl
  exact W.iret (v := nI 1) hx hb hr (fun t9 ht9 hW9 => ⟨⟨nI 1, (), rfl, rfl, by rw [ht9]; exact hP9, hD9⟩, hS.F ht9⟩) hS.2.2 dL_setLink_18

set_option maxHeartbeats 4000000 in
set_option maxRecDepth 100000 in
theorem x_L_send0 (l : Launch) (hl9 : l.stackTraces = false) (D : va_G) (cI cJ cM cG : ClassId) (x0 : Nat) (n : Nat → Nat) (q : Nat → Nat) (tr : Nat → Nat) (N : Nat) (x : Int32) (y : Int32) (o9 : Nat) (sz : Nat) (hN : N ≤ 10) (hb2 : kBad2 N x y) : Met l yL_send (Cond.codeWith yL_send cL_send 5 (some .int) [(0, 10, 13, 13), (0, 10, 17, 15), (0, 10, 21, 27)] :: kBig) ({ frames := 10, cells := 1, slots := 6, locals := 169 }) (va_Pc [.ref x0, .int x, .int y, .ref o9] (kX D [(cI, .int), (cJ, .long), (cM, .object "MeshRouting$Message"), (cG, .array .int)] [(x0, .inr (6, [.int (nI N), .ref (n 0), .ref (q 0), .ref (tr 0), .int (nI 0)])), (o9, .inl (cJ, 1, .inr (.inl (fun _ => 0))))] sz)) (va_Qi (fun (r : Int32) (_ : Unit) => r = nI 1) (fun _ t9 => kB D (va_A [(x0, .inr (6, [.int (nI N), .ref (n 0), .ref (q 0), .ref (tr 0), .int (nI 0)])), (o9, .inl (cJ, 1, .inr (.inl (fun _ => 0))))] sz) [(o9, .inl (cJ, 1, .inr (.inl (fun _ => 0))))] t9) (va_A [(x0, .inr (6, [.int (nI N), .ref (n 0), .ref (q 0), .ref (tr 0), .int (nI 0)])), (o9, .inl (cJ, 1, .inr (.inl (fun _ => 0))))] sz)) 1 6 (va_A [(x0, .inr (6, [.int (nI N), .ref (n 0), .ref (q 0), .ref (tr 0), .int (nI 0)])), (o9, .inl (cJ, 1, .inr (.inl (fun _ => 0))))] sz) := by
  refine va_MetW (cc := cL_send) (maxL := 5) (ret := (some .int)) (hh := [(0, 10, 13, 13), (0, 10, 17, 15), (0, 10, 21, 27)]) (by decide) rfl ?_
  intro p e s m args below meth c s₁ B hml hv
  obtain ⟨rfl, ⟨hsz, hP, hK, hD0, hKN⟩, hZ, hR⟩ := hv
  have hx := B.exec
  have hb := B.bytes
  have hr := B.returns
  have hts := atoms_spec (ws := (Cond.codeWith yL_send cL_send 5 (some .int) [(0, 10, 13, 13), (0, 10, 17, 15), (0, 10, 21, 27)] :: kBig)) B.pre
  have hown : s.vm.findClass RL = some m.cls := findClass_of_methodNamed B.named
  have hlocks := B.notSynchronized
  have htab := vx_table (x := yL_send) B (hts _ List.mem_cons_self)
  subst hsz
  have hD := hD0.self (sz := s.heap.size)
  generalize hAe : va_A [(x0, .inr (6, [.int (nI N), .ref (n 0), .ref (q 0), .ref (tr 0), .int (nI 0)])), (o9, .inl (cJ, 1, .inr (.inl (fun _ => 0))))] s.heap.size = A at hD hZ ⊢
  have hA : ∀ q : Nat, s.heap.size ≤ q → A q := fun q h => by rw [← hAe]; exact Or.inr h
  have hS : va_S A s.heap s.heap [] := va_S.rf
  have hl := lv_entry ([.ref x0, .int x, .int y, .ref o9]) (n := 5) (Nat.le_of_ble_eq_true rfl)
  rw [lg_entry_eq]
  generalize (lg_sl ([.ref x0, .int x, .int y, .ref o9]) ++ List.replicate (5 - (lg_sl ([.ref x0, .int x, .int y, .ref o9])).length) Slot.unset).toArray = ls at hl ⊢
  have hl : lv_has ls 5 [(0, .ref x0), (1, .int x), (2, .int y), (3, .ref o9)] := hl
  refine lv_aload_n hx hb dL_send_0 rfl (lv_at hl 3 rfl) ?_
  refine lv_iconst (v := nI 0) hx hb dL_send_1 (by decide) ?_
  refine lv_aload_n hx hb dL_send_2 rfl (lv_at hl 0 rfl) ?_
  refine lv_iload_n hx hb dL_send_3 rfl (lv_at hl 1 rfl) ?_
  refine lv_iload_n hx hb dL_send_4 rfl (lv_at hl 2 rfl) ?_
  refine k_cx (A1 := A) (vx_runV (As := [.int x, .int y]) (rest := [.int (nI 0), .ref o9]) ⟨hx, hb, hml, hown, hts⟩ (x_send0 l hl9 D cI cJ cM cG x0 n q tr N x y s.heap.size (hN) (hb2)) (cwV 2 hts (kB_V (fun _ => List.mem_cons_of_mem _) q_544 q_545 q_546 q_9 (kB_c q_547)) rfl rfl rfl (by decide +kernel) ⟨Nat.le_of_ble_eq_true rfl, Nat.le_of_ble_eq_true rfl⟩) (k_preVX (T := TX6) hZ hR hS hA hP hD hK hKN [0] rfl rfl (ci := 6) rfl (q0 := 0) rfl) rfl rfl hl.1 rfl (lv_room (Nat.le_of_ble_eq_true rfl)) dL_send_5 ⟨Nat.le_of_ble_eq_true rfl, Nat.le_of_ble_eq_true rfl⟩) hD hS hA [0] rfl (fun ce q9 H1 locs1 hz9 hk9 hS1 hce hcv hcl9 => ?_)
  obtain ⟨hP, hD⟩ := k_rest (wr := [(o9, .inl (cJ, 1, .inr (.inl (fun _ => 0))))]) hP hD [0] [1] rfl rfl rfl (by decide) (va_free hD hS hA [0] rfl) hk9
  have hS := hS1
  obtain ⟨-, -, -, hNc, g0, g1, g2, g3, g4, g5⟩ := id hR
  refine vx_catch (own := RL) (name := "java/lang/IndexOutOfBoundsException") hown [] ⟨0, 10, 13, 13⟩ [⟨0, 10, 17, 15⟩, ⟨0, 10, 21, 27⟩] (htab.trans rfl) (fun z h => absurd h List.not_mem_nil) rfl (by decide) (hts (.classLink RL 13 "java/lang/IndexOutOfBoundsException") (List.mem_cons_of_mem _ q_5)) (va_Nw.use rfl g3) hce hcv hcl9 ?_
  refine lv_astore (lv' := [(4, .ref q9), (0, .ref x0), (1, .int x), (2, .int y), (3, .ref o9)]) hx hb dL_send_13 hl (by decide) rfl (fun ls hl => ?_)
  refine lv_iconst (v := nI 1) hx hb dL_send_15 (by decide) ?_
  have hP9 := hP.sub (ws' := [(o9, .inl (cJ, 1, .inr (.inl (fun _ => 0))))]) [0] rfl
  have hD9 := hD.sub (ws' := [(o9, .inl (cJ, 1, .inr (.inl (fun _ => 0))))]) [0] rfl rfl
  exact W.iret (v := nI 1) hx hb hr (fun t9 ht9 hW9 => ⟨⟨nI 1, (), rfl, rfl, by rw [ht9]; exact hP9, hD9⟩, hS.F ht9⟩) hS.2.2 dL_send_16

set_option maxHeartbeats 4000000 in
set_option maxRecDepth 100000 in
theorem x_L_forecast0 (l : Launch) (hl9 : l.stackTraces = false) (D : va_G) (cI cJ cM cG : ClassId) (x0 : Nat) (n : Nat → Nat) (q : Nat → Nat) (tr : Nat → Nat) (N : Nat) (x : Int32) (y : Int32) (z3 : Int32) (o9 : Nat) (sz : Nat) (hN : N ≤ 10) (hb2 : kBad2 N x y) : Met l yL_forecast (Cond.codeWith yL_forecast cL_forecast 6 (some .int) [(0, 12, 15, 13), (0, 12, 19, 15)] :: kBig) ({ frames := 10, cells := 1, slots := 6, locals := 171 }) (va_Pc [.ref x0, .int x, .int y, .int z3, .ref o9] (kX D [(cI, .int), (cJ, .long), (cM, .object "MeshRouting$Message"), (cG, .array .int)] [(x0, .inr (6, [.int (nI N), .ref (n 0), .ref (q 0), .ref (tr 0), .int (nI 0)])), (o9, .inl (cJ, 1, .inr (.inl (fun _ => 0))))] sz)) (va_Qi (fun (r : Int32) (_ : Unit) => r = nI 1) (fun _ t9 => kB D (va_A [(x0, .inr (6, [.int (nI N), .ref (n 0), .ref (q 0), .ref (tr 0), .int (nI 0)])), (o9, .inl (cJ, 1, .inr (.inl (fun _ => 0))))] sz) [(o9, .inl (cJ, 1, .inr (.inl (fun _ => 0))))] t9) (va_A [(x0, .inr (6, [.int (nI N), .ref (n 0), .ref (q 0), .ref (tr 0), .int (nI 0)])), (o9, .inl (cJ, 1, .inr (.inl (fun _ => 0))))] sz)) 1 6 (va_A [(x0, .inr (6, [.int (nI N), .ref (n 0), .ref (q 0), .ref (tr 0), .int (nI 0)])), (o9, .inl (cJ, 1, .inr (.inl (fun _ => 0))))] sz) := by
  refine va_MetW (cc := cL_forecast) (maxL := 6) (ret := (some .int)) (hh := [(0, 12, 15, 13), (0, 12, 19, 15)]) (by decide) rfl ?_
  intro p e s m args below meth c s₁ B hml hv
  obtain ⟨rfl, ⟨hsz, hP, hK, hD0, hKN⟩, hZ, hR⟩ := hv
  have hx := B.exec
  have hb := B.bytes
  have hr := B.returns
  have hts := atoms_spec (ws := (Cond.codeWith yL_forecast cL_forecast 6 (some .int) [(0, 12, 15, 13), (0, 12, 19, 15)] :: kBig)) B.pre
  have hown : s.vm.findClass RL = some m.cls := findClass_of_methodNamed B.named
  have hlocks := B.notSynchronized
  have htab := vx_table (x := yL_forecast) B (hts _ List.mem_cons_self)
  subst hsz
  have hD := hD0.self (sz := s.heap.size)
  generalize hAe : va_A [(x0, .inr (6, [.int (nI N), .ref (n 0), .ref (q 0), .ref (tr 0), .int (nI 0)])), (o9, .inl (cJ, 1, .inr (.inl (fun _ => 0))))] s.heap.size = A at hD hZ ⊢
  have hA : ∀ q : Nat, s.heap.size ≤ q → A q := fun q h => by rw [← hAe]; exact Or.inr h
  have hS : va_S A s.heap s.heap [] := va_S.rf
  have hl := lv_entry ([.ref x0, .int x, .int y, .int z3, .ref o9]) (n := 6) (Nat.le_of_ble_eq_true rfl)
  rw [lg_entry_eq]
  generalize (lg_sl ([.ref x0, .int x, .int y, .int z3, .ref o9]) ++ List.replicate (6 - (lg_sl ([.ref x0, .int x, .int y, .int z3, .ref o9])).length) Slot.unset).toArray = ls at hl ⊢
  have hl : lv_has ls 6 [(0, .ref x0), (1, .int x), (2, .int y), (3, .int z3), (4, .ref o9)] := hl
  refine lv_aload hx hb dL_forecast_0 (lv_at hl 4 rfl) ?_
  refine lv_iconst (v := nI 0) hx hb dL_forecast_2 (by decide) ?_
  refine lv_aload_n hx hb dL_forecast_3 rfl (lv_at hl 0 rfl) ?_
  refine lv_iload_n hx hb dL_forecast_4 rfl (lv_at hl 1 rfl) ?_
  refine lv_iload_n hx hb dL_forecast_5 rfl (lv_at hl 2 rfl) ?_
  refine lv_iload_n hx hb dL_forecast_6 rfl (lv_at hl 3 rfl) ?_
  refine k_cx (A1 := A) (vx_runV (As := [.int x, .int y, .int z3]) (rest := [.int (nI 0), .ref o9]) ⟨hx, hb, hml, hown, hts⟩ (x_forecast0 l hl9 D cI cJ cM cG x0 n q tr N x y z3 s.heap.size (hN) (hb2)) (cwV 3 hts (kB_V (fun _ => List.mem_cons_of_mem _) q_465 q_466 q_467 q_9 (kB_c q_468)) rfl rfl rfl (by decide +kernel) ⟨Nat.le_of_ble_eq_true rfl, Nat.le_of_ble_eq_true rfl⟩) (k_preVX (T := TX6) hZ hR hS hA hP hD hK hKN [0] rfl rfl (ci := 6) rfl (q0 := 0) rfl) rfl rfl hl.1 rfl (lv_room (Nat.le_of_ble_eq_true rfl)) dL_forecast_7 ⟨Nat.le_of_ble_eq_true rfl, Nat.le_of_ble_eq_true rfl⟩) hD hS hA [0] rfl (fun ce q9 H1 locs1 hz9 hk9 hS1 hce hcv hcl9 => ?_)
  obtain ⟨hP, hD⟩ := k_rest (wr := [(o9, .inl (cJ, 1, .inr (.inl (fun _ => 0))))]) hP hD [0] [1] rfl rfl rfl (by decide) (va_free hD hS hA [0] rfl) hk9
  have hS := hS1
  obtain ⟨-, -, -, hNc, g0, g1, g2, g3, g4, g5⟩ := id hR
  refine vx_catch (own := RL) (name := "java/lang/IndexOutOfBoundsException") hown [] ⟨0, 12, 15, 13⟩ [⟨0, 12, 19, 15⟩] (htab.trans rfl) (fun z h => absurd h List.not_mem_nil) rfl (by decide) (hts (.classLink RL 13 "java/lang/IndexOutOfBoundsException") (List.mem_cons_of_mem _ q_5)) (va_Nw.use rfl g3) hce hcv hcl9 ?_
  refine lv_astore (lv' := [(5, .ref q9), (0, .ref x0), (1, .int x), (2, .int y), (3, .int z3), (4, .ref o9)]) hx hb dL_forecast_15 hl (by decide) rfl (fun ls hl => ?_)
  refine lv_iconst (v := nI 1) hx hb dL_forecast_17 (by decide) ?_
  have hP9 := hP.sub (ws' := [(o9, .inl (cJ, 1, .inr (.inl (fun _ => 0))))]) [0] rfl
  have hD9 := hD.sub (ws' := [(o9, .inl (cJ, 1, .inr (.inl (fun _ => 0))))]) [0] rfl rfl
  exact W.iret (v := nI 1) hx hb hr (fun t9 ht9 hW9 => ⟨⟨nI 1, (), rfl, rfl, by rw [ht9]; exact hP9, hD9⟩, hS.F ht9⟩) hS.2.2 dL_forecast_18

set_option maxHeartbeats 4000000 in
set_option maxRecDepth 100000 in
theorem x_L_damage0 (l : Launch) (hl9 : l.stackTraces = false) (D : va_G) (cI cJ cM cG : ClassId) (x0 : Nat) (n : Nat → Nat) (q : Nat → Nat) (tr : Nat → Nat) (N : Nat) (x : Int32) (y : Int32) (z3 : Int32) (o9 : Nat) (sz : Nat) (hN : N ≤ 10) (hb2 : kBad2 N x y) : Met l yL_damage (Cond.codeWith yL_damage cL_damage 6 (some .int) [(0, 12, 15, 13), (0, 12, 19, 15)] :: kBig) ({ frames := 10, cells := 1, slots := 6, locals := 170 }) (va_Pc [.ref x0, .int x, .int y, .int z3, .ref o9] (kX D [(cI, .int), (cJ, .long), (cM, .object "MeshRouting$Message"), (cG, .array .int)] [(x0, .inr (6, [.int (nI N), .ref (n 0), .ref (q 0), .ref (tr 0), .int (nI 0)])), (o9, .inl (cJ, 1, .inr (.inl (fun _ => 0))))] sz)) (va_Qi (fun (r : Int32) (_ : Unit) => r = nI 1) (fun _ t9 => kB D (va_A [(x0, .inr (6, [.int (nI N), .ref (n 0), .ref (q 0), .ref (tr 0), .int (nI 0)])), (o9, .inl (cJ, 1, .inr (.inl (fun _ => 0))))] sz) [(o9, .inl (cJ, 1, .inr (.inl (fun _ => 0))))] t9) (va_A [(x0, .inr (6, [.int (nI N), .ref (n 0), .ref (q 0), .ref (tr 0), .int (nI 0)])), (o9, .inl (cJ, 1, .inr (.inl (fun _ => 0))))] sz)) 1 6 (va_A [(x0, .inr (6, [.int (nI N), .ref (n 0), .ref (q 0), .ref (tr 0), .int (nI 0)])), (o9, .inl (cJ, 1, .inr (.inl (fun _ => 0))))] sz) := by
  refine va_MetW (cc := cL_damage) (maxL := 6) (ret := (some .int)) (hh := [(0, 12, 15, 13), (0, 12, 19, 15)]) (by decide) rfl ?_
  intro p e s m args below meth c s₁ B hml hv
  obtain ⟨rfl, ⟨hsz, hP, hK, hD0, hKN⟩, hZ, hR⟩ := hv
  have hx := B.exec
  have hb := B.bytes
  have hr := B.returns
  have hts := atoms_spec (ws := (Cond.codeWith yL_damage cL_damage 6 (some .int) [(0, 12, 15, 13), (0, 12, 19, 15)] :: kBig)) B.pre
  have hown : s.vm.findClass RL = some m.cls := findClass_of_methodNamed B.named
  have hlocks := B.notSynchronized
  have htab := vx_table (x := yL_damage) B (hts _ List.mem_cons_self)
  subst hsz
  have hD := hD0.self (sz := s.heap.size)
  generalize hAe : va_A [(x0, .inr (6, [.int (nI N), .ref (n 0), .ref (q 0), .ref (tr 0), .int (nI 0)])), (o9, .inl (cJ, 1, .inr (.inl (fun _ => 0))))] s.heap.size = A at hD hZ ⊢
  have hA : ∀ q : Nat, s.heap.size ≤ q → A q := fun q h => by rw [← hAe]; exact Or.inr h
  have hS : va_S A s.heap s.heap [] := va_S.rf
  have hl := lv_entry ([.ref x0, .int x, .int y, .int z3, .ref o9]) (n := 6) (Nat.le_of_ble_eq_true rfl)
  rw [lg_entry_eq]
  generalize (lg_sl ([.ref x0, .int x, .int y, .int z3, .ref o9]) ++ List.replicate (6 - (lg_sl ([.ref x0, .int x, .int y, .int z3, .ref o9])).length) Slot.unset).toArray = ls at hl ⊢
  have hl : lv_has ls 6 [(0, .ref x0), (1, .int x), (2, .int y), (3, .int z3), (4, .ref o9)] := hl
  refine lv_aload hx hb dL_damage_0 (lv_at hl 4 rfl) ?_
  refine lv_iconst (v := nI 0) hx hb dL_damage_2 (by decide) ?_
  refine lv_aload_n hx hb dL_damage_3 rfl (lv_at hl 0 rfl) ?_
  refine lv_iload_n hx hb dL_damage_4 rfl (lv_at hl 1 rfl) ?_
  refine lv_iload_n hx hb dL_damage_5 rfl (lv_at hl 2 rfl) ?_
  refine lv_iload_n hx hb dL_damage_6 rfl (lv_at hl 3 rfl) ?_
  refine k_cx (A1 := A) (vx_runV (As := [.int x, .int y, .int z3]) (rest := [.int (nI 0), .ref o9]) ⟨hx, hb, hml, hown, hts⟩ (x_damage0 l hl9 D cI cJ cM cG x0 n q tr N x y z3 s.heap.size (hN) (hb2)) (cwV 3 hts (kB_V (fun _ => List.mem_cons_of_mem _) q_30 q_31 q_32 q_9 (kB_c q_33)) rfl rfl rfl (by decide +kernel) ⟨Nat.le_of_ble_eq_true rfl, Nat.le_of_ble_eq_true rfl⟩) (k_preVX (T := TX6) hZ hR hS hA hP hD hK hKN [0] rfl rfl (ci := 6) rfl (q0 := 0) rfl) rfl rfl hl.1 rfl (lv_room (Nat.le_of_ble_eq_true rfl)) dL_damage_7 ⟨Nat.le_of_ble_eq_true rfl, Nat.le_of_ble_eq_true rfl⟩) hD hS hA [0] rfl (fun ce q9 H1 locs1 hz9 hk9 hS1 hce hcv hcl9 => ?_)
  obtain ⟨hP, hD⟩ := k_rest (wr := [(o9, .inl (cJ, 1, .inr (.inl (fun _ => 0))))]) hP hD [0] [1] rfl rfl rfl (by decide) (va_free hD hS hA [0] rfl) hk9
  have hS := hS1
  obtain ⟨-, -, -, hNc, g0, g1, g2, g3, g4, g5⟩ := id hR
  refine vx_catch (own := RL) (name := "java/lang/IndexOutOfBoundsException") hown [] ⟨0, 12, 15, 13⟩ [⟨0, 12, 19, 15⟩] (htab.trans rfl) (fun z h => absurd h List.not_mem_nil) rfl (by decide) (hts (.classLink RL 13 "java/lang/IndexOutOfBoundsException") (List.mem_cons_of_mem _ q_5)) (va_Nw.use rfl g3) hce hcv hcl9 ?_
  refine lv_astore (lv' := [(5, .ref q9), (0, .ref x0), (1, .int x), (2, .int y), (3, .int z3), (4, .ref o9)]) hx hb dL_damage_15 hl (by decide) rfl (fun ls hl => ?_)
  refine lv_iconst (v := nI 1) hx hb dL_damage_17 (by decide) ?_
  have hP9 := hP.sub (ws' := [(o9, .inl (cJ, 1, .inr (.inl (fun _ => 0))))]) [0] rfl
  have hD9 := hD.sub (ws' := [(o9, .inl (cJ, 1, .inr (.inl (fun _ => 0))))]) [0] rfl rfl
  exact W.iret (v := nI 1) hx hb hr (fun t9 ht9 hW9 => ⟨⟨nI 1, (), rfl, rfl, by rw [ht9]; exact hP9, hD9⟩, hS.F ht9⟩) hS.2.2 dL_damage_18

set_option maxHeartbeats 4000000 in
set_option maxRecDepth 100000 in
theorem x_L_setParameter0 (l : Launch) (hl9 : l.stackTraces = false) (D : va_G) (cI cJ cM cG : ClassId) (x0 : Nat) (n : Nat → Nat) (q : Nat → Nat) (tr : Nat → Nat) (N : Nat) (z3 : Int32) (z4 : Int32) (o9 : Nat) (sz : Nat) (hN : N ≤ 10) (hz3 : z3 < 0 ∨ nI (7 + 1) ≤ z3) : Met l yL_setParameter (Cond.codeWith yL_setParameter cL_setParameter 5 (some .int) [(0, 10, 13, 13), (0, 10, 17, 15)] :: kBig) ({ frames := 8, cells := 1, slots := 6, locals := 126 }) (va_Pc [.ref x0, .int z3, .int z4, .ref o9] (kX D [(cI, .int), (cJ, .long), (cM, .object "MeshRouting$Message"), (cG, .array .int)] [(x0, .inr (6, [.int (nI N), .ref (n 0), .ref (q 0), .ref (tr 0), .int (nI 0)])), (o9, .inl (cJ, 1, .inr (.inl (fun _ => 0))))] sz)) (va_Qi (fun (r : Int32) (_ : Unit) => r = nI 1) (fun _ t9 => kB D (va_A [(x0, .inr (6, [.int (nI N), .ref (n 0), .ref (q 0), .ref (tr 0), .int (nI 0)])), (o9, .inl (cJ, 1, .inr (.inl (fun _ => 0))))] sz) [(o9, .inl (cJ, 1, .inr (.inl (fun _ => 0))))] t9) (va_A [(x0, .inr (6, [.int (nI N), .ref (n 0), .ref (q 0), .ref (tr 0), .int (nI 0)])), (o9, .inl (cJ, 1, .inr (.inl (fun _ => 0))))] sz)) 1 6 (va_A [(x0, .inr (6, [.int (nI N), .ref (n 0), .ref (q 0), .ref (tr 0), .int (nI 0)])), (o9, .inl (cJ, 1, .inr (.inl (fun _ => 0))))] sz) := by
  refine va_MetW (cc := cL_setParameter) (maxL := 5) (ret := (some .int)) (hh := [(0, 10, 13, 13), (0, 10, 17, 15)]) (by decide) rfl ?_
  intro p e s m args below meth c s₁ B hml hv
  obtain ⟨rfl, ⟨hsz, hP, hK, hD0, hKN⟩, hZ, hR⟩ := hv
  have hx := B.exec
  have hb := B.bytes
  have hr := B.returns
  have hts := atoms_spec (ws := (Cond.codeWith yL_setParameter cL_setParameter 5 (some .int) [(0, 10, 13, 13), (0, 10, 17, 15)] :: kBig)) B.pre
  have hown : s.vm.findClass RL = some m.cls := findClass_of_methodNamed B.named
  have hlocks := B.notSynchronized
  have htab := vx_table (x := yL_setParameter) B (hts _ List.mem_cons_self)
  subst hsz
  have hD := hD0.self (sz := s.heap.size)
  generalize hAe : va_A [(x0, .inr (6, [.int (nI N), .ref (n 0), .ref (q 0), .ref (tr 0), .int (nI 0)])), (o9, .inl (cJ, 1, .inr (.inl (fun _ => 0))))] s.heap.size = A at hD hZ ⊢
  have hA : ∀ q : Nat, s.heap.size ≤ q → A q := fun q h => by rw [← hAe]; exact Or.inr h
  have hS : va_S A s.heap s.heap [] := va_S.rf
  have hl := lv_entry ([.ref x0, .int z3, .int z4, .ref o9]) (n := 5) (Nat.le_of_ble_eq_true rfl)
  rw [lg_entry_eq]
  generalize (lg_sl ([.ref x0, .int z3, .int z4, .ref o9]) ++ List.replicate (5 - (lg_sl ([.ref x0, .int z3, .int z4, .ref o9])).length) Slot.unset).toArray = ls at hl ⊢
  have hl : lv_has ls 5 [(0, .ref x0), (1, .int z3), (2, .int z4), (3, .ref o9)] := hl
  refine lv_aload_n hx hb dL_setParameter_0 rfl (lv_at hl 3 rfl) ?_
  refine lv_iconst (v := nI 0) hx hb dL_setParameter_1 (by decide) ?_
  refine lv_aload_n hx hb dL_setParameter_2 rfl (lv_at hl 0 rfl) ?_
  refine lv_iload_n hx hb dL_setParameter_3 rfl (lv_at hl 1 rfl) ?_
  refine lv_iload_n hx hb dL_setParameter_4 rfl (lv_at hl 2 rfl) ?_
  refine k_cx (A1 := A) (vx_runV (As := [.int z3, .int z4]) (rest := [.int (nI 0), .ref o9]) ⟨hx, hb, hml, hown, hts⟩ (x_setParameter0 l hl9 D cI cJ cM cG x0 n q tr N z3 z4 s.heap.size (hN) (hz3)) (cwV 2 hts (kB_V (fun _ => List.mem_cons_of_mem _) q_569 q_570 q_571 q_9 (kB_c q_572)) rfl rfl rfl (by decide +kernel) ⟨Nat.le_of_ble_eq_true rfl, Nat.le_of_ble_eq_true rfl⟩) (k_preVX (T := TX6) hZ hR hS hA hP hD hK hKN [0] rfl rfl (ci := 6) rfl (q0 := 0) rfl) rfl rfl hl.1 rfl (lv_room (Nat.le_of_ble_eq_true rfl)) dL_setParameter_5 ⟨Nat.le_of_ble_eq_true rfl, Nat.le_of_ble_eq_true rfl⟩) hD hS hA [0] rfl (fun ce q9 H1 locs1 hz9 hk9 hS1 hce hcv hcl9 => ?_)
  obtain ⟨hP, hD⟩ := k_rest (wr := [(o9, .inl (cJ, 1, .inr (.inl (fun _ => 0))))]) hP hD [0] [1] rfl rfl rfl (by decide) (va_free hD hS hA [0] rfl) hk9
  have hS := hS1
  obtain ⟨-, -, -, hNc, g0, g1, g2, g3, g4, g5⟩ := id hR
  refine vx_catch (own := RL) (name := "java/lang/IndexOutOfBoundsException") hown [] ⟨0, 10, 13, 13⟩ [⟨0, 10, 17, 15⟩] (htab.trans rfl) (fun z h => absurd h List.not_mem_nil) rfl (by decide) (hts (.classLink RL 13 "java/lang/IndexOutOfBoundsException") (List.mem_cons_of_mem _ q_5)) (va_Nw.use rfl g3) hce hcv hcl9 ?_
  refine lv_astore (lv' := [(4, .ref q9), (0, .ref x0), (1, .int z3), (2, .int z4), (3, .ref o9)]) hx hb dL_setParameter_13 hl (by decide) rfl (fun ls hl => ?_)
  refine lv_iconst (v := nI 1) hx hb dL_setParameter_15 (by decide) ?_
  have hP9 := hP.sub (ws' := [(o9, .inl (cJ, 1, .inr (.inl (fun _ => 0))))]) [0] rfl
  have hD9 := hD.sub (ws' := [(o9, .inl (cJ, 1, .inr (.inl (fun _ => 0))))]) [0] rfl rfl
  exact W.iret (v := nI 1) hx hb hr (fun t9 ht9 hW9 => ⟨⟨nI 1, (), rfl, rfl, by rw [ht9]; exact hP9, hD9⟩, hS.F ht9⟩) hS.2.2 dL_setParameter_16

set_option maxHeartbeats 4000000 in
set_option maxRecDepth 100000 in
theorem x_L_setLink2 (l : Launch) (hl9 : l.stackTraces = false) (D : va_G) (cI cJ cM cG : ClassId) (x0 : Nat) (n : Nat → Nat) (q : Nat → Nat) (tr : Nat → Nat) (N : Nat) (a : Nat) (z3 : Int32) (o9 : Nat) (sz : Nat) (hN : N ≤ 10) (ha : a < N) : Met l yL_setLink (Cond.codeWith yL_setLink cL_setLink 6 (some .int) [(0, 12, 15, 13), (0, 12, 19, 15)] :: kBig) ({ frames := 8, cells := 1, slots := 6, locals := 127 }) (va_Pc [.ref x0, .int (nI a), .int (nI a), .int z3, .ref o9] (kX D [(cI, .int), (cJ, .long), (cM, .object "MeshRouting$Message"), (cG, .array .int)] [(x0, .inr (6, [.int (nI N), .ref (n 0), .ref (q 0), .ref (tr 0), .int (nI 0)])), (o9, .inl (cJ, 1, .inr (.inl (fun _ => 0))))] sz)) (va_Qi (fun (r : Int32) (_ : Unit) => r = nI 2) (fun _ t9 => kB D (va_A [(x0, .inr (6, [.int (nI N), .ref (n 0), .ref (q 0), .ref (tr 0), .int (nI 0)])), (o9, .inl (cJ, 1, .inr (.inl (fun _ => 0))))] sz) [(o9, .inl (cJ, 1, .inr (.inl (fun _ => 0))))] t9) (va_A [(x0, .inr (6, [.int (nI N), .ref (n 0), .ref (q 0), .ref (tr 0), .int (nI 0)])), (o9, .inl (cJ, 1, .inr (.inl (fun _ => 0))))] sz)) 1 6 (va_A [(x0, .inr (6, [.int (nI N), .ref (n 0), .ref (q 0), .ref (tr 0), .int (nI 0)])), (o9, .inl (cJ, 1, .inr (.inl (fun _ => 0))))] sz) := by
  refine va_MetW (cc := cL_setLink) (maxL := 6) (ret := (some .int)) (hh := [(0, 12, 15, 13), (0, 12, 19, 15)]) (by decide) rfl ?_
  intro p e s m args below meth c s₁ B hml hv
  obtain ⟨rfl, ⟨hsz, hP, hK, hD0, hKN⟩, hZ, hR⟩ := hv
  have hx := B.exec
  have hb := B.bytes
  have hr := B.returns
  have hts := atoms_spec (ws := (Cond.codeWith yL_setLink cL_setLink 6 (some .int) [(0, 12, 15, 13), (0, 12, 19, 15)] :: kBig)) B.pre
  have hown : s.vm.findClass RL = some m.cls := findClass_of_methodNamed B.named
  have hlocks := B.notSynchronized
  have htab := vx_table (x := yL_setLink) B (hts _ List.mem_cons_self)
  subst hsz
  have hD := hD0.self (sz := s.heap.size)
  generalize hAe : va_A [(x0, .inr (6, [.int (nI N), .ref (n 0), .ref (q 0), .ref (tr 0), .int (nI 0)])), (o9, .inl (cJ, 1, .inr (.inl (fun _ => 0))))] s.heap.size = A at hD hZ ⊢
  have hA : ∀ q : Nat, s.heap.size ≤ q → A q := fun q h => by rw [← hAe]; exact Or.inr h
  have hS : va_S A s.heap s.heap [] := va_S.rf
  have hl := lv_entry ([.ref x0, .int (nI a), .int (nI a), .int z3, .ref o9]) (n := 6) (Nat.le_of_ble_eq_true rfl)
  rw [lg_entry_eq]
  generalize (lg_sl ([.ref x0, .int (nI a), .int (nI a), .int z3, .ref o9]) ++ List.replicate (6 - (lg_sl ([.ref x0, .int (nI a), .int (nI a), .int z3, .ref o9])).length) Slot.unset).toArray = ls at hl ⊢
  have hl : lv_has ls 6 [(0, .ref x0), (1, .int (nI a)), (2, .int (nI a)), (3, .int z3), (4, .ref o9)] := hl
  refine lv_aload hx hb dL_setLink_0 (lv_at hl 4 rfl) ?_
  refine lv_iconst (v := nI 0) hx hb dL_setLink_2 (by decide) ?_
  refine lv_aload_n hx hb dL_setLink_3 rfl (lv_at hl 0 rfl) ?_
  refine lv_iload_n hx hb dL_setLink_4 rfl (lv_at hl 1 rfl) ?_
  refine lv_iload_n hx hb dL_setLink_5 rfl (lv_at hl 2 rfl) ?_
  refine lv_iload_n hx hb dL_setLink_6 rfl (lv_at hl 3 rfl) ?_
  refine k_cx (A1 := A) (vx_runV (As := [.int (nI a), .int (nI a), .int z3]) (rest := [.int (nI 0), .ref o9]) ⟨hx, hb, hml, hown, hts⟩ (x_setLink2 l hl9 D cI cJ cM cG x0 n q tr N a z3 s.heap.size (hN) (ha)) (cwV 3 hts (kB_V (fun _ => List.mem_cons_of_mem _) q_564 q_565 q_566 q_9 (kB_c q_567)) rfl rfl rfl (by decide +kernel) ⟨Nat.le_of_ble_eq_true rfl, Nat.le_of_ble_eq_true rfl⟩) (k_preVX (T := TX6) hZ hR hS hA hP hD hK hKN [0] rfl rfl (ci := 6) rfl (q0 := 0) rfl) rfl rfl hl.1 rfl (lv_room (Nat.le_of_ble_eq_true rfl)) dL_setLink_7 ⟨Nat.le_of_ble_eq_true rfl, Nat.le_of_ble_eq_true rfl⟩) hD hS hA [0] rfl (fun ce q9 H1 locs1 hz9 hk9 hS1 hce hcv hcl9 => ?_)
  obtain ⟨hP, hD⟩ := k_rest (wr := [(o9, .inl (cJ, 1, .inr (.inl (fun _ => 0))))]) hP hD [0] [1] rfl rfl rfl (by decide) (va_free hD hS hA [0] rfl) hk9
  have hS := hS1
  obtain ⟨-, -, -, hNc, g0, g1, g2, g3, g4, g5⟩ := id hR
  refine vx_catch (own := RL) (name := "java/lang/IllegalArgumentException") hown [⟨0, 12, 15, 13⟩] ⟨0, 12, 19, 15⟩ [] (htab.trans rfl) (fun z h => by rcases List.mem_singleton.mp h with rfl; exact Or.inr ⟨by decide, "java/lang/IndexOutOfBoundsException", (hts (.classLink RL 13 "java/lang/IndexOutOfBoundsException") (List.mem_cons_of_mem _ q_5)), hNc⟩) rfl (by decide) (hts (.classLink RL 15 "java/lang/IllegalArgumentException") (List.mem_cons_of_mem _ q_29)) (va_Nw.use rfl g4) hce hcv hcl9 ?_
  refine lv_astore (lv' := [(5, .ref q9), (0, .ref x0), (1, .int (nI a)), (2, .int (nI a)), (3, .int z3), (4, .ref o9)]) hx hb dL_setLink_19 hl (by decide) rfl (fun ls hl => ?_)
  refine lv_iconst (v := nI 2) hx hb dL_setLink_21 (by decide) ?_
  have hP9 := hP.sub (ws' := [(o9, .inl (cJ, 1, .inr (.inl (fun _ => 0))))]) [0] rfl
  have hD9 := hD.sub (ws' := [(o9, .inl (cJ, 1, .inr (.inl (fun _ => 0))))]) [0] rfl rfl
  exact W.iret (v := nI 2) hx hb hr (fun t9 ht9 hW9 => ⟨⟨nI 2, (), rfl, rfl, by rw [ht9]; exact hP9, hD9⟩, hS.F ht9⟩) hS.2.2 dL_setLink_22

set_option maxHeartbeats 4000000 in
set_option maxRecDepth 100000 in
theorem x_L_send2 (l : Launch) (hl9 : l.stackTraces = false) (D : va_G) (cI cJ cM cG : ClassId) (x0 : Nat) (n : Nat → Nat) (q : Nat → Nat) (tr : Nat → Nat) (N : Nat) (a : Nat) (o9 : Nat) (sz : Nat) (hN : N ≤ 10) (ha : a < N) : Met l yL_send (Cond.codeWith yL_send cL_send 5 (some .int) [(0, 10, 13, 13), (0, 10, 17, 15), (0, 10, 21, 27)] :: kBig) ({ frames := 8, cells := 1, slots := 6, locals := 126 }) (va_Pc [.ref x0, .int (nI a), .int (nI a), .ref o9] (kX D [(cI, .int), (cJ, .long), (cM, .object "MeshRouting$Message"), (cG, .array .int)] [(x0, .inr (6, [.int (nI N), .ref (n 0), .ref (q 0), .ref (tr 0), .int (nI 0)])), (o9, .inl (cJ, 1, .inr (.inl (fun _ => 0))))] sz)) (va_Qi (fun (r : Int32) (_ : Unit) => r = nI 2) (fun _ t9 => kB D (va_A [(x0, .inr (6, [.int (nI N), .ref (n 0), .ref (q 0), .ref (tr 0), .int (nI 0)])), (o9, .inl (cJ, 1, .inr (.inl (fun _ => 0))))] sz) [(o9, .inl (cJ, 1, .inr (.inl (fun _ => 0))))] t9) (va_A [(x0, .inr (6, [.int (nI N), .ref (n 0), .ref (q 0), .ref (tr 0), .int (nI 0)])), (o9, .inl (cJ, 1, .inr (.inl (fun _ => 0))))] sz)) 1 6 (va_A [(x0, .inr (6, [.int (nI N), .ref (n 0), .ref (q 0), .ref (tr 0), .int (nI 0)])), (o9, .inl (cJ, 1, .inr (.inl (fun _ => 0))))] sz) := by
  refine va_MetW (cc := cL_send) (maxL := 5) (ret := (some .int)) (hh := [(0, 10, 13, 13), (0, 10, 17, 15), (0, 10, 21, 27)]) (by decide) rfl ?_
  intro p e s m args below meth c s₁ B hml hv
  obtain ⟨rfl, ⟨hsz, hP, hK, hD0, hKN⟩, hZ, hR⟩ := hv
  have hx := B.exec
  have hb := B.bytes
  have hr := B.returns
  have hts := atoms_spec (ws := (Cond.codeWith yL_send cL_send 5 (some .int) [(0, 10, 13, 13), (0, 10, 17, 15), (0, 10, 21, 27)] :: kBig)) B.pre
  have hown : s.vm.findClass RL = some m.cls := findClass_of_methodNamed B.named
  have hlocks := B.notSynchronized
  have htab := vx_table (x := yL_send) B (hts _ List.mem_cons_self)
  subst hsz
  have hD := hD0.self (sz := s.heap.size)
  generalize hAe : va_A [(x0, .inr (6, [.int (nI N), .ref (n 0), .ref (q 0), .ref (tr 0), .int (nI 0)])), (o9, .inl (cJ, 1, .inr (.inl (fun _ => 0))))] s.heap.size = A at hD hZ ⊢
  have hA : ∀ q : Nat, s.heap.size ≤ q → A q := fun q h => by rw [← hAe]; exact Or.inr h
  have hS : va_S A s.heap s.heap [] := va_S.rf
  have hl := lv_entry ([.ref x0, .int (nI a), .int (nI a), .ref o9]) (n := 5) (Nat.le_of_ble_eq_true rfl)
  rw [lg_entry_eq]
  generalize (lg_sl ([.ref x0, .int (nI a), .int (nI a), .ref o9]) ++ List.replicate (5 - (lg_sl ([.ref x0, .int (nI a), .int (nI a), .ref o9])).length) Slot.unset).toArray = ls at hl ⊢
  have hl : lv_has ls 5 [(0, .ref x0), (1, .int (nI a)), (2, .int (nI a)), (3, .ref o9)] := hl
  refine lv_aload_n hx hb dL_send_0 rfl (lv_at hl 3 rfl) ?_
  refine lv_iconst (v := nI 0) hx hb dL_send_1 (by decide) ?_
  refine lv_aload_n hx hb dL_send_2 rfl (lv_at hl 0 rfl) ?_
  refine lv_iload_n hx hb dL_send_3 rfl (lv_at hl 1 rfl) ?_
  refine lv_iload_n hx hb dL_send_4 rfl (lv_at hl 2 rfl) ?_
  refine k_cx (A1 := A) (vx_runV (As := [.int (nI a), .int (nI a)]) (rest := [.int (nI 0), .ref o9]) ⟨hx, hb, hml, hown, hts⟩ (x_send2 l hl9 D cI cJ cM cG x0 n q tr N a s.heap.size (hN) (ha)) (cwV 2 hts (kB_V (fun _ => List.mem_cons_of_mem _) q_544 q_545 q_546 q_9 (kB_c q_547)) rfl rfl rfl (by decide +kernel) ⟨Nat.le_of_ble_eq_true rfl, Nat.le_of_ble_eq_true rfl⟩) (k_preVX (T := TX6) hZ hR hS hA hP hD hK hKN [0] rfl rfl (ci := 6) rfl (q0 := 0) rfl) rfl rfl hl.1 rfl (lv_room (Nat.le_of_ble_eq_true rfl)) dL_send_5 ⟨Nat.le_of_ble_eq_true rfl, Nat.le_of_ble_eq_true rfl⟩) hD hS hA [0] rfl (fun ce q9 H1 locs1 hz9 hk9 hS1 hce hcv hcl9 => ?_)
  obtain ⟨hP, hD⟩ := k_rest (wr := [(o9, .inl (cJ, 1, .inr (.inl (fun _ => 0))))]) hP hD [0] [1] rfl rfl rfl (by decide) (va_free hD hS hA [0] rfl) hk9
  have hS := hS1
  obtain ⟨-, -, -, hNc, g0, g1, g2, g3, g4, g5⟩ := id hR
  refine vx_catch (own := RL) (name := "java/lang/IllegalArgumentException") hown [⟨0, 10, 13, 13⟩] ⟨0, 10, 17, 15⟩ [⟨0, 10, 21, 27⟩] (htab.trans rfl) (fun z h => by rcases List.mem_singleton.mp h with rfl; exact Or.inr ⟨by decide, "java/lang/IndexOutOfBoundsException", (hts (.classLink RL 13 "java/lang/IndexOutOfBoundsException") (List.mem_cons_of_mem _ q_5)), hNc⟩) rfl (by decide) (hts (.classLink RL 15 "java/lang/IllegalArgumentException") (List.mem_cons_of_mem _ q_29)) (va_Nw.use rfl g4) hce hcv hcl9 ?_
  refine lv_astore (lv' := [(4, .ref q9), (0, .ref x0), (1, .int (nI a)), (2, .int (nI a)), (3, .ref o9)]) hx hb dL_send_17 hl (by decide) rfl (fun ls hl => ?_)
  refine lv_iconst (v := nI 2) hx hb dL_send_19 (by decide) ?_
  have hP9 := hP.sub (ws' := [(o9, .inl (cJ, 1, .inr (.inl (fun _ => 0))))]) [0] rfl
  have hD9 := hD.sub (ws' := [(o9, .inl (cJ, 1, .inr (.inl (fun _ => 0))))]) [0] rfl rfl
  exact W.iret (v := nI 2) hx hb hr (fun t9 ht9 hW9 => ⟨⟨nI 2, (), rfl, rfl, by rw [ht9]; exact hP9, hD9⟩, hS.F ht9⟩) hS.2.2 dL_send_20

set_option maxHeartbeats 4000000 in
set_option maxRecDepth 100000 in
theorem x_L_forecast2 (l : Launch) (hl9 : l.stackTraces = false) (D : va_G) (cI cJ cM cG : ClassId) (x0 : Nat) (n : Nat → Nat) (q : Nat → Nat) (tr : Nat → Nat) (N : Nat) (a : Nat) (z3 : Int32) (o9 : Nat) (sz : Nat) (hN : N ≤ 10) (ha : a < N) : Met l yL_forecast (Cond.codeWith yL_forecast cL_forecast 6 (some .int) [(0, 12, 15, 13), (0, 12, 19, 15)] :: kBig) ({ frames := 8, cells := 1, slots := 6, locals := 128 }) (va_Pc [.ref x0, .int (nI a), .int (nI a), .int z3, .ref o9] (kX D [(cI, .int), (cJ, .long), (cM, .object "MeshRouting$Message"), (cG, .array .int)] [(x0, .inr (6, [.int (nI N), .ref (n 0), .ref (q 0), .ref (tr 0), .int (nI 0)])), (o9, .inl (cJ, 1, .inr (.inl (fun _ => 0))))] sz)) (va_Qi (fun (r : Int32) (_ : Unit) => r = nI 2) (fun _ t9 => kB D (va_A [(x0, .inr (6, [.int (nI N), .ref (n 0), .ref (q 0), .ref (tr 0), .int (nI 0)])), (o9, .inl (cJ, 1, .inr (.inl (fun _ => 0))))] sz) [(o9, .inl (cJ, 1, .inr (.inl (fun _ => 0))))] t9) (va_A [(x0, .inr (6, [.int (nI N), .ref (n 0), .ref (q 0), .ref (tr 0), .int (nI 0)])), (o9, .inl (cJ, 1, .inr (.inl (fun _ => 0))))] sz)) 1 6 (va_A [(x0, .inr (6, [.int (nI N), .ref (n 0), .ref (q 0), .ref (tr 0), .int (nI 0)])), (o9, .inl (cJ, 1, .inr (.inl (fun _ => 0))))] sz) := by
  refine va_MetW (cc := cL_forecast) (maxL := 6) (ret := (some .int)) (hh := [(0, 12, 15, 13), (0, 12, 19, 15)]) (by decide) rfl ?_
  intro p e s m args below meth c s₁ B hml hv
  obtain ⟨rfl, ⟨hsz, hP, hK, hD0, hKN⟩, hZ, hR⟩ := hv
  have hx := B.exec
  have hb := B.bytes
  have hr := B.returns
  have hts := atoms_spec (ws := (Cond.codeWith yL_forecast cL_forecast 6 (some .int) [(0, 12, 15, 13), (0, 12, 19, 15)] :: kBig)) B.pre
  have hown : s.vm.findClass RL = some m.cls := findClass_of_methodNamed B.named
  have hlocks := B.notSynchronized
  have htab := vx_table (x := yL_forecast) B (hts _ List.mem_cons_self)
  subst hsz
  have hD := hD0.self (sz := s.heap.size)
  generalize hAe : va_A [(x0, .inr (6, [.int (nI N), .ref (n 0), .ref (q 0), .ref (tr 0), .int (nI 0)])), (o9, .inl (cJ, 1, .inr (.inl (fun _ => 0))))] s.heap.size = A at hD hZ ⊢
  have hA : ∀ q : Nat, s.heap.size ≤ q → A q := fun q h => by rw [← hAe]; exact Or.inr h
  have hS : va_S A s.heap s.heap [] := va_S.rf
  have hl := lv_entry ([.ref x0, .int (nI a), .int (nI a), .int z3, .ref o9]) (n := 6) (Nat.le_of_ble_eq_true rfl)
  rw [lg_entry_eq]
  generalize (lg_sl ([.ref x0, .int (nI a), .int (nI a), .int z3, .ref o9]) ++ List.replicate (6 - (lg_sl ([.ref x0, .int (nI a), .int (nI a), .int z3, .ref o9])).length) Slot.unset).toArray = ls at hl ⊢
  have hl : lv_has ls 6 [(0, .ref x0), (1, .int (nI a)), (2, .int (nI a)), (3, .int z3), (4, .ref o9)] := hl
  refine lv_aload hx hb dL_forecast_0 (lv_at hl 4 rfl) ?_
  refine lv_iconst (v := nI 0) hx hb dL_forecast_2 (by decide) ?_
  refine lv_aload_n hx hb dL_forecast_3 rfl (lv_at hl 0 rfl) ?_
  refine lv_iload_n hx hb dL_forecast_4 rfl (lv_at hl 1 rfl) ?_
  refine lv_iload_n hx hb dL_forecast_5 rfl (lv_at hl 2 rfl) ?_
  refine lv_iload_n hx hb dL_forecast_6 rfl (lv_at hl 3 rfl) ?_
  refine k_cx (A1 := A) (vx_runV (As := [.int (nI a), .int (nI a), .int z3]) (rest := [.int (nI 0), .ref o9]) ⟨hx, hb, hml, hown, hts⟩ (x_forecast2 l hl9 D cI cJ cM cG x0 n q tr N a z3 s.heap.size (hN) (ha)) (cwV 3 hts (kB_V (fun _ => List.mem_cons_of_mem _) q_465 q_466 q_467 q_9 (kB_c q_468)) rfl rfl rfl (by decide +kernel) ⟨Nat.le_of_ble_eq_true rfl, Nat.le_of_ble_eq_true rfl⟩) (k_preVX (T := TX6) hZ hR hS hA hP hD hK hKN [0] rfl rfl (ci := 6) rfl (q0 := 0) rfl) rfl rfl hl.1 rfl (lv_room (Nat.le_of_ble_eq_true rfl)) dL_forecast_7 ⟨Nat.le_of_ble_eq_true rfl, Nat.le_of_ble_eq_true rfl⟩) hD hS hA [0] rfl (fun ce q9 H1 locs1 hz9 hk9 hS1 hce hcv hcl9 => ?_)
  obtain ⟨hP, hD⟩ := k_rest (wr := [(o9, .inl (cJ, 1, .inr (.inl (fun _ => 0))))]) hP hD [0] [1] rfl rfl rfl (by decide) (va_free hD hS hA [0] rfl) hk9
  have hS := hS1
  obtain ⟨-, -, -, hNc, g0, g1, g2, g3, g4, g5⟩ := id hR
  refine vx_catch (own := RL) (name := "java/lang/IllegalArgumentException") hown [⟨0, 12, 15, 13⟩] ⟨0, 12, 19, 15⟩ [] (htab.trans rfl) (fun z h => by rcases List.mem_singleton.mp h with rfl; exact Or.inr ⟨by decide, "java/lang/IndexOutOfBoundsException", (hts (.classLink RL 13 "java/lang/IndexOutOfBoundsException") (List.mem_cons_of_mem _ q_5)), hNc⟩) rfl (by decide) (hts (.classLink RL 15 "java/lang/IllegalArgumentException") (List.mem_cons_of_mem _ q_29)) (va_Nw.use rfl g4) hce hcv hcl9 ?_
  refine lv_astore (lv' := [(5, .ref q9), (0, .ref x0), (1, .int (nI a)), (2, .int (nI a)), (3, .int z3), (4, .ref o9)]) hx hb dL_forecast_19 hl (by decide) rfl (fun ls hl => ?_)
  refine lv_iconst (v := nI 2) hx hb dL_forecast_21 (by decide) ?_
  have hP9 := hP.sub (ws' := [(o9, .inl (cJ, 1, .inr (.inl (fun _ => 0))))]) [0] rfl
  have hD9 := hD.sub (ws' := [(o9, .inl (cJ, 1, .inr (.inl (fun _ => 0))))]) [0] rfl rfl
  exact W.iret (v := nI 2) hx hb hr (fun t9 ht9 hW9 => ⟨⟨nI 2, (), rfl, rfl, by rw [ht9]; exact hP9, hD9⟩, hS.F ht9⟩) hS.2.2 dL_forecast_22

set_option maxHeartbeats 4000000 in
set_option maxRecDepth 100000 in
theorem x_L_damage2 (l : Launch) (hl9 : l.stackTraces = false) (D : va_G) (cI cJ cM cG : ClassId) (x0 : Nat) (n : Nat → Nat) (q : Nat → Nat) (tr : Nat → Nat) (N : Nat) (a : Nat) (z3 : Int32) (o9 : Nat) (sz : Nat) (hN : N ≤ 10) (ha : a < N) : Met l yL_damage (Cond.codeWith yL_damage cL_damage 6 (some .int) [(0, 12, 15, 13), (0, 12, 19, 15)] :: kBig) ({ frames := 8, cells := 1, slots := 6, locals := 127 }) (va_Pc [.ref x0, .int (nI a), .int (nI a), .int z3, .ref o9] (kX D [(cI, .int), (cJ, .long), (cM, .object "MeshRouting$Message"), (cG, .array .int)] [(x0, .inr (6, [.int (nI N), .ref (n 0), .ref (q 0), .ref (tr 0), .int (nI 0)])), (o9, .inl (cJ, 1, .inr (.inl (fun _ => 0))))] sz)) (va_Qi (fun (r : Int32) (_ : Unit) => r = nI 2) (fun _ t9 => kB D (va_A [(x0, .inr (6, [.int (nI N), .ref (n 0), .ref (q 0), .ref (tr 0), .int (nI 0)])), (o9, .inl (cJ, 1, .inr (.inl (fun _ => 0))))] sz) [(o9, .inl (cJ, 1, .inr (.inl (fun _ => 0))))] t9) (va_A [(x0, .inr (6, [.int (nI N), .ref (n 0), .ref (q 0), .ref (tr 0), .int (nI 0)])), (o9, .inl (cJ, 1, .inr (.inl (fun _ => 0))))] sz)) 1 6 (va_A [(x0, .inr (6, [.int (nI N), .ref (n 0), .ref (q 0), .ref (tr 0), .int (nI 0)])), (o9, .inl (cJ, 1, .inr (.inl (fun _ => 0))))] sz) := by
  refine va_MetW (cc := cL_damage) (maxL := 6) (ret := (some .int)) (hh := [(0, 12, 15, 13), (0, 12, 19, 15)]) (by decide) rfl ?_
  intro p e s m args below meth c s₁ B hml hv
  obtain ⟨rfl, ⟨hsz, hP, hK, hD0, hKN⟩, hZ, hR⟩ := hv
  have hx := B.exec
  have hb := B.bytes
  have hr := B.returns
  have hts := atoms_spec (ws := (Cond.codeWith yL_damage cL_damage 6 (some .int) [(0, 12, 15, 13), (0, 12, 19, 15)] :: kBig)) B.pre
  have hown : s.vm.findClass RL = some m.cls := findClass_of_methodNamed B.named
  have hlocks := B.notSynchronized
  have htab := vx_table (x := yL_damage) B (hts _ List.mem_cons_self)
  subst hsz
  have hD := hD0.self (sz := s.heap.size)
  generalize hAe : va_A [(x0, .inr (6, [.int (nI N), .ref (n 0), .ref (q 0), .ref (tr 0), .int (nI 0)])), (o9, .inl (cJ, 1, .inr (.inl (fun _ => 0))))] s.heap.size = A at hD hZ ⊢
  have hA : ∀ q : Nat, s.heap.size ≤ q → A q := fun q h => by rw [← hAe]; exact Or.inr h
  have hS : va_S A s.heap s.heap [] := va_S.rf
  have hl := lv_entry ([.ref x0, .int (nI a), .int (nI a), .int z3, .ref o9]) (n := 6) (Nat.le_of_ble_eq_true rfl)
  rw [lg_entry_eq]
  generalize (lg_sl ([.ref x0, .int (nI a), .int (nI a), .int z3, .ref o9]) ++ List.replicate (6 - (lg_sl ([.ref x0, .int (nI a), .int (nI a), .int z3, .ref o9])).length) Slot.unset).toArray = ls at hl ⊢
  have hl : lv_has ls 6 [(0, .ref x0), (1, .int (nI a)), (2, .int (nI a)), (3, .int z3), (4, .ref o9)] := hl
  refine lv_aload hx hb dL_damage_0 (lv_at hl 4 rfl) ?_
  refine lv_iconst (v := nI 0) hx hb dL_damage_2 (by decide) ?_
  refine lv_aload_n hx hb dL_damage_3 rfl (lv_at hl 0 rfl) ?_
  refine lv_iload_n hx hb dL_damage_4 rfl (lv_at hl 1 rfl) ?_
  refine lv_iload_n hx hb dL_damage_5 rfl (lv_at hl 2 rfl) ?_
  refine lv_iload_n hx hb dL_damage_6 rfl (lv_at hl 3 rfl) ?_
  refine k_cx (A1 := A) (vx_runV (As := [.int (nI a), .int (nI a), .int z3]) (rest := [.int (nI 0), .ref o9]) ⟨hx, hb, hml, hown, hts⟩ (x_damage2 l hl9 D cI cJ cM cG x0 n q tr N a z3 s.heap.size (hN) (ha)) (cwV 3 hts (kB_V (fun _ => List.mem_cons_of_mem _) q_30 q_31 q_32 q_9 (kB_c q_33)) rfl rfl rfl (by decide +kernel) ⟨Nat.le_of_ble_eq_true rfl, Nat.le_of_ble_eq_true rfl⟩) (k_preVX (T := TX6) hZ hR hS hA hP hD hK hKN [0] rfl rfl (ci := 6) rfl (q0 := 0) rfl) rfl rfl hl.1 rfl (lv_room (Nat.le_of_ble_eq_true rfl)) dL_damage_7 ⟨Nat.le_of_ble_eq_true rfl, Nat.le_of_ble_eq_true rfl⟩) hD hS hA [0] rfl (fun ce q9 H1 locs1 hz9 hk9 hS1 hce hcv hcl9 => ?_)
  obtain ⟨hP, hD⟩ := k_rest (wr := [(o9, .inl (cJ, 1, .inr (.inl (fun _ => 0))))]) hP hD [0] [1] rfl rfl rfl (by decide) (va_free hD hS hA [0] rfl) hk9
  have hS := hS1
  obtain ⟨-, -, -, hNc, g0, g1, g2, g3, g4, g5⟩ := id hR
  refine vx_catch (own := RL) (name := "java/lang/IllegalArgumentException") hown [⟨0, 12, 15, 13⟩] ⟨0, 12, 19, 15⟩ [] (htab.trans rfl) (fun z h => by rcases List.mem_singleton.mp h with rfl; exact Or.inr ⟨by decide, "java/lang/IndexOutOfBoundsException", (hts (.classLink RL 13 "java/lang/IndexOutOfBoundsException") (List.mem_cons_of_mem _ q_5)), hNc⟩) rfl (by decide) (hts (.classLink RL 15 "java/lang/IllegalArgumentException") (List.mem_cons_of_mem _ q_29)) (va_Nw.use rfl g4) hce hcv hcl9 ?_
  refine lv_astore (lv' := [(5, .ref q9), (0, .ref x0), (1, .int (nI a)), (2, .int (nI a)), (3, .int z3), (4, .ref o9)]) hx hb dL_damage_19 hl (by decide) rfl (fun ls hl => ?_)
  refine lv_iconst (v := nI 2) hx hb dL_damage_21 (by decide) ?_
  have hP9 := hP.sub (ws' := [(o9, .inl (cJ, 1, .inr (.inl (fun _ => 0))))]) [0] rfl
  have hD9 := hD.sub (ws' := [(o9, .inl (cJ, 1, .inr (.inl (fun _ => 0))))]) [0] rfl rfl
  exact W.iret (v := nI 2) hx hb hr (fun t9 ht9 hW9 => ⟨⟨nI 2, (), rfl, rfl, by rw [ht9]; exact hP9, hD9⟩, hS.F ht9⟩) hS.2.2 dL_damage_22

set_option maxHeartbeats 4000000 in
set_option maxRecDepth 100000 in
theorem x_L_setLink3 (l : Launch) (hl9 : l.stackTraces = false) (D : va_G) (cI cJ cM cG : ClassId) (x0 : Nat) (n : Nat → Nat) (q : Nat → Nat) (tr : Nat → Nat) (N : Nat) (a : Nat) (b : Nat) (z3 : Int32) (o9 : Nat) (sz : Nat) (hN : N ≤ 10) (ha : a < N) (hb9 : b < N) (hab : a ≠ b) (hz3 : z3 < 0 ∨ nI (9 + 1) ≤ z3) : Met l yL_setLink (Cond.codeWith yL_setLink cL_setLink 6 (some .int) [(0, 12, 15, 13), (0, 12, 19, 15)] :: kBig) ({ frames := 8, cells := 1, slots := 6, locals := 127 }) (va_Pc [.ref x0, .int (nI a), .int (nI b), .int z3, .ref o9] (kX D [(cI, .int), (cJ, .long), (cM, .object "MeshRouting$Message"), (cG, .array .int)] [(x0, .inr (6, [.int (nI N), .ref (n 0), .ref (q 0), .ref (tr 0), .int (nI 0)])), (o9, .inl (cJ, 1, .inr (.inl (fun _ => 0))))] sz)) (va_Qi (fun (r : Int32) (_ : Unit) => r = nI 2) (fun _ t9 => kB D (va_A [(x0, .inr (6, [.int (nI N), .ref (n 0), .ref (q 0), .ref (tr 0), .int (nI 0)])), (o9, .inl (cJ, 1, .inr (.inl (fun _ => 0))))] sz) [(o9, .inl (cJ, 1, .inr (.inl (fun _ => 0))))] t9) (va_A [(x0, .inr (6, [.int (nI N), .ref (n 0), .ref (q 0), .ref (tr 0), .int (nI 0)])), (o9, .inl (cJ, 1, .inr (.inl (fun _ => 0))))] sz)) 1 6 (va_A [(x0, .inr (6, [.int (nI N), .ref (n 0), .ref (q 0), .ref (tr 0), .int (nI 0)])), (o9, .inl (cJ, 1, .inr (.inl (fun _ => 0))))] sz) := by
  refine va_MetW (cc := cL_setLink) (maxL := 6) (ret := (some .int)) (hh := [(0, 12, 15, 13), (0, 12, 19, 15)]) (by decide) rfl ?_
  intro p e s m args below meth c s₁ B hml hv
  obtain ⟨rfl, ⟨hsz, hP, hK, hD0, hKN⟩, hZ, hR⟩ := hv
  have hx := B.exec
  have hb := B.bytes
  have hr := B.returns
  have hts := atoms_spec (ws := (Cond.codeWith yL_setLink cL_setLink 6 (some .int) [(0, 12, 15, 13), (0, 12, 19, 15)] :: kBig)) B.pre
  have hown : s.vm.findClass RL = some m.cls := findClass_of_methodNamed B.named
  have hlocks := B.notSynchronized
  have htab := vx_table (x := yL_setLink) B (hts _ List.mem_cons_self)
  subst hsz
  have hD := hD0.self (sz := s.heap.size)
  generalize hAe : va_A [(x0, .inr (6, [.int (nI N), .ref (n 0), .ref (q 0), .ref (tr 0), .int (nI 0)])), (o9, .inl (cJ, 1, .inr (.inl (fun _ => 0))))] s.heap.size = A at hD hZ ⊢
  have hA : ∀ q : Nat, s.heap.size ≤ q → A q := fun q h => by rw [← hAe]; exact Or.inr h
  have hS : va_S A s.heap s.heap [] := va_S.rf
  have hl := lv_entry ([.ref x0, .int (nI a), .int (nI b), .int z3, .ref o9]) (n := 6) (Nat.le_of_ble_eq_true rfl)
  rw [lg_entry_eq]
  generalize (lg_sl ([.ref x0, .int (nI a), .int (nI b), .int z3, .ref o9]) ++ List.replicate (6 - (lg_sl ([.ref x0, .int (nI a), .int (nI b), .int z3, .ref o9])).length) Slot.unset).toArray = ls at hl ⊢
  have hl : lv_has ls 6 [(0, .ref x0), (1, .int (nI a)), (2, .int (nI b)), (3, .int z3), (4, .ref o9)] := hl
  refine lv_aload hx hb dL_setLink_0 (lv_at hl 4 rfl) ?_
  refine lv_iconst (v := nI 0) hx hb dL_setLink_2 (by decide) ?_
  refine lv_aload_n hx hb dL_setLink_3 rfl (lv_at hl 0 rfl) ?_
  refine lv_iload_n hx hb dL_setLink_4 rfl (lv_at hl 1 rfl) ?_
  refine lv_iload_n hx hb dL_setLink_5 rfl (lv_at hl 2 rfl) ?_
  refine lv_iload_n hx hb dL_setLink_6 rfl (lv_at hl 3 rfl) ?_
  refine k_cx (A1 := A) (vx_runV (As := [.int (nI a), .int (nI b), .int z3]) (rest := [.int (nI 0), .ref o9]) ⟨hx, hb, hml, hown, hts⟩ (x_setLink3 l hl9 D cI cJ cM cG x0 n q tr N a b z3 s.heap.size (hN) (ha) (hb9) (hab) (hz3)) (cwV 3 hts (kB_V (fun _ => List.mem_cons_of_mem _) q_564 q_565 q_566 q_9 (kB_c q_567)) rfl rfl rfl (by decide +kernel) ⟨Nat.le_of_ble_eq_true rfl, Nat.le_of_ble_eq_true rfl⟩) (k_preVX (T := TX6) hZ hR hS hA hP hD hK hKN [0] rfl rfl (ci := 6) rfl (q0 := 0) rfl) rfl rfl hl.1 rfl (lv_room (Nat.le_of_ble_eq_true rfl)) dL_setLink_7 ⟨Nat.le_of_ble_eq_true rfl, Nat.le_of_ble_eq_true rfl⟩) hD hS hA [0] rfl (fun ce q9 H1 locs1 hz9 hk9 hS1 hce hcv hcl9 => ?_)
  obtain ⟨hP, hD⟩ := k_rest (wr := [(o9, .inl (cJ, 1, .inr (.inl (fun _ => 0))))]) hP hD [0] [1] rfl rfl rfl (by decide) (va_free hD hS hA [0] rfl) hk9
  have hS := hS1
  obtain ⟨-, -, -, hNc, g0, g1, g2, g3, g4, g5⟩ := id hR
  refine vx_catch (own := RL) (name := "java/lang/IllegalArgumentException") hown [⟨0, 12, 15, 13⟩] ⟨0, 12, 19, 15⟩ [] (htab.trans rfl) (fun z h => by rcases List.mem_singleton.mp h with rfl; exact Or.inr ⟨by decide, "java/lang/IndexOutOfBoundsException", (hts (.classLink RL 13 "java/lang/IndexOutOfBoundsException") (List.mem_cons_of_mem _ q_5)), hNc⟩) rfl (by decide) (hts (.classLink RL 15 "java/lang/IllegalArgumentException") (List.mem_cons_of_mem _ q_29)) (va_Nw.use rfl g4) hce hcv hcl9 ?_
  refine lv_astore (lv' := [(5, .ref q9), (0, .ref x0), (1, .int (nI a)), (2, .int (nI b)), (3, .int z3), (4, .ref o9)]) hx hb dL_setLink_19 hl (by decide) rfl (fun ls hl => ?_)
  refine lv_iconst (v := nI 2) hx hb dL_setLink_21 (by decide) ?_
  have hP9 := hP.sub (ws' := [(o9, .inl (cJ, 1, .inr (.inl (fun _ => 0))))]) [0] rfl
  have hD9 := hD.sub (ws' := [(o9, .inl (cJ, 1, .inr (.inl (fun _ => 0))))]) [0] rfl rfl
  exact W.iret (v := nI 2) hx hb hr (fun t9 ht9 hW9 => ⟨⟨nI 2, (), rfl, rfl, by rw [ht9]; exact hP9, hD9⟩, hS.F ht9⟩) hS.2.2 dL_setLink_22

set_option maxHeartbeats 4000000 in
set_option maxRecDepth 100000 in
theorem x_L_forecast3 (l : Launch) (hl9 : l.stackTraces = false) (D : va_G) (cI cJ cM cG : ClassId) (x0 : Nat) (n : Nat → Nat) (q : Nat → Nat) (tr : Nat → Nat) (N : Nat) (a : Nat) (b : Nat) (z3 : Int32) (o9 : Nat) (sz : Nat) (hN : N ≤ 10) (ha : a < N) (hb9 : b < N) (hab : a ≠ b) (hz3 : z3 < 0 ∨ nI (100000 + 1) ≤ z3) : Met l yL_forecast (Cond.codeWith yL_forecast cL_forecast 6 (some .int) [(0, 12, 15, 13), (0, 12, 19, 15)] :: kBig) ({ frames := 8, cells := 1, slots := 6, locals := 128 }) (va_Pc [.ref x0, .int (nI a), .int (nI b), .int z3, .ref o9] (kX D [(cI, .int), (cJ, .long), (cM, .object "MeshRouting$Message"), (cG, .array .int)] [(x0, .inr (6, [.int (nI N), .ref (n 0), .ref (q 0), .ref (tr 0), .int (nI 0)])), (o9, .inl (cJ, 1, .inr (.inl (fun _ => 0))))] sz)) (va_Qi (fun (r : Int32) (_ : Unit) => r = nI 2) (fun _ t9 => kB D (va_A [(x0, .inr (6, [.int (nI N), .ref (n 0), .ref (q 0), .ref (tr 0), .int (nI 0)])), (o9, .inl (cJ, 1, .inr (.inl (fun _ => 0))))] sz) [(o9, .inl (cJ, 1, .inr (.inl (fun _ => 0))))] t9) (va_A [(x0, .inr (6, [.int (nI N), .ref (n 0), .ref (q 0), .ref (tr 0), .int (nI 0)])), (o9, .inl (cJ, 1, .inr (.inl (fun _ => 0))))] sz)) 1 6 (va_A [(x0, .inr (6, [.int (nI N), .ref (n 0), .ref (q 0), .ref (tr 0), .int (nI 0)])), (o9, .inl (cJ, 1, .inr (.inl (fun _ => 0))))] sz) := by
  refine va_MetW (cc := cL_forecast) (maxL := 6) (ret := (some .int)) (hh := [(0, 12, 15, 13), (0, 12, 19, 15)]) (by decide) rfl ?_
  intro p e s m args below meth c s₁ B hml hv
  obtain ⟨rfl, ⟨hsz, hP, hK, hD0, hKN⟩, hZ, hR⟩ := hv
  have hx := B.exec
  have hb := B.bytes
  have hr := B.returns
  have hts := atoms_spec (ws := (Cond.codeWith yL_forecast cL_forecast 6 (some .int) [(0, 12, 15, 13), (0, 12, 19, 15)] :: kBig)) B.pre
  have hown : s.vm.findClass RL = some m.cls := findClass_of_methodNamed B.named
  have hlocks := B.notSynchronized
  have htab := vx_table (x := yL_forecast) B (hts _ List.mem_cons_self)
  subst hsz
  have hD := hD0.self (sz := s.heap.size)
  generalize hAe : va_A [(x0, .inr (6, [.int (nI N), .ref (n 0), .ref (q 0), .ref (tr 0), .int (nI 0)])), (o9, .inl (cJ, 1, .inr (.inl (fun _ => 0))))] s.heap.size = A at hD hZ ⊢
  have hA : ∀ q : Nat, s.heap.size ≤ q → A q := fun q h => by rw [← hAe]; exact Or.inr h
  have hS : va_S A s.heap s.heap [] := va_S.rf
  have hl := lv_entry ([.ref x0, .int (nI a), .int (nI b), .int z3, .ref o9]) (n := 6) (Nat.le_of_ble_eq_true rfl)
  rw [lg_entry_eq]
  generalize (lg_sl ([.ref x0, .int (nI a), .int (nI b), .int z3, .ref o9]) ++ List.replicate (6 - (lg_sl ([.ref x0, .int (nI a), .int (nI b), .int z3, .ref o9])).length) Slot.unset).toArray = ls at hl ⊢
  have hl : lv_has ls 6 [(0, .ref x0), (1, .int (nI a)), (2, .int (nI b)), (3, .int z3), (4, .ref o9)] := hl
  refine lv_aload hx hb dL_forecast_0 (lv_at hl 4 rfl) ?_
  refine lv_iconst (v := nI 0) hx hb dL_forecast_2 (by decide) ?_
  refine lv_aload_n hx hb dL_forecast_3 rfl (lv_at hl 0 rfl) ?_
  refine lv_iload_n hx hb dL_forecast_4 rfl (lv_at hl 1 rfl) ?_
  refine lv_iload_n hx hb dL_forecast_5 rfl (lv_at hl 2 rfl) ?_
  refine lv_iload_n hx hb dL_forecast_6 rfl (lv_at hl 3 rfl) ?_
  refine k_cx (A1 := A) (vx_runV (As := [.int (nI a), .int (nI b), .int z3]) (rest := [.int (nI 0), .ref o9]) ⟨hx, hb, hml, hown, hts⟩ (x_forecast3 l hl9 D cI cJ cM cG x0 n q tr N a b z3 s.heap.size (hN) (ha) (hb9) (hab) (hz3)) (cwV 3 hts (kB_V (fun _ => List.mem_cons_of_mem _) q_465 q_466 q_467 q_9 (kB_c q_468)) rfl rfl rfl (by decide +kernel) ⟨Nat.le_of_ble_eq_true rfl, Nat.le_of_ble_eq_true rfl⟩) (k_preVX (T := TX6) hZ hR hS hA hP hD hK hKN [0] rfl rfl (ci := 6) rfl (q0 := 0) rfl) rfl rfl hl.1 rfl (lv_room (Nat.le_of_ble_eq_true rfl)) dL_forecast_7 ⟨Nat.le_of_ble_eq_true rfl, Nat.le_of_ble_eq_true rfl⟩) hD hS hA [0] rfl (fun ce q9 H1 locs1 hz9 hk9 hS1 hce hcv hcl9 => ?_)
  obtain ⟨hP, hD⟩ := k_rest (wr := [(o9, .inl (cJ, 1, .inr (.inl (fun _ => 0))))]) hP hD [0] [1] rfl rfl rfl (by decide) (va_free hD hS hA [0] rfl) hk9
  have hS := hS1
  obtain ⟨-, -, -, hNc, g0, g1, g2, g3, g4, g5⟩ := id hR
  refine vx_catch (own := RL) (name := "java/lang/IllegalArgumentException") hown [⟨0, 12, 15, 13⟩] ⟨0, 12, 19, 15⟩ [] (htab.trans rfl) (fun z h => by rcases List.mem_singleton.mp h with rfl; exact Or.inr ⟨by decide, "java/lang/IndexOutOfBoundsException", (hts (.classLink RL 13 "java/lang/IndexOutOfBoundsException") (List.mem_cons_of_mem _ q_5)), hNc⟩) rfl (by decide) (hts (.classLink RL 15 "java/lang/IllegalArgumentException") (List.mem_cons_of_mem _ q_29)) (va_Nw.use rfl g4) hce hcv hcl9 ?_
  refine lv_astore (lv' := [(5, .ref q9), (0, .ref x0), (1, .int (nI a)), (2, .int (nI b)), (3, .int z3), (4, .ref o9)]) hx hb dL_forecast_19 hl (by decide) rfl (fun ls hl => ?_)
  refine lv_iconst (v := nI 2) hx hb dL_forecast_21 (by decide) ?_
  have hP9 := hP.sub (ws' := [(o9, .inl (cJ, 1, .inr (.inl (fun _ => 0))))]) [0] rfl
  have hD9 := hD.sub (ws' := [(o9, .inl (cJ, 1, .inr (.inl (fun _ => 0))))]) [0] rfl rfl
  exact W.iret (v := nI 2) hx hb hr (fun t9 ht9 hW9 => ⟨⟨nI 2, (), rfl, rfl, by rw [ht9]; exact hP9, hD9⟩, hS.F ht9⟩) hS.2.2 dL_forecast_22

set_option maxHeartbeats 4000000 in
set_option maxRecDepth 100000 in
theorem x_L_damage3 (l : Launch) (hl9 : l.stackTraces = false) (D : va_G) (cI cJ cM cG : ClassId) (x0 : Nat) (n : Nat → Nat) (q : Nat → Nat) (tr : Nat → Nat) (N : Nat) (a : Nat) (b : Nat) (z3 : Int32) (o9 : Nat) (sz : Nat) (hN : N ≤ 10) (ha : a < N) (hb9 : b < N) (hab : a ≠ b) (hz3 : z3 < 0 ∨ nI (100000 + 1) ≤ z3) : Met l yL_damage (Cond.codeWith yL_damage cL_damage 6 (some .int) [(0, 12, 15, 13), (0, 12, 19, 15)] :: kBig) ({ frames := 8, cells := 1, slots := 6, locals := 127 }) (va_Pc [.ref x0, .int (nI a), .int (nI b), .int z3, .ref o9] (kX D [(cI, .int), (cJ, .long), (cM, .object "MeshRouting$Message"), (cG, .array .int)] [(x0, .inr (6, [.int (nI N), .ref (n 0), .ref (q 0), .ref (tr 0), .int (nI 0)])), (o9, .inl (cJ, 1, .inr (.inl (fun _ => 0))))] sz)) (va_Qi (fun (r : Int32) (_ : Unit) => r = nI 2) (fun _ t9 => kB D (va_A [(x0, .inr (6, [.int (nI N), .ref (n 0), .ref (q 0), .ref (tr 0), .int (nI 0)])), (o9, .inl (cJ, 1, .inr (.inl (fun _ => 0))))] sz) [(o9, .inl (cJ, 1, .inr (.inl (fun _ => 0))))] t9) (va_A [(x0, .inr (6, [.int (nI N), .ref (n 0), .ref (q 0), .ref (tr 0), .int (nI 0)])), (o9, .inl (cJ, 1, .inr (.inl (fun _ => 0))))] sz)) 1 6 (va_A [(x0, .inr (6, [.int (nI N), .ref (n 0), .ref (q 0), .ref (tr 0), .int (nI 0)])), (o9, .inl (cJ, 1, .inr (.inl (fun _ => 0))))] sz) := by
  refine va_MetW (cc := cL_damage) (maxL := 6) (ret := (some .int)) (hh := [(0, 12, 15, 13), (0, 12, 19, 15)]) (by decide) rfl ?_
  intro p e s m args below meth c s₁ B hml hv
  obtain ⟨rfl, ⟨hsz, hP, hK, hD0, hKN⟩, hZ, hR⟩ := hv
  have hx := B.exec
  have hb := B.bytes
  have hr := B.returns
  have hts := atoms_spec (ws := (Cond.codeWith yL_damage cL_damage 6 (some .int) [(0, 12, 15, 13), (0, 12, 19, 15)] :: kBig)) B.pre
  have hown : s.vm.findClass RL = some m.cls := findClass_of_methodNamed B.named
  have hlocks := B.notSynchronized
  have htab := vx_table (x := yL_damage) B (hts _ List.mem_cons_self)
  subst hsz
  have hD := hD0.self (sz := s.heap.size)
  generalize hAe : va_A [(x0, .inr (6, [.int (nI N), .ref (n 0), .ref (q 0), .ref (tr 0), .int (nI 0)])), (o9, .inl (cJ, 1, .inr (.inl (fun _ => 0))))] s.heap.size = A at hD hZ ⊢
  have hA : ∀ q : Nat, s.heap.size ≤ q → A q := fun q h => by rw [← hAe]; exact Or.inr h
  have hS : va_S A s.heap s.heap [] := va_S.rf
  have hl := lv_entry ([.ref x0, .int (nI a), .int (nI b), .int z3, .ref o9]) (n := 6) (Nat.le_of_ble_eq_true rfl)
  rw [lg_entry_eq]
  generalize (lg_sl ([.ref x0, .int (nI a), .int (nI b), .int z3, .ref o9]) ++ List.replicate (6 - (lg_sl ([.ref x0, .int (nI a), .int (nI b), .int z3, .ref o9])).length) Slot.unset).toArray = ls at hl ⊢
  have hl : lv_has ls 6 [(0, .ref x0), (1, .int (nI a)), (2, .int (nI b)), (3, .int z3), (4, .ref o9)] := hl
  refine lv_aload hx hb dL_damage_0 (lv_at hl 4 rfl) ?_
  refine lv_iconst (v := nI 0) hx hb dL_damage_2 (by decide) ?_
  refine lv_aload_n hx hb dL_damage_3 rfl (lv_at hl 0 rfl) ?_
  refine lv_iload_n hx hb dL_damage_4 rfl (lv_at hl 1 rfl) ?_
  refine lv_iload_n hx hb dL_damage_5 rfl (lv_at hl 2 rfl) ?_
  refine lv_iload_n hx hb dL_damage_6 rfl (lv_at hl 3 rfl) ?_
  refine k_cx (A1 := A) (vx_runV (As := [.int (nI a), .int (nI b), .int z3]) (rest := [.int (nI 0), .ref o9]) ⟨hx, hb, hml, hown, hts⟩ (x_damage3 l hl9 D cI cJ cM cG x0 n q tr N a b z3 s.heap.size (hN) (ha) (hb9) (hab) (hz3)) (cwV 3 hts (kB_V (fun _ => List.mem_cons_of_mem _) q_30 q_31 q_32 q_9 (kB_c q_33)) rfl rfl rfl (by decide +kernel) ⟨Nat.le_of_ble_eq_true rfl, Nat.le_of_ble_eq_true rfl⟩) (k_preVX (T := TX6) hZ hR hS hA hP hD hK hKN [0] rfl rfl (ci := 6) rfl (q0 := 0) rfl) rfl rfl hl.1 rfl (lv_room (Nat.le_of_ble_eq_true rfl)) dL_damage_7 ⟨Nat.le_of_ble_eq_true rfl, Nat.le_of_ble_eq_true rfl⟩) hD hS hA [0] rfl (fun ce q9 H1 locs1 hz9 hk9 hS1 hce hcv hcl9 => ?_)
  obtain ⟨hP, hD⟩ := k_rest (wr := [(o9, .inl (cJ, 1, .inr (.inl (fun _ => 0))))]) hP hD [0] [1] rfl rfl rfl (by decide) (va_free hD hS hA [0] rfl) hk9
  have hS := hS1
  obtain ⟨-, -, -, hNc, g0, g1, g2, g3, g4, g5⟩ := id hR
  refine vx_catch (own := RL) (name := "java/lang/IllegalArgumentException") hown [⟨0, 12, 15, 13⟩] ⟨0, 12, 19, 15⟩ [] (htab.trans rfl) (fun z h => by rcases List.mem_singleton.mp h with rfl; exact Or.inr ⟨by decide, "java/lang/IndexOutOfBoundsException", (hts (.classLink RL 13 "java/lang/IndexOutOfBoundsException") (List.mem_cons_of_mem _ q_5)), hNc⟩) rfl (by decide) (hts (.classLink RL 15 "java/lang/IllegalArgumentException") (List.mem_cons_of_mem _ q_29)) (va_Nw.use rfl g4) hce hcv hcl9 ?_
  refine lv_astore (lv' := [(5, .ref q9), (0, .ref x0), (1, .int (nI a)), (2, .int (nI b)), (3, .int z3), (4, .ref o9)]) hx hb dL_damage_19 hl (by decide) rfl (fun ls hl => ?_)
  refine lv_iconst (v := nI 2) hx hb dL_damage_21 (by decide) ?_
  have hP9 := hP.sub (ws' := [(o9, .inl (cJ, 1, .inr (.inl (fun _ => 0))))]) [0] rfl
  have hD9 := hD.sub (ws' := [(o9, .inl (cJ, 1, .inr (.inl (fun _ => 0))))]) [0] rfl rfl
  exact W.iret (v := nI 2) hx hb hr (fun t9 ht9 hW9 => ⟨⟨nI 2, (), rfl, rfl, by rw [ht9]; exact hP9, hD9⟩, hS.F ht9⟩) hS.2.2 dL_damage_22

set_option maxHeartbeats 4000000 in
set_option maxRecDepth 100000 in
theorem x_L_run0 (l : Launch) (hl9 : l.stackTraces = false) (D : va_G) (cI cJ cM cG : ClassId) (x0 : Nat) (n : Nat → Nat) (q : Nat → Nat) (tr : Nat → Nat) (N : Nat) (z3 : Int32) (o9 : Nat) (sz : Nat) (hN : N ≤ 10) (hz3 : z3 < 0 ∨ nI (100000 + 1) ≤ z3) : Met l yL_run (Cond.codeWith yL_run cL_run 4 (some .int) [(0, 9, 12, 15)] :: kBig) ({ frames := 8, cells := 1, slots := 6, locals := 125 }) (va_Pc [.ref x0, .int z3, .ref o9] (kX D [(cI, .int), (cJ, .long), (cM, .object "MeshRouting$Message"), (cG, .array .int)] [(x0, .inr (6, [.int (nI N), .ref (n 0), .ref (q 0), .ref (tr 0), .int (nI 0)])), (o9, .inl (cJ, 1, .inr (.inl (fun _ => 0))))] sz)) (va_Qi (fun (r : Int32) (_ : Unit) => r = nI 1) (fun _ t9 => kB D (va_A [(x0, .inr (6, [.int (nI N), .ref (n 0), .ref (q 0), .ref (tr 0), .int (nI 0)])), (o9, .inl (cJ, 1, .inr (.inl (fun _ => 0))))] sz) [(o9, .inl (cJ, 1, .inr (.inl (fun _ => 0))))] t9) (va_A [(x0, .inr (6, [.int (nI N), .ref (n 0), .ref (q 0), .ref (tr 0), .int (nI 0)])), (o9, .inl (cJ, 1, .inr (.inl (fun _ => 0))))] sz)) 1 6 (va_A [(x0, .inr (6, [.int (nI N), .ref (n 0), .ref (q 0), .ref (tr 0), .int (nI 0)])), (o9, .inl (cJ, 1, .inr (.inl (fun _ => 0))))] sz) := by
  refine va_MetW (cc := cL_run) (maxL := 4) (ret := (some .int)) (hh := [(0, 9, 12, 15)]) (by decide) rfl ?_
  intro p e s m args below meth c s₁ B hml hv
  obtain ⟨rfl, ⟨hsz, hP, hK, hD0, hKN⟩, hZ, hR⟩ := hv
  have hx := B.exec
  have hb := B.bytes
  have hr := B.returns
  have hts := atoms_spec (ws := (Cond.codeWith yL_run cL_run 4 (some .int) [(0, 9, 12, 15)] :: kBig)) B.pre
  have hown : s.vm.findClass RL = some m.cls := findClass_of_methodNamed B.named
  have hlocks := B.notSynchronized
  have htab := vx_table (x := yL_run) B (hts _ List.mem_cons_self)
  subst hsz
  have hD := hD0.self (sz := s.heap.size)
  generalize hAe : va_A [(x0, .inr (6, [.int (nI N), .ref (n 0), .ref (q 0), .ref (tr 0), .int (nI 0)])), (o9, .inl (cJ, 1, .inr (.inl (fun _ => 0))))] s.heap.size = A at hD hZ ⊢
  have hA : ∀ q : Nat, s.heap.size ≤ q → A q := fun q h => by rw [← hAe]; exact Or.inr h
  have hS : va_S A s.heap s.heap [] := va_S.rf
  have hl := lv_entry ([.ref x0, .int z3, .ref o9]) (n := 4) (Nat.le_of_ble_eq_true rfl)
  rw [lg_entry_eq]
  generalize (lg_sl ([.ref x0, .int z3, .ref o9]) ++ List.replicate (4 - (lg_sl ([.ref x0, .int z3, .ref o9])).length) Slot.unset).toArray = ls at hl ⊢
  have hl : lv_has ls 4 [(0, .ref x0), (1, .int z3), (2, .ref o9)] := hl
  refine lv_aload_n hx hb dL_run_0 rfl (lv_at hl 2 rfl) ?_
  refine lv_iconst (v := nI 0) hx hb dL_run_1 (by decide) ?_
  refine lv_aload_n hx hb dL_run_2 rfl (lv_at hl 0 rfl) ?_
  refine lv_iload_n hx hb dL_run_3 rfl (lv_at hl 1 rfl) ?_
  refine k_cx (A1 := A) (vx_runV (As := [.int z3]) (rest := [.int (nI 0), .ref o9]) ⟨hx, hb, hml, hown, hts⟩ (x_run0 l hl9 D cI cJ cM cG x0 n q tr N z3 s.heap.size (hN) (hz3)) (cwV 1 hts (kB_V (fun _ => List.mem_cons_of_mem _) q_533 q_534 q_535 q_9 (kB_c q_536)) rfl rfl rfl (by decide +kernel) ⟨Nat.le_of_ble_eq_true rfl, Nat.le_of_ble_eq_true rfl⟩) (k_preVX (T := TX6) hZ hR hS hA hP hD hK hKN [0] rfl rfl (ci := 6) rfl (q0 := 0) rfl) rfl rfl hl.1 rfl (lv_room (Nat.le_of_ble_eq_true rfl)) dL_run_4 ⟨Nat.le_of_ble_eq_true rfl, Nat.le_of_ble_eq_true rfl⟩) hD hS hA [0] rfl (fun ce q9 H1 locs1 hz9 hk9 hS1 hce hcv hcl9 => ?_)
  obtain ⟨hP, hD⟩ := k_rest (wr := [(o9, .inl (cJ, 1, .inr (.inl (fun _ => 0))))]) hP hD [0] [1] rfl rfl rfl (by decide) (va_free hD hS hA [0] rfl) hk9
  have hS := hS1
  obtain ⟨-, -, -, hNc, g0, g1, g2, g3, g4, g5⟩ := id hR
  refine vx_catch (own := RL) (name := "java/lang/IllegalArgumentException") hown [] ⟨0, 9, 12, 15⟩ [] (htab.trans rfl) (fun z h => absurd h List.not_mem_nil) rfl (by decide) (hts (.classLink RL 15 "java/lang/IllegalArgumentException") (List.mem_cons_of_mem _ q_29)) (va_Nw.use rfl g4) hce hcv hcl9 ?_
  refine lv_astore_n (lv' := [(3, .ref q9), (0, .ref x0), (1, .int z3), (2, .ref o9)]) hx hb dL_run_12 rfl hl (by decide) rfl (fun ls hl => ?_)
  refine lv_iconst (v := nI 1) hx hb dL_run_13 (by decide) ?_
  have hP9 := hP.sub (ws' := [(o9, .inl (cJ, 1, .inr (.inl (fun _ => 0))))]) [0] rfl
  have hD9 := hD.sub (ws' := [(o9, .inl (cJ, 1, .inr (.inl (fun _ => 0))))]) [0] rfl rfl
  exact W.iret (v := nI 1) hx hb hr (fun t9 ht9 hW9 => ⟨⟨nI 1, (), rfl, rfl, by rw [ht9]; exact hP9, hD9⟩, hS.F ht9⟩) hS.2.2 dL_run_14

set_option maxHeartbeats 4000000 in
set_option maxRecDepth 100000 in
theorem x_L_restore0 (l : Launch) (hl9 : l.stackTraces = false) (D : va_G) (cI cJ cM cG : ClassId) (x0 : Nat) (n : Nat → Nat) (q : Nat → Nat) (tr : Nat → Nat) (N : Nat) (o9 : Nat) (sz : Nat) (hN : N ≤ 10) : Met l yL_restore (Cond.codeWith yL_restore cL_restore 3 (some .int) [(0, 8, 11, 27)] :: kBig) ({ frames := 7, cells := 1, slots := 6, locals := 102 }) (va_Pc [.ref x0, .ref o9] (kX D [(cI, .int), (cJ, .long), (cM, .object "MeshRouting$Message"), (cG, .array .int)] [(x0, .inr (6, [.int (nI N), .ref (n 0), .ref (q 0), .ref (tr 0), .int (nI 0)])), (o9, .inl (cJ, 1, .inr (.inl (fun _ => 0))))] sz)) (va_Qi (fun (r : Int32) (_ : Unit) => r = nI 1) (fun _ t9 => kB D (va_A [(x0, .inr (6, [.int (nI N), .ref (n 0), .ref (q 0), .ref (tr 0), .int (nI 0)])), (o9, .inl (cJ, 1, .inr (.inl (fun _ => 0))))] sz) [(o9, .inl (cJ, 1, .inr (.inl (fun _ => 0))))] t9) (va_A [(x0, .inr (6, [.int (nI N), .ref (n 0), .ref (q 0), .ref (tr 0), .int (nI 0)])), (o9, .inl (cJ, 1, .inr (.inl (fun _ => 0))))] sz)) 1 6 (va_A [(x0, .inr (6, [.int (nI N), .ref (n 0), .ref (q 0), .ref (tr 0), .int (nI 0)])), (o9, .inl (cJ, 1, .inr (.inl (fun _ => 0))))] sz) := by
  refine va_MetW (cc := cL_restore) (maxL := 3) (ret := (some .int)) (hh := [(0, 8, 11, 27)]) (by decide) rfl ?_
  intro p e s m args below meth c s₁ B hml hv
  obtain ⟨rfl, ⟨hsz, hP, hK, hD0, hKN⟩, hZ, hR⟩ := hv
  have hx := B.exec
  have hb := B.bytes
  have hr := B.returns
  have hts := atoms_spec (ws := (Cond.codeWith yL_restore cL_restore 3 (some .int) [(0, 8, 11, 27)] :: kBig)) B.pre
  have hown : s.vm.findClass RL = some m.cls := findClass_of_methodNamed B.named
  have hlocks := B.notSynchronized
  have htab := vx_table (x := yL_restore) B (hts _ List.mem_cons_self)
  subst hsz
  have hD := hD0.self (sz := s.heap.size)
  generalize hAe : va_A [(x0, .inr (6, [.int (nI N), .ref (n 0), .ref (q 0), .ref (tr 0), .int (nI 0)])), (o9, .inl (cJ, 1, .inr (.inl (fun _ => 0))))] s.heap.size = A at hD hZ ⊢
  have hA : ∀ q : Nat, s.heap.size ≤ q → A q := fun q h => by rw [← hAe]; exact Or.inr h
  have hS : va_S A s.heap s.heap [] := va_S.rf
  have hl := lv_entry ([.ref x0, .ref o9]) (n := 3) (Nat.le_of_ble_eq_true rfl)
  rw [lg_entry_eq]
  generalize (lg_sl ([.ref x0, .ref o9]) ++ List.replicate (3 - (lg_sl ([.ref x0, .ref o9])).length) Slot.unset).toArray = ls at hl ⊢
  have hl : lv_has ls 3 [(0, .ref x0), (1, .ref o9)] := hl
  refine lv_aload_n hx hb dL_restore_0 rfl (lv_at hl 1 rfl) ?_
  refine lv_iconst (v := nI 0) hx hb dL_restore_1 (by decide) ?_
  refine lv_aload_n hx hb dL_restore_2 rfl (lv_at hl 0 rfl) ?_
  refine k_cx (A1 := A) (vx_runV (As := []) (rest := [.int (nI 0), .ref o9]) ⟨hx, hb, hml, hown, hts⟩ (x_restore0 l hl9 D cI cJ cM cG x0 n q tr N s.heap.size (hN)) (cwV 0 hts (kB_V (fun _ => List.mem_cons_of_mem _) q_524 q_525 q_526 q_9 (kB_c q_527)) rfl rfl rfl (by decide +kernel) ⟨Nat.le_of_ble_eq_true rfl, Nat.le_of_ble_eq_true rfl⟩) (k_preVX (T := TX6) hZ hR hS hA hP hD hK hKN [0] rfl rfl (ci := 6) rfl (q0 := 0) rfl) rfl rfl hl.1 rfl (lv_room (Nat.le_of_ble_eq_true rfl)) dL_restore_3 ⟨Nat.le_of_ble_eq_true rfl, Nat.le_of_ble_eq_true rfl⟩) hD hS hA [0] rfl (fun ce q9 H1 locs1 hz9 hk9 hS1 hce hcv hcl9 => ?_)
  obtain ⟨hP, hD⟩ := k_rest (wr := [(o9, .inl (cJ, 1, .inr (.inl (fun _ => 0))))]) hP hD [0] [1] rfl rfl rfl (by decide) (va_free hD hS hA [0] rfl) hk9
  have hS := hS1
  obtain ⟨-, -, -, hNc, g0, g1, g2, g3, g4, g5⟩ := id hR
  refine vx_catch (own := RL) (name := "java/lang/IllegalStateException") hown [] ⟨0, 8, 11, 27⟩ [] (htab.trans rfl) (fun z h => absurd h List.not_mem_nil) rfl (by decide) (hts (.classLink RL 27 "java/lang/IllegalStateException") (List.mem_cons_of_mem _ q_523)) (va_Nw.use rfl g5) hce hcv hcl9 ?_
  refine lv_astore_n (lv' := [(2, .ref q9), (0, .ref x0), (1, .ref o9)]) hx hb dL_restore_11 rfl hl (by decide) rfl (fun ls hl => ?_)
  refine lv_iconst (v := nI 1) hx hb dL_restore_12 (by decide) ?_
  have hP9 := hP.sub (ws' := [(o9, .inl (cJ, 1, .inr (.inl (fun _ => 0))))]) [0] rfl
  have hD9 := hD.sub (ws' := [(o9, .inl (cJ, 1, .inr (.inl (fun _ => 0))))]) [0] rfl rfl
  exact W.iret (v := nI 1) hx hb hr (fun t9 ht9 hW9 => ⟨⟨nI 1, (), rfl, rfl, by rw [ht9]; exact hP9, hD9⟩, hS.F ht9⟩) hS.2.2 dL_restore_13
