set_option maxHeartbeats 4000000 in
set_option maxRecDepth 100000 in
theorem c_X6_cellOf (l : Launch) (D : va_G) (cI cJ cM cG : ClassId) (i : Nat) (d : Nat) (sz : Nat)  : Met l yX6_cellOf wsX6_cellOf ({ frames := 0, cells := 0, slots := 0, locals := 0 }) (va_Pc [.int (nI i), .int (nI d)] (kP D [(cI, .int), (cJ, .long), (cM, .object "MeshRouting$Message"), (cG, .array .int)] [] sz)) (va_Qi (fun (r : Int32) (_ : Unit) => r = nI (i * 10 + d)) (fun _ t => kB D (va_A [] sz) [] t) (va_A [] sz)) 0 0 (va_A [] sz) := by
  refine Met.ofW (cc := cX6_cellOf) (maxL := 2) (ret := (some .int)) (by decide) rfl ?_
  intro p e s m args below meth c s₁ B hml hv
  obtain ⟨rfl, hsz, hP, hK, hD0, hN⟩ := hv
  have hx := B.exec
  have hb := B.bytes
  have hr := B.returns
  have hts := atoms_spec (ws := wsX6_cellOf) B.pre
  have hown : s.vm.findClass RX6 = some m.cls := findClass_of_methodNamed B.named
  have hlocks := B.notSynchronized
  subst hsz
  have hD := hD0.self (sz := s.heap.size)
  generalize hAe : va_A [] s.heap.size = A at hD ⊢
  have hA : ∀ q : Nat, s.heap.size ≤ q → A q := fun q h => by rw [← hAe]; exact Or.inr h
  have hS : va_S A s.heap s.heap [] := va_S.rf
  have hl := lv_entry ([.int (nI i), .int (nI d)]) (n := 2) (Nat.le_of_ble_eq_true rfl)
  rw [lg_entry_eq]
  generalize (lg_sl ([.int (nI i), .int (nI d)]) ++ List.replicate (2 - (lg_sl ([.int (nI i), .int (nI d)])).length) Slot.unset).toArray = ls at hl ⊢
  have hl : lv_has ls 2 [(0, .int (nI i)), (1, .int (nI d))] := hl
  refine lv_iload_n hx hb dX6_cellOf_0 rfl (lv_at hl 0 rfl) ?_
  refine lv_bipush (v := nI 10) hx hb dX6_cellOf_1 (by decide) ?_
  refine lv_imul hx hb dX6_cellOf_3 ?_
  refine k_ti (show (nI i) * (nI 10) = nI (i * 10) from pk_mul _ _) ?_
  refine lv_iload_n hx hb dX6_cellOf_4 rfl (lv_at hl 1 rfl) ?_
  refine lv_iadd hx hb dX6_cellOf_5 ?_
  refine k_ti (show (nI (i * 10)) + (nI d) = nI ((i * 10) + d) from nI_add _ _) ?_
  have hP9 := hP.sub (ws' := []) [] rfl
  have hD9 := hD.sub (ws' := []) [] rfl rfl
  exact W.iret (v := nI ((i * 10) + d)) hx hb hr (fun t ht hW => ⟨⟨nI ((i * 10) + d), (), rfl, rfl, by rw [ht]; exact hP9, hD9⟩, hS.F ht⟩) hS.2.2 dX6_cellOf_6

