set_option maxHeartbeats 4000000 in
set_option maxRecDepth 100000 in
theorem c_M_links (l : Launch) (D : va_G) (cI cJ cM cG : ClassId) (m0 : Nat) (v : Nat) (a1 : Nat) (a2 : Nat) (ik : Int32) (th : Int32) (en : Int32) (N : Nat) (a : Nat) (b : Nat) (vv : Nat) (sz : Nat) (hN : N ≤ 10) (hN0 : 0 < N) (ha : a < N) (hb9 : b < N) (hv9 : vv ≤ 9) : Met l yX7_links (Cond.code yX7_links cX7_links 6 (some .int) :: kBig) ({ frames := 0, cells := 0, slots := 0, locals := 0 }) (va_Pc [.ref m0, .int (nI a), .int (nI b), .int (nI vv)] (kP D [(cI, .int), (cJ, .long), (cM, .object "MeshRouting$Message"), (cG, .array .int)] [(m0, .inr (7, [.ref v, .ref a1, .ref a2, .int ik, .int th, .int en])), (v, .inl (cJ, 136800, .inr (.inl (mF N))))] sz)) (va_Qi (fun (r : Int32) (_ : Unit) => r = nI 0) (fun _ t9 => kB D (va_A [(m0, .inr (7, [.ref v, .ref a1, .ref a2, .int ik, .int th, .int en])), (v, .inl (cJ, 136800, .inr (.inl (mF N))))] sz) [(m0, .inr (7, [.ref v, .ref a1, .ref a2, .int ik, .int th, .int en])), (v, .inl (cJ, 136800, .inr (.inl (vp_updL (vp_updL (mF N) (100 + 10 * a + b) (lN vv)) (100 + 10 * b + a) (lN vv)))))] t9) (va_A [(m0, .inr (7, [.ref v, .ref a1, .ref a2, .int ik, .int th, .int en])), (v, .inl (cJ, 136800, .inr (.inl (mF N))))] sz)) 0 0 (va_A [(m0, .inr (7, [.ref v, .ref a1, .ref a2, .int ik, .int th, .int en])), (v, .inl (cJ, 136800, .inr (.inl (mF N))))] sz) := by
  refine Met.ofW (cc := cX7_links) (maxL := 6) (ret := (some .int)) (by decide) rfl ?_
  intro p e s m args below meth c s₁ B hml hv
  obtain ⟨rfl, hsz, hP, hK, hD0, hKN⟩ := hv
  have hx := B.exec
  have hb := B.bytes
  have hr := B.returns
  have hts := atoms_spec (ws := (Cond.code yX7_links cX7_links 6 (some .int) :: kBig)) B.pre
  have hown : s.vm.findClass RX7 = some m.cls := findClass_of_methodNamed B.named
  have hlocks := B.notSynchronized
  have hin7 : ∀ w ∈ u_ws RX7 TX7 6, w ∈ (Cond.code yX7_links cX7_links 6 (some .int) :: kBig) := fun w h => List.mem_cons_of_mem _ (inb7 w h)
  subst hsz
  have hD := hD0.self (sz := s.heap.size)
  generalize hAe : va_A [(m0, .inr (7, [.ref v, .ref a1, .ref a2, .int ik, .int th, .int en])), (v, .inl (cJ, 136800, .inr (.inl (mF N))))] s.heap.size = A at hD ⊢
  have hA : ∀ q : Nat, s.heap.size ≤ q → A q := fun q h => by rw [← hAe]; exact Or.inr h
  have hS : va_S A s.heap s.heap [] := va_S.rf
  have hl := lv_entry ([.ref m0, .int (nI a), .int (nI b), .int (nI vv)]) (n := 6) (Nat.le_of_ble_eq_true rfl)
  rw [lg_entry_eq]
  generalize (lg_sl ([.ref m0, .int (nI a), .int (nI b), .int (nI vv)]) ++ List.replicate (6 - (lg_sl ([.ref m0, .int (nI a), .int (nI b), .int (nI vv)])).length) Slot.unset).toArray = ls at hl ⊢
  have hl : lv_has ls 6 [(0, .ref m0), (1, .int (nI a)), (2, .int (nI b)), (3, .int (nI vv))] := hl
  refine lv_aload_n hx hb dX7_links_0 rfl (lv_at hl 0 rfl) ?_
  refine va_get (D := D) (ci := 7) (v := .ref v) (C := RX7) (T := TX7) (N := 6) hx hb hts hin7 hown hK hP 0 rfl rfl 0 (by decide) (hts (.fieldLink RX7 8 "MeshRoutingModel" "v" "[J") (List.mem_cons_of_mem _ q_665)) (fun _ h9 => h9) rfl dX7_links_1 ?_
  refine lv_bipush (v := nI 100) hx hb dX7_links_4 (by decide) ?_
  refine lv_bipush (v := nI 10) hx hb dX7_links_6 (by decide) ?_
  refine lv_iload_n hx hb dX7_links_8 rfl (lv_at hl 1 rfl) ?_
  refine lv_imul hx hb dX7_links_9 ?_
  refine k_ti (show ((nI 10) * (nI a)) = (nI (10 * a)) from pk_mul _ _) ?_
  refine lv_iadd hx hb dX7_links_10 ?_
  refine k_ti (show ((nI 100) + (nI (10 * a))) = (nI (100 + 10 * a)) from nI_add _ _) ?_
  refine lv_iload_n hx hb dX7_links_11 rfl (lv_at hl 2 rfl) ?_
  refine lv_iadd hx hb dX7_links_12 ?_
  refine k_ti (show ((nI (100 + 10 * a)) + (nI b)) = (nI (100 + 10 * a + b)) from nI_add _ _) ?_
  refine k_lald (v := lN 0) hx hb hK hP 1 1 rfl rfl (by omega) (by omega) ((mF_z (by omega))) dX7_links_13 ?_
  refine lv_l2i (v := nI 0) hx hb dX7_links_14 (by decide) ?_
  refine lv_istore (lv' := [(4, .int (nI 0)), (0, .ref m0), (1, .int (nI a)), (2, .int (nI b)), (3, .int (nI vv))]) hx hb dX7_links_15 hl (by decide) rfl (fun ls hl => ?_)
  refine lv_aload_n hx hb dX7_links_17 rfl (lv_at hl 1 rfl) ?_
  refine va_get (D := D) (ci := 7) (v := .ref v) (C := RX7) (T := TX7) (N := 6) hx hb hts hin7 hown hK hP 0 rfl rfl 0 (by decide) (hts (.fieldLink RX7 8 "MeshRoutingModel" "v" "[J") (List.mem_cons_of_mem _ q_665)) (fun _ h9 => h9) rfl dX7_links_18 ?_
  refine lv_bipush (v := nI 100) hx hb dX7_links_21 (by decide) ?_
  refine lv_bipush (v := nI 10) hx hb dX7_links_23 (by decide) ?_
  refine lv_iload_n hx hb dX7_links_25 rfl (lv_at hl 2 rfl) ?_
  refine lv_imul hx hb dX7_links_26 ?_
  refine k_ti (show ((nI 10) * (nI a)) = (nI (10 * a)) from pk_mul _ _) ?_
  refine lv_iadd hx hb dX7_links_27 ?_
  refine k_ti (show ((nI 100) + (nI (10 * a))) = (nI (100 + 10 * a)) from nI_add _ _) ?_
  refine lv_iload_n hx hb dX7_links_28 rfl (lv_at hl 3 rfl) ?_
  refine lv_iadd hx hb dX7_links_29 ?_
  refine k_ti (show ((nI (100 + 10 * a)) + (nI b)) = (nI (100 + 10 * a + b)) from nI_add _ _) ?_
  refine lv_iload_n hx hb dX7_links_30 rfl (lv_at hl 4 rfl) ?_
  refine lv_i2l (v := lN vv) hx hb dX7_links_31 (by exact nI_l (by omega)) ?_
  refine k_last (f' := vp_updL (mF N) (100 + 10 * a + b) (lN vv)) hx hb hK hP hD hS 1 1 rfl rfl (by omega) (by omega) (rfl) dX7_links_32 (fun H locs hP hD hS => ?_)
  replace hP : va_P D vwCl [(m0, .inr (7, [.ref v, .ref a1, .ref a2, .int ik, .int th, .int en])), (v, .inl (cJ, 136800, .inr (.inl (vp_updL (mF N) (100 + 10 * a + b) (lN vv)))))] H := hP
  replace hD : va_D A [(m0, .inr (7, [.ref v, .ref a1, .ref a2, .int ik, .int th, .int en])), (v, .inl (cJ, 136800, .inr (.inl (vp_updL (mF N) (100 + 10 * a + b) (lN vv)))))] := hD
  refine lv_aload_n hx hb dX7_links_33 rfl (lv_at hl 1 rfl) ?_
  refine va_get (D := D) (ci := 7) (v := .ref v) (C := RX7) (T := TX7) (N := 6) hx hb hts hin7 hown hK hP 0 rfl rfl 0 (by decide) (hts (.fieldLink RX7 8 "MeshRoutingModel" "v" "[J") (List.mem_cons_of_mem _ q_665)) (fun _ h9 => h9) rfl dX7_links_34 ?_
  refine lv_bipush (v := nI 100) hx hb dX7_links_37 (by decide) ?_
  refine lv_bipush (v := nI 10) hx hb dX7_links_39 (by decide) ?_
  refine lv_iload_n hx hb dX7_links_41 rfl (lv_at hl 3 rfl) ?_
  refine lv_imul hx hb dX7_links_42 ?_
  refine k_ti (show ((nI 10) * (nI b)) = (nI (10 * b)) from pk_mul _ _) ?_
  refine lv_iadd hx hb dX7_links_43 ?_
  refine k_ti (show ((nI 100) + (nI (10 * b))) = (nI (100 + 10 * b)) from nI_add _ _) ?_
  refine lv_iload_n hx hb dX7_links_44 rfl (lv_at hl 2 rfl) ?_
  refine lv_iadd hx hb dX7_links_45 ?_
  refine k_ti (show ((nI (100 + 10 * b)) + (nI a)) = (nI (100 + 10 * b + a)) from nI_add _ _) ?_
  refine lv_iload_n hx hb dX7_links_46 rfl (lv_at hl 4 rfl) ?_
  refine lv_i2l (v := lN vv) hx hb dX7_links_47 (by exact nI_l (by omega)) ?_
  refine k_last (f' := vp_updL (vp_updL (mF N) (100 + 10 * a + b) (lN vv)) (100 + 10 * b + a) (lN vv)) hx hb hK hP hD hS 1 1 rfl rfl (by omega) (by omega) (rfl) dX7_links_48 (fun H locs hP hD hS => ?_)
  replace hP : va_P D vwCl [(m0, .inr (7, [.ref v, .ref a1, .ref a2, .int ik, .int th, .int en])), (v, .inl (cJ, 136800, .inr (.inl (vp_updL (vp_updL (mF N) (100 + 10 * a + b) (lN vv)) (100 + 10 * b + a) (lN vv)))))] H := hP
  replace hD : va_D A [(m0, .inr (7, [.ref v, .ref a1, .ref a2, .int ik, .int th, .int en])), (v, .inl (cJ, 136800, .inr (.inl (vp_updL (vp_updL (mF N) (100 + 10 * a + b) (lN vv)) (100 + 10 * b + a) (lN vv)))))] := hD
  refine lv_iload hx hb dX7_links_49 (lv_at hl 0 rfl) ?_
  refine k_if_le (tgt := 100) hx hb dX7_links_51 (by decide) (by omega) (fun _ => ?_) (fun h9 => absurd h9 (by omega))
  refine lv_iload hx hb dX7_links_100 (lv_at hl 0 rfl) ?_
  have hP9 := hP.sub (ws' := [(m0, .inr (7, [.ref v, .ref a1, .ref a2, .int ik, .int th, .int en])), (v, .inl (cJ, 136800, .inr (.inl (vp_updL (vp_updL (mF N) (100 + 10 * a + b) (lN vv)) (100 + 10 * b + a) (lN vv)))))]) [0, 1] rfl
  have hD9 := hD.sub (ws' := [(m0, .inr (7, [.ref v, .ref a1, .ref a2, .int ik, .int th, .int en])), (v, .inl (cJ, 136800, .inr (.inl (vp_updL (vp_updL (mF N) (100 + 10 * a + b) (lN vv)) (100 + 10 * b + a) (lN vv)))))]) [0, 1] rfl rfl
  exact W.iret (v := nI 0) hx hb hr (fun t9 ht9 hW9 => ⟨⟨nI 0, (), rfl, rfl, by rw [ht9]; exact hP9, hD9⟩, hS.F ht9⟩) hS.2.2 dX7_links_102

set_option maxHeartbeats 4000000 in
set_option maxRecDepth 100000 in
theorem c_M_setLink1 (l : Launch) (D : va_G) (cI cJ cM cG : ClassId) (m0 : Nat) (v : Nat) (a1 : Nat) (a2 : Nat) (ik : Int32) (th : Int32) (en : Int32) (N : Nat) (a : Nat) (b : Nat) (u : Nat) (sz : Nat) (hN : N ≤ 10) (hN0 : 0 < N) (ha : a < N) (hb9 : b < N) (hab : a ≠ b) (hu : u ≤ 9) : Met l yX7_setLink (Cond.code yX7_setLink cX7_setLink 4 (some .int) :: kBig) ({ frames := 2, cells := 0, slots := 0, locals := 46 }) (va_Pc [.ref m0, .int (nI a), .int (nI b), .int (nI u)] (kP D [(cI, .int), (cJ, .long), (cM, .object "MeshRouting$Message"), (cG, .array .int)] [(m0, .inr (7, [.ref v, .ref a1, .ref a2, .int ik, .int th, .int en])), (v, .inl (cJ, 136800, .inr (.inl (mF N))))] sz)) (va_Qi (fun (r : Int32) (_ : Unit) => r = nI 0) (fun _ t9 => kB D (va_A [(m0, .inr (7, [.ref v, .ref a1, .ref a2, .int ik, .int th, .int en])), (v, .inl (cJ, 136800, .inr (.inl (mF N))))] sz) [(m0, .inr (7, [.ref v, .ref a1, .ref a2, .int ik, .int (nI 0), .int en]))] t9) (va_A [(m0, .inr (7, [.ref v, .ref a1, .ref a2, .int ik, .int th, .int en])), (v, .inl (cJ, 136800, .inr (.inl (mF N))))] sz)) 0 0 (va_A [(m0, .inr (7, [.ref v, .ref a1, .ref a2, .int ik, .int th, .int en])), (v, .inl (cJ, 136800, .inr (.inl (mF N))))] sz) := by
  refine Met.ofW (cc := cX7_setLink) (maxL := 4) (ret := (some .int)) (by decide) rfl ?_
  intro p e s m args below meth c s₁ B hml hv
  obtain ⟨rfl, hsz, hP, hK, hD0, hKN⟩ := hv
  have hx := B.exec
  have hb := B.bytes
  have hr := B.returns
  have hts := atoms_spec (ws := (Cond.code yX7_setLink cX7_setLink 4 (some .int) :: kBig)) B.pre
  have hown : s.vm.findClass RX7 = some m.cls := findClass_of_methodNamed B.named
  have hlocks := B.notSynchronized
  have hin7 : ∀ w ∈ u_ws RX7 TX7 6, w ∈ (Cond.code yX7_setLink cX7_setLink 4 (some .int) :: kBig) := fun w h => List.mem_cons_of_mem _ (inb7 w h)
  subst hsz
  have hD := hD0.self (sz := s.heap.size)
  generalize hAe : va_A [(m0, .inr (7, [.ref v, .ref a1, .ref a2, .int ik, .int th, .int en])), (v, .inl (cJ, 136800, .inr (.inl (mF N))))] s.heap.size = A at hD ⊢
  have hA : ∀ q : Nat, s.heap.size ≤ q → A q := fun q h => by rw [← hAe]; exact Or.inr h
  have hS : va_S A s.heap s.heap [] := va_S.rf
  have hl := lv_entry ([.ref m0, .int (nI a), .int (nI b), .int (nI u)]) (n := 4) (Nat.le_of_ble_eq_true rfl)
  rw [lg_entry_eq]
  generalize (lg_sl ([.ref m0, .int (nI a), .int (nI b), .int (nI u)]) ++ List.replicate (4 - (lg_sl ([.ref m0, .int (nI a), .int (nI b), .int (nI u)])).length) Slot.unset).toArray = ls at hl ⊢
  have hl : lv_has ls 4 [(0, .ref m0), (1, .int (nI a)), (2, .int (nI b)), (3, .int (nI u))] := hl
  refine lv_aload_n hx hb dX7_setLink_0 rfl (lv_at hl 0 rfl) ?_
  refine lv_iconst (v := nI 0) hx hb dX7_setLink_1 (by decide) ?_
  refine va_put (D := D) (ci := 7) (v := .int (nI 0)) (ty := .int) (C := RX7) (T := TX7) (N := 6) hx hb hts hin7 tyX7 tyX7_ok nmX7 hown hK hP hD hS 0 rfl rfl 4 (by decide) (hts (.fieldLink RX7 34 "MeshRoutingModel" "thrown" "I") (List.mem_cons_of_mem _ q_760)) (fun _ h9 => h9) rfl (by decide +kernel) rfl rfl (Nat.le_of_ble_eq_true rfl) dX7_setLink_2 (fun H locs hP hD hS => ?_)
  replace hP : va_P D vwCl [(m0, .inr (7, [.ref v, .ref a1, .ref a2, .int ik, .int (nI 0), .int en])), (v, .inl (cJ, 136800, .inr (.inl (mF N))))] H := hP
  replace hD : va_D A [(m0, .inr (7, [.ref v, .ref a1, .ref a2, .int ik, .int (nI 0), .int en])), (v, .inl (cJ, 136800, .inr (.inl (mF N))))] := hD
  refine lv_aload_n hx hb dX7_setLink_5 rfl (lv_at hl 0 rfl) ?_
  refine lv_iload_n hx hb dX7_setLink_6 rfl (lv_at hl 1 rfl) ?_
  refine k_ci (wr := []) (w1 := [(m0, .inr (7, [.ref v, .ref a1, .ref a2, .int ik, .int (nI 0), .int en])), (v, .inl (cJ, 136800, .inr (.inl (mF N))))]) (va_runV (As := [.int (nI a)]) (rest := []) ⟨hx, hb, hml, hown, hts⟩ (c_X7_isNode1 l D cI cJ cM cG m0 v a1 a2 ik (nI 0) en (mF N) N a H.size (mF_1) (ha) (hN) (hN0)) (cwV 1 hts (kB_V (fun _ => List.mem_cons_of_mem _) q_761 q_762 q_763 q_670 (kB_c q_764)) rfl rfl rfl (by decide +kernel) ⟨Nat.le_of_ble_eq_true rfl, Nat.le_of_ble_eq_true rfl⟩) (k_preV (T := TX7) hP hD hK hKN [0, 1] rfl rfl (ci := 7) rfl (q0 := 0) rfl) rfl rfl hl.1 rfl (lv_room (Nat.le_of_ble_eq_true rfl)) dX7_setLink_7 ⟨Nat.le_of_ble_eq_true rfl, Nat.le_of_ble_eq_true rfl⟩) hP hD hS hA [0, 1] [] rfl rfl rfl (by decide) (fun r7 H locs hw7 hP hD hS => ?_)
  replace hP : va_P D vwCl [(m0, .inr (7, [.ref v, .ref a1, .ref a2, .int ik, .int (nI 0), .int en])), (v, .inl (cJ, 136800, .inr (.inl (mF N))))] H := hP
  replace hD : va_D A [(m0, .inr (7, [.ref v, .ref a1, .ref a2, .int ik, .int (nI 0), .int en])), (v, .inl (cJ, 136800, .inr (.inl (mF N))))] := hD
  replace hw7 : r7 = nI 1 := hw7
  refine k_ti hw7 ?_
  refine k_if_eq (tgt := 21) hx hb dX7_setLink_10 (by decide) (by omega) (fun h9 => absurd h9 (by omega)) (fun _ => ?_)
  refine lv_aload_n hx hb dX7_setLink_13 rfl (lv_at hl 0 rfl) ?_
  refine lv_iload_n hx hb dX7_setLink_14 rfl (lv_at hl 2 rfl) ?_
  refine k_ci (wr := []) (w1 := [(m0, .inr (7, [.ref v, .ref a1, .ref a2, .int ik, .int (nI 0), .int en])), (v, .inl (cJ, 136800, .inr (.inl (mF N))))]) (va_runV (As := [.int (nI b)]) (rest := []) ⟨hx, hb, hml, hown, hts⟩ (c_X7_isNode1 l D cI cJ cM cG m0 v a1 a2 ik (nI 0) en (mF N) N b H.size (mF_1) (hb9) (hN) (hN0)) (cwV 1 hts (kB_V (fun _ => List.mem_cons_of_mem _) q_761 q_762 q_763 q_670 (kB_c q_764)) rfl rfl rfl (by decide +kernel) ⟨Nat.le_of_ble_eq_true rfl, Nat.le_of_ble_eq_true rfl⟩) (k_preV (T := TX7) hP hD hK hKN [0, 1] rfl rfl (ci := 7) rfl (q0 := 0) rfl) rfl rfl hl.1 rfl (lv_room (Nat.le_of_ble_eq_true rfl)) dX7_setLink_15 ⟨Nat.le_of_ble_eq_true rfl, Nat.le_of_ble_eq_true rfl⟩) hP hD hS hA [0, 1] [] rfl rfl rfl (by decide) (fun r15 H locs hw15 hP hD hS => ?_)
  replace hP : va_P D vwCl [(m0, .inr (7, [.ref v, .ref a1, .ref a2, .int ik, .int (nI 0), .int en])), (v, .inl (cJ, 136800, .inr (.inl (mF N))))] H := hP
  replace hD : va_D A [(m0, .inr (7, [.ref v, .ref a1, .ref a2, .int ik, .int (nI 0), .int en])), (v, .inl (cJ, 136800, .inr (.inl (mF N))))] := hD
  replace hw15 : r15 = nI 1 := hw15
  refine k_ti hw15 ?_
  refine k_if_ne (tgt := 27) hx hb dX7_setLink_18 (by decide) (by omega) (fun _ => ?_) (fun h9 => absurd h9 (by omega))
  refine lv_iload_n hx hb dX7_setLink_27 rfl (lv_at hl 1 rfl) ?_
  refine lv_iload_n hx hb dX7_setLink_28 rfl (lv_at hl 2 rfl) ?_
  refine k_icmp_eq (tgt := 44) hx hb dX7_setLink_29 (by decide) (by omega) (by omega) (fun h9 => absurd h9 (by omega)) (fun _ => ?_)
  refine lv_iload_n hx hb dX7_setLink_32 rfl (lv_at hl 3 rfl) ?_
  refine lv_i2l (v := lN u) hx hb dX7_setLink_33 (by exact nI_l (by omega)) ?_
  refine lv_lconst (v := lN 0) hx hb dX7_setLink_34 (by decide) ?_
  refine lv_ldc2 (v := 9) hx hb hown (by exact hts (.constantLong RX7 211 (9)) (List.mem_cons_of_mem _ q_940)) dX7_setLink_35 ?_
  refine k_tl (show (9) = (lN 9) from by decide) ?_
  refine k_ci (wr := [(m0, .inr (7, [.ref v, .ref a1, .ref a2, .int ik, .int (nI 0), .int en])), (v, .inl (cJ, 136800, .inr (.inl (mF N))))]) (w1 := []) (va_runS (As := [.long (lN u), .long (lN 0), .long (lN 9)]) (rest := []) ⟨hx, hb, hml, hown, hts⟩ (c_X7_in1 l D cI cJ cM cG (lN u) (lN 0) (lN 9) H.size (k_in1 (by omega) (by omega) (by omega)) (k_in1 (by omega) (by omega) (by omega))) (va_cwS 3 hts (kB_S (fun _ => List.mem_cons_of_mem _) q_765 q_766 q_670 (kB_c q_767)) rfl rfl rfl (by decide +kernel) ⟨Nat.le_of_ble_eq_true rfl, Nat.le_of_ble_eq_true rfl⟩) (k_preS hP hD hK hKN [] rfl rfl) rfl rfl hl.1 rfl (lv_room (Nat.le_of_ble_eq_true rfl)) dX7_setLink_38 ⟨Nat.le_of_ble_eq_true rfl, Nat.le_of_ble_eq_true rfl⟩) hP hD hS hA [] [0, 1] rfl rfl rfl (by decide) (fun r38 H locs hw38 hP hD hS => ?_)
  replace hP : va_P D vwCl [(m0, .inr (7, [.ref v, .ref a1, .ref a2, .int ik, .int (nI 0), .int en])), (v, .inl (cJ, 136800, .inr (.inl (mF N))))] H := hP
  replace hD : va_D A [(m0, .inr (7, [.ref v, .ref a1, .ref a2, .int ik, .int (nI 0), .int en])), (v, .inl (cJ, 136800, .inr (.inl (mF N))))] := hD
  replace hw38 : r38 = nI 1 := hw38
  refine k_ti hw38 ?_
  refine k_if_ne (tgt := 50) hx hb dX7_setLink_41 (by decide) (by omega) (fun _ => ?_) (fun h9 => absurd h9 (by omega))
  refine lv_aload_n hx hb dX7_setLink_50 rfl (lv_at hl 0 rfl) ?_
  refine lv_iload_n hx hb dX7_setLink_51 rfl (lv_at hl 1 rfl) ?_
  refine lv_iload_n hx hb dX7_setLink_52 rfl (lv_at hl 2 rfl) ?_
  refine lv_iload_n hx hb dX7_setLink_53 rfl (lv_at hl 3 rfl) ?_
  refine k_ci (wr := []) (w1 := [(m0, .inr (7, [.ref v, .ref a1, .ref a2, .int ik, .int (nI 0), .int en])), (v, .inl (cJ, 136800, .inr (.inl (vp_updL (vp_updL (mF N) (100 + 10 * a + b) (lN u)) (100 + 10 * b + a) (lN u)))))]) (va_runV (As := [.int (nI a), .int (nI b), .int (nI u)]) (rest := []) ⟨hx, hb, hml, hown, hts⟩ (c_M_links l D cI cJ cM cG m0 v a1 a2 ik (nI 0) en N a b u H.size (hN) (hN0) (ha) (hb9) (by omega)) (cwV 3 hts (kB_V (fun _ => List.mem_cons_of_mem _) q_783 q_784 q_785 q_670 (kB_c q_786)) rfl rfl rfl (by decide +kernel) ⟨Nat.le_of_ble_eq_true rfl, Nat.le_of_ble_eq_true rfl⟩) (k_preV (T := TX7) hP hD hK hKN [0, 1] rfl rfl (ci := 7) rfl (q0 := 0) rfl) rfl rfl hl.1 rfl (lv_room (Nat.le_of_ble_eq_true rfl)) dX7_setLink_54 ⟨Nat.le_of_ble_eq_true rfl, Nat.le_of_ble_eq_true rfl⟩) hP hD hS hA [0, 1] [] rfl rfl rfl (by decide) (fun r54 H locs hw54 hP hD hS => ?_)
  replace hP : va_P D vwCl [(m0, .inr (7, [.ref v, .ref a1, .ref a2, .int ik, .int (nI 0), .int en])), (v, .inl (cJ, 136800, .inr (.inl (vp_updL (vp_updL (mF N) (100 + 10 * a + b) (lN u)) (100 + 10 * b + a) (lN u)))))] H := hP
  replace hD : va_D A [(m0, .inr (7, [.ref v, .ref a1, .ref a2, .int ik, .int (nI 0), .int en])), (v, .inl (cJ, 136800, .inr (.inl (vp_updL (vp_updL (mF N) (100 + 10 * a + b) (lN u)) (100 + 10 * b + a) (lN u)))))] := hD
  replace hw54 : r54 = nI 0 := hw54
  refine k_ti hw54 ?_
  have hP9 := hP.sub (ws' := [(m0, .inr (7, [.ref v, .ref a1, .ref a2, .int ik, .int (nI 0), .int en]))]) [0] rfl
  have hD9 := hD.sub (ws' := [(m0, .inr (7, [.ref v, .ref a1, .ref a2, .int ik, .int (nI 0), .int en]))]) [0] rfl rfl
  exact W.iret (v := nI 0) hx hb hr (fun t9 ht9 hW9 => ⟨⟨nI 0, (), rfl, rfl, by rw [ht9]; exact hP9, hD9⟩, hS.F ht9⟩) hS.2.2 dX7_setLink_57

set_option maxHeartbeats 4000000 in
set_option maxRecDepth 100000 in
theorem c_M_setLink0 (l : Launch) (D : va_G) (cI cJ cM cG : ClassId) (m0 : Nat) (v : Nat) (a1 : Nat) (a2 : Nat) (ik : Int32) (th : Int32) (en : Int32) (N : Nat) (x : Int32) (y : Int32) (z3 : Int32) (sz : Nat) (hN : N ≤ 10) (hN0 : 0 < N) (hb2 : kBad2 N x y) : Met l yX7_setLink (Cond.code yX7_setLink cX7_setLink 4 (some .int) :: kBig) ({ frames := 2, cells := 0, slots := 0, locals := 46 }) (va_Pc [.ref m0, .int x, .int y, .int z3] (kP D [(cI, .int), (cJ, .long), (cM, .object "MeshRouting$Message"), (cG, .array .int)] [(m0, .inr (7, [.ref v, .ref a1, .ref a2, .int ik, .int th, .int en])), (v, .inl (cJ, 136800, .inr (.inl (mF N))))] sz)) (va_Qi (fun (r : Int32) (_ : Unit) => r = nI 0) (fun _ t9 => kB D (va_A [(m0, .inr (7, [.ref v, .ref a1, .ref a2, .int ik, .int th, .int en])), (v, .inl (cJ, 136800, .inr (.inl (mF N))))] sz) [(m0, .inr (7, [.ref v, .ref a1, .ref a2, .int ik, .int (nI 1), .int en]))] t9) (va_A [(m0, .inr (7, [.ref v, .ref a1, .ref a2, .int ik, .int th, .int en])), (v, .inl (cJ, 136800, .inr (.inl (mF N))))] sz)) 0 0 (va_A [(m0, .inr (7, [.ref v, .ref a1, .ref a2, .int ik, .int th, .int en])), (v, .inl (cJ, 136800, .inr (.inl (mF N))))] sz) := by
  refine Met.ofW (cc := cX7_setLink) (maxL := 4) (ret := (some .int)) (by decide) rfl ?_
  intro p e s m args below meth c s₁ B hml hv
  obtain ⟨rfl, hsz, hP, hK, hD0, hKN⟩ := hv
  have hx := B.exec
  have hb := B.bytes
  have hr := B.returns
  have hts := atoms_spec (ws := (Cond.code yX7_setLink cX7_setLink 4 (some .int) :: kBig)) B.pre
  have hown : s.vm.findClass RX7 = some m.cls := findClass_of_methodNamed B.named
  have hlocks := B.notSynchronized
  have hin7 : ∀ w ∈ u_ws RX7 TX7 6, w ∈ (Cond.code yX7_setLink cX7_setLink 4 (some .int) :: kBig) := fun w h => List.mem_cons_of_mem _ (inb7 w h)
  subst hsz
  have hD := hD0.self (sz := s.heap.size)
  generalize hAe : va_A [(m0, .inr (7, [.ref v, .ref a1, .ref a2, .int ik, .int th, .int en])), (v, .inl (cJ, 136800, .inr (.inl (mF N))))] s.heap.size = A at hD ⊢
  have hA : ∀ q : Nat, s.heap.size ≤ q → A q := fun q h => by rw [← hAe]; exact Or.inr h
  have hS : va_S A s.heap s.heap [] := va_S.rf
  have hl := lv_entry ([.ref m0, .int x, .int y, .int z3]) (n := 4) (Nat.le_of_ble_eq_true rfl)
  rw [lg_entry_eq]
  generalize (lg_sl ([.ref m0, .int x, .int y, .int z3]) ++ List.replicate (4 - (lg_sl ([.ref m0, .int x, .int y, .int z3])).length) Slot.unset).toArray = ls at hl ⊢
  have hl : lv_has ls 4 [(0, .ref m0), (1, .int x), (2, .int y), (3, .int z3)] := hl
  rcases hb2 with hb1 | ⟨⟨j1, hj1, rfl⟩, hb1⟩
  · refine lv_aload_n hx hb dX7_setLink_0 rfl (lv_at hl 0 rfl) ?_
    refine lv_iconst (v := nI 0) hx hb dX7_setLink_1 (by decide) ?_
    refine va_put (D := D) (ci := 7) (v := .int (nI 0)) (ty := .int) (C := RX7) (T := TX7) (N := 6) hx hb hts hin7 tyX7 tyX7_ok nmX7 hown hK hP hD hS 0 rfl rfl 4 (by decide) (hts (.fieldLink RX7 34 "MeshRoutingModel" "thrown" "I") (List.mem_cons_of_mem _ q_760)) (fun _ h9 => h9) rfl (by decide +kernel) rfl rfl (Nat.le_of_ble_eq_true rfl) dX7_setLink_2 (fun H locs hP hD hS => ?_)
    replace hP : va_P D vwCl [(m0, .inr (7, [.ref v, .ref a1, .ref a2, .int ik, .int (nI 0), .int en])), (v, .inl (cJ, 136800, .inr (.inl (mF N))))] H := hP
    replace hD : va_D A [(m0, .inr (7, [.ref v, .ref a1, .ref a2, .int ik, .int (nI 0), .int en])), (v, .inl (cJ, 136800, .inr (.inl (mF N))))] := hD
    refine lv_aload_n hx hb dX7_setLink_5 rfl (lv_at hl 0 rfl) ?_
    refine lv_iload_n hx hb dX7_setLink_6 rfl (lv_at hl 1 rfl) ?_
    refine k_ci (wr := []) (w1 := [(m0, .inr (7, [.ref v, .ref a1, .ref a2, .int ik, .int (nI 0), .int en])), (v, .inl (cJ, 136800, .inr (.inl (mF N))))]) (va_runV (As := [.int x]) (rest := []) ⟨hx, hb, hml, hown, hts⟩ (c_X7_isNode0 l D cI cJ cM cG m0 v a1 a2 ik (nI 0) en (mF N) N x H.size (mF_1) (hb1) (hN) (hN0)) (cwV 1 hts (kB_V (fun _ => List.mem_cons_of_mem _) q_761 q_762 q_763 q_670 (kB_c q_764)) rfl rfl rfl (by decide +kernel) ⟨Nat.le_of_ble_eq_true rfl, Nat.le_of_ble_eq_true rfl⟩) (k_preV (T := TX7) hP hD hK hKN [0, 1] rfl rfl (ci := 7) rfl (q0 := 0) rfl) rfl rfl hl.1 rfl (lv_room (Nat.le_of_ble_eq_true rfl)) dX7_setLink_7 ⟨Nat.le_of_ble_eq_true rfl, Nat.le_of_ble_eq_true rfl⟩) hP hD hS hA [0, 1] [] rfl rfl rfl (by decide) (fun r7 H locs hw7 hP hD hS => ?_)
    replace hP : va_P D vwCl [(m0, .inr (7, [.ref v, .ref a1, .ref a2, .int ik, .int (nI 0), .int en])), (v, .inl (cJ, 136800, .inr (.inl (mF N))))] H := hP
    replace hD : va_D A [(m0, .inr (7, [.ref v, .ref a1, .ref a2, .int ik, .int (nI 0), .int en])), (v, .inl (cJ, 136800, .inr (.inl (mF N))))] := hD
    replace hw7 : r7 = nI 0 := hw7
    refine k_ti hw7 ?_
    refine k_if_eq (tgt := 21) hx hb dX7_setLink_10 (by decide) (by omega) (fun _ => ?_) (fun h9 => absurd h9 (by omega))
    refine lv_aload_n hx hb dX7_setLink_21 rfl (lv_at hl 0 rfl) ?_
    refine lv_iconst (v := nI 1) hx hb dX7_setLink_22 (by decide) ?_
    refine k_ci (wr := []) (w1 := [(m0, .inr (7, [.ref v, .ref a1, .ref a2, .int ik, .int (nI 1), .int en])), (v, .inl (cJ, 136800, .inr (.inl (mF N))))]) (va_runV (As := [.int (nI 1)]) (rest := []) ⟨hx, hb, hml, hown, hts⟩ (c_X7_fails l D cI cJ cM cG m0 v a1 a2 ik (nI 0) en (mF N) (nI 1) H.size) (cwV 1 hts (kB_V (fun _ => List.mem_cons_of_mem _) q_924 q_925 q_926 q_670 (kB_c q_883)) rfl rfl rfl (by decide +kernel) ⟨Nat.le_of_ble_eq_true rfl, Nat.le_of_ble_eq_true rfl⟩) (k_preV (T := TX7) hP hD hK hKN [0, 1] rfl rfl (ci := 7) rfl (q0 := 0) rfl) rfl rfl hl.1 rfl (lv_room (Nat.le_of_ble_eq_true rfl)) dX7_setLink_23 ⟨Nat.le_of_ble_eq_true rfl, Nat.le_of_ble_eq_true rfl⟩) hP hD hS hA [0, 1] [] rfl rfl rfl (by decide) (fun r23 H locs hw23 hP hD hS => ?_)
    replace hP : va_P D vwCl [(m0, .inr (7, [.ref v, .ref a1, .ref a2, .int ik, .int (nI 1), .int en])), (v, .inl (cJ, 136800, .inr (.inl (mF N))))] H := hP
    replace hD : va_D A [(m0, .inr (7, [.ref v, .ref a1, .ref a2, .int ik, .int (nI 1), .int en])), (v, .inl (cJ, 136800, .inr (.inl (mF N))))] := hD
    replace hw23 : r23 = nI 0 := hw23
    refine k_ti hw23 ?_
    have hP9 := hP.sub (ws' := [(m0, .inr (7, [.ref v, .ref a1, .ref a2, .int ik, .int (nI 1), .int en]))]) [0] rfl
    have hD9 := hD.sub (ws' := [(m0, .inr (7, [.ref v, .ref a1, .ref a2, .int ik, .int (nI 1), .int en]))]) [0] rfl rfl
    exact W.iret (v := nI 0) hx hb hr (fun t9 ht9 hW9 => ⟨⟨nI 0, (), rfl, rfl, by rw [ht9]; exact hP9, hD9⟩, hS.F ht9⟩) hS.2.2 dX7_setLink_26
  · refine lv_aload_n hx hb dX7_setLink_0 rfl (lv_at hl 0 rfl) ?_
    refine lv_iconst (v := nI 0) hx hb dX7_setLink_1 (by decide) ?_
    refine va_put (D := D) (ci := 7) (v := .int (nI 0)) (ty := .int) (C := RX7) (T := TX7) (N := 6) hx hb hts hin7 tyX7 tyX7_ok nmX7 hown hK hP hD hS 0 rfl rfl 4 (by decide) (hts (.fieldLink RX7 34 "MeshRoutingModel" "thrown" "I") (List.mem_cons_of_mem _ q_760)) (fun _ h9 => h9) rfl (by decide +kernel) rfl rfl (Nat.le_of_ble_eq_true rfl) dX7_setLink_2 (fun H locs hP hD hS => ?_)
    replace hP : va_P D vwCl [(m0, .inr (7, [.ref v, .ref a1, .ref a2, .int ik, .int (nI 0), .int en])), (v, .inl (cJ, 136800, .inr (.inl (mF N))))] H := hP
    replace hD : va_D A [(m0, .inr (7, [.ref v, .ref a1, .ref a2, .int ik, .int (nI 0), .int en])), (v, .inl (cJ, 136800, .inr (.inl (mF N))))] := hD
    refine lv_aload_n hx hb dX7_setLink_5 rfl (lv_at hl 0 rfl) ?_
    refine lv_iload_n hx hb dX7_setLink_6 rfl (lv_at hl 1 rfl) ?_
    refine k_ci (wr := []) (w1 := [(m0, .inr (7, [.ref v, .ref a1, .ref a2, .int ik, .int (nI 0), .int en])), (v, .inl (cJ, 136800, .inr (.inl (mF N))))]) (va_runV (As := [.int (nI j1)]) (rest := []) ⟨hx, hb, hml, hown, hts⟩ (c_X7_isNode1 l D cI cJ cM cG m0 v a1 a2 ik (nI 0) en (mF N) N j1 H.size (mF_1) (hj1) (hN) (hN0)) (cwV 1 hts (kB_V (fun _ => List.mem_cons_of_mem _) q_761 q_762 q_763 q_670 (kB_c q_764)) rfl rfl rfl (by decide +kernel) ⟨Nat.le_of_ble_eq_true rfl, Nat.le_of_ble_eq_true rfl⟩) (k_preV (T := TX7) hP hD hK hKN [0, 1] rfl rfl (ci := 7) rfl (q0 := 0) rfl) rfl rfl hl.1 rfl (lv_room (Nat.le_of_ble_eq_true rfl)) dX7_setLink_7 ⟨Nat.le_of_ble_eq_true rfl, Nat.le_of_ble_eq_true rfl⟩) hP hD hS hA [0, 1] [] rfl rfl rfl (by decide) (fun r7 H locs hw7 hP hD hS => ?_)
    replace hP : va_P D vwCl [(m0, .inr (7, [.ref v, .ref a1, .ref a2, .int ik, .int (nI 0), .int en])), (v, .inl (cJ, 136800, .inr (.inl (mF N))))] H := hP
    replace hD : va_D A [(m0, .inr (7, [.ref v, .ref a1, .ref a2, .int ik, .int (nI 0), .int en])), (v, .inl (cJ, 136800, .inr (.inl (mF N))))] := hD
    replace hw7 : r7 = nI 1 := hw7
    refine k_ti hw7 ?_
    refine k_if_eq (tgt := 21) hx hb dX7_setLink_10 (by decide) (by omega) (fun h9 => absurd h9 (by omega)) (fun _ => ?_)
    refine lv_aload_n hx hb dX7_setLink_13 rfl (lv_at hl 0 rfl) ?_
    refine lv_iload_n hx hb dX7_setLink_14 rfl (lv_at hl 2 rfl) ?_
    refine k_ci (wr := []) (w1 := [(m0, .inr (7, [.ref v, .ref a1, .ref a2, .int ik, .int (nI 0), .int en])), (v, .inl (cJ, 136800, .inr (.inl (mF N))))]) (va_runV (As := [.int y]) (rest := []) ⟨hx, hb, hml, hown, hts⟩ (c_X7_isNode0 l D cI cJ cM cG m0 v a1 a2 ik (nI 0) en (mF N) N y H.size (mF_1) (hb1) (hN) (hN0)) (cwV 1 hts (kB_V (fun _ => List.mem_cons_of_mem _) q_761 q_762 q_763 q_670 (kB_c q_764)) rfl rfl rfl (by decide +kernel) ⟨Nat.le_of_ble_eq_true rfl, Nat.le_of_ble_eq_true rfl⟩) (k_preV (T := TX7) hP hD hK hKN [0, 1] rfl rfl (ci := 7) rfl (q0 := 0) rfl) rfl rfl hl.1 rfl (lv_room (Nat.le_of_ble_eq_true rfl)) dX7_setLink_15 ⟨Nat.le_of_ble_eq_true rfl, Nat.le_of_ble_eq_true rfl⟩) hP hD hS hA [0, 1] [] rfl rfl rfl (by decide) (fun r15 H locs hw15 hP hD hS => ?_)
    replace hP : va_P D vwCl [(m0, .inr (7, [.ref v, .ref a1, .ref a2, .int ik, .int (nI 0), .int en])), (v, .inl (cJ, 136800, .inr (.inl (mF N))))] H := hP
    replace hD : va_D A [(m0, .inr (7, [.ref v, .ref a1, .ref a2, .int ik, .int (nI 0), .int en])), (v, .inl (cJ, 136800, .inr (.inl (mF N))))] := hD
    replace hw15 : r15 = nI 0 := hw15
    refine k_ti hw15 ?_
    refine k_if_ne (tgt := 27) hx hb dX7_setLink_18 (by decide) (by omega) (fun h9 => absurd h9 (by omega)) (fun _ => ?_)
    refine lv_aload_n hx hb dX7_setLink_21 rfl (lv_at hl 0 rfl) ?_
    refine lv_iconst (v := nI 1) hx hb dX7_setLink_22 (by decide) ?_
    refine k_ci (wr := []) (w1 := [(m0, .inr (7, [.ref v, .ref a1, .ref a2, .int ik, .int (nI 1), .int en])), (v, .inl (cJ, 136800, .inr (.inl (mF N))))]) (va_runV (As := [.int (nI 1)]) (rest := []) ⟨hx, hb, hml, hown, hts⟩ (c_X7_fails l D cI cJ cM cG m0 v a1 a2 ik (nI 0) en (mF N) (nI 1) H.size) (cwV 1 hts (kB_V (fun _ => List.mem_cons_of_mem _) q_924 q_925 q_926 q_670 (kB_c q_883)) rfl rfl rfl (by decide +kernel) ⟨Nat.le_of_ble_eq_true rfl, Nat.le_of_ble_eq_true rfl⟩) (k_preV (T := TX7) hP hD hK hKN [0, 1] rfl rfl (ci := 7) rfl (q0 := 0) rfl) rfl rfl hl.1 rfl (lv_room (Nat.le_of_ble_eq_true rfl)) dX7_setLink_23 ⟨Nat.le_of_ble_eq_true rfl, Nat.le_of_ble_eq_true rfl⟩) hP hD hS hA [0, 1] [] rfl rfl rfl (by decide) (fun r23 H locs hw23 hP hD hS => ?_)
    replace hP : va_P D vwCl [(m0, .inr (7, [.ref v, .ref a1, .ref a2, .int ik, .int (nI 1), .int en])), (v, .inl (cJ, 136800, .inr (.inl (mF N))))] H := hP
    replace hD : va_D A [(m0, .inr (7, [.ref v, .ref a1, .ref a2, .int ik, .int (nI 1), .int en])), (v, .inl (cJ, 136800, .inr (.inl (mF N))))] := hD
    replace hw23 : r23 = nI 0 := hw23
    refine k_ti hw23 ?_
    have hP9 := hP.sub (ws' := [(m0, .inr (7, [.ref v, .ref a1, .ref a2, .int ik, .int (nI 1), .int en]))]) [0] rfl
    have hD9 := hD.sub (ws' := [(m0, .inr (7, [.ref v, .ref a1, .ref a2, .int ik, .int (nI 1), .int en]))]) [0] rfl rfl
    exact W.iret (v := nI 0) hx hb hr (fun t9 ht9 hW9 => ⟨⟨nI 0, (), rfl, rfl, by rw [ht9]; exact hP9, hD9⟩, hS.F ht9⟩) hS.2.2 dX7_setLink_26

set_option maxHeartbeats 4000000 in
set_option maxRecDepth 100000 in
theorem c_M_setLink2 (l : Launch) (D : va_G) (cI cJ cM cG : ClassId) (m0 : Nat) (v : Nat) (a1 : Nat) (a2 : Nat) (ik : Int32) (th : Int32) (en : Int32) (N : Nat) (a : Nat) (b : Nat) (z3 : Int32) (sz : Nat) (hN : N ≤ 10) (hN0 : 0 < N) (ha : a < N) (hb9 : b < N) (hz3 : a = b ∨ (z3 < 0 ∨ nI (9 + 1) ≤ z3)) : Met l yX7_setLink (Cond.code yX7_setLink cX7_setLink 4 (some .int) :: kBig) ({ frames := 2, cells := 0, slots := 0, locals := 46 }) (va_Pc [.ref m0, .int (nI a), .int (nI b), .int z3] (kP D [(cI, .int), (cJ, .long), (cM, .object "MeshRouting$Message"), (cG, .array .int)] [(m0, .inr (7, [.ref v, .ref a1, .ref a2, .int ik, .int th, .int en])), (v, .inl (cJ, 136800, .inr (.inl (mF N))))] sz)) (va_Qi (fun (r : Int32) (_ : Unit) => r = nI 0) (fun _ t9 => kB D (va_A [(m0, .inr (7, [.ref v, .ref a1, .ref a2, .int ik, .int th, .int en])), (v, .inl (cJ, 136800, .inr (.inl (mF N))))] sz) [(m0, .inr (7, [.ref v, .ref a1, .ref a2, .int ik, .int (nI 2), .int en]))] t9) (va_A [(m0, .inr (7, [.ref v, .ref a1, .ref a2, .int ik, .int th, .int en])), (v, .inl (cJ, 136800, .inr (.inl (mF N))))] sz)) 0 0 (va_A [(m0, .inr (7, [.ref v, .ref a1, .ref a2, .int ik, .int th, .int en])), (v, .inl (cJ, 136800, .inr (.inl (mF N))))] sz) := by
  refine Met.ofW (cc := cX7_setLink) (maxL := 4) (ret := (some .int)) (by decide) rfl ?_
  intro p e s m args below meth c s₁ B hml hv
  obtain ⟨rfl, hsz, hP, hK, hD0, hKN⟩ := hv
  have hx := B.exec
  have hb := B.bytes
  have hr := B.returns
  have hts := atoms_spec (ws := (Cond.code yX7_setLink cX7_setLink 4 (some .int) :: kBig)) B.pre
  have hown : s.vm.findClass RX7 = some m.cls := findClass_of_methodNamed B.named
  have hlocks := B.notSynchronized
  have hin7 : ∀ w ∈ u_ws RX7 TX7 6, w ∈ (Cond.code yX7_setLink cX7_setLink 4 (some .int) :: kBig) := fun w h => List.mem_cons_of_mem _ (inb7 w h)
  subst hsz
  have hD := hD0.self (sz := s.heap.size)
  generalize hAe : va_A [(m0, .inr (7, [.ref v, .ref a1, .ref a2, .int ik, .int th, .int en])), (v, .inl (cJ, 136800, .inr (.inl (mF N))))] s.heap.size = A at hD ⊢
  have hA : ∀ q : Nat, s.heap.size ≤ q → A q := fun q h => by rw [← hAe]; exact Or.inr h
  have hS : va_S A s.heap s.heap [] := va_S.rf
  have hl := lv_entry ([.ref m0, .int (nI a), .int (nI b), .int z3]) (n := 4) (Nat.le_of_ble_eq_true rfl)
  rw [lg_entry_eq]
  generalize (lg_sl ([.ref m0, .int (nI a), .int (nI b), .int z3]) ++ List.replicate (4 - (lg_sl ([.ref m0, .int (nI a), .int (nI b), .int z3])).length) Slot.unset).toArray = ls at hl ⊢
  have hl : lv_has ls 4 [(0, .ref m0), (1, .int (nI a)), (2, .int (nI b)), (3, .int z3)] := hl
  refine lv_aload_n hx hb dX7_setLink_0 rfl (lv_at hl 0 rfl) ?_
  refine lv_iconst (v := nI 0) hx hb dX7_setLink_1 (by decide) ?_
  refine va_put (D := D) (ci := 7) (v := .int (nI 0)) (ty := .int) (C := RX7) (T := TX7) (N := 6) hx hb hts hin7 tyX7 tyX7_ok nmX7 hown hK hP hD hS 0 rfl rfl 4 (by decide) (hts (.fieldLink RX7 34 "MeshRoutingModel" "thrown" "I") (List.mem_cons_of_mem _ q_760)) (fun _ h9 => h9) rfl (by decide +kernel) rfl rfl (Nat.le_of_ble_eq_true rfl) dX7_setLink_2 (fun H locs hP hD hS => ?_)
  replace hP : va_P D vwCl [(m0, .inr (7, [.ref v, .ref a1, .ref a2, .int ik, .int (nI 0), .int en])), (v, .inl (cJ, 136800, .inr (.inl (mF N))))] H := hP
  replace hD : va_D A [(m0, .inr (7, [.ref v, .ref a1, .ref a2, .int ik, .int (nI 0), .int en])), (v, .inl (cJ, 136800, .inr (.inl (mF N))))] := hD
  refine lv_aload_n hx hb dX7_setLink_5 rfl (lv_at hl 0 rfl) ?_
  refine lv_iload_n hx hb dX7_setLink_6 rfl (lv_at hl 1 rfl) ?_
  refine k_ci (wr := []) (w1 := [(m0, .inr (7, [.ref v, .ref a1, .ref a2, .int ik, .int (nI 0), .int en])), (v, .inl (cJ, 136800, .inr (.inl (mF N))))]) (va_runV (As := [.int (nI a)]) (rest := []) ⟨hx, hb, hml, hown, hts⟩ (c_X7_isNode1 l D cI cJ cM cG m0 v a1 a2 ik (nI 0) en (mF N) N a H.size (mF_1) (ha) (hN) (hN0)) (cwV 1 hts (kB_V (fun _ => List.mem_cons_of_mem _) q_761 q_762 q_763 q_670 (kB_c q_764)) rfl rfl rfl (by decide +kernel) ⟨Nat.le_of_ble_eq_true rfl, Nat.le_of_ble_eq_true rfl⟩) (k_preV (T := TX7) hP hD hK hKN [0, 1] rfl rfl (ci := 7) rfl (q0 := 0) rfl) rfl rfl hl.1 rfl (lv_room (Nat.le_of_ble_eq_true rfl)) dX7_setLink_7 ⟨Nat.le_of_ble_eq_true rfl, Nat.le_of_ble_eq_true rfl⟩) hP hD hS hA [0, 1] [] rfl rfl rfl (by decide) (fun r7 H locs hw7 hP hD hS => ?_)
  replace hP : va_P D vwCl [(m0, .inr (7, [.ref v, .ref a1, .ref a2, .int ik, .int (nI 0), .int en])), (v, .inl (cJ, 136800, .inr (.inl (mF N))))] H := hP
  replace hD : va_D A [(m0, .inr (7, [.ref v, .ref a1, .ref a2, .int ik, .int (nI 0), .int en])), (v, .inl (cJ, 136800, .inr (.inl (mF N))))] := hD
  replace hw7 : r7 = nI 1 := hw7
  refine k_ti hw7 ?_
  refine k_if_eq (tgt := 21) hx hb dX7_setLink_10 (by decide) (by omega) (fun h9 => absurd h9 (by omega)) (fun _ => ?_)
  refine lv_aload_n hx hb dX7_setLink_13 rfl (lv_at hl 0 rfl) ?_
  refine lv_iload_n hx hb dX7_setLink_14 rfl (lv_at hl 2 rfl) ?_
  refine k_ci (wr := []) (w1 := [(m0, .inr (7, [.ref v, .ref a1, .ref a2, .int ik, .int (nI 0), .int en])), (v, .inl (cJ, 136800, .inr (.inl (mF N))))]) (va_runV (As := [.int (nI b)]) (rest := []) ⟨hx, hb, hml, hown, hts⟩ (c_X7_isNode1 l D cI cJ cM cG m0 v a1 a2 ik (nI 0) en (mF N) N b H.size (mF_1) (hb9) (hN) (hN0)) (cwV 1 hts (kB_V (fun _ => List.mem_cons_of_mem _) q_761 q_762 q_763 q_670 (kB_c q_764)) rfl rfl rfl (by decide +kernel) ⟨Nat.le_of_ble_eq_true rfl, Nat.le_of_ble_eq_true rfl⟩) (k_preV (T := TX7) hP hD hK hKN [0, 1] rfl rfl (ci := 7) rfl (q0 := 0) rfl) rfl rfl hl.1 rfl (lv_room (Nat.le_of_ble_eq_true rfl)) dX7_setLink_15 ⟨Nat.le_of_ble_eq_true rfl, Nat.le_of_ble_eq_true rfl⟩) hP hD hS hA [0, 1] [] rfl rfl rfl (by decide) (fun r15 H locs hw15 hP hD hS => ?_)
  replace hP : va_P D vwCl [(m0, .inr (7, [.ref v, .ref a1, .ref a2, .int ik, .int (nI 0), .int en])), (v, .inl (cJ, 136800, .inr (.inl (mF N))))] H := hP
  replace hD : va_D A [(m0, .inr (7, [.ref v, .ref a1, .ref a2, .int ik, .int (nI 0), .int en])), (v, .inl (cJ, 136800, .inr (.inl (mF N))))] := hD
  replace hw15 : r15 = nI 1 := hw15
  refine k_ti hw15 ?_
  refine k_if_ne (tgt := 27) hx hb dX7_setLink_18 (by decide) (by omega) (fun _ => ?_) (fun h9 => absurd h9 (by omega))
  refine lv_iload_n hx hb dX7_setLink_27 rfl (lv_at hl 1 rfl) ?_
  refine lv_iload_n hx hb dX7_setLink_28 rfl (lv_at hl 2 rfl) ?_
  refine k_icmp_eq (tgt := 44) hx hb dX7_setLink_29 (by decide) (by omega) (by omega) (fun hc => ?_) (fun hc => ?_)
  · refine lv_aload_n hx hb dX7_setLink_44 rfl (lv_at hl 0 rfl) ?_
    refine lv_iconst (v := nI 2) hx hb dX7_setLink_45 (by decide) ?_
    refine k_ci (wr := []) (w1 := [(m0, .inr (7, [.ref v, .ref a1, .ref a2, .int ik, .int (nI 2), .int en])), (v, .inl (cJ, 136800, .inr (.inl (mF N))))]) (va_runV (As := [.int (nI 2)]) (rest := []) ⟨hx, hb, hml, hown, hts⟩ (c_X7_fails l D cI cJ cM cG m0 v a1 a2 ik (nI 0) en (mF N) (nI 2) H.size) (cwV 1 hts (kB_V (fun _ => List.mem_cons_of_mem _) q_924 q_925 q_926 q_670 (kB_c q_883)) rfl rfl rfl (by decide +kernel) ⟨Nat.le_of_ble_eq_true rfl, Nat.le_of_ble_eq_true rfl⟩) (k_preV (T := TX7) hP hD hK hKN [0, 1] rfl rfl (ci := 7) rfl (q0 := 0) rfl) rfl rfl hl.1 rfl (lv_room (Nat.le_of_ble_eq_true rfl)) dX7_setLink_46 ⟨Nat.le_of_ble_eq_true rfl, Nat.le_of_ble_eq_true rfl⟩) hP hD hS hA [0, 1] [] rfl rfl rfl (by decide) (fun r46 H locs hw46 hP hD hS => ?_)
    replace hP : va_P D vwCl [(m0, .inr (7, [.ref v, .ref a1, .ref a2, .int ik, .int (nI 2), .int en])), (v, .inl (cJ, 136800, .inr (.inl (mF N))))] H := hP
    replace hD : va_D A [(m0, .inr (7, [.ref v, .ref a1, .ref a2, .int ik, .int (nI 2), .int en])), (v, .inl (cJ, 136800, .inr (.inl (mF N))))] := hD
    replace hw46 : r46 = nI 0 := hw46
    refine k_ti hw46 ?_
    have hP9 := hP.sub (ws' := [(m0, .inr (7, [.ref v, .ref a1, .ref a2, .int ik, .int (nI 2), .int en]))]) [0] rfl
    have hD9 := hD.sub (ws' := [(m0, .inr (7, [.ref v, .ref a1, .ref a2, .int ik, .int (nI 2), .int en]))]) [0] rfl rfl
    exact W.iret (v := nI 0) hx hb hr (fun t9 ht9 hW9 => ⟨⟨nI 0, (), rfl, rfl, by rw [ht9]; exact hP9, hD9⟩, hS.F ht9⟩) hS.2.2 dX7_setLink_49
  · refine lv_iload_n hx hb dX7_setLink_32 rfl (lv_at hl 3 rfl) ?_
    refine lv_i2l (v := z3.toInt64) hx hb dX7_setLink_33 (rfl) ?_
    refine lv_lconst (v := lN 0) hx hb dX7_setLink_34 (by decide) ?_
    refine lv_ldc2 (v := 9) hx hb hown (by exact hts (.constantLong RX7 211 (9)) (List.mem_cons_of_mem _ q_940)) dX7_setLink_35 ?_
    refine k_tl (show (9) = (lN 9) from by decide) ?_
    refine k_ci (wr := [(m0, .inr (7, [.ref v, .ref a1, .ref a2, .int ik, .int (nI 0), .int en])), (v, .inl (cJ, 136800, .inr (.inl (mF N))))]) (w1 := []) (va_runS (As := [.long z3.toInt64, .long (lN 0), .long (lN 9)]) (rest := []) ⟨hx, hb, hml, hown, hts⟩ (c_X7_in0 l D cI cJ cM cG z3.toInt64 (lN 0) (lN 9) H.size (k_over (n := 9) (by omega) (hz3.resolve_left hc))) (va_cwS 3 hts (kB_S (fun _ => List.mem_cons_of_mem _) q_765 q_766 q_670 (kB_c q_767)) rfl rfl rfl (by decide +kernel) ⟨Nat.le_of_ble_eq_true rfl, Nat.le_of_ble_eq_true rfl⟩) (k_preS hP hD hK hKN [] rfl rfl) rfl rfl hl.1 rfl (lv_room (Nat.le_of_ble_eq_true rfl)) dX7_setLink_38 ⟨Nat.le_of_ble_eq_true rfl, Nat.le_of_ble_eq_true rfl⟩) hP hD hS hA [] [0, 1] rfl rfl rfl (by decide) (fun r38 H locs hw38 hP hD hS => ?_)
    replace hP : va_P D vwCl [(m0, .inr (7, [.ref v, .ref a1, .ref a2, .int ik, .int (nI 0), .int en])), (v, .inl (cJ, 136800, .inr (.inl (mF N))))] H := hP
    replace hD : va_D A [(m0, .inr (7, [.ref v, .ref a1, .ref a2, .int ik, .int (nI 0), .int en])), (v, .inl (cJ, 136800, .inr (.inl (mF N))))] := hD
    replace hw38 : r38 = nI 0 := hw38
    refine k_ti hw38 ?_
    refine k_if_ne (tgt := 50) hx hb dX7_setLink_41 (by decide) (by omega) (fun h9 => absurd h9 (by omega)) (fun _ => ?_)
    refine lv_aload_n hx hb dX7_setLink_44 rfl (lv_at hl 0 rfl) ?_
    refine lv_iconst (v := nI 2) hx hb dX7_setLink_45 (by decide) ?_
    refine k_ci (wr := []) (w1 := [(m0, .inr (7, [.ref v, .ref a1, .ref a2, .int ik, .int (nI 2), .int en])), (v, .inl (cJ, 136800, .inr (.inl (mF N))))]) (va_runV (As := [.int (nI 2)]) (rest := []) ⟨hx, hb, hml, hown, hts⟩ (c_X7_fails l D cI cJ cM cG m0 v a1 a2 ik (nI 0) en (mF N) (nI 2) H.size) (cwV 1 hts (kB_V (fun _ => List.mem_cons_of_mem _) q_924 q_925 q_926 q_670 (kB_c q_883)) rfl rfl rfl (by decide +kernel) ⟨Nat.le_of_ble_eq_true rfl, Nat.le_of_ble_eq_true rfl⟩) (k_preV (T := TX7) hP hD hK hKN [0, 1] rfl rfl (ci := 7) rfl (q0 := 0) rfl) rfl rfl hl.1 rfl (lv_room (Nat.le_of_ble_eq_true rfl)) dX7_setLink_46 ⟨Nat.le_of_ble_eq_true rfl, Nat.le_of_ble_eq_true rfl⟩) hP hD hS hA [0, 1] [] rfl rfl rfl (by decide) (fun r46 H locs hw46 hP hD hS => ?_)
    replace hP : va_P D vwCl [(m0, .inr (7, [.ref v, .ref a1, .ref a2, .int ik, .int (nI 2), .int en])), (v, .inl (cJ, 136800, .inr (.inl (mF N))))] H := hP
    replace hD : va_D A [(m0, .inr (7, [.ref v, .ref a1, .ref a2, .int ik, .int (nI 2), .int en])), (v, .inl (cJ, 136800, .inr (.inl (mF N))))] := hD
    replace hw46 : r46 = nI 0 := hw46
    refine k_ti hw46 ?_
    have hP9 := hP.sub (ws' := [(m0, .inr (7, [.ref v, .ref a1, .ref a2, .int ik, .int (nI 2), .int en]))]) [0] rfl
    have hD9 := hD.sub (ws' := [(m0, .inr (7, [.ref v, .ref a1, .ref a2, .int ik, .int (nI 2), .int en]))]) [0] rfl rfl
    exact W.iret (v := nI 0) hx hb hr (fun t9 ht9 hW9 => ⟨⟨nI 0, (), rfl, rfl, by rw [ht9]; exact hP9, hD9⟩, hS.F ht9⟩) hS.2.2 dX7_setLink_49

set_option maxHeartbeats 4000000 in
set_option maxRecDepth 100000 in
theorem c_M_link1 (l : Launch) (D : va_G) (cI cJ cM cG : ClassId) (m0 : Nat) (v : Nat) (a1 : Nat) (a2 : Nat) (ik : Int32) (th : Int32) (en : Int32) (N : Nat) (a : Nat) (b : Nat) (sz : Nat) (hN : N ≤ 10) (hN0 : 0 < N) (ha : a < N) (hb9 : b < N) : Met l yX7_link (Cond.code yX7_link cX7_link 3 (some .int) :: kBig) ({ frames := 2, cells := 0, slots := 0, locals := 46 }) (va_Pc [.ref m0, .int (nI a), .int (nI b)] (kP D [(cI, .int), (cJ, .long), (cM, .object "MeshRouting$Message"), (cG, .array .int)] [(m0, .inr (7, [.ref v, .ref a1, .ref a2, .int ik, .int th, .int en])), (v, .inl (cJ, 136800, .inr (.inl (mF N))))] sz)) (va_Qi (fun (r : Int32) (_ : Unit) => r = nI 0) (fun _ t9 => kB D (va_A [(m0, .inr (7, [.ref v, .ref a1, .ref a2, .int ik, .int th, .int en])), (v, .inl (cJ, 136800, .inr (.inl (mF N))))] sz) [(m0, .inr (7, [.ref v, .ref a1, .ref a2, .int ik, .int (nI 0), .int en]))] t9) (va_A [(m0, .inr (7, [.ref v, .ref a1, .ref a2, .int ik, .int th, .int en])), (v, .inl (cJ, 136800, .inr (.inl (mF N))))] sz)) 0 0 (va_A [(m0, .inr (7, [.ref v, .ref a1, .ref a2, .int ik, .int th, .int en])), (v, .inl (cJ, 136800, .inr (.inl (mF N))))] sz) := by
  refine Met.ofW (cc := cX7_link) (maxL := 3) (ret := (some .int)) (by decide) rfl ?_
  intro p e s m args below meth c s₁ B hml hv
  obtain ⟨rfl, hsz, hP, hK, hD0, hKN⟩ := hv
  have hx := B.exec
  have hb := B.bytes
  have hr := B.returns
  have hts := atoms_spec (ws := (Cond.code yX7_link cX7_link 3 (some .int) :: kBig)) B.pre
  have hown : s.vm.findClass RX7 = some m.cls := findClass_of_methodNamed B.named
  have hlocks := B.notSynchronized
  have hin7 : ∀ w ∈ u_ws RX7 TX7 6, w ∈ (Cond.code yX7_link cX7_link 3 (some .int) :: kBig) := fun w h => List.mem_cons_of_mem _ (inb7 w h)
  subst hsz
  have hD := hD0.self (sz := s.heap.size)
  generalize hAe : va_A [(m0, .inr (7, [.ref v, .ref a1, .ref a2, .int ik, .int th, .int en])), (v, .inl (cJ, 136800, .inr (.inl (mF N))))] s.heap.size = A at hD ⊢
  have hA : ∀ q : Nat, s.heap.size ≤ q → A q := fun q h => by rw [← hAe]; exact Or.inr h
  have hS : va_S A s.heap s.heap [] := va_S.rf
  have hl := lv_entry ([.ref m0, .int (nI a), .int (nI b)]) (n := 3) (Nat.le_of_ble_eq_true rfl)
  rw [lg_entry_eq]
  generalize (lg_sl ([.ref m0, .int (nI a), .int (nI b)]) ++ List.replicate (3 - (lg_sl ([.ref m0, .int (nI a), .int (nI b)])).length) Slot.unset).toArray = ls at hl ⊢
  have hl : lv_has ls 3 [(0, .ref m0), (1, .int (nI a)), (2, .int (nI b))] := hl
  refine lv_aload_n hx hb dX7_link_0 rfl (lv_at hl 0 rfl) ?_
  refine lv_iconst (v := nI 0) hx hb dX7_link_1 (by decide) ?_
  refine va_put (D := D) (ci := 7) (v := .int (nI 0)) (ty := .int) (C := RX7) (T := TX7) (N := 6) hx hb hts hin7 tyX7 tyX7_ok nmX7 hown hK hP hD hS 0 rfl rfl 4 (by decide) (hts (.fieldLink RX7 34 "MeshRoutingModel" "thrown" "I") (List.mem_cons_of_mem _ q_760)) (fun _ h9 => h9) rfl (by decide +kernel) rfl rfl (Nat.le_of_ble_eq_true rfl) dX7_link_2 (fun H locs hP hD hS => ?_)
  replace hP : va_P D vwCl [(m0, .inr (7, [.ref v, .ref a1, .ref a2, .int ik, .int (nI 0), .int en])), (v, .inl (cJ, 136800, .inr (.inl (mF N))))] H := hP
  replace hD : va_D A [(m0, .inr (7, [.ref v, .ref a1, .ref a2, .int ik, .int (nI 0), .int en])), (v, .inl (cJ, 136800, .inr (.inl (mF N))))] := hD
  refine lv_aload_n hx hb dX7_link_5 rfl (lv_at hl 0 rfl) ?_
  refine lv_iload_n hx hb dX7_link_6 rfl (lv_at hl 1 rfl) ?_
  refine k_ci (wr := []) (w1 := [(m0, .inr (7, [.ref v, .ref a1, .ref a2, .int ik, .int (nI 0), .int en])), (v, .inl (cJ, 136800, .inr (.inl (mF N))))]) (va_runV (As := [.int (nI a)]) (rest := []) ⟨hx, hb, hml, hown, hts⟩ (c_X7_isNode1 l D cI cJ cM cG m0 v a1 a2 ik (nI 0) en (mF N) N a H.size (mF_1) (ha) (hN) (hN0)) (cwV 1 hts (kB_V (fun _ => List.mem_cons_of_mem _) q_761 q_762 q_763 q_670 (kB_c q_764)) rfl rfl rfl (by decide +kernel) ⟨Nat.le_of_ble_eq_true rfl, Nat.le_of_ble_eq_true rfl⟩) (k_preV (T := TX7) hP hD hK hKN [0, 1] rfl rfl (ci := 7) rfl (q0 := 0) rfl) rfl rfl hl.1 rfl (lv_room (Nat.le_of_ble_eq_true rfl)) dX7_link_7 ⟨Nat.le_of_ble_eq_true rfl, Nat.le_of_ble_eq_true rfl⟩) hP hD hS hA [0, 1] [] rfl rfl rfl (by decide) (fun r7 H locs hw7 hP hD hS => ?_)
  replace hP : va_P D vwCl [(m0, .inr (7, [.ref v, .ref a1, .ref a2, .int ik, .int (nI 0), .int en])), (v, .inl (cJ, 136800, .inr (.inl (mF N))))] H := hP
  replace hD : va_D A [(m0, .inr (7, [.ref v, .ref a1, .ref a2, .int ik, .int (nI 0), .int en])), (v, .inl (cJ, 136800, .inr (.inl (mF N))))] := hD
  replace hw7 : r7 = nI 1 := hw7
  refine k_ti hw7 ?_
  refine k_if_eq (tgt := 39) hx hb dX7_link_10 (by decide) (by omega) (fun h9 => absurd h9 (by omega)) (fun _ => ?_)
  refine lv_aload_n hx hb dX7_link_13 rfl (lv_at hl 0 rfl) ?_
  refine lv_iload_n hx hb dX7_link_14 rfl (lv_at hl 2 rfl) ?_
  refine k_ci (wr := []) (w1 := [(m0, .inr (7, [.ref v, .ref a1, .ref a2, .int ik, .int (nI 0), .int en])), (v, .inl (cJ, 136800, .inr (.inl (mF N))))]) (va_runV (As := [.int (nI b)]) (rest := []) ⟨hx, hb, hml, hown, hts⟩ (c_X7_isNode1 l D cI cJ cM cG m0 v a1 a2 ik (nI 0) en (mF N) N b H.size (mF_1) (hb9) (hN) (hN0)) (cwV 1 hts (kB_V (fun _ => List.mem_cons_of_mem _) q_761 q_762 q_763 q_670 (kB_c q_764)) rfl rfl rfl (by decide +kernel) ⟨Nat.le_of_ble_eq_true rfl, Nat.le_of_ble_eq_true rfl⟩) (k_preV (T := TX7) hP hD hK hKN [0, 1] rfl rfl (ci := 7) rfl (q0 := 0) rfl) rfl rfl hl.1 rfl (lv_room (Nat.le_of_ble_eq_true rfl)) dX7_link_15 ⟨Nat.le_of_ble_eq_true rfl, Nat.le_of_ble_eq_true rfl⟩) hP hD hS hA [0, 1] [] rfl rfl rfl (by decide) (fun r15 H locs hw15 hP hD hS => ?_)
  replace hP : va_P D vwCl [(m0, .inr (7, [.ref v, .ref a1, .ref a2, .int ik, .int (nI 0), .int en])), (v, .inl (cJ, 136800, .inr (.inl (mF N))))] H := hP
  replace hD : va_D A [(m0, .inr (7, [.ref v, .ref a1, .ref a2, .int ik, .int (nI 0), .int en])), (v, .inl (cJ, 136800, .inr (.inl (mF N))))] := hD
  replace hw15 : r15 = nI 1 := hw15
  refine k_ti hw15 ?_
  refine k_if_eq (tgt := 39) hx hb dX7_link_18 (by decide) (by omega) (fun h9 => absurd h9 (by omega)) (fun _ => ?_)
  refine lv_aload_n hx hb dX7_link_21 rfl (lv_at hl 0 rfl) ?_
  refine va_get (D := D) (ci := 7) (v := .ref v) (C := RX7) (T := TX7) (N := 6) hx hb hts hin7 hown hK hP 0 rfl rfl 0 (by decide) (hts (.fieldLink RX7 8 "MeshRoutingModel" "v" "[J") (List.mem_cons_of_mem _ q_665)) (fun _ h9 => h9) rfl dX7_link_22 ?_
  refine lv_bipush (v := nI 100) hx hb dX7_link_25 (by decide) ?_
  refine lv_bipush (v := nI 10) hx hb dX7_link_27 (by decide) ?_
  refine lv_iload_n hx hb dX7_link_29 rfl (lv_at hl 1 rfl) ?_
  refine lv_imul hx hb dX7_link_30 ?_
  refine k_ti (show ((nI 10) * (nI a)) = (nI (10 * a)) from pk_mul _ _) ?_
  refine lv_iadd hx hb dX7_link_31 ?_
  refine k_ti (show ((nI 100) + (nI (10 * a))) = (nI (100 + 10 * a)) from nI_add _ _) ?_
  refine lv_iload_n hx hb dX7_link_32 rfl (lv_at hl 2 rfl) ?_
  refine lv_iadd hx hb dX7_link_33 ?_
  refine k_ti (show ((nI (100 + 10 * a)) + (nI b)) = (nI (100 + 10 * a + b)) from nI_add _ _) ?_
  refine k_lald (v := lN 0) hx hb hK hP 1 1 rfl rfl (by omega) (by omega) ((mF_z (by omega))) dX7_link_34 ?_
  refine lv_l2i (v := nI 0) hx hb dX7_link_35 (by decide) ?_
  refine lv_goto (tgt := 44) hx hb dX7_link_36 (by decide) ?_
  have hP9 := hP.sub (ws' := [(m0, .inr (7, [.ref v, .ref a1, .ref a2, .int ik, .int (nI 0), .int en]))]) [0] rfl
  have hD9 := hD.sub (ws' := [(m0, .inr (7, [.ref v, .ref a1, .ref a2, .int ik, .int (nI 0), .int en]))]) [0] rfl rfl
  exact W.iret (v := nI 0) hx hb hr (fun t9 ht9 hW9 => ⟨⟨nI 0, (), rfl, rfl, by rw [ht9]; exact hP9, hD9⟩, hS.F ht9⟩) hS.2.2 dX7_link_44

set_option maxHeartbeats 4000000 in
set_option maxRecDepth 100000 in
theorem c_M_link0 (l : Launch) (D : va_G) (cI cJ cM cG : ClassId) (m0 : Nat) (v : Nat) (a1 : Nat) (a2 : Nat) (ik : Int32) (th : Int32) (en : Int32) (N : Nat) (x : Int32) (y : Int32) (sz : Nat) (hN : N ≤ 10) (hN0 : 0 < N) (hb2 : kBad2 N x y) : Met l yX7_link (Cond.code yX7_link cX7_link 3 (some .int) :: kBig) ({ frames := 2, cells := 0, slots := 0, locals := 46 }) (va_Pc [.ref m0, .int x, .int y] (kP D [(cI, .int), (cJ, .long), (cM, .object "MeshRouting$Message"), (cG, .array .int)] [(m0, .inr (7, [.ref v, .ref a1, .ref a2, .int ik, .int th, .int en])), (v, .inl (cJ, 136800, .inr (.inl (mF N))))] sz)) (va_Qi (fun (r : Int32) (_ : Unit) => r = nI 0) (fun _ t9 => kB D (va_A [(m0, .inr (7, [.ref v, .ref a1, .ref a2, .int ik, .int th, .int en])), (v, .inl (cJ, 136800, .inr (.inl (mF N))))] sz) [(m0, .inr (7, [.ref v, .ref a1, .ref a2, .int ik, .int (nI 1), .int en]))] t9) (va_A [(m0, .inr (7, [.ref v, .ref a1, .ref a2, .int ik, .int th, .int en])), (v, .inl (cJ, 136800, .inr (.inl (mF N))))] sz)) 0 0 (va_A [(m0, .inr (7, [.ref v, .ref a1, .ref a2, .int ik, .int th, .int en])), (v, .inl (cJ, 136800, .inr (.inl (mF N))))] sz) := by
  refine Met.ofW (cc := cX7_link) (maxL := 3) (ret := (some .int)) (by decide) rfl ?_
  intro p e s m args below meth c s₁ B hml hv
  obtain ⟨rfl, hsz, hP, hK, hD0, hKN⟩ := hv
  have hx := B.exec
  have hb := B.bytes
  have hr := B.returns
  have hts := atoms_spec (ws := (Cond.code yX7_link cX7_link 3 (some .int) :: kBig)) B.pre
  have hown : s.vm.findClass RX7 = some m.cls := findClass_of_methodNamed B.named
  have hlocks := B.notSynchronized
  have hin7 : ∀ w ∈ u_ws RX7 TX7 6, w ∈ (Cond.code yX7_link cX7_link 3 (some .int) :: kBig) := fun w h => List.mem_cons_of_mem _ (inb7 w h)
  subst hsz
  have hD := hD0.self (sz := s.heap.size)
  generalize hAe : va_A [(m0, .inr (7, [.ref v, .ref a1, .ref a2, .int ik, .int th, .int en])), (v, .inl (cJ, 136800, .inr (.inl (mF N))))] s.heap.size = A at hD ⊢
  have hA : ∀ q : Nat, s.heap.size ≤ q → A q := fun q h => by rw [← hAe]; exact Or.inr h
  have hS : va_S A s.heap s.heap [] := va_S.rf
  have hl := lv_entry ([.ref m0, .int x, .int y]) (n := 3) (Nat.le_of_ble_eq_true rfl)
  rw [lg_entry_eq]
  generalize (lg_sl ([.ref m0, .int x, .int y]) ++ List.replicate (3 - (lg_sl ([.ref m0, .int x, .int y])).length) Slot.unset).toArray = ls at hl ⊢
  have hl : lv_has ls 3 [(0, .ref m0), (1, .int x), (2, .int y)] := hl
  rcases hb2 with hb1 | ⟨⟨j1, hj1, rfl⟩, hb1⟩
  · refine lv_aload_n hx hb dX7_link_0 rfl (lv_at hl 0 rfl) ?_
    refine lv_iconst (v := nI 0) hx hb dX7_link_1 (by decide) ?_
    refine va_put (D := D) (ci := 7) (v := .int (nI 0)) (ty := .int) (C := RX7) (T := TX7) (N := 6) hx hb hts hin7 tyX7 tyX7_ok nmX7 hown hK hP hD hS 0 rfl rfl 4 (by decide) (hts (.fieldLink RX7 34 "MeshRoutingModel" "thrown" "I") (List.mem_cons_of_mem _ q_760)) (fun _ h9 => h9) rfl (by decide +kernel) rfl rfl (Nat.le_of_ble_eq_true rfl) dX7_link_2 (fun H locs hP hD hS => ?_)
    replace hP : va_P D vwCl [(m0, .inr (7, [.ref v, .ref a1, .ref a2, .int ik, .int (nI 0), .int en])), (v, .inl (cJ, 136800, .inr (.inl (mF N))))] H := hP
    replace hD : va_D A [(m0, .inr (7, [.ref v, .ref a1, .ref a2, .int ik, .int (nI 0), .int en])), (v, .inl (cJ, 136800, .inr (.inl (mF N))))] := hD
    refine lv_aload_n hx hb dX7_link_5 rfl (lv_at hl 0 rfl) ?_
    refine lv_iload_n hx hb dX7_link_6 rfl (lv_at hl 1 rfl) ?_
    refine k_ci (wr := []) (w1 := [(m0, .inr (7, [.ref v, .ref a1, .ref a2, .int ik, .int (nI 0), .int en])), (v, .inl (cJ, 136800, .inr (.inl (mF N))))]) (va_runV (As := [.int x]) (rest := []) ⟨hx, hb, hml, hown, hts⟩ (c_X7_isNode0 l D cI cJ cM cG m0 v a1 a2 ik (nI 0) en (mF N) N x H.size (mF_1) (hb1) (hN) (hN0)) (cwV 1 hts (kB_V (fun _ => List.mem_cons_of_mem _) q_761 q_762 q_763 q_670 (kB_c q_764)) rfl rfl rfl (by decide +kernel) ⟨Nat.le_of_ble_eq_true rfl, Nat.le_of_ble_eq_true rfl⟩) (k_preV (T := TX7) hP hD hK hKN [0, 1] rfl rfl (ci := 7) rfl (q0 := 0) rfl) rfl rfl hl.1 rfl (lv_room (Nat.le_of_ble_eq_true rfl)) dX7_link_7 ⟨Nat.le_of_ble_eq_true rfl, Nat.le_of_ble_eq_true rfl⟩) hP hD hS hA [0, 1] [] rfl rfl rfl (by decide) (fun r7 H locs hw7 hP hD hS => ?_)
    replace hP : va_P D vwCl [(m0, .inr (7, [.ref v, .ref a1, .ref a2, .int ik, .int (nI 0), .int en])), (v, .inl (cJ, 136800, .inr (.inl (mF N))))] H := hP
    replace hD : va_D A [(m0, .inr (7, [.ref v, .ref a1, .ref a2, .int ik, .int (nI 0), .int en])), (v, .inl (cJ, 136800, .inr (.inl (mF N))))] := hD
    replace hw7 : r7 = nI 0 := hw7
    refine k_ti hw7 ?_
    refine k_if_eq (tgt := 39) hx hb dX7_link_10 (by decide) (by omega) (fun _ => ?_) (fun h9 => absurd h9 (by omega))
    refine lv_aload_n hx hb dX7_link_39 rfl (lv_at hl 0 rfl) ?_
    refine lv_iconst (v := nI 1) hx hb dX7_link_40 (by decide) ?_
    refine k_ci (wr := []) (w1 := [(m0, .inr (7, [.ref v, .ref a1, .ref a2, .int ik, .int (nI 1), .int en])), (v, .inl (cJ, 136800, .inr (.inl (mF N))))]) (va_runV (As := [.int (nI 1)]) (rest := []) ⟨hx, hb, hml, hown, hts⟩ (c_X7_fails l D cI cJ cM cG m0 v a1 a2 ik (nI 0) en (mF N) (nI 1) H.size) (cwV 1 hts (kB_V (fun _ => List.mem_cons_of_mem _) q_924 q_925 q_926 q_670 (kB_c q_883)) rfl rfl rfl (by decide +kernel) ⟨Nat.le_of_ble_eq_true rfl, Nat.le_of_ble_eq_true rfl⟩) (k_preV (T := TX7) hP hD hK hKN [0, 1] rfl rfl (ci := 7) rfl (q0 := 0) rfl) rfl rfl hl.1 rfl (lv_room (Nat.le_of_ble_eq_true rfl)) dX7_link_41 ⟨Nat.le_of_ble_eq_true rfl, Nat.le_of_ble_eq_true rfl⟩) hP hD hS hA [0, 1] [] rfl rfl rfl (by decide) (fun r41 H locs hw41 hP hD hS => ?_)
    replace hP : va_P D vwCl [(m0, .inr (7, [.ref v, .ref a1, .ref a2, .int ik, .int (nI 1), .int en])), (v, .inl (cJ, 136800, .inr (.inl (mF N))))] H := hP
    replace hD : va_D A [(m0, .inr (7, [.ref v, .ref a1, .ref a2, .int ik, .int (nI 1), .int en])), (v, .inl (cJ, 136800, .inr (.inl (mF N))))] := hD
    replace hw41 : r41 = nI 0 := hw41
    refine k_ti hw41 ?_
    have hP9 := hP.sub (ws' := [(m0, .inr (7, [.ref v, .ref a1, .ref a2, .int ik, .int (nI 1), .int en]))]) [0] rfl
    have hD9 := hD.sub (ws' := [(m0, .inr (7, [.ref v, .ref a1, .ref a2, .int ik, .int (nI 1), .int en]))]) [0] rfl rfl
    exact W.iret (v := nI 0) hx hb hr (fun t9 ht9 hW9 => ⟨⟨nI 0, (), rfl, rfl, by rw [ht9]; exact hP9, hD9⟩, hS.F ht9⟩) hS.2.2 dX7_link_44
  · refine lv_aload_n hx hb dX7_link_0 rfl (lv_at hl 0 rfl) ?_
    refine lv_iconst (v := nI 0) hx hb dX7_link_1 (by decide) ?_
    refine va_put (D := D) (ci := 7) (v := .int (nI 0)) (ty := .int) (C := RX7) (T := TX7) (N := 6) hx hb hts hin7 tyX7 tyX7_ok nmX7 hown hK hP hD hS 0 rfl rfl 4 (by decide) (hts (.fieldLink RX7 34 "MeshRoutingModel" "thrown" "I") (List.mem_cons_of_mem _ q_760)) (fun _ h9 => h9) rfl (by decide +kernel) rfl rfl (Nat.le_of_ble_eq_true rfl) dX7_link_2 (fun H locs hP hD hS => ?_)
    replace hP : va_P D vwCl [(m0, .inr (7, [.ref v, .ref a1, .ref a2, .int ik, .int (nI 0), .int en])), (v, .inl (cJ, 136800, .inr (.inl (mF N))))] H := hP
    replace hD : va_D A [(m0, .inr (7, [.ref v, .ref a1, .ref a2, .int ik, .int (nI 0), .int en])), (v, .inl (cJ, 136800, .inr (.inl (mF N))))] := hD
    refine lv_aload_n hx hb dX7_link_5 rfl (lv_at hl 0 rfl) ?_
    refine lv_iload_n hx hb dX7_link_6 rfl (lv_at hl 1 rfl) ?_
    refine k_ci (wr := []) (w1 := [(m0, .inr (7, [.ref v, .ref a1, .ref a2, .int ik, .int (nI 0), .int en])), (v, .inl (cJ, 136800, .inr (.inl (mF N))))]) (va_runV (As := [.int (nI j1)]) (rest := []) ⟨hx, hb, hml, hown, hts⟩ (c_X7_isNode1 l D cI cJ cM cG m0 v a1 a2 ik (nI 0) en (mF N) N j1 H.size (mF_1) (hj1) (hN) (hN0)) (cwV 1 hts (kB_V (fun _ => List.mem_cons_of_mem _) q_761 q_762 q_763 q_670 (kB_c q_764)) rfl rfl rfl (by decide +kernel) ⟨Nat.le_of_ble_eq_true rfl, Nat.le_of_ble_eq_true rfl⟩) (k_preV (T := TX7) hP hD hK hKN [0, 1] rfl rfl (ci := 7) rfl (q0 := 0) rfl) rfl rfl hl.1 rfl (lv_room (Nat.le_of_ble_eq_true rfl)) dX7_link_7 ⟨Nat.le_of_ble_eq_true rfl, Nat.le_of_ble_eq_true rfl⟩) hP hD hS hA [0, 1] [] rfl rfl rfl (by decide) (fun r7 H locs hw7 hP hD hS => ?_)
    replace hP : va_P D vwCl [(m0, .inr (7, [.ref v, .ref a1, .ref a2, .int ik, .int (nI 0), .int en])), (v, .inl (cJ, 136800, .inr (.inl (mF N))))] H := hP
    replace hD : va_D A [(m0, .inr (7, [.ref v, .ref a1, .ref a2, .int ik, .int (nI 0), .int en])), (v, .inl (cJ, 136800, .inr (.inl (mF N))))] := hD
    replace hw7 : r7 = nI 1 := hw7
    refine k_ti hw7 ?_
    refine k_if_eq (tgt := 39) hx hb dX7_link_10 (by decide) (by omega) (fun h9 => absurd h9 (by omega)) (fun _ => ?_)
    refine lv_aload_n hx hb dX7_link_13 rfl (lv_at hl 0 rfl) ?_
    refine lv_iload_n hx hb dX7_link_14 rfl (lv_at hl 2 rfl) ?_
    refine k_ci (wr := []) (w1 := [(m0, .inr (7, [.ref v, .ref a1, .ref a2, .int ik, .int (nI 0), .int en])), (v, .inl (cJ, 136800, .inr (.inl (mF N))))]) (va_runV (As := [.int y]) (rest := []) ⟨hx, hb, hml, hown, hts⟩ (c_X7_isNode0 l D cI cJ cM cG m0 v a1 a2 ik (nI 0) en (mF N) N y H.size (mF_1) (hb1) (hN) (hN0)) (cwV 1 hts (kB_V (fun _ => List.mem_cons_of_mem _) q_761 q_762 q_763 q_670 (kB_c q_764)) rfl rfl rfl (by decide +kernel) ⟨Nat.le_of_ble_eq_true rfl, Nat.le_of_ble_eq_true rfl⟩) (k_preV (T := TX7) hP hD hK hKN [0, 1] rfl rfl (ci := 7) rfl (q0 := 0) rfl) rfl rfl hl.1 rfl (lv_room (Nat.le_of_ble_eq_true rfl)) dX7_link_15 ⟨Nat.le_of_ble_eq_true rfl, Nat.le_of_ble_eq_true rfl⟩) hP hD hS hA [0, 1] [] rfl rfl rfl (by decide) (fun r15 H locs hw15 hP hD hS => ?_)
    replace hP : va_P D vwCl [(m0, .inr (7, [.ref v, .ref a1, .ref a2, .int ik, .int (nI 0), .int en])), (v, .inl (cJ, 136800, .inr (.inl (mF N))))] H := hP
    replace hD : va_D A [(m0, .inr (7, [.ref v, .ref a1, .ref a2, .int ik, .int (nI 0), .int en])), (v, .inl (cJ, 136800, .inr (.inl (mF N))))] := hD
    replace hw15 : r15 = nI 0 := hw15
    refine k_ti hw15 ?_
    refine k_if_eq (tgt := 39) hx hb dX7_link_18 (by decide) (by omega) (fun _ => ?_) (fun h9 => absurd h9 (by omega))
    refine lv_aload_n hx hb dX7_link_39 rfl (lv_at hl 0 rfl) ?_
    refine lv_iconst (v := nI 1) hx hb dX7_link_40 (by decide) ?_
    refine k_ci (wr := []) (w1 := [(m0, .inr (7, [.ref v, .ref a1, .ref a2, .int ik, .int (nI 1), .int en])), (v, .inl (cJ, 136800, .inr (.inl (mF N))))]) (va_runV (As := [.int (nI 1)]) (rest := []) ⟨hx, hb, hml, hown, hts⟩ (c_X7_fails l D cI cJ cM cG m0 v a1 a2 ik (nI 0) en (mF N) (nI 1) H.size) (cwV 1 hts (kB_V (fun _ => List.mem_cons_of_mem _) q_924 q_925 q_926 q_670 (kB_c q_883)) rfl rfl rfl (by decide +kernel) ⟨Nat.le_of_ble_eq_true rfl, Nat.le_of_ble_eq_true rfl⟩) (k_preV (T := TX7) hP hD hK hKN [0, 1] rfl rfl (ci := 7) rfl (q0 := 0) rfl) rfl rfl hl.1 rfl (lv_room (Nat.le_of_ble_eq_true rfl)) dX7_link_41 ⟨Nat.le_of_ble_eq_true rfl, Nat.le_of_ble_eq_true rfl⟩) hP hD hS hA [0, 1] [] rfl rfl rfl (by decide) (fun r41 H locs hw41 hP hD hS => ?_)
    replace hP : va_P D vwCl [(m0, .inr (7, [.ref v, .ref a1, .ref a2, .int ik, .int (nI 1), .int en])), (v, .inl (cJ, 136800, .inr (.inl (mF N))))] H := hP
    replace hD : va_D A [(m0, .inr (7, [.ref v, .ref a1, .ref a2, .int ik, .int (nI 1), .int en])), (v, .inl (cJ, 136800, .inr (.inl (mF N))))] := hD
    replace hw41 : r41 = nI 0 := hw41
    refine k_ti hw41 ?_
    have hP9 := hP.sub (ws' := [(m0, .inr (7, [.ref v, .ref a1, .ref a2, .int ik, .int (nI 1), .int en]))]) [0] rfl
    have hD9 := hD.sub (ws' := [(m0, .inr (7, [.ref v, .ref a1, .ref a2, .int ik, .int (nI 1), .int en]))]) [0] rfl rfl
    exact W.iret (v := nI 0) hx hb hr (fun t9 ht9 hW9 => ⟨⟨nI 0, (), rfl, rfl, by rw [ht9]; exact hP9, hD9⟩, hS.F ht9⟩) hS.2.2 dX7_link_44

set_option maxHeartbeats 4000000 in
set_option maxRecDepth 100000 in
theorem c_M_send1 (l : Launch) (D : va_G) (cI cJ cM cG : ClassId) (m0 : Nat) (v : Nat) (a1 : Nat) (a2 : Nat) (ik : Int32) (th : Int32) (en : Int32) (N : Nat) (a : Nat) (b : Nat) (sz : Nat) (hN : N ≤ 10) (hN0 : 0 < N) (ha : a < N) (hb9 : b < N) (hab : a ≠ b) : Met l yX7_send (Cond.code yX7_send cX7_send 3 (some .int) :: kBig) ({ frames := 7, cells := 0, slots := 0, locals := 172 }) (va_Pc [.ref m0, .int (nI a), .int (nI b)] (kP D [(cI, .int), (cJ, .long), (cM, .object "MeshRouting$Message"), (cG, .array .int)] [(m0, .inr (7, [.ref v, .ref a1, .ref a2, .int ik, .int th, .int en])), (v, .inl (cJ, 136800, .inr (.inl (mF N))))] sz)) (va_Qi (fun (r : Int32) (_ : Unit) => r = nI 0) (fun _ t9 => kB D (va_A [(m0, .inr (7, [.ref v, .ref a1, .ref a2, .int ik, .int th, .int en])), (v, .inl (cJ, 136800, .inr (.inl (mF N))))] sz) [(m0, .inr (7, [.ref v, .ref a1, .ref a2, .int ik, .int (nI 0), .int en]))] t9) (va_A [(m0, .inr (7, [.ref v, .ref a1, .ref a2, .int ik, .int th, .int en])), (v, .inl (cJ, 136800, .inr (.inl (mF N))))] sz)) 0 0 (va_A [(m0, .inr (7, [.ref v, .ref a1, .ref a2, .int ik, .int th, .int en])), (v, .inl (cJ, 136800, .inr (.inl (mF N))))] sz) := by
  refine Met.ofW (cc := cX7_send) (maxL := 3) (ret := (some .int)) (by decide) rfl ?_
  intro p e s m args below meth c s₁ B hml hv
  obtain ⟨rfl, hsz, hP, hK, hD0, hKN⟩ := hv
  have hx := B.exec
  have hb := B.bytes
  have hr := B.returns
  have hts := atoms_spec (ws := (Cond.code yX7_send cX7_send 3 (some .int) :: kBig)) B.pre
  have hown : s.vm.findClass RX7 = some m.cls := findClass_of_methodNamed B.named
  have hlocks := B.notSynchronized
  have hin7 : ∀ w ∈ u_ws RX7 TX7 6, w ∈ (Cond.code yX7_send cX7_send 3 (some .int) :: kBig) := fun w h => List.mem_cons_of_mem _ (inb7 w h)
  subst hsz
  have hD := hD0.self (sz := s.heap.size)
  generalize hAe : va_A [(m0, .inr (7, [.ref v, .ref a1, .ref a2, .int ik, .int th, .int en])), (v, .inl (cJ, 136800, .inr (.inl (mF N))))] s.heap.size = A at hD ⊢
  have hA : ∀ q : Nat, s.heap.size ≤ q → A q := fun q h => by rw [← hAe]; exact Or.inr h
  have hS : va_S A s.heap s.heap [] := va_S.rf
  have hl := lv_entry ([.ref m0, .int (nI a), .int (nI b)]) (n := 3) (Nat.le_of_ble_eq_true rfl)
  rw [lg_entry_eq]
  generalize (lg_sl ([.ref m0, .int (nI a), .int (nI b)]) ++ List.replicate (3 - (lg_sl ([.ref m0, .int (nI a), .int (nI b)])).length) Slot.unset).toArray = ls at hl ⊢
  have hl : lv_has ls 3 [(0, .ref m0), (1, .int (nI a)), (2, .int (nI b))] := hl
  refine lv_aload_n hx hb dX7_send_0 rfl (lv_at hl 0 rfl) ?_
  refine lv_iconst (v := nI 0) hx hb dX7_send_1 (by decide) ?_
  refine va_put (D := D) (ci := 7) (v := .int (nI 0)) (ty := .int) (C := RX7) (T := TX7) (N := 6) hx hb hts hin7 tyX7 tyX7_ok nmX7 hown hK hP hD hS 0 rfl rfl 4 (by decide) (hts (.fieldLink RX7 34 "MeshRoutingModel" "thrown" "I") (List.mem_cons_of_mem _ q_760)) (fun _ h9 => h9) rfl (by decide +kernel) rfl rfl (Nat.le_of_ble_eq_true rfl) dX7_send_2 (fun H locs hP hD hS => ?_)
  replace hP : va_P D vwCl [(m0, .inr (7, [.ref v, .ref a1, .ref a2, .int ik, .int (nI 0), .int en])), (v, .inl (cJ, 136800, .inr (.inl (mF N))))] H := hP
  replace hD : va_D A [(m0, .inr (7, [.ref v, .ref a1, .ref a2, .int ik, .int (nI 0), .int en])), (v, .inl (cJ, 136800, .inr (.inl (mF N))))] := hD
  refine lv_aload_n hx hb dX7_send_5 rfl (lv_at hl 0 rfl) ?_
  refine lv_iload_n hx hb dX7_send_6 rfl (lv_at hl 1 rfl) ?_
  refine k_ci (wr := []) (w1 := [(m0, .inr (7, [.ref v, .ref a1, .ref a2, .int ik, .int (nI 0), .int en])), (v, .inl (cJ, 136800, .inr (.inl (mF N))))]) (va_runV (As := [.int (nI a)]) (rest := []) ⟨hx, hb, hml, hown, hts⟩ (c_X7_isNode1 l D cI cJ cM cG m0 v a1 a2 ik (nI 0) en (mF N) N a H.size (mF_1) (ha) (hN) (hN0)) (cwV 1 hts (kB_V (fun _ => List.mem_cons_of_mem _) q_761 q_762 q_763 q_670 (kB_c q_764)) rfl rfl rfl (by decide +kernel) ⟨Nat.le_of_ble_eq_true rfl, Nat.le_of_ble_eq_true rfl⟩) (k_preV (T := TX7) hP hD hK hKN [0, 1] rfl rfl (ci := 7) rfl (q0 := 0) rfl) rfl rfl hl.1 rfl (lv_room (Nat.le_of_ble_eq_true rfl)) dX7_send_7 ⟨Nat.le_of_ble_eq_true rfl, Nat.le_of_ble_eq_true rfl⟩) hP hD hS hA [0, 1] [] rfl rfl rfl (by decide) (fun r7 H locs hw7 hP hD hS => ?_)
  replace hP : va_P D vwCl [(m0, .inr (7, [.ref v, .ref a1, .ref a2, .int ik, .int (nI 0), .int en])), (v, .inl (cJ, 136800, .inr (.inl (mF N))))] H := hP
  replace hD : va_D A [(m0, .inr (7, [.ref v, .ref a1, .ref a2, .int ik, .int (nI 0), .int en])), (v, .inl (cJ, 136800, .inr (.inl (mF N))))] := hD
  replace hw7 : r7 = nI 1 := hw7
  refine k_ti hw7 ?_
  refine k_if_eq (tgt := 21) hx hb dX7_send_10 (by decide) (by omega) (fun h9 => absurd h9 (by omega)) (fun _ => ?_)
  refine lv_aload_n hx hb dX7_send_13 rfl (lv_at hl 0 rfl) ?_
  refine lv_iload_n hx hb dX7_send_14 rfl (lv_at hl 2 rfl) ?_
  refine k_ci (wr := []) (w1 := [(m0, .inr (7, [.ref v, .ref a1, .ref a2, .int ik, .int (nI 0), .int en])), (v, .inl (cJ, 136800, .inr (.inl (mF N))))]) (va_runV (As := [.int (nI b)]) (rest := []) ⟨hx, hb, hml, hown, hts⟩ (c_X7_isNode1 l D cI cJ cM cG m0 v a1 a2 ik (nI 0) en (mF N) N b H.size (mF_1) (hb9) (hN) (hN0)) (cwV 1 hts (kB_V (fun _ => List.mem_cons_of_mem _) q_761 q_762 q_763 q_670 (kB_c q_764)) rfl rfl rfl (by decide +kernel) ⟨Nat.le_of_ble_eq_true rfl, Nat.le_of_ble_eq_true rfl⟩) (k_preV (T := TX7) hP hD hK hKN [0, 1] rfl rfl (ci := 7) rfl (q0 := 0) rfl) rfl rfl hl.1 rfl (lv_room (Nat.le_of_ble_eq_true rfl)) dX7_send_15 ⟨Nat.le_of_ble_eq_true rfl, Nat.le_of_ble_eq_true rfl⟩) hP hD hS hA [0, 1] [] rfl rfl rfl (by decide) (fun r15 H locs hw15 hP hD hS => ?_)
  replace hP : va_P D vwCl [(m0, .inr (7, [.ref v, .ref a1, .ref a2, .int ik, .int (nI 0), .int en])), (v, .inl (cJ, 136800, .inr (.inl (mF N))))] H := hP
  replace hD : va_D A [(m0, .inr (7, [.ref v, .ref a1, .ref a2, .int ik, .int (nI 0), .int en])), (v, .inl (cJ, 136800, .inr (.inl (mF N))))] := hD
  replace hw15 : r15 = nI 1 := hw15
  refine k_ti hw15 ?_
  refine k_if_ne (tgt := 27) hx hb dX7_send_18 (by decide) (by omega) (fun _ => ?_) (fun h9 => absurd h9 (by omega))
  refine lv_iload_n hx hb dX7_send_27 rfl (lv_at hl 1 rfl) ?_
  refine lv_iload_n hx hb dX7_send_28 rfl (lv_at hl 2 rfl) ?_
  refine k_icmp_ne (tgt := 38) hx hb dX7_send_29 (by decide) (by omega) (by omega) (fun _ => ?_) (fun h9 => absurd h9 (by omega))
  refine lv_aload_n hx hb dX7_send_38 rfl (lv_at hl 0 rfl) ?_
  refine va_get (D := D) (ci := 7) (v := .ref v) (C := RX7) (T := TX7) (N := 6) hx hb hts hin7 hown hK hP 0 rfl rfl 0 (by decide) (hts (.fieldLink RX7 8 "MeshRoutingModel" "v" "[J") (List.mem_cons_of_mem _ q_665)) (fun _ h9 => h9) rfl dX7_send_39 ?_
  refine lv_bipush (v := nI 10) hx hb dX7_send_42 (by decide) ?_
  refine k_lald (v := lN 0) hx hb hK hP 1 1 rfl rfl (by omega) (by omega) ((mF_o (by omega) (by omega) (by omega))) dX7_send_44 ?_
  refine lv_ldc2 (v := 200) hx hb hown (by exact hts (.constantLong RX7 225 (200)) (List.mem_cons_of_mem _ q_901)) dX7_send_45 ?_
  refine k_tl (show (200) = (lN 200) from by decide) ?_
  refine W.lcmp hx hb dX7_send_48 ?_
  refine k_lif_ne (tgt := 60) hx hb dX7_send_49 (by decide) (by omega) (by omega) (fun _ => ?_) (fun h9 => absurd h9 (by omega))
  refine lv_aload_n hx hb dX7_send_60 rfl (lv_at hl 0 rfl) ?_
  refine lv_iload_n hx hb dX7_send_61 rfl (lv_at hl 1 rfl) ?_
  refine lv_iload_n hx hb dX7_send_62 rfl (lv_at hl 2 rfl) ?_
  refine k_ciS (wr := []) (w1 := fun u => [(m0, .inr (7, [.ref v, .ref a1, .ref a2, .int ik, .int (nI 0), .int en])), (v, .inl (cJ, 136800, .inr (.inl u)))]) (va_runV (As := [.int (nI a), .int (nI b)]) (rest := []) ⟨hx, hb, hml, hown, hts⟩ (c_X7_begins2 l D cI cJ cM cG m0 v a1 a2 ik (nI 0) en (mF N) a b N H.size (by omega) (by omega) (hab) (hN) (rfl)) (cwV 2 hts (kB_V (fun _ => List.mem_cons_of_mem _) q_902 q_903 q_904 q_670 (kB_c q_710)) rfl rfl rfl (by decide +kernel) ⟨Nat.le_of_ble_eq_true rfl, Nat.le_of_ble_eq_true rfl⟩) (k_preV (T := TX7) hP hD hK hKN [0, 1] rfl rfl (ci := 7) rfl (q0 := 0) rfl) rfl rfl hl.1 rfl (lv_room (Nat.le_of_ble_eq_true rfl)) dX7_send_63 ⟨Nat.le_of_ble_eq_true rfl, Nat.le_of_ble_eq_true rfl⟩) hP hD hS hA [0, 1] [] rfl rfl rfl (by decide) (fun r63 u63 H locs hw63 hP hD hS => ?_)
  replace hP : va_P D vwCl [(m0, .inr (7, [.ref v, .ref a1, .ref a2, .int ik, .int (nI 0), .int en])), (v, .inl (cJ, 136800, .inr (.inl u63)))] H := hP
  replace hD : va_D A [(m0, .inr (7, [.ref v, .ref a1, .ref a2, .int ik, .int (nI 0), .int en])), (v, .inl (cJ, 136800, .inr (.inl u63)))] := hD
  obtain ⟨hw63, hu63⟩ := hw63
  replace hw63 : r63 = nI 0 := hw63
  refine k_ti hw63 ?_
  have hP9 := hP.sub (ws' := [(m0, .inr (7, [.ref v, .ref a1, .ref a2, .int ik, .int (nI 0), .int en]))]) [0] rfl
  have hD9 := hD.sub (ws' := [(m0, .inr (7, [.ref v, .ref a1, .ref a2, .int ik, .int (nI 0), .int en]))]) [0] rfl rfl
  exact W.iret (v := nI 0) hx hb hr (fun t9 ht9 hW9 => ⟨⟨nI 0, (), rfl, rfl, by rw [ht9]; exact hP9, hD9⟩, hS.F ht9⟩) hS.2.2 dX7_send_66

set_option maxHeartbeats 4000000 in
set_option maxRecDepth 100000 in
theorem c_M_send0 (l : Launch) (D : va_G) (cI cJ cM cG : ClassId) (m0 : Nat) (v : Nat) (a1 : Nat) (a2 : Nat) (ik : Int32) (th : Int32) (en : Int32) (N : Nat) (x : Int32) (y : Int32) (sz : Nat) (hN : N ≤ 10) (hN0 : 0 < N) (hb2 : kBad2 N x y) : Met l yX7_send (Cond.code yX7_send cX7_send 3 (some .int) :: kBig) ({ frames := 2, cells := 0, slots := 0, locals := 46 }) (va_Pc [.ref m0, .int x, .int y] (kP D [(cI, .int), (cJ, .long), (cM, .object "MeshRouting$Message"), (cG, .array .int)] [(m0, .inr (7, [.ref v, .ref a1, .ref a2, .int ik, .int th, .int en])), (v, .inl (cJ, 136800, .inr (.inl (mF N))))] sz)) (va_Qi (fun (r : Int32) (_ : Unit) => r = nI 0) (fun _ t9 => kB D (va_A [(m0, .inr (7, [.ref v, .ref a1, .ref a2, .int ik, .int th, .int en])), (v, .inl (cJ, 136800, .inr (.inl (mF N))))] sz) [(m0, .inr (7, [.ref v, .ref a1, .ref a2, .int ik, .int (nI 1), .int en]))] t9) (va_A [(m0, .inr (7, [.ref v, .ref a1, .ref a2, .int ik, .int th, .int en])), (v, .inl (cJ, 136800, .inr (.inl (mF N))))] sz)) 0 0 (va_A [(m0, .inr (7, [.ref v, .ref a1, .ref a2, .int ik, .int th, .int en])), (v, .inl (cJ, 136800, .inr (.inl (mF N))))] sz) := by
  refine Met.ofW (cc := cX7_send) (maxL := 3) (ret := (some .int)) (by decide) rfl ?_
  intro p e s m args below meth c s₁ B hml hv
  obtain ⟨rfl, hsz, hP, hK, hD0, hKN⟩ := hv
  have hx := B.exec
  have hb := B.bytes
  have hr := B.returns
  have hts := atoms_spec (ws := (Cond.code yX7_send cX7_send 3 (some .int) :: kBig)) B.pre
  have hown : s.vm.findClass RX7 = some m.cls := findClass_of_methodNamed B.named
  have hlocks := B.notSynchronized
  have hin7 : ∀ w ∈ u_ws RX7 TX7 6, w ∈ (Cond.code yX7_send cX7_send 3 (some .int) :: kBig) := fun w h => List.mem_cons_of_mem _ (inb7 w h)
  subst hsz
  have hD := hD0.self (sz := s.heap.size)
  generalize hAe : va_A [(m0, .inr (7, [.ref v, .ref a1, .ref a2, .int ik, .int th, .int en])), (v, .inl (cJ, 136800, .inr (.inl (mF N))))] s.heap.size = A at hD ⊢
  have hA : ∀ q : Nat, s.heap.size ≤ q → A q := fun q h => by rw [← hAe]; exact Or.inr h
  have hS : va_S A s.heap s.heap [] := va_S.rf
  have hl := lv_entry ([.ref m0, .int x, .int y]) (n := 3) (Nat.le_of_ble_eq_true rfl)
  rw [lg_entry_eq]
  generalize (lg_sl ([.ref m0, .int x, .int y]) ++ List.replicate (3 - (lg_sl ([.ref m0, .int x, .int y])).length) Slot.unset).toArray = ls at hl ⊢
  have hl : lv_has ls 3 [(0, .ref m0), (1, .int x), (2, .int y)] := hl
  rcases hb2 with hb1 | ⟨⟨j1, hj1, rfl⟩, hb1⟩
  · refine lv_aload_n hx hb dX7_send_0 rfl (lv_at hl 0 rfl) ?_
    refine lv_iconst (v := nI 0) hx hb dX7_send_1 (by decide) ?_
    refine va_put (D := D) (ci := 7) (v := .int (nI 0)) (ty := .int) (C := RX7) (T := TX7) (N := 6) hx hb hts hin7 tyX7 tyX7_ok nmX7 hown hK hP hD hS 0 rfl rfl 4 (by decide) (hts (.fieldLink RX7 34 "MeshRoutingModel" "thrown" "I") (List.mem_cons_of_mem _ q_760)) (fun _ h9 => h9) rfl (by decide +kernel) rfl rfl (Nat.le_of_ble_eq_true rfl) dX7_send_2 (fun H locs hP hD hS => ?_)
    replace hP : va_P D vwCl [(m0, .inr (7, [.ref v, .ref a1, .ref a2, .int ik, .int (nI 0), .int en])), (v, .inl (cJ, 136800, .inr (.inl (mF N))))] H := hP
    replace hD : va_D A [(m0, .inr (7, [.ref v, .ref a1, .ref a2, .int ik, .int (nI 0), .int en])), (v, .inl (cJ, 136800, .inr (.inl (mF N))))] := hD
    refine lv_aload_n hx hb dX7_send_5 rfl (lv_at hl 0 rfl) ?_
    refine lv_iload_n hx hb dX7_send_6 rfl (lv_at hl 1 rfl) ?_
    refine k_ci (wr := []) (w1 := [(m0, .inr (7, [.ref v, .ref a1, .ref a2, .int ik, .int (nI 0), .int en])), (v, .inl (cJ, 136800, .inr (.inl (mF N))))]) (va_runV (As := [.int x]) (rest := []) ⟨hx, hb, hml, hown, hts⟩ (c_X7_isNode0 l D cI cJ cM cG m0 v a1 a2 ik (nI 0) en (mF N) N x H.size (mF_1) (hb1) (hN) (hN0)) (cwV 1 hts (kB_V (fun _ => List.mem_cons_of_mem _) q_761 q_762 q_763 q_670 (kB_c q_764)) rfl rfl rfl (by decide +kernel) ⟨Nat.le_of_ble_eq_true rfl, Nat.le_of_ble_eq_true rfl⟩) (k_preV (T := TX7) hP hD hK hKN [0, 1] rfl rfl (ci := 7) rfl (q0 := 0) rfl) rfl rfl hl.1 rfl (lv_room (Nat.le_of_ble_eq_true rfl)) dX7_send_7 ⟨Nat.le_of_ble_eq_true rfl, Nat.le_of_ble_eq_true rfl⟩) hP hD hS hA [0, 1] [] rfl rfl rfl (by decide) (fun r7 H locs hw7 hP hD hS => ?_)
    replace hP : va_P D vwCl [(m0, .inr (7, [.ref v, .ref a1, .ref a2, .int ik, .int (nI 0), .int en])), (v, .inl (cJ, 136800, .inr (.inl (mF N))))] H := hP
    replace hD : va_D A [(m0, .inr (7, [.ref v, .ref a1, .ref a2, .int ik, .int (nI 0), .int en])), (v, .inl (cJ, 136800, .inr (.inl (mF N))))] := hD
    replace hw7 : r7 = nI 0 := hw7
    refine k_ti hw7 ?_
    refine k_if_eq (tgt := 21) hx hb dX7_send_10 (by decide) (by omega) (fun _ => ?_) (fun h9 => absurd h9 (by omega))
    refine lv_aload_n hx hb dX7_send_21 rfl (lv_at hl 0 rfl) ?_
    refine lv_iconst (v := nI 1) hx hb dX7_send_22 (by decide) ?_
    refine k_ci (wr := []) (w1 := [(m0, .inr (7, [.ref v, .ref a1, .ref a2, .int ik, .int (nI 1), .int en])), (v, .inl (cJ, 136800, .inr (.inl (mF N))))]) (va_runV (As := [.int (nI 1)]) (rest := []) ⟨hx, hb, hml, hown, hts⟩ (c_X7_fails l D cI cJ cM cG m0 v a1 a2 ik (nI 0) en (mF N) (nI 1) H.size) (cwV 1 hts (kB_V (fun _ => List.mem_cons_of_mem _) q_924 q_925 q_926 q_670 (kB_c q_883)) rfl rfl rfl (by decide +kernel) ⟨Nat.le_of_ble_eq_true rfl, Nat.le_of_ble_eq_true rfl⟩) (k_preV (T := TX7) hP hD hK hKN [0, 1] rfl rfl (ci := 7) rfl (q0 := 0) rfl) rfl rfl hl.1 rfl (lv_room (Nat.le_of_ble_eq_true rfl)) dX7_send_23 ⟨Nat.le_of_ble_eq_true rfl, Nat.le_of_ble_eq_true rfl⟩) hP hD hS hA [0, 1] [] rfl rfl rfl (by decide) (fun r23 H locs hw23 hP hD hS => ?_)
    replace hP : va_P D vwCl [(m0, .inr (7, [.ref v, .ref a1, .ref a2, .int ik, .int (nI 1), .int en])), (v, .inl (cJ, 136800, .inr (.inl (mF N))))] H := hP
    replace hD : va_D A [(m0, .inr (7, [.ref v, .ref a1, .ref a2, .int ik, .int (nI 1), .int en])), (v, .inl (cJ, 136800, .inr (.inl (mF N))))] := hD
    replace hw23 : r23 = nI 0 := hw23
    refine k_ti hw23 ?_
    have hP9 := hP.sub (ws' := [(m0, .inr (7, [.ref v, .ref a1, .ref a2, .int ik, .int (nI 1), .int en]))]) [0] rfl
    have hD9 := hD.sub (ws' := [(m0, .inr (7, [.ref v, .ref a1, .ref a2, .int ik, .int (nI 1), .int en]))]) [0] rfl rfl
    exact W.iret (v := nI 0) hx hb hr (fun t9 ht9 hW9 => ⟨⟨nI 0, (), rfl, rfl, by rw [ht9]; exact hP9, hD9⟩, hS.F ht9⟩) hS.2.2 dX7_send_26
  · refine lv_aload_n hx hb dX7_send_0 rfl (lv_at hl 0 rfl) ?_
    refine lv_iconst (v := nI 0) hx hb dX7_send_1 (by decide) ?_
    refine va_put (D := D) (ci := 7) (v := .int (nI 0)) (ty := .int) (C := RX7) (T := TX7) (N := 6) hx hb hts hin7 tyX7 tyX7_ok nmX7 hown hK hP hD hS 0 rfl rfl 4 (by decide) (hts (.fieldLink RX7 34 "MeshRoutingModel" "thrown" "I") (List.mem_cons_of_mem _ q_760)) (fun _ h9 => h9) rfl (by decide +kernel) rfl rfl (Nat.le_of_ble_eq_true rfl) dX7_send_2 (fun H locs hP hD hS => ?_)
    replace hP : va_P D vwCl [(m0, .inr (7, [.ref v, .ref a1, .ref a2, .int ik, .int (nI 0), .int en])), (v, .inl (cJ, 136800, .inr (.inl (mF N))))] H := hP
    replace hD : va_D A [(m0, .inr (7, [.ref v, .ref a1, .ref a2, .int ik, .int (nI 0), .int en])), (v, .inl (cJ, 136800, .inr (.inl (mF N))))] := hD
    refine lv_aload_n hx hb dX7_send_5 rfl (lv_at hl 0 rfl) ?_
    refine lv_iload_n hx hb dX7_send_6 rfl (lv_at hl 1 rfl) ?_
    refine k_ci (wr := []) (w1 := [(m0, .inr (7, [.ref v, .ref a1, .ref a2, .int ik, .int (nI 0), .int en])), (v, .inl (cJ, 136800, .inr (.inl (mF N))))]) (va_runV (As := [.int (nI j1)]) (rest := []) ⟨hx, hb, hml, hown, hts⟩ (c_X7_isNode1 l D cI cJ cM cG m0 v a1 a2 ik (nI 0) en (mF N) N j1 H.size (mF_1) (hj1) (hN) (hN0)) (cwV 1 hts (kB_V (fun _ => List.mem_cons_of_mem _) q_761 q_762 q_763 q_670 (kB_c q_764)) rfl rfl rfl (by decide +kernel) ⟨Nat.le_of_ble_eq_true rfl, Nat.le_of_ble_eq_true rfl⟩) (k_preV (T := TX7) hP hD hK hKN [0, 1] rfl rfl (ci := 7) rfl (q0 := 0) rfl) rfl rfl hl.1 rfl (lv_room (Nat.le_of_ble_eq_true rfl)) dX7_send_7 ⟨Nat.le_of_ble_eq_true rfl, Nat.le_of_ble_eq_true rfl⟩) hP hD hS hA [0, 1] [] rfl rfl rfl (by decide) (fun r7 H locs hw7 hP hD hS => ?_)
    replace hP : va_P D vwCl [(m0, .inr (7, [.ref v, .ref a1, .ref a2, .int ik, .int (nI 0), .int en])), (v, .inl (cJ, 136800, .inr (.inl (mF N))))] H := hP
    replace hD : va_D A [(m0, .inr (7, [.ref v, .ref a1, .ref a2, .int ik, .int (nI 0), .int en])), (v, .inl (cJ, 136800, .inr (.inl (mF N))))] := hD
    replace hw7 : r7 = nI 1 := hw7
    refine k_ti hw7 ?_
    refine k_if_eq (tgt := 21) hx hb dX7_send_10 (by decide) (by omega) (fun h9 => absurd h9 (by omega)) (fun _ => ?_)
    refine lv_aload_n hx hb dX7_send_13 rfl (lv_at hl 0 rfl) ?_
    refine lv_iload_n hx hb dX7_send_14 rfl (lv_at hl 2 rfl) ?_
    refine k_ci (wr := []) (w1 := [(m0, .inr (7, [.ref v, .ref a1, .ref a2, .int ik, .int (nI 0), .int en])), (v, .inl (cJ, 136800, .inr (.inl (mF N))))]) (va_runV (As := [.int y]) (rest := []) ⟨hx, hb, hml, hown, hts⟩ (c_X7_isNode0 l D cI cJ cM cG m0 v a1 a2 ik (nI 0) en (mF N) N y H.size (mF_1) (hb1) (hN) (hN0)) (cwV 1 hts (kB_V (fun _ => List.mem_cons_of_mem _) q_761 q_762 q_763 q_670 (kB_c q_764)) rfl rfl rfl (by decide +kernel) ⟨Nat.le_of_ble_eq_true rfl, Nat.le_of_ble_eq_true rfl⟩) (k_preV (T := TX7) hP hD hK hKN [0, 1] rfl rfl (ci := 7) rfl (q0 := 0) rfl) rfl rfl hl.1 rfl (lv_room (Nat.le_of_ble_eq_true rfl)) dX7_send_15 ⟨Nat.le_of_ble_eq_true rfl, Nat.le_of_ble_eq_true rfl⟩) hP hD hS hA [0, 1] [] rfl rfl rfl (by decide) (fun r15 H locs hw15 hP hD hS => ?_)
    replace hP : va_P D vwCl [(m0, .inr (7, [.ref v, .ref a1, .ref a2, .int ik, .int (nI 0), .int en])), (v, .inl (cJ, 136800, .inr (.inl (mF N))))] H := hP
    replace hD : va_D A [(m0, .inr (7, [.ref v, .ref a1, .ref a2, .int ik, .int (nI 0), .int en])), (v, .inl (cJ, 136800, .inr (.inl (mF N))))] := hD
    replace hw15 : r15 = nI 0 := hw15
    refine k_ti hw15 ?_
    refine k_if_ne (tgt := 27) hx hb dX7_send_18 (by decide) (by omega) (fun h9 => absurd h9 (by omega)) (fun _ => ?_)
    refine lv_aload_n hx hb dX7_send_21 rfl (lv_at hl 0 rfl) ?_
    refine lv_iconst (v := nI 1) hx hb dX7_send_22 (by decide) ?_
    refine k_ci (wr := []) (w1 := [(m0, .inr (7, [.ref v, .ref a1, .ref a2, .int ik, .int (nI 1), .int en])), (v, .inl (cJ, 136800, .inr (.inl (mF N))))]) (va_runV (As := [.int (nI 1)]) (rest := []) ⟨hx, hb, hml, hown, hts⟩ (c_X7_fails l D cI cJ cM cG m0 v a1 a2 ik (nI 0) en (mF N) (nI 1) H.size) (cwV 1 hts (kB_V (fun _ => List.mem_cons_of_mem _) q_924 q_925 q_926 q_670 (kB_c q_883)) rfl rfl rfl (by decide +kernel) ⟨Nat.le_of_ble_eq_true rfl, Nat.le_of_ble_eq_true rfl⟩) (k_preV (T := TX7) hP hD hK hKN [0, 1] rfl rfl (ci := 7) rfl (q0 := 0) rfl) rfl rfl hl.1 rfl (lv_room (Nat.le_of_ble_eq_true rfl)) dX7_send_23 ⟨Nat.le_of_ble_eq_true rfl, Nat.le_of_ble_eq_true rfl⟩) hP hD hS hA [0, 1] [] rfl rfl rfl (by decide) (fun r23 H locs hw23 hP hD hS => ?_)
    replace hP : va_P D vwCl [(m0, .inr (7, [.ref v, .ref a1, .ref a2, .int ik, .int (nI 1), .int en])), (v, .inl (cJ, 136800, .inr (.inl (mF N))))] H := hP
    replace hD : va_D A [(m0, .inr (7, [.ref v, .ref a1, .ref a2, .int ik, .int (nI 1), .int en])), (v, .inl (cJ, 136800, .inr (.inl (mF N))))] := hD
    replace hw23 : r23 = nI 0 := hw23
    refine k_ti hw23 ?_
    have hP9 := hP.sub (ws' := [(m0, .inr (7, [.ref v, .ref a1, .ref a2, .int ik, .int (nI 1), .int en]))]) [0] rfl
    have hD9 := hD.sub (ws' := [(m0, .inr (7, [.ref v, .ref a1, .ref a2, .int ik, .int (nI 1), .int en]))]) [0] rfl rfl
    exact W.iret (v := nI 0) hx hb hr (fun t9 ht9 hW9 => ⟨⟨nI 0, (), rfl, rfl, by rw [ht9]; exact hP9, hD9⟩, hS.F ht9⟩) hS.2.2 dX7_send_26

set_option maxHeartbeats 4000000 in
set_option maxRecDepth 100000 in
theorem c_M_send2 (l : Launch) (D : va_G) (cI cJ cM cG : ClassId) (m0 : Nat) (v : Nat) (a1 : Nat) (a2 : Nat) (ik : Int32) (th : Int32) (en : Int32) (N : Nat) (a : Nat) (sz : Nat) (hN : N ≤ 10) (hN0 : 0 < N) (ha : a < N) : Met l yX7_send (Cond.code yX7_send cX7_send 3 (some .int) :: kBig) ({ frames := 2, cells := 0, slots := 0, locals := 46 }) (va_Pc [.ref m0, .int (nI a), .int (nI a)] (kP D [(cI, .int), (cJ, .long), (cM, .object "MeshRouting$Message"), (cG, .array .int)] [(m0, .inr (7, [.ref v, .ref a1, .ref a2, .int ik, .int th, .int en])), (v, .inl (cJ, 136800, .inr (.inl (mF N))))] sz)) (va_Qi (fun (r : Int32) (_ : Unit) => r = nI 0) (fun _ t9 => kB D (va_A [(m0, .inr (7, [.ref v, .ref a1, .ref a2, .int ik, .int th, .int en])), (v, .inl (cJ, 136800, .inr (.inl (mF N))))] sz) [(m0, .inr (7, [.ref v, .ref a1, .ref a2, .int ik, .int (nI 2), .int en]))] t9) (va_A [(m0, .inr (7, [.ref v, .ref a1, .ref a2, .int ik, .int th, .int en])), (v, .inl (cJ, 136800, .inr (.inl (mF N))))] sz)) 0 0 (va_A [(m0, .inr (7, [.ref v, .ref a1, .ref a2, .int ik, .int th, .int en])), (v, .inl (cJ, 136800, .inr (.inl (mF N))))] sz) := by
  refine Met.ofW (cc := cX7_send) (maxL := 3) (ret := (some .int)) (by decide) rfl ?_
  intro p e s m args below meth c s₁ B hml hv
  obtain ⟨rfl, hsz, hP, hK, hD0, hKN⟩ := hv
  have hx := B.exec
  have hb := B.bytes
  have hr := B.returns
  have hts := atoms_spec (ws := (Cond.code yX7_send cX7_send 3 (some .int) :: kBig)) B.pre
  have hown : s.vm.findClass RX7 = some m.cls := findClass_of_methodNamed B.named
  have hlocks := B.notSynchronized
  have hin7 : ∀ w ∈ u_ws RX7 TX7 6, w ∈ (Cond.code yX7_send cX7_send 3 (some .int) :: kBig) := fun w h => List.mem_cons_of_mem _ (inb7 w h)
  subst hsz
  have hD := hD0.self (sz := s.heap.size)
  generalize hAe : va_A [(m0, .inr (7, [.ref v, .ref a1, .ref a2, .int ik, .int th, .int en])), (v, .inl (cJ, 136800, .inr (.inl (mF N))))] s.heap.size = A at hD ⊢
  have hA : ∀ q : Nat, s.heap.size ≤ q → A q := fun q h => by rw [← hAe]; exact Or.inr h
  have hS : va_S A s.heap s.heap [] := va_S.rf
  have hl := lv_entry ([.ref m0, .int (nI a), .int (nI a)]) (n := 3) (Nat.le_of_ble_eq_true rfl)
  rw [lg_entry_eq]
  generalize (lg_sl ([.ref m0, .int (nI a), .int (nI a)]) ++ List.replicate (3 - (lg_sl ([.ref m0, .int (nI a), .int (nI a)])).length) Slot.unset).toArray = ls at hl ⊢
  have hl : lv_has ls 3 [(0, .ref m0), (1, .int (nI a)), (2, .int (nI a))] := hl
  refine lv_aload_n hx hb dX7_send_0 rfl (lv_at hl 0 rfl) ?_
  refine lv_iconst (v := nI 0) hx hb dX7_send_1 (by decide) ?_
  refine va_put (D := D) (ci := 7) (v := .int (nI 0)) (ty := .int) (C := RX7) (T := TX7) (N := 6) hx hb hts hin7 tyX7 tyX7_ok nmX7 hown hK hP hD hS 0 rfl rfl 4 (by decide) (hts (.fieldLink RX7 34 "MeshRoutingModel" "thrown" "I") (List.mem_cons_of_mem _ q_760)) (fun _ h9 => h9) rfl (by decide +kernel) rfl rfl (Nat.le_of_ble_eq_true rfl) dX7_send_2 (fun H locs hP hD hS => ?_)
  replace hP : va_P D vwCl [(m0, .inr (7, [.ref v, .ref a1, .ref a2, .int ik, .int (nI 0), .int en])), (v, .inl (cJ, 136800, .inr (.inl (mF N))))] H := hP
  replace hD : va_D A [(m0, .inr (7, [.ref v, .ref a1, .ref a2, .int ik, .int (nI 0), .int en])), (v, .inl (cJ, 136800, .inr (.inl (mF N))))] := hD
  refine lv_aload_n hx hb dX7_send_5 rfl (lv_at hl 0 rfl) ?_
  refine lv_iload_n hx hb dX7_send_6 rfl (lv_at hl 1 rfl) ?_
  refine k_ci (wr := []) (w1 := [(m0, .inr (7, [.ref v, .ref a1, .ref a2, .int ik, .int (nI 0), .int en])), (v, .inl (cJ, 136800, .inr (.inl (mF N))))]) (va_runV (As := [.int (nI a)]) (rest := []) ⟨hx, hb, hml, hown, hts⟩ (c_X7_isNode1 l D cI cJ cM cG m0 v a1 a2 ik (nI 0) en (mF N) N a H.size (mF_1) (ha) (hN) (hN0)) (cwV 1 hts (kB_V (fun _ => List.mem_cons_of_mem _) q_761 q_762 q_763 q_670 (kB_c q_764)) rfl rfl rfl (by decide +kernel) ⟨Nat.le_of_ble_eq_true rfl, Nat.le_of_ble_eq_true rfl⟩) (k_preV (T := TX7) hP hD hK hKN [0, 1] rfl rfl (ci := 7) rfl (q0 := 0) rfl) rfl rfl hl.1 rfl (lv_room (Nat.le_of_ble_eq_true rfl)) dX7_send_7 ⟨Nat.le_of_ble_eq_true rfl, Nat.le_of_ble_eq_true rfl⟩) hP hD hS hA [0, 1] [] rfl rfl rfl (by decide) (fun r7 H locs hw7 hP hD hS => ?_)
  replace hP : va_P D vwCl [(m0, .inr (7, [.ref v, .ref a1, .ref a2, .int ik, .int (nI 0), .int en])), (v, .inl (cJ, 136800, .inr (.inl (mF N))))] H := hP
  replace hD : va_D A [(m0, .inr (7, [.ref v, .ref a1, .ref a2, .int ik, .int (nI 0), .int en])), (v, .inl (cJ, 136800, .inr (.inl (mF N))))] := hD
  replace hw7 : r7 = nI 1 := hw7
  refine k_ti hw7 ?_
  refine k_if_eq (tgt := 21) hx hb dX7_send_10 (by decide) (by omega) (fun h9 => absurd h9 (by omega)) (fun _ => ?_)
  refine lv_aload_n hx hb dX7_send_13 rfl (lv_at hl 0 rfl) ?_
  refine lv_iload_n hx hb dX7_send_14 rfl (lv_at hl 2 rfl) ?_
  refine k_ci (wr := []) (w1 := [(m0, .inr (7, [.ref v, .ref a1, .ref a2, .int ik, .int (nI 0), .int en])), (v, .inl (cJ, 136800, .inr (.inl (mF N))))]) (va_runV (As := [.int (nI a)]) (rest := []) ⟨hx, hb, hml, hown, hts⟩ (c_X7_isNode1 l D cI cJ cM cG m0 v a1 a2 ik (nI 0) en (mF N) N a H.size (mF_1) (ha) (hN) (hN0)) (cwV 1 hts (kB_V (fun _ => List.mem_cons_of_mem _) q_761 q_762 q_763 q_670 (kB_c q_764)) rfl rfl rfl (by decide +kernel) ⟨Nat.le_of_ble_eq_true rfl, Nat.le_of_ble_eq_true rfl⟩) (k_preV (T := TX7) hP hD hK hKN [0, 1] rfl rfl (ci := 7) rfl (q0 := 0) rfl) rfl rfl hl.1 rfl (lv_room (Nat.le_of_ble_eq_true rfl)) dX7_send_15 ⟨Nat.le_of_ble_eq_true rfl, Nat.le_of_ble_eq_true rfl⟩) hP hD hS hA [0, 1] [] rfl rfl rfl (by decide) (fun r15 H locs hw15 hP hD hS => ?_)
  replace hP : va_P D vwCl [(m0, .inr (7, [.ref v, .ref a1, .ref a2, .int ik, .int (nI 0), .int en])), (v, .inl (cJ, 136800, .inr (.inl (mF N))))] H := hP
  replace hD : va_D A [(m0, .inr (7, [.ref v, .ref a1, .ref a2, .int ik, .int (nI 0), .int en])), (v, .inl (cJ, 136800, .inr (.inl (mF N))))] := hD
  replace hw15 : r15 = nI 1 := hw15
  refine k_ti hw15 ?_
  refine k_if_ne (tgt := 27) hx hb dX7_send_18 (by decide) (by omega) (fun _ => ?_) (fun h9 => absurd h9 (by omega))
  refine lv_iload_n hx hb dX7_send_27 rfl (lv_at hl 1 rfl) ?_
  refine lv_iload_n hx hb dX7_send_28 rfl (lv_at hl 2 rfl) ?_
  refine k_icmp_ne (tgt := 38) hx hb dX7_send_29 (by decide) (by omega) (by omega) (fun h9 => absurd h9 (by omega)) (fun _ => ?_)
  refine lv_aload_n hx hb dX7_send_32 rfl (lv_at hl 0 rfl) ?_
  refine lv_iconst (v := nI 2) hx hb dX7_send_33 (by decide) ?_
  refine k_ci (wr := []) (w1 := [(m0, .inr (7, [.ref v, .ref a1, .ref a2, .int ik, .int (nI 2), .int en])), (v, .inl (cJ, 136800, .inr (.inl (mF N))))]) (va_runV (As := [.int (nI 2)]) (rest := []) ⟨hx, hb, hml, hown, hts⟩ (c_X7_fails l D cI cJ cM cG m0 v a1 a2 ik (nI 0) en (mF N) (nI 2) H.size) (cwV 1 hts (kB_V (fun _ => List.mem_cons_of_mem _) q_924 q_925 q_926 q_670 (kB_c q_883)) rfl rfl rfl (by decide +kernel) ⟨Nat.le_of_ble_eq_true rfl, Nat.le_of_ble_eq_true rfl⟩) (k_preV (T := TX7) hP hD hK hKN [0, 1] rfl rfl (ci := 7) rfl (q0 := 0) rfl) rfl rfl hl.1 rfl (lv_room (Nat.le_of_ble_eq_true rfl)) dX7_send_34 ⟨Nat.le_of_ble_eq_true rfl, Nat.le_of_ble_eq_true rfl⟩) hP hD hS hA [0, 1] [] rfl rfl rfl (by decide) (fun r34 H locs hw34 hP hD hS => ?_)
  replace hP : va_P D vwCl [(m0, .inr (7, [.ref v, .ref a1, .ref a2, .int ik, .int (nI 2), .int en])), (v, .inl (cJ, 136800, .inr (.inl (mF N))))] H := hP
  replace hD : va_D A [(m0, .inr (7, [.ref v, .ref a1, .ref a2, .int ik, .int (nI 2), .int en])), (v, .inl (cJ, 136800, .inr (.inl (mF N))))] := hD
  replace hw34 : r34 = nI 0 := hw34
  refine k_ti hw34 ?_
  have hP9 := hP.sub (ws' := [(m0, .inr (7, [.ref v, .ref a1, .ref a2, .int ik, .int (nI 2), .int en]))]) [0] rfl
  have hD9 := hD.sub (ws' := [(m0, .inr (7, [.ref v, .ref a1, .ref a2, .int ik, .int (nI 2), .int en]))]) [0] rfl rfl
  exact W.iret (v := nI 0) hx hb hr (fun t9 ht9 hW9 => ⟨⟨nI 0, (), rfl, rfl, by rw [ht9]; exact hP9, hD9⟩, hS.F ht9⟩) hS.2.2 dX7_send_37

set_option maxHeartbeats 4000000 in
set_option maxRecDepth 100000 in
theorem c_M_step (l : Launch) (D : va_G) (cI cJ cM cG : ClassId) (m0 : Nat) (v : Nat) (a1 : Nat) (a2 : Nat) (ik : Int32) (th : Int32) (en : Int32) (N : Nat) (sz : Nat) (hN : N ≤ 10) (hN0 : 0 < N) : Met l yX7_step (Cond.code yX7_step cX7_step 1 (some .int) :: kBig) ({ frames := 2, cells := 0, slots := 0, locals := 53 }) (va_Pc [.ref m0] (kP D [(cI, .int), (cJ, .long), (cM, .object "MeshRouting$Message"), (cG, .array .int)] [(m0, .inr (7, [.ref v, .ref a1, .ref a2, .int ik, .int th, .int en])), (v, .inl (cJ, 136800, .inr (.inl (mF N))))] sz)) (va_Qi (fun (r : Int32) (_ : Unit) => r = (-1)) (fun _ t9 => kB D (va_A [(m0, .inr (7, [.ref v, .ref a1, .ref a2, .int ik, .int th, .int en])), (v, .inl (cJ, 136800, .inr (.inl (mF N))))] sz) [(m0, .inr (7, [.ref v, .ref a1, .ref a2, .int ik, .int (nI 0), .int en]))] t9) (va_A [(m0, .inr (7, [.ref v, .ref a1, .ref a2, .int ik, .int th, .int en])), (v, .inl (cJ, 136800, .inr (.inl (mF N))))] sz)) 0 0 (va_A [(m0, .inr (7, [.ref v, .ref a1, .ref a2, .int ik, .int th, .int en])), (v, .inl (cJ, 136800, .inr (.inl (mF N))))] sz) := by
  refine Met.ofW (cc := cX7_step) (maxL := 1) (ret := (some .int)) (by decide) rfl ?_
  intro p e s m args below meth c s₁ B hml hv
  obtain ⟨rfl, hsz, hP, hK, hD0, hKN⟩ := hv
  have hx := B.exec
  have hb := B.bytes
  have hr := B.returns
  have hts := atoms_spec (ws := (Cond.code yX7_step cX7_step 1 (some .int) :: kBig)) B.pre
  have hown : s.vm.findClass RX7 = some m.cls := findClass_of_methodNamed B.named
  have hlocks := B.notSynchronized
  have hin7 : ∀ w ∈ u_ws RX7 TX7 6, w ∈ (Cond.code yX7_step cX7_step 1 (some .int) :: kBig) := fun w h => List.mem_cons_of_mem _ (inb7 w h)
  subst hsz
  have hD := hD0.self (sz := s.heap.size)
  generalize hAe : va_A [(m0, .inr (7, [.ref v, .ref a1, .ref a2, .int ik, .int th, .int en])), (v, .inl (cJ, 136800, .inr (.inl (mF N))))] s.heap.size = A at hD ⊢
  have hA : ∀ q : Nat, s.heap.size ≤ q → A q := fun q h => by rw [← hAe]; exact Or.inr h
  have hS : va_S A s.heap s.heap [] := va_S.rf
  have hl := lv_entry ([.ref m0]) (n := 1) (Nat.le_of_ble_eq_true rfl)
  rw [lg_entry_eq]
  generalize (lg_sl ([.ref m0]) ++ List.replicate (1 - (lg_sl ([.ref m0])).length) Slot.unset).toArray = ls at hl ⊢
  have hl : lv_has ls 1 [(0, .ref m0)] := hl
  refine lv_aload_n hx hb dX7_step_0 rfl (lv_at hl 0 rfl) ?_
  refine lv_iconst (v := nI 0) hx hb dX7_step_1 (by decide) ?_
  refine va_put (D := D) (ci := 7) (v := .int (nI 0)) (ty := .int) (C := RX7) (T := TX7) (N := 6) hx hb hts hin7 tyX7 tyX7_ok nmX7 hown hK hP hD hS 0 rfl rfl 4 (by decide) (hts (.fieldLink RX7 34 "MeshRoutingModel" "thrown" "I") (List.mem_cons_of_mem _ q_760)) (fun _ h9 => h9) rfl (by decide +kernel) rfl rfl (Nat.le_of_ble_eq_true rfl) dX7_step_2 (fun H locs hP hD hS => ?_)
  replace hP : va_P D vwCl [(m0, .inr (7, [.ref v, .ref a1, .ref a2, .int ik, .int (nI 0), .int en])), (v, .inl (cJ, 136800, .inr (.inl (mF N))))] H := hP
  replace hD : va_D A [(m0, .inr (7, [.ref v, .ref a1, .ref a2, .int ik, .int (nI 0), .int en])), (v, .inl (cJ, 136800, .inr (.inl (mF N))))] := hD
  refine lv_aload_n hx hb dX7_step_5 rfl (lv_at hl 0 rfl) ?_
  refine lv_ldc2 (v := 2147483647) hx hb hown (by exact hts (.constantLong RX7 230 (2147483647)) (List.mem_cons_of_mem _ q_949)) dX7_step_6 ?_
  refine k_tl (show (2147483647) = (lN 2147483647) from by decide) ?_
  refine k_ci (wr := []) (w1 := [(m0, .inr (7, [.ref v, .ref a1, .ref a2, .int ik, .int (nI 0), .int en])), (v, .inl (cJ, 136800, .inr (.inl (mF N))))]) (va_runV (As := [.long (lN 2147483647)]) (rest := []) ⟨hx, hb, hml, hown, hts⟩ (c_X7_happensE l D cI cJ cM cG m0 v a1 a2 ik (nI 0) en (mF N) 0 (lN 2147483647) H.size (mF_o (by omega) (by omega) (by omega)) (by omega) (fun j h1 h2 => mF_l h1 h2) (fun q h => mF_z (by omega))) (cwV 1 hts (kB_V (fun _ => List.mem_cons_of_mem _) q_811 q_812 q_813 q_670 (kB_c q_814)) rfl rfl rfl (by decide +kernel) ⟨Nat.le_of_ble_eq_true rfl, Nat.le_of_ble_eq_true rfl⟩) (k_preV (T := TX7) hP hD hK hKN [0, 1] rfl rfl (ci := 7) rfl (q0 := 0) rfl) rfl rfl hl.1 rfl (lv_room (Nat.le_of_ble_eq_true rfl)) dX7_step_9 ⟨Nat.le_of_ble_eq_true rfl, Nat.le_of_ble_eq_true rfl⟩) hP hD hS hA [0, 1] [] rfl rfl rfl (by decide) (fun r9 H locs hw9 hP hD hS => ?_)
  replace hP : va_P D vwCl [(m0, .inr (7, [.ref v, .ref a1, .ref a2, .int ik, .int (nI 0), .int en])), (v, .inl (cJ, 136800, .inr (.inl (mF N))))] H := hP
  replace hD : va_D A [(m0, .inr (7, [.ref v, .ref a1, .ref a2, .int ik, .int (nI 0), .int en])), (v, .inl (cJ, 136800, .inr (.inl (mF N))))] := hD
  replace hw9 : r9 = (-1) := hw9
  refine k_ti hw9 ?_
  have hP9 := hP.sub (ws' := [(m0, .inr (7, [.ref v, .ref a1, .ref a2, .int ik, .int (nI 0), .int en]))]) [0] rfl
  have hD9 := hD.sub (ws' := [(m0, .inr (7, [.ref v, .ref a1, .ref a2, .int ik, .int (nI 0), .int en]))]) [0] rfl rfl
  exact W.iret (v := (-1)) hx hb hr (fun t9 ht9 hW9 => ⟨⟨(-1), (), rfl, rfl, by rw [ht9]; exact hP9, hD9⟩, hS.F ht9⟩) hS.2.2 dX7_step_12

set_option maxHeartbeats 4000000 in
set_option maxRecDepth 100000 in
theorem c_M_run1 (l : Launch) (D : va_G) (cI cJ cM cG : ClassId) (m0 : Nat) (v : Nat) (a1 : Nat) (a2 : Nat) (ik : Int32) (th : Int32) (en : Int32) (N : Nat) (u : Nat) (sz : Nat) (hN : N ≤ 10) (hN0 : 0 < N) (hu : u ≤ 100000) : Met l yX7_run (Cond.code yX7_run cX7_run 2 (some .int) :: kBig) ({ frames := 3, cells := 0, slots := 0, locals := 76 }) (va_Pc [.ref m0, .int (nI u)] (kP D [(cI, .int), (cJ, .long), (cM, .object "MeshRouting$Message"), (cG, .array .int)] [(m0, .inr (7, [.ref v, .ref a1, .ref a2, .int ik, .int th, .int en])), (v, .inl (cJ, 136800, .inr (.inl (mF N))))] sz)) (va_Qi (fun (r : Int32) (_ : Unit) => r = nI 0) (fun _ t9 => kB D (va_A [(m0, .inr (7, [.ref v, .ref a1, .ref a2, .int ik, .int th, .int en])), (v, .inl (cJ, 136800, .inr (.inl (mF N))))] sz) [(m0, .inr (7, [.ref v, .ref a1, .ref a2, .int ik, .int (nI 0), .int en]))] t9) (va_A [(m0, .inr (7, [.ref v, .ref a1, .ref a2, .int ik, .int th, .int en])), (v, .inl (cJ, 136800, .inr (.inl (mF N))))] sz)) 0 0 (va_A [(m0, .inr (7, [.ref v, .ref a1, .ref a2, .int ik, .int th, .int en])), (v, .inl (cJ, 136800, .inr (.inl (mF N))))] sz) := by
  refine Met.ofW (cc := cX7_run) (maxL := 2) (ret := (some .int)) (by decide) rfl ?_
  intro p e s m args below meth c s₁ B hml hv
  obtain ⟨rfl, hsz, hP, hK, hD0, hKN⟩ := hv
  have hx := B.exec
  have hb := B.bytes
  have hr := B.returns
  have hts := atoms_spec (ws := (Cond.code yX7_run cX7_run 2 (some .int) :: kBig)) B.pre
  have hown : s.vm.findClass RX7 = some m.cls := findClass_of_methodNamed B.named
  have hlocks := B.notSynchronized
  have hin7 : ∀ w ∈ u_ws RX7 TX7 6, w ∈ (Cond.code yX7_run cX7_run 2 (some .int) :: kBig) := fun w h => List.mem_cons_of_mem _ (inb7 w h)
  subst hsz
  have hD := hD0.self (sz := s.heap.size)
  generalize hAe : va_A [(m0, .inr (7, [.ref v, .ref a1, .ref a2, .int ik, .int th, .int en])), (v, .inl (cJ, 136800, .inr (.inl (mF N))))] s.heap.size = A at hD ⊢
  have hA : ∀ q : Nat, s.heap.size ≤ q → A q := fun q h => by rw [← hAe]; exact Or.inr h
  have hS : va_S A s.heap s.heap [] := va_S.rf
  have hl := lv_entry ([.ref m0, .int (nI u)]) (n := 2) (Nat.le_of_ble_eq_true rfl)
  rw [lg_entry_eq]
  generalize (lg_sl ([.ref m0, .int (nI u)]) ++ List.replicate (2 - (lg_sl ([.ref m0, .int (nI u)])).length) Slot.unset).toArray = ls at hl ⊢
  have hl : lv_has ls 2 [(0, .ref m0), (1, .int (nI u))] := hl
  refine lv_aload_n hx hb dX7_run_0 rfl (lv_at hl 0 rfl) ?_
  refine lv_iconst (v := nI 0) hx hb dX7_run_1 (by decide) ?_
  refine va_put (D := D) (ci := 7) (v := .int (nI 0)) (ty := .int) (C := RX7) (T := TX7) (N := 6) hx hb hts hin7 tyX7 tyX7_ok nmX7 hown hK hP hD hS 0 rfl rfl 4 (by decide) (hts (.fieldLink RX7 34 "MeshRoutingModel" "thrown" "I") (List.mem_cons_of_mem _ q_760)) (fun _ h9 => h9) rfl (by decide +kernel) rfl rfl (Nat.le_of_ble_eq_true rfl) dX7_run_2 (fun H locs hP hD hS => ?_)
  replace hP : va_P D vwCl [(m0, .inr (7, [.ref v, .ref a1, .ref a2, .int ik, .int (nI 0), .int en])), (v, .inl (cJ, 136800, .inr (.inl (mF N))))] H := hP
  replace hD : va_D A [(m0, .inr (7, [.ref v, .ref a1, .ref a2, .int ik, .int (nI 0), .int en])), (v, .inl (cJ, 136800, .inr (.inl (mF N))))] := hD
  refine lv_iload_n hx hb dX7_run_5 rfl (lv_at hl 1 rfl) ?_
  refine lv_i2l (v := lN u) hx hb dX7_run_6 (by exact nI_l (by omega)) ?_
  refine lv_lconst (v := lN 0) hx hb dX7_run_7 (by decide) ?_
  refine lv_ldc2 (v := 100000) hx hb hown (by exact hts (.constantLong RX7 232 (100000)) (List.mem_cons_of_mem _ q_774)) dX7_run_8 ?_
  refine k_tl (show (100000) = (lN 100000) from by decide) ?_
  refine k_ci (wr := [(m0, .inr (7, [.ref v, .ref a1, .ref a2, .int ik, .int (nI 0), .int en])), (v, .inl (cJ, 136800, .inr (.inl (mF N))))]) (w1 := []) (va_runS (As := [.long (lN u), .long (lN 0), .long (lN 100000)]) (rest := []) ⟨hx, hb, hml, hown, hts⟩ (c_X7_in1 l D cI cJ cM cG (lN u) (lN 0) (lN 100000) H.size (k_in1 (by omega) (by omega) (by omega)) (k_in1 (by omega) (by omega) (by omega))) (va_cwS 3 hts (kB_S (fun _ => List.mem_cons_of_mem _) q_765 q_766 q_670 (kB_c q_767)) rfl rfl rfl (by decide +kernel) ⟨Nat.le_of_ble_eq_true rfl, Nat.le_of_ble_eq_true rfl⟩) (k_preS hP hD hK hKN [] rfl rfl) rfl rfl hl.1 rfl (lv_room (Nat.le_of_ble_eq_true rfl)) dX7_run_11 ⟨Nat.le_of_ble_eq_true rfl, Nat.le_of_ble_eq_true rfl⟩) hP hD hS hA [] [0, 1] rfl rfl rfl (by decide) (fun r11 H locs hw11 hP hD hS => ?_)
  replace hP : va_P D vwCl [(m0, .inr (7, [.ref v, .ref a1, .ref a2, .int ik, .int (nI 0), .int en])), (v, .inl (cJ, 136800, .inr (.inl (mF N))))] H := hP
  replace hD : va_D A [(m0, .inr (7, [.ref v, .ref a1, .ref a2, .int ik, .int (nI 0), .int en])), (v, .inl (cJ, 136800, .inr (.inl (mF N))))] := hD
  replace hw11 : r11 = nI 1 := hw11
  refine k_ti hw11 ?_
  refine k_if_eq (tgt := 33) hx hb dX7_run_14 (by decide) (by omega) (fun h9 => absurd h9 (by omega)) (fun _ => ?_)
  refine lv_aload_n hx hb dX7_run_17 rfl (lv_at hl 0 rfl) ?_
  refine lv_aload_n hx hb dX7_run_18 rfl (lv_at hl 0 rfl) ?_
  refine va_get (D := D) (ci := 7) (v := .ref v) (C := RX7) (T := TX7) (N := 6) hx hb hts hin7 hown hK hP 0 rfl rfl 0 (by decide) (hts (.fieldLink RX7 8 "MeshRoutingModel" "v" "[J") (List.mem_cons_of_mem _ q_665)) (fun _ h9 => h9) rfl dX7_run_19 ?_
  refine lv_iconst (v := nI 0) hx hb dX7_run_22 (by decide) ?_
  refine k_lald (v := lN 0) hx hb hK hP 1 1 rfl rfl (by omega) (by omega) ((mF_o (by omega) (by omega) (by omega))) dX7_run_23 ?_
  refine lv_iload_n hx hb dX7_run_24 rfl (lv_at hl 1 rfl) ?_
  refine lv_i2l (v := lN u) hx hb dX7_run_25 (by exact nI_l (by omega)) ?_
  refine lv_ladd hx hb dX7_run_26 ?_
  refine k_tl (show ((lN 0) + (lN u)) = (lN u) from (lN_add _ _).trans (congrArg lN (Nat.zero_add _))) ?_
  refine k_ci (wr := []) (w1 := [(m0, .inr (7, [.ref v, .ref a1, .ref a2, .int ik, .int (nI 0), .int en])), (v, .inl (cJ, 136800, .inr (.inl (vp_updL (mF N) 0 (lN u)))))]) (va_runV (As := [.long (lN u)]) (rest := []) ⟨hx, hb, hml, hown, hts⟩ (c_X7_passes0 l D cI cJ cM cG m0 v a1 a2 ik (nI 0) en (mF N) 0 (lN u) H.size (mF_o (by omega) (by omega) (by omega)) (by omega) (fun j h1 h2 => mF_l h1 h2) (fun q h => mF_z (by omega))) (cwV 1 hts (kB_V (fun _ => List.mem_cons_of_mem _) q_807 q_808 q_809 q_670 (kB_c q_810)) rfl rfl rfl (by decide +kernel) ⟨Nat.le_of_ble_eq_true rfl, Nat.le_of_ble_eq_true rfl⟩) (k_preV (T := TX7) hP hD hK hKN [0, 1] rfl rfl (ci := 7) rfl (q0 := 0) rfl) rfl rfl hl.1 rfl (lv_room (Nat.le_of_ble_eq_true rfl)) dX7_run_27 ⟨Nat.le_of_ble_eq_true rfl, Nat.le_of_ble_eq_true rfl⟩) hP hD hS hA [0, 1] [] rfl rfl rfl (by decide) (fun r27 H locs hw27 hP hD hS => ?_)
  replace hP : va_P D vwCl [(m0, .inr (7, [.ref v, .ref a1, .ref a2, .int ik, .int (nI 0), .int en])), (v, .inl (cJ, 136800, .inr (.inl (vp_updL (mF N) 0 (lN u)))))] H := hP
  replace hD : va_D A [(m0, .inr (7, [.ref v, .ref a1, .ref a2, .int ik, .int (nI 0), .int en])), (v, .inl (cJ, 136800, .inr (.inl (vp_updL (mF N) 0 (lN u)))))] := hD
  replace hw27 : r27 = nI 0 := hw27
  refine k_ti hw27 ?_
  refine lv_goto (tgt := 38) hx hb dX7_run_30 (by decide) ?_
  have hP9 := hP.sub (ws' := [(m0, .inr (7, [.ref v, .ref a1, .ref a2, .int ik, .int (nI 0), .int en]))]) [0] rfl
  have hD9 := hD.sub (ws' := [(m0, .inr (7, [.ref v, .ref a1, .ref a2, .int ik, .int (nI 0), .int en]))]) [0] rfl rfl
  exact W.iret (v := nI 0) hx hb hr (fun t9 ht9 hW9 => ⟨⟨nI 0, (), rfl, rfl, by rw [ht9]; exact hP9, hD9⟩, hS.F ht9⟩) hS.2.2 dX7_run_38

set_option maxHeartbeats 4000000 in
set_option maxRecDepth 100000 in
theorem c_M_run0 (l : Launch) (D : va_G) (cI cJ cM cG : ClassId) (m0 : Nat) (v : Nat) (a1 : Nat) (a2 : Nat) (ik : Int32) (th : Int32) (en : Int32) (N : Nat) (z3 : Int32) (sz : Nat) (hN : N ≤ 10) (hN0 : 0 < N) (hz3 : z3 < 0 ∨ nI (100000 + 1) ≤ z3) : Met l yX7_run (Cond.code yX7_run cX7_run 2 (some .int) :: kBig) ({ frames := 1, cells := 0, slots := 0, locals := 25 }) (va_Pc [.ref m0, .int z3] (kP D [(cI, .int), (cJ, .long), (cM, .object "MeshRouting$Message"), (cG, .array .int)] [(m0, .inr (7, [.ref v, .ref a1, .ref a2, .int ik, .int th, .int en])), (v, .inl (cJ, 136800, .inr (.inl (mF N))))] sz)) (va_Qi (fun (r : Int32) (_ : Unit) => r = nI 0) (fun _ t9 => kB D (va_A [(m0, .inr (7, [.ref v, .ref a1, .ref a2, .int ik, .int th, .int en])), (v, .inl (cJ, 136800, .inr (.inl (mF N))))] sz) [(m0, .inr (7, [.ref v, .ref a1, .ref a2, .int ik, .int (nI 1), .int en]))] t9) (va_A [(m0, .inr (7, [.ref v, .ref a1, .ref a2, .int ik, .int th, .int en])), (v, .inl (cJ, 136800, .inr (.inl (mF N))))] sz)) 0 0 (va_A [(m0, .inr (7, [.ref v, .ref a1, .ref a2, .int ik, .int th, .int en])), (v, .inl (cJ, 136800, .inr (.inl (mF N))))] sz) := by
  refine Met.ofW (cc := cX7_run) (maxL := 2) (ret := (some .int)) (by decide) rfl ?_
  intro p e s m args below meth c s₁ B hml hv
  obtain ⟨rfl, hsz, hP, hK, hD0, hKN⟩ := hv
  have hx := B.exec
  have hb := B.bytes
  have hr := B.returns
  have hts := atoms_spec (ws := (Cond.code yX7_run cX7_run 2 (some .int) :: kBig)) B.pre
  have hown : s.vm.findClass RX7 = some m.cls := findClass_of_methodNamed B.named
  have hlocks := B.notSynchronized
  have hin7 : ∀ w ∈ u_ws RX7 TX7 6, w ∈ (Cond.code yX7_run cX7_run 2 (some .int) :: kBig) := fun w h => List.mem_cons_of_mem _ (inb7 w h)
  subst hsz
  have hD := hD0.self (sz := s.heap.size)
  generalize hAe : va_A [(m0, .inr (7, [.ref v, .ref a1, .ref a2, .int ik, .int th, .int en])), (v, .inl (cJ, 136800, .inr (.inl (mF N))))] s.heap.size = A at hD ⊢
  have hA : ∀ q : Nat, s.heap.size ≤ q → A q := fun q h => by rw [← hAe]; exact Or.inr h
  have hS : va_S A s.heap s.heap [] := va_S.rf
  have hl := lv_entry ([.ref m0, .int z3]) (n := 2) (Nat.le_of_ble_eq_true rfl)
  rw [lg_entry_eq]
  generalize (lg_sl ([.ref m0, .int z3]) ++ List.replicate (2 - (lg_sl ([.ref m0, .int z3])).length) Slot.unset).toArray = ls at hl ⊢
  have hl : lv_has ls 2 [(0, .ref m0), (1, .int z3)] := hl
  refine lv_aload_n hx hb dX7_run_0 rfl (lv_at hl 0 rfl) ?_
  refine lv_iconst (v := nI 0) hx hb dX7_run_1 (by decide) ?_
  refine va_put (D := D) (ci := 7) (v := .int (nI 0)) (ty := .int) (C := RX7) (T := TX7) (N := 6) hx hb hts hin7 tyX7 tyX7_ok nmX7 hown hK hP hD hS 0 rfl rfl 4 (by decide) (hts (.fieldLink RX7 34 "MeshRoutingModel" "thrown" "I") (List.mem_cons_of_mem _ q_760)) (fun _ h9 => h9) rfl (by decide +kernel) rfl rfl (Nat.le_of_ble_eq_true rfl) dX7_run_2 (fun H locs hP hD hS => ?_)
  replace hP : va_P D vwCl [(m0, .inr (7, [.ref v, .ref a1, .ref a2, .int ik, .int (nI 0), .int en])), (v, .inl (cJ, 136800, .inr (.inl (mF N))))] H := hP
  replace hD : va_D A [(m0, .inr (7, [.ref v, .ref a1, .ref a2, .int ik, .int (nI 0), .int en])), (v, .inl (cJ, 136800, .inr (.inl (mF N))))] := hD
  refine lv_iload_n hx hb dX7_run_5 rfl (lv_at hl 1 rfl) ?_
  refine lv_i2l (v := z3.toInt64) hx hb dX7_run_6 (rfl) ?_
  refine lv_lconst (v := lN 0) hx hb dX7_run_7 (by decide) ?_
  refine lv_ldc2 (v := 100000) hx hb hown (by exact hts (.constantLong RX7 232 (100000)) (List.mem_cons_of_mem _ q_774)) dX7_run_8 ?_
  refine k_tl (show (100000) = (lN 100000) from by decide) ?_
  refine k_ci (wr := [(m0, .inr (7, [.ref v, .ref a1, .ref a2, .int ik, .int (nI 0), .int en])), (v, .inl (cJ, 136800, .inr (.inl (mF N))))]) (w1 := []) (va_runS (As := [.long z3.toInt64, .long (lN 0), .long (lN 100000)]) (rest := []) ⟨hx, hb, hml, hown, hts⟩ (c_X7_in0 l D cI cJ cM cG z3.toInt64 (lN 0) (lN 100000) H.size (k_over (n := 100000) (by omega) hz3)) (va_cwS 3 hts (kB_S (fun _ => List.mem_cons_of_mem _) q_765 q_766 q_670 (kB_c q_767)) rfl rfl rfl (by decide +kernel) ⟨Nat.le_of_ble_eq_true rfl, Nat.le_of_ble_eq_true rfl⟩) (k_preS hP hD hK hKN [] rfl rfl) rfl rfl hl.1 rfl (lv_room (Nat.le_of_ble_eq_true rfl)) dX7_run_11 ⟨Nat.le_of_ble_eq_true rfl, Nat.le_of_ble_eq_true rfl⟩) hP hD hS hA [] [0, 1] rfl rfl rfl (by decide) (fun r11 H locs hw11 hP hD hS => ?_)
  replace hP : va_P D vwCl [(m0, .inr (7, [.ref v, .ref a1, .ref a2, .int ik, .int (nI 0), .int en])), (v, .inl (cJ, 136800, .inr (.inl (mF N))))] H := hP
  replace hD : va_D A [(m0, .inr (7, [.ref v, .ref a1, .ref a2, .int ik, .int (nI 0), .int en])), (v, .inl (cJ, 136800, .inr (.inl (mF N))))] := hD
  replace hw11 : r11 = nI 0 := hw11
  refine k_ti hw11 ?_
  refine k_if_eq (tgt := 33) hx hb dX7_run_14 (by decide) (by omega) (fun _ => ?_) (fun h9 => absurd h9 (by omega))
  refine lv_aload_n hx hb dX7_run_33 rfl (lv_at hl 0 rfl) ?_
  refine lv_iconst (v := nI 1) hx hb dX7_run_34 (by decide) ?_
  refine k_ci (wr := []) (w1 := [(m0, .inr (7, [.ref v, .ref a1, .ref a2, .int ik, .int (nI 1), .int en])), (v, .inl (cJ, 136800, .inr (.inl (mF N))))]) (va_runV (As := [.int (nI 1)]) (rest := []) ⟨hx, hb, hml, hown, hts⟩ (c_X7_fails l D cI cJ cM cG m0 v a1 a2 ik (nI 0) en (mF N) (nI 1) H.size) (cwV 1 hts (kB_V (fun _ => List.mem_cons_of_mem _) q_924 q_925 q_926 q_670 (kB_c q_883)) rfl rfl rfl (by decide +kernel) ⟨Nat.le_of_ble_eq_true rfl, Nat.le_of_ble_eq_true rfl⟩) (k_preV (T := TX7) hP hD hK hKN [0, 1] rfl rfl (ci := 7) rfl (q0 := 0) rfl) rfl rfl hl.1 rfl (lv_room (Nat.le_of_ble_eq_true rfl)) dX7_run_35 ⟨Nat.le_of_ble_eq_true rfl, Nat.le_of_ble_eq_true rfl⟩) hP hD hS hA [0, 1] [] rfl rfl rfl (by decide) (fun r35 H locs hw35 hP hD hS => ?_)
  replace hP : va_P D vwCl [(m0, .inr (7, [.ref v, .ref a1, .ref a2, .int ik, .int (nI 1), .int en])), (v, .inl (cJ, 136800, .inr (.inl (mF N))))] H := hP
  replace hD : va_D A [(m0, .inr (7, [.ref v, .ref a1, .ref a2, .int ik, .int (nI 1), .int en])), (v, .inl (cJ, 136800, .inr (.inl (mF N))))] := hD
  replace hw35 : r35 = nI 0 := hw35
  refine k_ti hw35 ?_
  have hP9 := hP.sub (ws' := [(m0, .inr (7, [.ref v, .ref a1, .ref a2, .int ik, .int (nI 1), .int en]))]) [0] rfl
  have hD9 := hD.sub (ws' := [(m0, .inr (7, [.ref v, .ref a1, .ref a2, .int ik, .int (nI 1), .int en]))]) [0] rfl rfl
  exact W.iret (v := nI 0) hx hb hr (fun t9 ht9 hW9 => ⟨⟨nI 0, (), rfl, rfl, by rw [ht9]; exact hP9, hD9⟩, hS.F ht9⟩) hS.2.2 dX7_run_38

set_option maxHeartbeats 4000000 in
set_option maxRecDepth 100000 in
theorem c_M_time (l : Launch) (D : va_G) (cI cJ cM cG : ClassId) (m0 : Nat) (v : Nat) (a1 : Nat) (a2 : Nat) (ik : Int32) (th : Int32) (en : Int32) (N : Nat) (sz : Nat) (hN : N ≤ 10) (hN0 : 0 < N) : Met l yX7_time (Cond.code yX7_time cX7_time 1 (some .int) :: kBig) ({ frames := 0, cells := 0, slots := 0, locals := 0 }) (va_Pc [.ref m0] (kP D [(cI, .int), (cJ, .long), (cM, .object "MeshRouting$Message"), (cG, .array .int)] [(m0, .inr (7, [.ref v, .ref a1, .ref a2, .int ik, .int th, .int en])), (v, .inl (cJ, 136800, .inr (.inl (mF N))))] sz)) (va_Qi (fun (r : Int32) (_ : Unit) => r = nI 0) (fun _ t9 => kB D (va_A [(m0, .inr (7, [.ref v, .ref a1, .ref a2, .int ik, .int th, .int en])), (v, .inl (cJ, 136800, .inr (.inl (mF N))))] sz) [(m0, .inr (7, [.ref v, .ref a1, .ref a2, .int ik, .int (nI 0), .int en]))] t9) (va_A [(m0, .inr (7, [.ref v, .ref a1, .ref a2, .int ik, .int th, .int en])), (v, .inl (cJ, 136800, .inr (.inl (mF N))))] sz)) 0 0 (va_A [(m0, .inr (7, [.ref v, .ref a1, .ref a2, .int ik, .int th, .int en])), (v, .inl (cJ, 136800, .inr (.inl (mF N))))] sz) := by
  refine Met.ofW (cc := cX7_time) (maxL := 1) (ret := (some .int)) (by decide) rfl ?_
  intro p e s m args below meth c s₁ B hml hv
  obtain ⟨rfl, hsz, hP, hK, hD0, hKN⟩ := hv
  have hx := B.exec
  have hb := B.bytes
  have hr := B.returns
  have hts := atoms_spec (ws := (Cond.code yX7_time cX7_time 1 (some .int) :: kBig)) B.pre
  have hown : s.vm.findClass RX7 = some m.cls := findClass_of_methodNamed B.named
  have hlocks := B.notSynchronized
  have hin7 : ∀ w ∈ u_ws RX7 TX7 6, w ∈ (Cond.code yX7_time cX7_time 1 (some .int) :: kBig) := fun w h => List.mem_cons_of_mem _ (inb7 w h)
  subst hsz
  have hD := hD0.self (sz := s.heap.size)
  generalize hAe : va_A [(m0, .inr (7, [.ref v, .ref a1, .ref a2, .int ik, .int th, .int en])), (v, .inl (cJ, 136800, .inr (.inl (mF N))))] s.heap.size = A at hD ⊢
  have hA : ∀ q : Nat, s.heap.size ≤ q → A q := fun q h => by rw [← hAe]; exact Or.inr h
  have hS : va_S A s.heap s.heap [] := va_S.rf
  have hl := lv_entry ([.ref m0]) (n := 1) (Nat.le_of_ble_eq_true rfl)
  rw [lg_entry_eq]
  generalize (lg_sl ([.ref m0]) ++ List.replicate (1 - (lg_sl ([.ref m0])).length) Slot.unset).toArray = ls at hl ⊢
  have hl : lv_has ls 1 [(0, .ref m0)] := hl
  refine lv_aload_n hx hb dX7_time_0 rfl (lv_at hl 0 rfl) ?_
  refine lv_iconst (v := nI 0) hx hb dX7_time_1 (by decide) ?_
  refine va_put (D := D) (ci := 7) (v := .int (nI 0)) (ty := .int) (C := RX7) (T := TX7) (N := 6) hx hb hts hin7 tyX7 tyX7_ok nmX7 hown hK hP hD hS 0 rfl rfl 4 (by decide) (hts (.fieldLink RX7 34 "MeshRoutingModel" "thrown" "I") (List.mem_cons_of_mem _ q_760)) (fun _ h9 => h9) rfl (by decide +kernel) rfl rfl (Nat.le_of_ble_eq_true rfl) dX7_time_2 (fun H locs hP hD hS => ?_)
  replace hP : va_P D vwCl [(m0, .inr (7, [.ref v, .ref a1, .ref a2, .int ik, .int (nI 0), .int en])), (v, .inl (cJ, 136800, .inr (.inl (mF N))))] H := hP
  replace hD : va_D A [(m0, .inr (7, [.ref v, .ref a1, .ref a2, .int ik, .int (nI 0), .int en])), (v, .inl (cJ, 136800, .inr (.inl (mF N))))] := hD
  refine lv_aload_n hx hb dX7_time_5 rfl (lv_at hl 0 rfl) ?_
  refine va_get (D := D) (ci := 7) (v := .ref v) (C := RX7) (T := TX7) (N := 6) hx hb hts hin7 hown hK hP 0 rfl rfl 0 (by decide) (hts (.fieldLink RX7 8 "MeshRoutingModel" "v" "[J") (List.mem_cons_of_mem _ q_665)) (fun _ h9 => h9) rfl dX7_time_6 ?_
  refine lv_iconst (v := nI 0) hx hb dX7_time_9 (by decide) ?_
  refine k_lald (v := lN 0) hx hb hK hP 1 1 rfl rfl (by omega) (by omega) ((mF_o (by omega) (by omega) (by omega))) dX7_time_10 ?_
  refine lv_l2i (v := nI 0) hx hb dX7_time_11 (by decide) ?_
  have hP9 := hP.sub (ws' := [(m0, .inr (7, [.ref v, .ref a1, .ref a2, .int ik, .int (nI 0), .int en]))]) [0] rfl
  have hD9 := hD.sub (ws' := [(m0, .inr (7, [.ref v, .ref a1, .ref a2, .int ik, .int (nI 0), .int en]))]) [0] rfl rfl
  exact W.iret (v := nI 0) hx hb hr (fun t9 ht9 hW9 => ⟨⟨nI 0, (), rfl, rfl, by rw [ht9]; exact hP9, hD9⟩, hS.F ht9⟩) hS.2.2 dX7_time_12

set_option maxHeartbeats 4000000 in
set_option maxRecDepth 100000 in
theorem c_M_nextEvent (l : Launch) (D : va_G) (cI cJ cM cG : ClassId) (m0 : Nat) (v : Nat) (a1 : Nat) (a2 : Nat) (ik : Int32) (th : Int32) (en : Int32) (N : Nat) (sz : Nat) (hN : N ≤ 10) (hN0 : 0 < N) : Met l yX7_nextEvent (Cond.code yX7_nextEvent cX7_nextEvent 6 (some .int) :: kBig) ({ frames := 1, cells := 0, slots := 0, locals := 23 }) (va_Pc [.ref m0] (kP D [(cI, .int), (cJ, .long), (cM, .object "MeshRouting$Message"), (cG, .array .int)] [(m0, .inr (7, [.ref v, .ref a1, .ref a2, .int ik, .int th, .int en])), (v, .inl (cJ, 136800, .inr (.inl (mF N))))] sz)) (va_Qi (fun (r : Int32) (_ : Unit) => r = (-1)) (fun _ t9 => kB D (va_A [(m0, .inr (7, [.ref v, .ref a1, .ref a2, .int ik, .int th, .int en])), (v, .inl (cJ, 136800, .inr (.inl (mF N))))] sz) [(m0, .inr (7, [.ref v, .ref a1, .ref a2, .int ik, .int (nI 0), .int en]))] t9) (va_A [(m0, .inr (7, [.ref v, .ref a1, .ref a2, .int ik, .int th, .int en])), (v, .inl (cJ, 136800, .inr (.inl (mF N))))] sz)) 0 0 (va_A [(m0, .inr (7, [.ref v, .ref a1, .ref a2, .int ik, .int th, .int en])), (v, .inl (cJ, 136800, .inr (.inl (mF N))))] sz) := by
  refine Met.ofW (cc := cX7_nextEvent) (maxL := 6) (ret := (some .int)) (by decide) rfl ?_
  intro p e s m args below meth c s₁ B hml hv
  obtain ⟨rfl, hsz, hP, hK, hD0, hKN⟩ := hv
  have hx := B.exec
  have hb := B.bytes
  have hr := B.returns
  have hts := atoms_spec (ws := (Cond.code yX7_nextEvent cX7_nextEvent 6 (some .int) :: kBig)) B.pre
  have hown : s.vm.findClass RX7 = some m.cls := findClass_of_methodNamed B.named
  have hlocks := B.notSynchronized
  have hin7 : ∀ w ∈ u_ws RX7 TX7 6, w ∈ (Cond.code yX7_nextEvent cX7_nextEvent 6 (some .int) :: kBig) := fun w h => List.mem_cons_of_mem _ (inb7 w h)
  subst hsz
  have hD := hD0.self (sz := s.heap.size)
  generalize hAe : va_A [(m0, .inr (7, [.ref v, .ref a1, .ref a2, .int ik, .int th, .int en])), (v, .inl (cJ, 136800, .inr (.inl (mF N))))] s.heap.size = A at hD ⊢
  have hA : ∀ q : Nat, s.heap.size ≤ q → A q := fun q h => by rw [← hAe]; exact Or.inr h
  have hS : va_S A s.heap s.heap [] := va_S.rf
  have hl := lv_entry ([.ref m0]) (n := 6) (Nat.le_of_ble_eq_true rfl)
  rw [lg_entry_eq]
  generalize (lg_sl ([.ref m0]) ++ List.replicate (6 - (lg_sl ([.ref m0])).length) Slot.unset).toArray = ls at hl ⊢
  have hl : lv_has ls 6 [(0, .ref m0)] := hl
  refine lv_aload_n hx hb dX7_nextEvent_0 rfl (lv_at hl 0 rfl) ?_
  refine lv_iconst (v := nI 0) hx hb dX7_nextEvent_1 (by decide) ?_
  refine va_put (D := D) (ci := 7) (v := .int (nI 0)) (ty := .int) (C := RX7) (T := TX7) (N := 6) hx hb hts hin7 tyX7 tyX7_ok nmX7 hown hK hP hD hS 0 rfl rfl 4 (by decide) (hts (.fieldLink RX7 34 "MeshRoutingModel" "thrown" "I") (List.mem_cons_of_mem _ q_760)) (fun _ h9 => h9) rfl (by decide +kernel) rfl rfl (Nat.le_of_ble_eq_true rfl) dX7_nextEvent_2 (fun H locs hP hD hS => ?_)
  replace hP : va_P D vwCl [(m0, .inr (7, [.ref v, .ref a1, .ref a2, .int ik, .int (nI 0), .int en])), (v, .inl (cJ, 136800, .inr (.inl (mF N))))] H := hP
  replace hD : va_D A [(m0, .inr (7, [.ref v, .ref a1, .ref a2, .int ik, .int (nI 0), .int en])), (v, .inl (cJ, 136800, .inr (.inl (mF N))))] := hD
  refine lv_aload_n hx hb dX7_nextEvent_5 rfl (lv_at hl 0 rfl) ?_
  refine k_cl (wr := []) (w1 := [(m0, .inr (7, [.ref v, .ref a1, .ref a2, .int ik, .int (nI 0), .int en])), (v, .inl (cJ, 136800, .inr (.inl (mF N))))]) (va_runV (As := []) (rest := []) ⟨hx, hb, hml, hown, hts⟩ (c_X7_nextArrival l D cI cJ cM cG m0 v a1 a2 ik (nI 0) en (mF N) 0 H.size (mF_o (by omega) (by omega) (by omega)) (by omega) (fun j h1 h2 => mF_l h1 h2)) (cwV 0 hts (kB_V (fun _ => List.mem_cons_of_mem _) q_815 q_816 q_817 q_670 (kB_c q_818)) rfl rfl rfl (by decide +kernel) ⟨Nat.le_of_ble_eq_true rfl, Nat.le_of_ble_eq_true rfl⟩) (k_preV (T := TX7) hP hD hK hKN [0, 1] rfl rfl (ci := 7) rfl (q0 := 0) rfl) rfl rfl hl.1 rfl (lv_room (Nat.le_of_ble_eq_true rfl)) dX7_nextEvent_6 ⟨Nat.le_of_ble_eq_true rfl, Nat.le_of_ble_eq_true rfl⟩) hP hD hS hA [0, 1] [] rfl rfl rfl (by decide) (fun r6 H locs hw6 hP hD hS => ?_)
  replace hP : va_P D vwCl [(m0, .inr (7, [.ref v, .ref a1, .ref a2, .int ik, .int (nI 0), .int en])), (v, .inl (cJ, 136800, .inr (.inl (mF N))))] H := hP
  replace hD : va_D A [(m0, .inr (7, [.ref v, .ref a1, .ref a2, .int ik, .int (nI 0), .int en])), (v, .inl (cJ, 136800, .inr (.inl (mF N))))] := hD
  replace hw6 : r6 = (-1) := hw6
  refine k_tl hw6 ?_
  refine lv_lstore_n (lv' := [(1, .long (-1)), (0, .ref m0)]) hx hb dX7_nextEvent_9 rfl hl (by decide) rfl (fun ls hl => ?_)
  refine lv_aload_n hx hb dX7_nextEvent_10 rfl (lv_at hl 1 rfl) ?_
  refine k_ci (wr := []) (w1 := [(m0, .inr (7, [.ref v, .ref a1, .ref a2, .int ik, .int (nI 0), .int en])), (v, .inl (cJ, 136800, .inr (.inl (mF N))))]) (va_runV (As := []) (rest := []) ⟨hx, hb, hml, hown, hts⟩ (c_X7_nextTimeout0 l D cI cJ cM cG m0 v a1 a2 ik (nI 0) en (mF N) H.size (fun q h => mF_z (by omega))) (cwV 0 hts (kB_V (fun _ => List.mem_cons_of_mem _) q_819 q_820 q_821 q_670 (kB_c q_822)) rfl rfl rfl (by decide +kernel) ⟨Nat.le_of_ble_eq_true rfl, Nat.le_of_ble_eq_true rfl⟩) (k_preV (T := TX7) hP hD hK hKN [0, 1] rfl rfl (ci := 7) rfl (q0 := 0) rfl) rfl rfl hl.1 rfl (lv_room (Nat.le_of_ble_eq_true rfl)) dX7_nextEvent_11 ⟨Nat.le_of_ble_eq_true rfl, Nat.le_of_ble_eq_true rfl⟩) hP hD hS hA [0, 1] [] rfl rfl rfl (by decide) (fun r11 H locs hw11 hP hD hS => ?_)
  replace hP : va_P D vwCl [(m0, .inr (7, [.ref v, .ref a1, .ref a2, .int ik, .int (nI 0), .int en])), (v, .inl (cJ, 136800, .inr (.inl (mF N))))] H := hP
  replace hD : va_D A [(m0, .inr (7, [.ref v, .ref a1, .ref a2, .int ik, .int (nI 0), .int en])), (v, .inl (cJ, 136800, .inr (.inl (mF N))))] := hD
  replace hw11 : r11 = (-1) := hw11
  refine k_ti hw11 ?_
  refine lv_istore_n (lv' := [(3, .int (-1)), (1, .long (-1)), (0, .ref m0)]) hx hb dX7_nextEvent_14 rfl hl (by decide) rfl (fun ls hl => ?_)
  refine lv_iload_n hx hb dX7_nextEvent_15 rfl (lv_at hl 0 rfl) ?_
  refine lv_if_ge (tgt := 25) hx hb dX7_nextEvent_16 (by decide) (fun h9 => absurd h9 (by decide)) (fun _ => ?_)
  refine lv_ldc2 (v := -1) hx hb hown (by exact hts (.constantLong RX7 24 (-1)) (List.mem_cons_of_mem _ q_666)) dX7_nextEvent_19 ?_
  refine k_tl (show (-1) = ((-1)) from by decide) ?_
  refine lv_goto (tgt := 39) hx hb dX7_nextEvent_22 (by decide) ?_
  refine lv_lstore (lv' := [(4, .long (-1)), (3, .int (-1)), (1, .long (-1)), (0, .ref m0)]) hx hb dX7_nextEvent_39 hl (by decide) rfl (fun ls hl => ?_)
  refine lv_lload_n hx hb dX7_nextEvent_41 rfl (lv_at hl 2 rfl) ?_
  refine lv_lconst (v := lN 0) hx hb dX7_nextEvent_42 (by decide) ?_
  refine W.lcmp hx hb dX7_nextEvent_43 ?_
  refine lv_if_lt (tgt := 61) hx hb dX7_nextEvent_44 (by decide) (fun _ => ?_) (fun h9 => absurd (by decide) h9)
  refine lv_lload hx hb dX7_nextEvent_61 (lv_at hl 0 rfl) ?_
  refine lv_goto (tgt := 67) hx hb dX7_nextEvent_63 (by decide) ?_
  refine lv_l2i (v := (-1)) hx hb dX7_nextEvent_67 (by decide) ?_
  have hP9 := hP.sub (ws' := [(m0, .inr (7, [.ref v, .ref a1, .ref a2, .int ik, .int (nI 0), .int en]))]) [0] rfl
  have hD9 := hD.sub (ws' := [(m0, .inr (7, [.ref v, .ref a1, .ref a2, .int ik, .int (nI 0), .int en]))]) [0] rfl rfl
  exact W.iret (v := (-1)) hx hb hr (fun t9 ht9 hW9 => ⟨⟨(-1), (), rfl, rfl, by rw [ht9]; exact hP9, hD9⟩, hS.F ht9⟩) hS.2.2 dX7_nextEvent_68

set_option maxHeartbeats 4000000 in
set_option maxRecDepth 100000 in
theorem c_M_ofKind1 (l : Launch) (D : va_G) (cI cJ cM cG : ClassId) (m0 : Nat) (v : Nat) (a1 : Nat) (a2 : Nat) (ik : Int32) (th : Int32) (en : Int32) (N : Nat) (kd : Nat) (b0 : Nat) (sz : Nat) (hN : N ≤ 10) (hN0 : 0 < N) (hk : kd < 4) (hb0 : 2 ≤ b0 ∧ b0 ≤ 6) : Met l yX7_ofKind (Cond.code yX7_ofKind cX7_ofKind 3 (some .int) :: kBig) ({ frames := 1, cells := 0, slots := 0, locals := 25 }) (va_Pc [.ref m0, .int (nI kd), .int (nI b0)] (kP D [(cI, .int), (cJ, .long), (cM, .object "MeshRouting$Message"), (cG, .array .int)] [(m0, .inr (7, [.ref v, .ref a1, .ref a2, .int ik, .int th, .int en])), (v, .inl (cJ, 136800, .inr (.inl (mF N))))] sz)) (va_Qi (fun (r : Int32) (_ : Unit) => r = nI 0) (fun _ t9 => kB D (va_A [(m0, .inr (7, [.ref v, .ref a1, .ref a2, .int ik, .int th, .int en])), (v, .inl (cJ, 136800, .inr (.inl (mF N))))] sz) [(m0, .inr (7, [.ref v, .ref a1, .ref a2, .int ik, .int (nI 0), .int en]))] t9) (va_A [(m0, .inr (7, [.ref v, .ref a1, .ref a2, .int ik, .int th, .int en])), (v, .inl (cJ, 136800, .inr (.inl (mF N))))] sz)) 0 0 (va_A [(m0, .inr (7, [.ref v, .ref a1, .ref a2, .int ik, .int th, .int en])), (v, .inl (cJ, 136800, .inr (.inl (mF N))))] sz) := by
  refine Met.ofW (cc := cX7_ofKind) (maxL := 3) (ret := (some .int)) (by decide) rfl ?_
  intro p e s m args below meth c s₁ B hml hv
  obtain ⟨rfl, hsz, hP, hK, hD0, hKN⟩ := hv
  have hx := B.exec
  have hb := B.bytes
  have hr := B.returns
  have hts := atoms_spec (ws := (Cond.code yX7_ofKind cX7_ofKind 3 (some .int) :: kBig)) B.pre
  have hown : s.vm.findClass RX7 = some m.cls := findClass_of_methodNamed B.named
  have hlocks := B.notSynchronized
  have hin7 : ∀ w ∈ u_ws RX7 TX7 6, w ∈ (Cond.code yX7_ofKind cX7_ofKind 3 (some .int) :: kBig) := fun w h => List.mem_cons_of_mem _ (inb7 w h)
  subst hsz
  have hD := hD0.self (sz := s.heap.size)
  generalize hAe : va_A [(m0, .inr (7, [.ref v, .ref a1, .ref a2, .int ik, .int th, .int en])), (v, .inl (cJ, 136800, .inr (.inl (mF N))))] s.heap.size = A at hD ⊢
  have hA : ∀ q : Nat, s.heap.size ≤ q → A q := fun q h => by rw [← hAe]; exact Or.inr h
  have hS : va_S A s.heap s.heap [] := va_S.rf
  have hl := lv_entry ([.ref m0, .int (nI kd), .int (nI b0)]) (n := 3) (Nat.le_of_ble_eq_true rfl)
  rw [lg_entry_eq]
  generalize (lg_sl ([.ref m0, .int (nI kd), .int (nI b0)]) ++ List.replicate (3 - (lg_sl ([.ref m0, .int (nI kd), .int (nI b0)])).length) Slot.unset).toArray = ls at hl ⊢
  have hl : lv_has ls 3 [(0, .ref m0), (1, .int (nI kd)), (2, .int (nI b0))] := hl
  refine lv_aload_n hx hb dX7_ofKind_0 rfl (lv_at hl 0 rfl) ?_
  refine lv_iload_n hx hb dX7_ofKind_1 rfl (lv_at hl 1 rfl) ?_
  refine lv_i2l (v := lN kd) hx hb dX7_ofKind_2 (by exact nI_l (by omega)) ?_
  refine lv_lconst (v := lN 0) hx hb dX7_ofKind_3 (by decide) ?_
  refine lv_ldc2 (v := 3) hx hb hown (by exact hts (.constantLong RX7 32 (3)) (List.mem_cons_of_mem _ q_791)) dX7_ofKind_4 ?_
  refine k_tl (show (3) = (lN 3) from by decide) ?_
  refine k_ci (wr := [(m0, .inr (7, [.ref v, .ref a1, .ref a2, .int ik, .int th, .int en])), (v, .inl (cJ, 136800, .inr (.inl (mF N))))]) (w1 := []) (va_runS (As := [.long (lN kd), .long (lN 0), .long (lN 3)]) (rest := [.ref m0]) ⟨hx, hb, hml, hown, hts⟩ (c_X7_in1 l D cI cJ cM cG (lN kd) (lN 0) (lN 3) s.heap.size (k_in1 (by omega) (by omega) (by omega)) (k_in1 (by omega) (by omega) (by omega))) (va_cwS 3 hts (kB_S (fun _ => List.mem_cons_of_mem _) q_765 q_766 q_670 (kB_c q_767)) rfl rfl rfl (by decide +kernel) ⟨Nat.le_of_ble_eq_true rfl, Nat.le_of_ble_eq_true rfl⟩) (k_preS hP hD hK hKN [] rfl rfl) rfl rfl hl.1 rfl (lv_room (Nat.le_of_ble_eq_true rfl)) dX7_ofKind_7 ⟨Nat.le_of_ble_eq_true rfl, Nat.le_of_ble_eq_true rfl⟩) hP hD hS hA [] [0, 1] rfl rfl rfl (by decide) (fun r7 H locs hw7 hP hD hS => ?_)
  replace hP : va_P D vwCl [(m0, .inr (7, [.ref v, .ref a1, .ref a2, .int ik, .int th, .int en])), (v, .inl (cJ, 136800, .inr (.inl (mF N))))] H := hP
  replace hD : va_D A [(m0, .inr (7, [.ref v, .ref a1, .ref a2, .int ik, .int th, .int en])), (v, .inl (cJ, 136800, .inr (.inl (mF N))))] := hD
  replace hw7 : r7 = nI 1 := hw7
  refine k_ti hw7 ?_
  refine k_if_eq (tgt := 17) hx hb dX7_ofKind_10 (by decide) (by omega) (fun h9 => absurd h9 (by omega)) (fun _ => ?_)
  refine lv_iconst (v := nI 0) hx hb dX7_ofKind_13 (by decide) ?_
  refine lv_goto (tgt := 18) hx hb dX7_ofKind_14 (by decide) ?_
  refine va_put (D := D) (ci := 7) (v := .int (nI 0)) (ty := .int) (C := RX7) (T := TX7) (N := 6) hx hb hts hin7 tyX7 tyX7_ok nmX7 hown hK hP hD hS 0 rfl rfl 4 (by decide) (hts (.fieldLink RX7 34 "MeshRoutingModel" "thrown" "I") (List.mem_cons_of_mem _ q_760)) (fun _ h9 => h9) rfl (by decide +kernel) rfl rfl (Nat.le_of_ble_eq_true rfl) dX7_ofKind_18 (fun H locs hP hD hS => ?_)
  replace hP : va_P D vwCl [(m0, .inr (7, [.ref v, .ref a1, .ref a2, .int ik, .int (nI 0), .int en])), (v, .inl (cJ, 136800, .inr (.inl (mF N))))] H := hP
  replace hD : va_D A [(m0, .inr (7, [.ref v, .ref a1, .ref a2, .int ik, .int (nI 0), .int en])), (v, .inl (cJ, 136800, .inr (.inl (mF N))))] := hD
  refine lv_iload_n hx hb dX7_ofKind_21 rfl (lv_at hl 1 rfl) ?_
  refine lv_i2l (v := lN kd) hx hb dX7_ofKind_22 (by exact nI_l (by omega)) ?_
  refine lv_lconst (v := lN 0) hx hb dX7_ofKind_23 (by decide) ?_
  refine lv_ldc2 (v := 3) hx hb hown (by exact hts (.constantLong RX7 32 (3)) (List.mem_cons_of_mem _ q_791)) dX7_ofKind_24 ?_
  refine k_tl (show (3) = (lN 3) from by decide) ?_
  refine k_ci (wr := [(m0, .inr (7, [.ref v, .ref a1, .ref a2, .int ik, .int (nI 0), .int en])), (v, .inl (cJ, 136800, .inr (.inl (mF N))))]) (w1 := []) (va_runS (As := [.long (lN kd), .long (lN 0), .long (lN 3)]) (rest := []) ⟨hx, hb, hml, hown, hts⟩ (c_X7_in1 l D cI cJ cM cG (lN kd) (lN 0) (lN 3) H.size (k_in1 (by omega) (by omega) (by omega)) (k_in1 (by omega) (by omega) (by omega))) (va_cwS 3 hts (kB_S (fun _ => List.mem_cons_of_mem _) q_765 q_766 q_670 (kB_c q_767)) rfl rfl rfl (by decide +kernel) ⟨Nat.le_of_ble_eq_true rfl, Nat.le_of_ble_eq_true rfl⟩) (k_preS hP hD hK hKN [] rfl rfl) rfl rfl hl.1 rfl (lv_room (Nat.le_of_ble_eq_true rfl)) dX7_ofKind_27 ⟨Nat.le_of_ble_eq_true rfl, Nat.le_of_ble_eq_true rfl⟩) hP hD hS hA [] [0, 1] rfl rfl rfl (by decide) (fun r27 H locs hw27 hP hD hS => ?_)
  replace hP : va_P D vwCl [(m0, .inr (7, [.ref v, .ref a1, .ref a2, .int ik, .int (nI 0), .int en])), (v, .inl (cJ, 136800, .inr (.inl (mF N))))] H := hP
  replace hD : va_D A [(m0, .inr (7, [.ref v, .ref a1, .ref a2, .int ik, .int (nI 0), .int en])), (v, .inl (cJ, 136800, .inr (.inl (mF N))))] := hD
  replace hw27 : r27 = nI 1 := hw27
  refine k_ti hw27 ?_
  refine k_if_eq (tgt := 45) hx hb dX7_ofKind_30 (by decide) (by omega) (fun h9 => absurd h9 (by omega)) (fun _ => ?_)
  refine lv_aload_n hx hb dX7_ofKind_33 rfl (lv_at hl 0 rfl) ?_
  refine va_get (D := D) (ci := 7) (v := .ref v) (C := RX7) (T := TX7) (N := 6) hx hb hts hin7 hown hK hP 0 rfl rfl 0 (by decide) (hts (.fieldLink RX7 8 "MeshRoutingModel" "v" "[J") (List.mem_cons_of_mem _ q_665)) (fun _ h9 => h9) rfl dX7_ofKind_34 ?_
  refine lv_iload_n hx hb dX7_ofKind_37 rfl (lv_at hl 2 rfl) ?_
  refine lv_iload_n hx hb dX7_ofKind_38 rfl (lv_at hl 1 rfl) ?_
  refine lv_iadd hx hb dX7_ofKind_39 ?_
  refine k_ti (show ((nI b0) + (nI kd)) = (nI (b0 + kd)) from nI_add _ _) ?_
  refine k_lald (v := lN 0) hx hb hK hP 1 1 rfl rfl (by omega) (by omega) ((mF_o (by omega) (by omega) (by omega))) dX7_ofKind_40 ?_
  refine lv_l2i (v := nI 0) hx hb dX7_ofKind_41 (by decide) ?_
  refine lv_goto (tgt := 46) hx hb dX7_ofKind_42 (by decide) ?_
  have hP9 := hP.sub (ws' := [(m0, .inr (7, [.ref v, .ref a1, .ref a2, .int ik, .int (nI 0), .int en]))]) [0] rfl
  have hD9 := hD.sub (ws' := [(m0, .inr (7, [.ref v, .ref a1, .ref a2, .int ik, .int (nI 0), .int en]))]) [0] rfl rfl
  exact W.iret (v := nI 0) hx hb hr (fun t9 ht9 hW9 => ⟨⟨nI 0, (), rfl, rfl, by rw [ht9]; exact hP9, hD9⟩, hS.F ht9⟩) hS.2.2 dX7_ofKind_46

set_option maxHeartbeats 4000000 in
set_option maxRecDepth 100000 in
theorem c_M_ofKind0 (l : Launch) (D : va_G) (cI cJ cM cG : ClassId) (m0 : Nat) (v : Nat) (a1 : Nat) (a2 : Nat) (ik : Int32) (th : Int32) (en : Int32) (N : Nat) (z3 : Int32) (b0 : Nat) (sz : Nat) (hN : N ≤ 10) (hN0 : 0 < N) (hz3 : z3 < 0 ∨ nI (3 + 1) ≤ z3) : Met l yX7_ofKind (Cond.code yX7_ofKind cX7_ofKind 3 (some .int) :: kBig) ({ frames := 1, cells := 0, slots := 0, locals := 25 }) (va_Pc [.ref m0, .int z3, .int (nI b0)] (kP D [(cI, .int), (cJ, .long), (cM, .object "MeshRouting$Message"), (cG, .array .int)] [(m0, .inr (7, [.ref v, .ref a1, .ref a2, .int ik, .int th, .int en])), (v, .inl (cJ, 136800, .inr (.inl (mF N))))] sz)) (va_Qi (fun (r : Int32) (_ : Unit) => r = nI 0) (fun _ t9 => kB D (va_A [(m0, .inr (7, [.ref v, .ref a1, .ref a2, .int ik, .int th, .int en])), (v, .inl (cJ, 136800, .inr (.inl (mF N))))] sz) [(m0, .inr (7, [.ref v, .ref a1, .ref a2, .int ik, .int (nI 1), .int en]))] t9) (va_A [(m0, .inr (7, [.ref v, .ref a1, .ref a2, .int ik, .int th, .int en])), (v, .inl (cJ, 136800, .inr (.inl (mF N))))] sz)) 0 0 (va_A [(m0, .inr (7, [.ref v, .ref a1, .ref a2, .int ik, .int th, .int en])), (v, .inl (cJ, 136800, .inr (.inl (mF N))))] sz) := by
  refine Met.ofW (cc := cX7_ofKind) (maxL := 3) (ret := (some .int)) (by decide) rfl ?_
  intro p e s m args below meth c s₁ B hml hv
  obtain ⟨rfl, hsz, hP, hK, hD0, hKN⟩ := hv
  have hx := B.exec
  have hb := B.bytes
  have hr := B.returns
  have hts := atoms_spec (ws := (Cond.code yX7_ofKind cX7_ofKind 3 (some .int) :: kBig)) B.pre
  have hown : s.vm.findClass RX7 = some m.cls := findClass_of_methodNamed B.named
  have hlocks := B.notSynchronized
  have hin7 : ∀ w ∈ u_ws RX7 TX7 6, w ∈ (Cond.code yX7_ofKind cX7_ofKind 3 (some .int) :: kBig) := fun w h => List.mem_cons_of_mem _ (inb7 w h)
  subst hsz
  have hD := hD0.self (sz := s.heap.size)
  generalize hAe : va_A [(m0, .inr (7, [.ref v, .ref a1, .ref a2, .int ik, .int th, .int en])), (v, .inl (cJ, 136800, .inr (.inl (mF N))))] s.heap.size = A at hD ⊢
  have hA : ∀ q : Nat, s.heap.size ≤ q → A q := fun q h => by rw [← hAe]; exact Or.inr h
  have hS : va_S A s.heap s.heap [] := va_S.rf
  have hl := lv_entry ([.ref m0, .int z3, .int (nI b0)]) (n := 3) (Nat.le_of_ble_eq_true rfl)
  rw [lg_entry_eq]
  generalize (lg_sl ([.ref m0, .int z3, .int (nI b0)]) ++ List.replicate (3 - (lg_sl ([.ref m0, .int z3, .int (nI b0)])).length) Slot.unset).toArray = ls at hl ⊢
  have hl : lv_has ls 3 [(0, .ref m0), (1, .int z3), (2, .int (nI b0))] := hl
  refine lv_aload_n hx hb dX7_ofKind_0 rfl (lv_at hl 0 rfl) ?_
  refine lv_iload_n hx hb dX7_ofKind_1 rfl (lv_at hl 1 rfl) ?_
  refine lv_i2l (v := z3.toInt64) hx hb dX7_ofKind_2 (rfl) ?_
  refine lv_lconst (v := lN 0) hx hb dX7_ofKind_3 (by decide) ?_
  refine lv_ldc2 (v := 3) hx hb hown (by exact hts (.constantLong RX7 32 (3)) (List.mem_cons_of_mem _ q_791)) dX7_ofKind_4 ?_
  refine k_tl (show (3) = (lN 3) from by decide) ?_
  refine k_ci (wr := [(m0, .inr (7, [.ref v, .ref a1, .ref a2, .int ik, .int th, .int en])), (v, .inl (cJ, 136800, .inr (.inl (mF N))))]) (w1 := []) (va_runS (As := [.long z3.toInt64, .long (lN 0), .long (lN 3)]) (rest := [.ref m0]) ⟨hx, hb, hml, hown, hts⟩ (c_X7_in0 l D cI cJ cM cG z3.toInt64 (lN 0) (lN 3) s.heap.size (k_over (n := 3) (by omega) hz3)) (va_cwS 3 hts (kB_S (fun _ => List.mem_cons_of_mem _) q_765 q_766 q_670 (kB_c q_767)) rfl rfl rfl (by decide +kernel) ⟨Nat.le_of_ble_eq_true rfl, Nat.le_of_ble_eq_true rfl⟩) (k_preS hP hD hK hKN [] rfl rfl) rfl rfl hl.1 rfl (lv_room (Nat.le_of_ble_eq_true rfl)) dX7_ofKind_7 ⟨Nat.le_of_ble_eq_true rfl, Nat.le_of_ble_eq_true rfl⟩) hP hD hS hA [] [0, 1] rfl rfl rfl (by decide) (fun r7 H locs hw7 hP hD hS => ?_)
  replace hP : va_P D vwCl [(m0, .inr (7, [.ref v, .ref a1, .ref a2, .int ik, .int th, .int en])), (v, .inl (cJ, 136800, .inr (.inl (mF N))))] H := hP
  replace hD : va_D A [(m0, .inr (7, [.ref v, .ref a1, .ref a2, .int ik, .int th, .int en])), (v, .inl (cJ, 136800, .inr (.inl (mF N))))] := hD
  replace hw7 : r7 = nI 0 := hw7
  refine k_ti hw7 ?_
  refine k_if_eq (tgt := 17) hx hb dX7_ofKind_10 (by decide) (by omega) (fun _ => ?_) (fun h9 => absurd h9 (by omega))
  refine lv_iconst (v := nI 1) hx hb dX7_ofKind_17 (by decide) ?_
  refine va_put (D := D) (ci := 7) (v := .int (nI 1)) (ty := .int) (C := RX7) (T := TX7) (N := 6) hx hb hts hin7 tyX7 tyX7_ok nmX7 hown hK hP hD hS 0 rfl rfl 4 (by decide) (hts (.fieldLink RX7 34 "MeshRoutingModel" "thrown" "I") (List.mem_cons_of_mem _ q_760)) (fun _ h9 => h9) rfl (by decide +kernel) rfl rfl (Nat.le_of_ble_eq_true rfl) dX7_ofKind_18 (fun H locs hP hD hS => ?_)
  replace hP : va_P D vwCl [(m0, .inr (7, [.ref v, .ref a1, .ref a2, .int ik, .int (nI 1), .int en])), (v, .inl (cJ, 136800, .inr (.inl (mF N))))] H := hP
  replace hD : va_D A [(m0, .inr (7, [.ref v, .ref a1, .ref a2, .int ik, .int (nI 1), .int en])), (v, .inl (cJ, 136800, .inr (.inl (mF N))))] := hD
  refine lv_iload_n hx hb dX7_ofKind_21 rfl (lv_at hl 1 rfl) ?_
  refine lv_i2l (v := z3.toInt64) hx hb dX7_ofKind_22 (rfl) ?_
  refine lv_lconst (v := lN 0) hx hb dX7_ofKind_23 (by decide) ?_
  refine lv_ldc2 (v := 3) hx hb hown (by exact hts (.constantLong RX7 32 (3)) (List.mem_cons_of_mem _ q_791)) dX7_ofKind_24 ?_
  refine k_tl (show (3) = (lN 3) from by decide) ?_
  refine k_ci (wr := [(m0, .inr (7, [.ref v, .ref a1, .ref a2, .int ik, .int (nI 1), .int en])), (v, .inl (cJ, 136800, .inr (.inl (mF N))))]) (w1 := []) (va_runS (As := [.long z3.toInt64, .long (lN 0), .long (lN 3)]) (rest := []) ⟨hx, hb, hml, hown, hts⟩ (c_X7_in0 l D cI cJ cM cG z3.toInt64 (lN 0) (lN 3) H.size (k_over (n := 3) (by omega) hz3)) (va_cwS 3 hts (kB_S (fun _ => List.mem_cons_of_mem _) q_765 q_766 q_670 (kB_c q_767)) rfl rfl rfl (by decide +kernel) ⟨Nat.le_of_ble_eq_true rfl, Nat.le_of_ble_eq_true rfl⟩) (k_preS hP hD hK hKN [] rfl rfl) rfl rfl hl.1 rfl (lv_room (Nat.le_of_ble_eq_true rfl)) dX7_ofKind_27 ⟨Nat.le_of_ble_eq_true rfl, Nat.le_of_ble_eq_true rfl⟩) hP hD hS hA [] [0, 1] rfl rfl rfl (by decide) (fun r27 H locs hw27 hP hD hS => ?_)
  replace hP : va_P D vwCl [(m0, .inr (7, [.ref v, .ref a1, .ref a2, .int ik, .int (nI 1), .int en])), (v, .inl (cJ, 136800, .inr (.inl (mF N))))] H := hP
  replace hD : va_D A [(m0, .inr (7, [.ref v, .ref a1, .ref a2, .int ik, .int (nI 1), .int en])), (v, .inl (cJ, 136800, .inr (.inl (mF N))))] := hD
  replace hw27 : r27 = nI 0 := hw27
  refine k_ti hw27 ?_
  refine k_if_eq (tgt := 45) hx hb dX7_ofKind_30 (by decide) (by omega) (fun _ => ?_) (fun h9 => absurd h9 (by omega))
  refine lv_iconst (v := nI 0) hx hb dX7_ofKind_45 (by decide) ?_
  have hP9 := hP.sub (ws' := [(m0, .inr (7, [.ref v, .ref a1, .ref a2, .int ik, .int (nI 1), .int en]))]) [0] rfl
  have hD9 := hD.sub (ws' := [(m0, .inr (7, [.ref v, .ref a1, .ref a2, .int ik, .int (nI 1), .int en]))]) [0] rfl rfl
  exact W.iret (v := nI 0) hx hb hr (fun t9 ht9 hW9 => ⟨⟨nI 0, (), rfl, rfl, by rw [ht9]; exact hP9, hD9⟩, hS.F ht9⟩) hS.2.2 dX7_ofKind_46

set_option maxHeartbeats 4000000 in
set_option maxRecDepth 100000 in
theorem c_M_inFlight1 (l : Launch) (D : va_G) (cI cJ cM cG : ClassId) (m0 : Nat) (v : Nat) (a1 : Nat) (a2 : Nat) (ik : Int32) (th : Int32) (en : Int32) (N : Nat) (kd : Nat) (sz : Nat) (hN : N ≤ 10) (hN0 : 0 < N) (hk : kd < 4) : Met l yX7_inFlight (Cond.code yX7_inFlight cX7_inFlight 2 (some .int) :: kBig) ({ frames := 2, cells := 0, slots := 0, locals := 47 }) (va_Pc [.ref m0, .int (nI kd)] (kP D [(cI, .int), (cJ, .long), (cM, .object "MeshRouting$Message"), (cG, .array .int)] [(m0, .inr (7, [.ref v, .ref a1, .ref a2, .int ik, .int th, .int en])), (v, .inl (cJ, 136800, .inr (.inl (mF N))))] sz)) (va_Qi (fun (r : Int32) (_ : Unit) => r = nI 0) (fun _ t9 => kB D (va_A [(m0, .inr (7, [.ref v, .ref a1, .ref a2, .int ik, .int th, .int en])), (v, .inl (cJ, 136800, .inr (.inl (mF N))))] sz) [(m0, .inr (7, [.ref v, .ref a1, .ref a2, .int ik, .int (nI 0), .int en]))] t9) (va_A [(m0, .inr (7, [.ref v, .ref a1, .ref a2, .int ik, .int th, .int en])), (v, .inl (cJ, 136800, .inr (.inl (mF N))))] sz)) 0 0 (va_A [(m0, .inr (7, [.ref v, .ref a1, .ref a2, .int ik, .int th, .int en])), (v, .inl (cJ, 136800, .inr (.inl (mF N))))] sz) := by
  refine Met.ofW (cc := cX7_inFlight) (maxL := 2) (ret := (some .int)) (by decide) rfl ?_
  intro p e s m args below meth c s₁ B hml hv
  obtain ⟨rfl, hsz, hP, hK, hD0, hKN⟩ := hv
  have hx := B.exec
  have hb := B.bytes
  have hr := B.returns
  have hts := atoms_spec (ws := (Cond.code yX7_inFlight cX7_inFlight 2 (some .int) :: kBig)) B.pre
  have hown : s.vm.findClass RX7 = some m.cls := findClass_of_methodNamed B.named
  have hlocks := B.notSynchronized
  subst hsz
  have hD := hD0.self (sz := s.heap.size)
  generalize hAe : va_A [(m0, .inr (7, [.ref v, .ref a1, .ref a2, .int ik, .int th, .int en])), (v, .inl (cJ, 136800, .inr (.inl (mF N))))] s.heap.size = A at hD ⊢
  have hA : ∀ q : Nat, s.heap.size ≤ q → A q := fun q h => by rw [← hAe]; exact Or.inr h
  have hS : va_S A s.heap s.heap [] := va_S.rf
  have hl := lv_entry ([.ref m0, .int (nI kd)]) (n := 2) (Nat.le_of_ble_eq_true rfl)
  rw [lg_entry_eq]
  generalize (lg_sl ([.ref m0, .int (nI kd)]) ++ List.replicate (2 - (lg_sl ([.ref m0, .int (nI kd)])).length) Slot.unset).toArray = ls at hl ⊢
  have hl : lv_has ls 2 [(0, .ref m0), (1, .int (nI kd))] := hl
  refine lv_aload_n hx hb dX7_inFlight_0 rfl (lv_at hl 0 rfl) ?_
  refine lv_iload_n hx hb dX7_inFlight_1 rfl (lv_at hl 1 rfl) ?_
  refine lv_bipush (v := nI 6) hx hb dX7_inFlight_2 (by decide) ?_
  refine k_ci (wr := []) (w1 := [(m0, .inr (7, [.ref v, .ref a1, .ref a2, .int ik, .int (nI 0), .int en]))]) (va_runV (As := [.int (nI kd), .int (nI 6)]) (rest := []) ⟨hx, hb, hml, hown, hts⟩ (c_M_ofKind1 l D cI cJ cM cG m0 v a1 a2 ik th en N kd 6 s.heap.size (hN) (hN0) (hk) (by omega)) (cwV 2 hts (kB_V (fun _ => List.mem_cons_of_mem _) q_908 q_909 q_910 q_670 (kB_c q_911)) rfl rfl rfl (by decide +kernel) ⟨Nat.le_of_ble_eq_true rfl, Nat.le_of_ble_eq_true rfl⟩) (k_preV (T := TX7) hP hD hK hKN [0, 1] rfl rfl (ci := 7) rfl (q0 := 0) rfl) rfl rfl hl.1 rfl (lv_room (Nat.le_of_ble_eq_true rfl)) dX7_inFlight_4 ⟨Nat.le_of_ble_eq_true rfl, Nat.le_of_ble_eq_true rfl⟩) hP hD hS hA [0, 1] [] rfl rfl rfl (by decide) (fun r4 H locs hw4 hP hD hS => ?_)
  replace hP : va_P D vwCl [(m0, .inr (7, [.ref v, .ref a1, .ref a2, .int ik, .int (nI 0), .int en]))] H := hP
  replace hD : va_D A [(m0, .inr (7, [.ref v, .ref a1, .ref a2, .int ik, .int (nI 0), .int en]))] := hD
  replace hw4 : r4 = nI 0 := hw4
  refine k_ti hw4 ?_
  have hP9 := hP.sub (ws' := [(m0, .inr (7, [.ref v, .ref a1, .ref a2, .int ik, .int (nI 0), .int en]))]) [0] rfl
  have hD9 := hD.sub (ws' := [(m0, .inr (7, [.ref v, .ref a1, .ref a2, .int ik, .int (nI 0), .int en]))]) [0] rfl rfl
  exact W.iret (v := nI 0) hx hb hr (fun t9 ht9 hW9 => ⟨⟨nI 0, (), rfl, rfl, by rw [ht9]; exact hP9, hD9⟩, hS.F ht9⟩) hS.2.2 dX7_inFlight_7

set_option maxHeartbeats 4000000 in
set_option maxRecDepth 100000 in
theorem c_M_inFlight0 (l : Launch) (D : va_G) (cI cJ cM cG : ClassId) (m0 : Nat) (v : Nat) (a1 : Nat) (a2 : Nat) (ik : Int32) (th : Int32) (en : Int32) (N : Nat) (z3 : Int32) (sz : Nat) (hN : N ≤ 10) (hN0 : 0 < N) (hz3 : z3 < 0 ∨ nI (3 + 1) ≤ z3) : Met l yX7_inFlight (Cond.code yX7_inFlight cX7_inFlight 2 (some .int) :: kBig) ({ frames := 2, cells := 0, slots := 0, locals := 47 }) (va_Pc [.ref m0, .int z3] (kP D [(cI, .int), (cJ, .long), (cM, .object "MeshRouting$Message"), (cG, .array .int)] [(m0, .inr (7, [.ref v, .ref a1, .ref a2, .int ik, .int th, .int en])), (v, .inl (cJ, 136800, .inr (.inl (mF N))))] sz)) (va_Qi (fun (r : Int32) (_ : Unit) => r = nI 0) (fun _ t9 => kB D (va_A [(m0, .inr (7, [.ref v, .ref a1, .ref a2, .int ik, .int th, .int en])), (v, .inl (cJ, 136800, .inr (.inl (mF N))))] sz) [(m0, .inr (7, [.ref v, .ref a1, .ref a2, .int ik, .int (nI 1), .int en]))] t9) (va_A [(m0, .inr (7, [.ref v, .ref a1, .ref a2, .int ik, .int th, .int en])), (v, .inl (cJ, 136800, .inr (.inl (mF N))))] sz)) 0 0 (va_A [(m0, .inr (7, [.ref v, .ref a1, .ref a2, .int ik, .int th, .int en])), (v, .inl (cJ, 136800, .inr (.inl (mF N))))] sz) := by
  refine Met.ofW (cc := cX7_inFlight) (maxL := 2) (ret := (some .int)) (by decide) rfl ?_
  intro p e s m args below meth c s₁ B hml hv
  obtain ⟨rfl, hsz, hP, hK, hD0, hKN⟩ := hv
  have hx := B.exec
  have hb := B.bytes
  have hr := B.returns
  have hts := atoms_spec (ws := (Cond.code yX7_inFlight cX7_inFlight 2 (some .int) :: kBig)) B.pre
  have hown : s.vm.findClass RX7 = some m.cls := findClass_of_methodNamed B.named
  have hlocks := B.notSynchronized
  subst hsz
  have hD := hD0.self (sz := s.heap.size)
  generalize hAe : va_A [(m0, .inr (7, [.ref v, .ref a1, .ref a2, .int ik, .int th, .int en])), (v, .inl (cJ, 136800, .inr (.inl (mF N))))] s.heap.size = A at hD ⊢
  have hA : ∀ q : Nat, s.heap.size ≤ q → A q := fun q h => by rw [← hAe]; exact Or.inr h
  have hS : va_S A s.heap s.heap [] := va_S.rf
  have hl := lv_entry ([.ref m0, .int z3]) (n := 2) (Nat.le_of_ble_eq_true rfl)
  rw [lg_entry_eq]
  generalize (lg_sl ([.ref m0, .int z3]) ++ List.replicate (2 - (lg_sl ([.ref m0, .int z3])).length) Slot.unset).toArray = ls at hl ⊢
  have hl : lv_has ls 2 [(0, .ref m0), (1, .int z3)] := hl
  refine lv_aload_n hx hb dX7_inFlight_0 rfl (lv_at hl 0 rfl) ?_
  refine lv_iload_n hx hb dX7_inFlight_1 rfl (lv_at hl 1 rfl) ?_
  refine lv_bipush (v := nI 6) hx hb dX7_inFlight_2 (by decide) ?_
  refine k_ci (wr := []) (w1 := [(m0, .inr (7, [.ref v, .ref a1, .ref a2, .int ik, .int (nI 1), .int en]))]) (va_runV (As := [.int z3, .int (nI 6)]) (rest := []) ⟨hx, hb, hml, hown, hts⟩ (c_M_ofKind0 l D cI cJ cM cG m0 v a1 a2 ik th en N z3 6 s.heap.size (hN) (hN0) (hz3)) (cwV 2 hts (kB_V (fun _ => List.mem_cons_of_mem _) q_908 q_909 q_910 q_670 (kB_c q_911)) rfl rfl rfl (by decide +kernel) ⟨Nat.le_of_ble_eq_true rfl, Nat.le_of_ble_eq_true rfl⟩) (k_preV (T := TX7) hP hD hK hKN [0, 1] rfl rfl (ci := 7) rfl (q0 := 0) rfl) rfl rfl hl.1 rfl (lv_room (Nat.le_of_ble_eq_true rfl)) dX7_inFlight_4 ⟨Nat.le_of_ble_eq_true rfl, Nat.le_of_ble_eq_true rfl⟩) hP hD hS hA [0, 1] [] rfl rfl rfl (by decide) (fun r4 H locs hw4 hP hD hS => ?_)
  replace hP : va_P D vwCl [(m0, .inr (7, [.ref v, .ref a1, .ref a2, .int ik, .int (nI 1), .int en]))] H := hP
  replace hD : va_D A [(m0, .inr (7, [.ref v, .ref a1, .ref a2, .int ik, .int (nI 1), .int en]))] := hD
  replace hw4 : r4 = nI 0 := hw4
  refine k_ti hw4 ?_
  have hP9 := hP.sub (ws' := [(m0, .inr (7, [.ref v, .ref a1, .ref a2, .int ik, .int (nI 1), .int en]))]) [0] rfl
  have hD9 := hD.sub (ws' := [(m0, .inr (7, [.ref v, .ref a1, .ref a2, .int ik, .int (nI 1), .int en]))]) [0] rfl rfl
  exact W.iret (v := nI 0) hx hb hr (fun t9 ht9 hW9 => ⟨⟨nI 0, (), rfl, rfl, by rw [ht9]; exact hP9, hD9⟩, hS.F ht9⟩) hS.2.2 dX7_inFlight_7

set_option maxHeartbeats 4000000 in
set_option maxRecDepth 100000 in
theorem c_M_sent1 (l : Launch) (D : va_G) (cI cJ cM cG : ClassId) (m0 : Nat) (v : Nat) (a1 : Nat) (a2 : Nat) (ik : Int32) (th : Int32) (en : Int32) (N : Nat) (kd : Nat) (sz : Nat) (hN : N ≤ 10) (hN0 : 0 < N) (hk : kd < 4) : Met l yX7_sent (Cond.code yX7_sent cX7_sent 2 (some .int) :: kBig) ({ frames := 2, cells := 0, slots := 0, locals := 47 }) (va_Pc [.ref m0, .int (nI kd)] (kP D [(cI, .int), (cJ, .long), (cM, .object "MeshRouting$Message"), (cG, .array .int)] [(m0, .inr (7, [.ref v, .ref a1, .ref a2, .int ik, .int th, .int en])), (v, .inl (cJ, 136800, .inr (.inl (mF N))))] sz)) (va_Qi (fun (r : Int32) (_ : Unit) => r = nI 0) (fun _ t9 => kB D (va_A [(m0, .inr (7, [.ref v, .ref a1, .ref a2, .int ik, .int th, .int en])), (v, .inl (cJ, 136800, .inr (.inl (mF N))))] sz) [(m0, .inr (7, [.ref v, .ref a1, .ref a2, .int ik, .int (nI 0), .int en]))] t9) (va_A [(m0, .inr (7, [.ref v, .ref a1, .ref a2, .int ik, .int th, .int en])), (v, .inl (cJ, 136800, .inr (.inl (mF N))))] sz)) 0 0 (va_A [(m0, .inr (7, [.ref v, .ref a1, .ref a2, .int ik, .int th, .int en])), (v, .inl (cJ, 136800, .inr (.inl (mF N))))] sz) := by
  refine Met.ofW (cc := cX7_sent) (maxL := 2) (ret := (some .int)) (by decide) rfl ?_
  intro p e s m args below meth c s₁ B hml hv
  obtain ⟨rfl, hsz, hP, hK, hD0, hKN⟩ := hv
  have hx := B.exec
  have hb := B.bytes
  have hr := B.returns
  have hts := atoms_spec (ws := (Cond.code yX7_sent cX7_sent 2 (some .int) :: kBig)) B.pre
  have hown : s.vm.findClass RX7 = some m.cls := findClass_of_methodNamed B.named
  have hlocks := B.notSynchronized
  subst hsz
  have hD := hD0.self (sz := s.heap.size)
  generalize hAe : va_A [(m0, .inr (7, [.ref v, .ref a1, .ref a2, .int ik, .int th, .int en])), (v, .inl (cJ, 136800, .inr (.inl (mF N))))] s.heap.size = A at hD ⊢
  have hA : ∀ q : Nat, s.heap.size ≤ q → A q := fun q h => by rw [← hAe]; exact Or.inr h
  have hS : va_S A s.heap s.heap [] := va_S.rf
  have hl := lv_entry ([.ref m0, .int (nI kd)]) (n := 2) (Nat.le_of_ble_eq_true rfl)
  rw [lg_entry_eq]
  generalize (lg_sl ([.ref m0, .int (nI kd)]) ++ List.replicate (2 - (lg_sl ([.ref m0, .int (nI kd)])).length) Slot.unset).toArray = ls at hl ⊢
  have hl : lv_has ls 2 [(0, .ref m0), (1, .int (nI kd))] := hl
  refine lv_aload_n hx hb dX7_sent_0 rfl (lv_at hl 0 rfl) ?_
  refine lv_iload_n hx hb dX7_sent_1 rfl (lv_at hl 1 rfl) ?_
  refine lv_iconst (v := nI 2) hx hb dX7_sent_2 (by decide) ?_
  refine k_ci (wr := []) (w1 := [(m0, .inr (7, [.ref v, .ref a1, .ref a2, .int ik, .int (nI 0), .int en]))]) (va_runV (As := [.int (nI kd), .int (nI 2)]) (rest := []) ⟨hx, hb, hml, hown, hts⟩ (c_M_ofKind1 l D cI cJ cM cG m0 v a1 a2 ik th en N kd 2 s.heap.size (hN) (hN0) (hk) (by omega)) (cwV 2 hts (kB_V (fun _ => List.mem_cons_of_mem _) q_908 q_909 q_910 q_670 (kB_c q_911)) rfl rfl rfl (by decide +kernel) ⟨Nat.le_of_ble_eq_true rfl, Nat.le_of_ble_eq_true rfl⟩) (k_preV (T := TX7) hP hD hK hKN [0, 1] rfl rfl (ci := 7) rfl (q0 := 0) rfl) rfl rfl hl.1 rfl (lv_room (Nat.le_of_ble_eq_true rfl)) dX7_sent_3 ⟨Nat.le_of_ble_eq_true rfl, Nat.le_of_ble_eq_true rfl⟩) hP hD hS hA [0, 1] [] rfl rfl rfl (by decide) (fun r3 H locs hw3 hP hD hS => ?_)
  replace hP : va_P D vwCl [(m0, .inr (7, [.ref v, .ref a1, .ref a2, .int ik, .int (nI 0), .int en]))] H := hP
  replace hD : va_D A [(m0, .inr (7, [.ref v, .ref a1, .ref a2, .int ik, .int (nI 0), .int en]))] := hD
  replace hw3 : r3 = nI 0 := hw3
  refine k_ti hw3 ?_
  have hP9 := hP.sub (ws' := [(m0, .inr (7, [.ref v, .ref a1, .ref a2, .int ik, .int (nI 0), .int en]))]) [0] rfl
  have hD9 := hD.sub (ws' := [(m0, .inr (7, [.ref v, .ref a1, .ref a2, .int ik, .int (nI 0), .int en]))]) [0] rfl rfl
  exact W.iret (v := nI 0) hx hb hr (fun t9 ht9 hW9 => ⟨⟨nI 0, (), rfl, rfl, by rw [ht9]; exact hP9, hD9⟩, hS.F ht9⟩) hS.2.2 dX7_sent_6

set_option maxHeartbeats 4000000 in
set_option maxRecDepth 100000 in
theorem c_M_sent0 (l : Launch) (D : va_G) (cI cJ cM cG : ClassId) (m0 : Nat) (v : Nat) (a1 : Nat) (a2 : Nat) (ik : Int32) (th : Int32) (en : Int32) (N : Nat) (z3 : Int32) (sz : Nat) (hN : N ≤ 10) (hN0 : 0 < N) (hz3 : z3 < 0 ∨ nI (3 + 1) ≤ z3) : Met l yX7_sent (Cond.code yX7_sent cX7_sent 2 (some .int) :: kBig) ({ frames := 2, cells := 0, slots := 0, locals := 47 }) (va_Pc [.ref m0, .int z3] (kP D [(cI, .int), (cJ, .long), (cM, .object "MeshRouting$Message"), (cG, .array .int)] [(m0, .inr (7, [.ref v, .ref a1, .ref a2, .int ik, .int th, .int en])), (v, .inl (cJ, 136800, .inr (.inl (mF N))))] sz)) (va_Qi (fun (r : Int32) (_ : Unit) => r = nI 0) (fun _ t9 => kB D (va_A [(m0, .inr (7, [.ref v, .ref a1, .ref a2, .int ik, .int th, .int en])), (v, .inl (cJ, 136800, .inr (.inl (mF N))))] sz) [(m0, .inr (7, [.ref v, .ref a1, .ref a2, .int ik, .int (nI 1), .int en]))] t9) (va_A [(m0, .inr (7, [.ref v, .ref a1, .ref a2, .int ik, .int th, .int en])), (v, .inl (cJ, 136800, .inr (.inl (mF N))))] sz)) 0 0 (va_A [(m0, .inr (7, [.ref v, .ref a1, .ref a2, .int ik, .int th, .int en])), (v, .inl (cJ, 136800, .inr (.inl (mF N))))] sz) := by
  refine Met.ofW (cc := cX7_sent) (maxL := 2) (ret := (some .int)) (by decide) rfl ?_
  intro p e s m args below meth c s₁ B hml hv
  obtain ⟨rfl, hsz, hP, hK, hD0, hKN⟩ := hv
  have hx := B.exec
  have hb := B.bytes
  have hr := B.returns
  have hts := atoms_spec (ws := (Cond.code yX7_sent cX7_sent 2 (some .int) :: kBig)) B.pre
  have hown : s.vm.findClass RX7 = some m.cls := findClass_of_methodNamed B.named
  have hlocks := B.notSynchronized
  subst hsz
  have hD := hD0.self (sz := s.heap.size)
  generalize hAe : va_A [(m0, .inr (7, [.ref v, .ref a1, .ref a2, .int ik, .int th, .int en])), (v, .inl (cJ, 136800, .inr (.inl (mF N))))] s.heap.size = A at hD ⊢
  have hA : ∀ q : Nat, s.heap.size ≤ q → A q := fun q h => by rw [← hAe]; exact Or.inr h
  have hS : va_S A s.heap s.heap [] := va_S.rf
  have hl := lv_entry ([.ref m0, .int z3]) (n := 2) (Nat.le_of_ble_eq_true rfl)
  rw [lg_entry_eq]
  generalize (lg_sl ([.ref m0, .int z3]) ++ List.replicate (2 - (lg_sl ([.ref m0, .int z3])).length) Slot.unset).toArray = ls at hl ⊢
  have hl : lv_has ls 2 [(0, .ref m0), (1, .int z3)] := hl
  refine lv_aload_n hx hb dX7_sent_0 rfl (lv_at hl 0 rfl) ?_
  refine lv_iload_n hx hb dX7_sent_1 rfl (lv_at hl 1 rfl) ?_
  refine lv_iconst (v := nI 2) hx hb dX7_sent_2 (by decide) ?_
  refine k_ci (wr := []) (w1 := [(m0, .inr (7, [.ref v, .ref a1, .ref a2, .int ik, .int (nI 1), .int en]))]) (va_runV (As := [.int z3, .int (nI 2)]) (rest := []) ⟨hx, hb, hml, hown, hts⟩ (c_M_ofKind0 l D cI cJ cM cG m0 v a1 a2 ik th en N z3 2 s.heap.size (hN) (hN0) (hz3)) (cwV 2 hts (kB_V (fun _ => List.mem_cons_of_mem _) q_908 q_909 q_910 q_670 (kB_c q_911)) rfl rfl rfl (by decide +kernel) ⟨Nat.le_of_ble_eq_true rfl, Nat.le_of_ble_eq_true rfl⟩) (k_preV (T := TX7) hP hD hK hKN [0, 1] rfl rfl (ci := 7) rfl (q0 := 0) rfl) rfl rfl hl.1 rfl (lv_room (Nat.le_of_ble_eq_true rfl)) dX7_sent_3 ⟨Nat.le_of_ble_eq_true rfl, Nat.le_of_ble_eq_true rfl⟩) hP hD hS hA [0, 1] [] rfl rfl rfl (by decide) (fun r3 H locs hw3 hP hD hS => ?_)
  replace hP : va_P D vwCl [(m0, .inr (7, [.ref v, .ref a1, .ref a2, .int ik, .int (nI 1), .int en]))] H := hP
  replace hD : va_D A [(m0, .inr (7, [.ref v, .ref a1, .ref a2, .int ik, .int (nI 1), .int en]))] := hD
  replace hw3 : r3 = nI 0 := hw3
  refine k_ti hw3 ?_
  have hP9 := hP.sub (ws' := [(m0, .inr (7, [.ref v, .ref a1, .ref a2, .int ik, .int (nI 1), .int en]))]) [0] rfl
  have hD9 := hD.sub (ws' := [(m0, .inr (7, [.ref v, .ref a1, .ref a2, .int ik, .int (nI 1), .int en]))]) [0] rfl rfl
  exact W.iret (v := nI 0) hx hb hr (fun t9 ht9 hW9 => ⟨⟨nI 0, (), rfl, rfl, by rw [ht9]; exact hP9, hD9⟩, hS.F ht9⟩) hS.2.2 dX7_sent_6

set_option maxHeartbeats 4000000 in
set_option maxRecDepth 100000 in
theorem c_M_ofPacket0 (l : Launch) (D : va_G) (cI cJ cM cG : ClassId) (m0 : Nat) (v : Nat) (a1 : Nat) (a2 : Nat) (ik : Int32) (th : Int32) (en : Int32) (N : Nat) (z3 : Int32) (wh : Nat) (sz : Nat) (hN : N ≤ 10) (hN0 : 0 < N) : Met l yX7_ofPacket (Cond.code yX7_ofPacket cX7_ofPacket 3 (some .int) :: kBig) ({ frames := 1, cells := 0, slots := 0, locals := 25 }) (va_Pc [.ref m0, .int z3, .int (nI wh)] (kP D [(cI, .int), (cJ, .long), (cM, .object "MeshRouting$Message"), (cG, .array .int)] [(m0, .inr (7, [.ref v, .ref a1, .ref a2, .int ik, .int th, .int en])), (v, .inl (cJ, 136800, .inr (.inl (mF N))))] sz)) (va_Qi (fun (r : Int32) (_ : Unit) => r = nI 0) (fun _ t9 => kB D (va_A [(m0, .inr (7, [.ref v, .ref a1, .ref a2, .int ik, .int th, .int en])), (v, .inl (cJ, 136800, .inr (.inl (mF N))))] sz) [(m0, .inr (7, [.ref v, .ref a1, .ref a2, .int ik, .int (nI 1), .int en]))] t9) (va_A [(m0, .inr (7, [.ref v, .ref a1, .ref a2, .int ik, .int th, .int en])), (v, .inl (cJ, 136800, .inr (.inl (mF N))))] sz)) 0 0 (va_A [(m0, .inr (7, [.ref v, .ref a1, .ref a2, .int ik, .int th, .int en])), (v, .inl (cJ, 136800, .inr (.inl (mF N))))] sz) := by
  refine Met.ofW (cc := cX7_ofPacket) (maxL := 3) (ret := (some .int)) (by decide) rfl ?_
  intro p e s m args below meth c s₁ B hml hv
  obtain ⟨rfl, hsz, hP, hK, hD0, hKN⟩ := hv
  have hx := B.exec
  have hb := B.bytes
  have hr := B.returns
  have hts := atoms_spec (ws := (Cond.code yX7_ofPacket cX7_ofPacket 3 (some .int) :: kBig)) B.pre
  have hown : s.vm.findClass RX7 = some m.cls := findClass_of_methodNamed B.named
  have hlocks := B.notSynchronized
  have hin7 : ∀ w ∈ u_ws RX7 TX7 6, w ∈ (Cond.code yX7_ofPacket cX7_ofPacket 3 (some .int) :: kBig) := fun w h => List.mem_cons_of_mem _ (inb7 w h)
  subst hsz
  have hD := hD0.self (sz := s.heap.size)
  generalize hAe : va_A [(m0, .inr (7, [.ref v, .ref a1, .ref a2, .int ik, .int th, .int en])), (v, .inl (cJ, 136800, .inr (.inl (mF N))))] s.heap.size = A at hD ⊢
  have hA : ∀ q : Nat, s.heap.size ≤ q → A q := fun q h => by rw [← hAe]; exact Or.inr h
  have hS : va_S A s.heap s.heap [] := va_S.rf
  have hl := lv_entry ([.ref m0, .int z3, .int (nI wh)]) (n := 3) (Nat.le_of_ble_eq_true rfl)
  rw [lg_entry_eq]
  generalize (lg_sl ([.ref m0, .int z3, .int (nI wh)]) ++ List.replicate (3 - (lg_sl ([.ref m0, .int z3, .int (nI wh)])).length) Slot.unset).toArray = ls at hl ⊢
  have hl : lv_has ls 3 [(0, .ref m0), (1, .int z3), (2, .int (nI wh))] := hl
  refine lv_aload_n hx hb dX7_ofPacket_0 rfl (lv_at hl 0 rfl) ?_
  refine lv_iload_n hx hb dX7_ofPacket_1 rfl (lv_at hl 1 rfl) ?_
  refine lv_i2l (v := z3.toInt64) hx hb dX7_ofPacket_2 (rfl) ?_
  refine lv_lconst (v := lN 0) hx hb dX7_ofPacket_3 (by decide) ?_
  refine lv_aload_n hx hb dX7_ofPacket_4 rfl (lv_at hl 0 rfl) ?_
  refine va_get (D := D) (ci := 7) (v := .ref v) (C := RX7) (T := TX7) (N := 6) hx hb hts hin7 hown hK hP 0 rfl rfl 0 (by decide) (hts (.fieldLink RX7 8 "MeshRoutingModel" "v" "[J") (List.mem_cons_of_mem _ q_665)) (fun _ h9 => h9) rfl dX7_ofPacket_5 ?_
  refine lv_bipush (v := nI 10) hx hb dX7_ofPacket_8 (by decide) ?_
  refine k_lald (v := lN 0) hx hb hK hP 1 1 rfl rfl (by omega) (by omega) ((mF_o (by omega) (by omega) (by omega))) dX7_ofPacket_10 ?_
  refine lv_lconst (v := lN 1) hx hb dX7_ofPacket_11 (by decide) ?_
  refine lv_lsub hx hb dX7_ofPacket_12 ?_
  refine k_tl (show ((lN 0) - (lN 1)) = ((-1)) from by decide) ?_
  refine k_ci (wr := [(m0, .inr (7, [.ref v, .ref a1, .ref a2, .int ik, .int th, .int en])), (v, .inl (cJ, 136800, .inr (.inl (mF N))))]) (w1 := []) (va_runS (As := [.long z3.toInt64, .long (lN 0), .long (-1)]) (rest := [.ref m0]) ⟨hx, hb, hml, hown, hts⟩ (c_X7_in0 l D cI cJ cM cG z3.toInt64 (lN 0) (-1) s.heap.size (k_any z3)) (va_cwS 3 hts (kB_S (fun _ => List.mem_cons_of_mem _) q_765 q_766 q_670 (kB_c q_767)) rfl rfl rfl (by decide +kernel) ⟨Nat.le_of_ble_eq_true rfl, Nat.le_of_ble_eq_true rfl⟩) (k_preS hP hD hK hKN [] rfl rfl) rfl rfl hl.1 rfl (lv_room (Nat.le_of_ble_eq_true rfl)) dX7_ofPacket_13 ⟨Nat.le_of_ble_eq_true rfl, Nat.le_of_ble_eq_true rfl⟩) hP hD hS hA [] [0, 1] rfl rfl rfl (by decide) (fun r13 H locs hw13 hP hD hS => ?_)
  replace hP : va_P D vwCl [(m0, .inr (7, [.ref v, .ref a1, .ref a2, .int ik, .int th, .int en])), (v, .inl (cJ, 136800, .inr (.inl (mF N))))] H := hP
  replace hD : va_D A [(m0, .inr (7, [.ref v, .ref a1, .ref a2, .int ik, .int th, .int en])), (v, .inl (cJ, 136800, .inr (.inl (mF N))))] := hD
  replace hw13 : r13 = nI 0 := hw13
  refine k_ti hw13 ?_
  refine k_if_eq (tgt := 23) hx hb dX7_ofPacket_16 (by decide) (by omega) (fun _ => ?_) (fun h9 => absurd h9 (by omega))
  refine lv_iconst (v := nI 1) hx hb dX7_ofPacket_23 (by decide) ?_
  refine va_put (D := D) (ci := 7) (v := .int (nI 1)) (ty := .int) (C := RX7) (T := TX7) (N := 6) hx hb hts hin7 tyX7 tyX7_ok nmX7 hown hK hP hD hS 0 rfl rfl 4 (by decide) (hts (.fieldLink RX7 34 "MeshRoutingModel" "thrown" "I") (List.mem_cons_of_mem _ q_760)) (fun _ h9 => h9) rfl (by decide +kernel) rfl rfl (Nat.le_of_ble_eq_true rfl) dX7_ofPacket_24 (fun H locs hP hD hS => ?_)
  replace hP : va_P D vwCl [(m0, .inr (7, [.ref v, .ref a1, .ref a2, .int ik, .int (nI 1), .int en])), (v, .inl (cJ, 136800, .inr (.inl (mF N))))] H := hP
  replace hD : va_D A [(m0, .inr (7, [.ref v, .ref a1, .ref a2, .int ik, .int (nI 1), .int en])), (v, .inl (cJ, 136800, .inr (.inl (mF N))))] := hD
  refine lv_aload_n hx hb dX7_ofPacket_27 rfl (lv_at hl 0 rfl) ?_
  refine va_get (D := D) (ci := 7) (v := .int (nI 1)) (C := RX7) (T := TX7) (N := 6) hx hb hts hin7 hown hK hP 0 rfl rfl 4 (by decide) (hts (.fieldLink RX7 34 "MeshRoutingModel" "thrown" "I") (List.mem_cons_of_mem _ q_760)) (fun _ h9 => h9) rfl dX7_ofPacket_28 ?_
  refine k_if_ne (tgt := 49) hx hb dX7_ofPacket_31 (by decide) (by omega) (fun _ => ?_) (fun h9 => absurd h9 (by omega))
  refine lv_iconst (v := nI 0) hx hb dX7_ofPacket_49 (by decide) ?_
  have hP9 := hP.sub (ws' := [(m0, .inr (7, [.ref v, .ref a1, .ref a2, .int ik, .int (nI 1), .int en]))]) [0] rfl
  have hD9 := hD.sub (ws' := [(m0, .inr (7, [.ref v, .ref a1, .ref a2, .int ik, .int (nI 1), .int en]))]) [0] rfl rfl
  exact W.iret (v := nI 0) hx hb hr (fun t9 ht9 hW9 => ⟨⟨nI 0, (), rfl, rfl, by rw [ht9]; exact hP9, hD9⟩, hS.F ht9⟩) hS.2.2 dX7_ofPacket_50

set_option maxHeartbeats 4000000 in
set_option maxRecDepth 100000 in
theorem c_M_stateOf0 (l : Launch) (D : va_G) (cI cJ cM cG : ClassId) (m0 : Nat) (v : Nat) (a1 : Nat) (a2 : Nat) (ik : Int32) (th : Int32) (en : Int32) (N : Nat) (z3 : Int32) (sz : Nat) (hN : N ≤ 10) (hN0 : 0 < N) : Met l yX7_stateOf (Cond.code yX7_stateOf cX7_stateOf 2 (some .int) :: kBig) ({ frames := 2, cells := 0, slots := 0, locals := 47 }) (va_Pc [.ref m0, .int z3] (kP D [(cI, .int), (cJ, .long), (cM, .object "MeshRouting$Message"), (cG, .array .int)] [(m0, .inr (7, [.ref v, .ref a1, .ref a2, .int ik, .int th, .int en])), (v, .inl (cJ, 136800, .inr (.inl (mF N))))] sz)) (va_Qi (fun (r : Int32) (_ : Unit) => r = nI 0) (fun _ t9 => kB D (va_A [(m0, .inr (7, [.ref v, .ref a1, .ref a2, .int ik, .int th, .int en])), (v, .inl (cJ, 136800, .inr (.inl (mF N))))] sz) [(m0, .inr (7, [.ref v, .ref a1, .ref a2, .int ik, .int (nI 1), .int en]))] t9) (va_A [(m0, .inr (7, [.ref v, .ref a1, .ref a2, .int ik, .int th, .int en])), (v, .inl (cJ, 136800, .inr (.inl (mF N))))] sz)) 0 0 (va_A [(m0, .inr (7, [.ref v, .ref a1, .ref a2, .int ik, .int th, .int en])), (v, .inl (cJ, 136800, .inr (.inl (mF N))))] sz) := by
  refine Met.ofW (cc := cX7_stateOf) (maxL := 2) (ret := (some .int)) (by decide) rfl ?_
  intro p e s m args below meth c s₁ B hml hv
  obtain ⟨rfl, hsz, hP, hK, hD0, hKN⟩ := hv
  have hx := B.exec
  have hb := B.bytes
  have hr := B.returns
  have hts := atoms_spec (ws := (Cond.code yX7_stateOf cX7_stateOf 2 (some .int) :: kBig)) B.pre
  have hown : s.vm.findClass RX7 = some m.cls := findClass_of_methodNamed B.named
  have hlocks := B.notSynchronized
  subst hsz
  have hD := hD0.self (sz := s.heap.size)
  generalize hAe : va_A [(m0, .inr (7, [.ref v, .ref a1, .ref a2, .int ik, .int th, .int en])), (v, .inl (cJ, 136800, .inr (.inl (mF N))))] s.heap.size = A at hD ⊢
  have hA : ∀ q : Nat, s.heap.size ≤ q → A q := fun q h => by rw [← hAe]; exact Or.inr h
  have hS : va_S A s.heap s.heap [] := va_S.rf
  have hl := lv_entry ([.ref m0, .int z3]) (n := 2) (Nat.le_of_ble_eq_true rfl)
  rw [lg_entry_eq]
  generalize (lg_sl ([.ref m0, .int z3]) ++ List.replicate (2 - (lg_sl ([.ref m0, .int z3])).length) Slot.unset).toArray = ls at hl ⊢
  have hl : lv_has ls 2 [(0, .ref m0), (1, .int z3)] := hl
  refine lv_aload_n hx hb dX7_stateOf_0 rfl (lv_at hl 0 rfl) ?_
  refine lv_iload_n hx hb dX7_stateOf_1 rfl (lv_at hl 1 rfl) ?_
  refine lv_iconst (v := nI 2) hx hb dX7_stateOf_2 (by decide) ?_
  refine k_ci (wr := []) (w1 := [(m0, .inr (7, [.ref v, .ref a1, .ref a2, .int ik, .int (nI 1), .int en]))]) (va_runV (As := [.int z3, .int (nI 2)]) (rest := []) ⟨hx, hb, hml, hown, hts⟩ (c_M_ofPacket0 l D cI cJ cM cG m0 v a1 a2 ik th en N z3 2 s.heap.size (hN) (hN0)) (cwV 2 hts (kB_V (fun _ => List.mem_cons_of_mem _) q_874 q_875 q_876 q_670 (kB_c q_877)) rfl rfl rfl (by decide +kernel) ⟨Nat.le_of_ble_eq_true rfl, Nat.le_of_ble_eq_true rfl⟩) (k_preV (T := TX7) hP hD hK hKN [0, 1] rfl rfl (ci := 7) rfl (q0 := 0) rfl) rfl rfl hl.1 rfl (lv_room (Nat.le_of_ble_eq_true rfl)) dX7_stateOf_3 ⟨Nat.le_of_ble_eq_true rfl, Nat.le_of_ble_eq_true rfl⟩) hP hD hS hA [0, 1] [] rfl rfl rfl (by decide) (fun r3 H locs hw3 hP hD hS => ?_)
  replace hP : va_P D vwCl [(m0, .inr (7, [.ref v, .ref a1, .ref a2, .int ik, .int (nI 1), .int en]))] H := hP
  replace hD : va_D A [(m0, .inr (7, [.ref v, .ref a1, .ref a2, .int ik, .int (nI 1), .int en]))] := hD
  replace hw3 : r3 = nI 0 := hw3
  refine k_ti hw3 ?_
  have hP9 := hP.sub (ws' := [(m0, .inr (7, [.ref v, .ref a1, .ref a2, .int ik, .int (nI 1), .int en]))]) [0] rfl
  have hD9 := hD.sub (ws' := [(m0, .inr (7, [.ref v, .ref a1, .ref a2, .int ik, .int (nI 1), .int en]))]) [0] rfl rfl
  exact W.iret (v := nI 0) hx hb hr (fun t9 ht9 hW9 => ⟨⟨nI 0, (), rfl, rfl, by rw [ht9]; exact hP9, hD9⟩, hS.F ht9⟩) hS.2.2 dX7_stateOf_6

set_option maxHeartbeats 4000000 in
set_option maxRecDepth 100000 in
theorem c_M_nodeOf0 (l : Launch) (D : va_G) (cI cJ cM cG : ClassId) (m0 : Nat) (v : Nat) (a1 : Nat) (a2 : Nat) (ik : Int32) (th : Int32) (en : Int32) (N : Nat) (z3 : Int32) (sz : Nat) (hN : N ≤ 10) (hN0 : 0 < N) : Met l yX7_nodeOf (Cond.code yX7_nodeOf cX7_nodeOf 2 (some .int) :: kBig) ({ frames := 2, cells := 0, slots := 0, locals := 47 }) (va_Pc [.ref m0, .int z3] (kP D [(cI, .int), (cJ, .long), (cM, .object "MeshRouting$Message"), (cG, .array .int)] [(m0, .inr (7, [.ref v, .ref a1, .ref a2, .int ik, .int th, .int en])), (v, .inl (cJ, 136800, .inr (.inl (mF N))))] sz)) (va_Qi (fun (r : Int32) (_ : Unit) => r = nI 0) (fun _ t9 => kB D (va_A [(m0, .inr (7, [.ref v, .ref a1, .ref a2, .int ik, .int th, .int en])), (v, .inl (cJ, 136800, .inr (.inl (mF N))))] sz) [(m0, .inr (7, [.ref v, .ref a1, .ref a2, .int ik, .int (nI 1), .int en]))] t9) (va_A [(m0, .inr (7, [.ref v, .ref a1, .ref a2, .int ik, .int th, .int en])), (v, .inl (cJ, 136800, .inr (.inl (mF N))))] sz)) 0 0 (va_A [(m0, .inr (7, [.ref v, .ref a1, .ref a2, .int ik, .int th, .int en])), (v, .inl (cJ, 136800, .inr (.inl (mF N))))] sz) := by
  refine Met.ofW (cc := cX7_nodeOf) (maxL := 2) (ret := (some .int)) (by decide) rfl ?_
  intro p e s m args below meth c s₁ B hml hv
  obtain ⟨rfl, hsz, hP, hK, hD0, hKN⟩ := hv
  have hx := B.exec
  have hb := B.bytes
  have hr := B.returns
  have hts := atoms_spec (ws := (Cond.code yX7_nodeOf cX7_nodeOf 2 (some .int) :: kBig)) B.pre
  have hown : s.vm.findClass RX7 = some m.cls := findClass_of_methodNamed B.named
  have hlocks := B.notSynchronized
  subst hsz
  have hD := hD0.self (sz := s.heap.size)
  generalize hAe : va_A [(m0, .inr (7, [.ref v, .ref a1, .ref a2, .int ik, .int th, .int en])), (v, .inl (cJ, 136800, .inr (.inl (mF N))))] s.heap.size = A at hD ⊢
  have hA : ∀ q : Nat, s.heap.size ≤ q → A q := fun q h => by rw [← hAe]; exact Or.inr h
  have hS : va_S A s.heap s.heap [] := va_S.rf
  have hl := lv_entry ([.ref m0, .int z3]) (n := 2) (Nat.le_of_ble_eq_true rfl)
  rw [lg_entry_eq]
  generalize (lg_sl ([.ref m0, .int z3]) ++ List.replicate (2 - (lg_sl ([.ref m0, .int z3])).length) Slot.unset).toArray = ls at hl ⊢
  have hl : lv_has ls 2 [(0, .ref m0), (1, .int z3)] := hl
  refine lv_aload_n hx hb dX7_nodeOf_0 rfl (lv_at hl 0 rfl) ?_
  refine lv_iload_n hx hb dX7_nodeOf_1 rfl (lv_at hl 1 rfl) ?_
  refine lv_iconst (v := nI 3) hx hb dX7_nodeOf_2 (by decide) ?_
  refine k_ci (wr := []) (w1 := [(m0, .inr (7, [.ref v, .ref a1, .ref a2, .int ik, .int (nI 1), .int en]))]) (va_runV (As := [.int z3, .int (nI 3)]) (rest := []) ⟨hx, hb, hml, hown, hts⟩ (c_M_ofPacket0 l D cI cJ cM cG m0 v a1 a2 ik th en N z3 3 s.heap.size (hN) (hN0)) (cwV 2 hts (kB_V (fun _ => List.mem_cons_of_mem _) q_874 q_875 q_876 q_670 (kB_c q_877)) rfl rfl rfl (by decide +kernel) ⟨Nat.le_of_ble_eq_true rfl, Nat.le_of_ble_eq_true rfl⟩) (k_preV (T := TX7) hP hD hK hKN [0, 1] rfl rfl (ci := 7) rfl (q0 := 0) rfl) rfl rfl hl.1 rfl (lv_room (Nat.le_of_ble_eq_true rfl)) dX7_nodeOf_3 ⟨Nat.le_of_ble_eq_true rfl, Nat.le_of_ble_eq_true rfl⟩) hP hD hS hA [0, 1] [] rfl rfl rfl (by decide) (fun r3 H locs hw3 hP hD hS => ?_)
  replace hP : va_P D vwCl [(m0, .inr (7, [.ref v, .ref a1, .ref a2, .int ik, .int (nI 1), .int en]))] H := hP
  replace hD : va_D A [(m0, .inr (7, [.ref v, .ref a1, .ref a2, .int ik, .int (nI 1), .int en]))] := hD
  replace hw3 : r3 = nI 0 := hw3
  refine k_ti hw3 ?_
  have hP9 := hP.sub (ws' := [(m0, .inr (7, [.ref v, .ref a1, .ref a2, .int ik, .int (nI 1), .int en]))]) [0] rfl
  have hD9 := hD.sub (ws' := [(m0, .inr (7, [.ref v, .ref a1, .ref a2, .int ik, .int (nI 1), .int en]))]) [0] rfl rfl
  exact W.iret (v := nI 0) hx hb hr (fun t9 ht9 hW9 => ⟨⟨nI 0, (), rfl, rfl, by rw [ht9]; exact hP9, hD9⟩, hS.F ht9⟩) hS.2.2 dX7_nodeOf_6

set_option maxHeartbeats 4000000 in
set_option maxRecDepth 100000 in
theorem c_M_hopsOf0 (l : Launch) (D : va_G) (cI cJ cM cG : ClassId) (m0 : Nat) (v : Nat) (a1 : Nat) (a2 : Nat) (ik : Int32) (th : Int32) (en : Int32) (N : Nat) (z3 : Int32) (sz : Nat) (hN : N ≤ 10) (hN0 : 0 < N) : Met l yX7_hopsOf (Cond.code yX7_hopsOf cX7_hopsOf 2 (some .int) :: kBig) ({ frames := 2, cells := 0, slots := 0, locals := 47 }) (va_Pc [.ref m0, .int z3] (kP D [(cI, .int), (cJ, .long), (cM, .object "MeshRouting$Message"), (cG, .array .int)] [(m0, .inr (7, [.ref v, .ref a1, .ref a2, .int ik, .int th, .int en])), (v, .inl (cJ, 136800, .inr (.inl (mF N))))] sz)) (va_Qi (fun (r : Int32) (_ : Unit) => r = nI 0) (fun _ t9 => kB D (va_A [(m0, .inr (7, [.ref v, .ref a1, .ref a2, .int ik, .int th, .int en])), (v, .inl (cJ, 136800, .inr (.inl (mF N))))] sz) [(m0, .inr (7, [.ref v, .ref a1, .ref a2, .int ik, .int (nI 1), .int en]))] t9) (va_A [(m0, .inr (7, [.ref v, .ref a1, .ref a2, .int ik, .int th, .int en])), (v, .inl (cJ, 136800, .inr (.inl (mF N))))] sz)) 0 0 (va_A [(m0, .inr (7, [.ref v, .ref a1, .ref a2, .int ik, .int th, .int en])), (v, .inl (cJ, 136800, .inr (.inl (mF N))))] sz) := by
  refine Met.ofW (cc := cX7_hopsOf) (maxL := 2) (ret := (some .int)) (by decide) rfl ?_
  intro p e s m args below meth c s₁ B hml hv
  obtain ⟨rfl, hsz, hP, hK, hD0, hKN⟩ := hv
  have hx := B.exec
  have hb := B.bytes
  have hr := B.returns
  have hts := atoms_spec (ws := (Cond.code yX7_hopsOf cX7_hopsOf 2 (some .int) :: kBig)) B.pre
  have hown : s.vm.findClass RX7 = some m.cls := findClass_of_methodNamed B.named
  have hlocks := B.notSynchronized
  subst hsz
  have hD := hD0.self (sz := s.heap.size)
  generalize hAe : va_A [(m0, .inr (7, [.ref v, .ref a1, .ref a2, .int ik, .int th, .int en])), (v, .inl (cJ, 136800, .inr (.inl (mF N))))] s.heap.size = A at hD ⊢
  have hA : ∀ q : Nat, s.heap.size ≤ q → A q := fun q h => by rw [← hAe]; exact Or.inr h
  have hS : va_S A s.heap s.heap [] := va_S.rf
  have hl := lv_entry ([.ref m0, .int z3]) (n := 2) (Nat.le_of_ble_eq_true rfl)
  rw [lg_entry_eq]
  generalize (lg_sl ([.ref m0, .int z3]) ++ List.replicate (2 - (lg_sl ([.ref m0, .int z3])).length) Slot.unset).toArray = ls at hl ⊢
  have hl : lv_has ls 2 [(0, .ref m0), (1, .int z3)] := hl
  refine lv_aload_n hx hb dX7_hopsOf_0 rfl (lv_at hl 0 rfl) ?_
  refine lv_iload_n hx hb dX7_hopsOf_1 rfl (lv_at hl 1 rfl) ?_
  refine lv_iconst (v := nI 4) hx hb dX7_hopsOf_2 (by decide) ?_
  refine k_ci (wr := []) (w1 := [(m0, .inr (7, [.ref v, .ref a1, .ref a2, .int ik, .int (nI 1), .int en]))]) (va_runV (As := [.int z3, .int (nI 4)]) (rest := []) ⟨hx, hb, hml, hown, hts⟩ (c_M_ofPacket0 l D cI cJ cM cG m0 v a1 a2 ik th en N z3 4 s.heap.size (hN) (hN0)) (cwV 2 hts (kB_V (fun _ => List.mem_cons_of_mem _) q_874 q_875 q_876 q_670 (kB_c q_877)) rfl rfl rfl (by decide +kernel) ⟨Nat.le_of_ble_eq_true rfl, Nat.le_of_ble_eq_true rfl⟩) (k_preV (T := TX7) hP hD hK hKN [0, 1] rfl rfl (ci := 7) rfl (q0 := 0) rfl) rfl rfl hl.1 rfl (lv_room (Nat.le_of_ble_eq_true rfl)) dX7_hopsOf_3 ⟨Nat.le_of_ble_eq_true rfl, Nat.le_of_ble_eq_true rfl⟩) hP hD hS hA [0, 1] [] rfl rfl rfl (by decide) (fun r3 H locs hw3 hP hD hS => ?_)
  replace hP : va_P D vwCl [(m0, .inr (7, [.ref v, .ref a1, .ref a2, .int ik, .int (nI 1), .int en]))] H := hP
  replace hD : va_D A [(m0, .inr (7, [.ref v, .ref a1, .ref a2, .int ik, .int (nI 1), .int en]))] := hD
  replace hw3 : r3 = nI 0 := hw3
  refine k_ti hw3 ?_
  have hP9 := hP.sub (ws' := [(m0, .inr (7, [.ref v, .ref a1, .ref a2, .int ik, .int (nI 1), .int en]))]) [0] rfl
  have hD9 := hD.sub (ws' := [(m0, .inr (7, [.ref v, .ref a1, .ref a2, .int ik, .int (nI 1), .int en]))]) [0] rfl rfl
  exact W.iret (v := nI 0) hx hb hr (fun t9 ht9 hW9 => ⟨⟨nI 0, (), rfl, rfl, by rw [ht9]; exact hP9, hD9⟩, hS.F ht9⟩) hS.2.2 dX7_hopsOf_6

set_option maxHeartbeats 4000000 in
set_option maxRecDepth 100000 in
theorem c_M_endOf0 (l : Launch) (D : va_G) (cI cJ cM cG : ClassId) (m0 : Nat) (v : Nat) (a1 : Nat) (a2 : Nat) (ik : Int32) (th : Int32) (en : Int32) (N : Nat) (z3 : Int32) (sz : Nat) (hN : N ≤ 10) (hN0 : 0 < N) : Met l yX7_endOf (Cond.code yX7_endOf cX7_endOf 2 (some .int) :: kBig) ({ frames := 2, cells := 0, slots := 0, locals := 47 }) (va_Pc [.ref m0, .int z3] (kP D [(cI, .int), (cJ, .long), (cM, .object "MeshRouting$Message"), (cG, .array .int)] [(m0, .inr (7, [.ref v, .ref a1, .ref a2, .int ik, .int th, .int en])), (v, .inl (cJ, 136800, .inr (.inl (mF N))))] sz)) (va_Qi (fun (r : Int32) (_ : Unit) => r = nI 0) (fun _ t9 => kB D (va_A [(m0, .inr (7, [.ref v, .ref a1, .ref a2, .int ik, .int th, .int en])), (v, .inl (cJ, 136800, .inr (.inl (mF N))))] sz) [(m0, .inr (7, [.ref v, .ref a1, .ref a2, .int ik, .int (nI 1), .int en]))] t9) (va_A [(m0, .inr (7, [.ref v, .ref a1, .ref a2, .int ik, .int th, .int en])), (v, .inl (cJ, 136800, .inr (.inl (mF N))))] sz)) 0 0 (va_A [(m0, .inr (7, [.ref v, .ref a1, .ref a2, .int ik, .int th, .int en])), (v, .inl (cJ, 136800, .inr (.inl (mF N))))] sz) := by
  refine Met.ofW (cc := cX7_endOf) (maxL := 2) (ret := (some .int)) (by decide) rfl ?_
  intro p e s m args below meth c s₁ B hml hv
  obtain ⟨rfl, hsz, hP, hK, hD0, hKN⟩ := hv
  have hx := B.exec
  have hb := B.bytes
  have hr := B.returns
  have hts := atoms_spec (ws := (Cond.code yX7_endOf cX7_endOf 2 (some .int) :: kBig)) B.pre
  have hown : s.vm.findClass RX7 = some m.cls := findClass_of_methodNamed B.named
  have hlocks := B.notSynchronized
  subst hsz
  have hD := hD0.self (sz := s.heap.size)
  generalize hAe : va_A [(m0, .inr (7, [.ref v, .ref a1, .ref a2, .int ik, .int th, .int en])), (v, .inl (cJ, 136800, .inr (.inl (mF N))))] s.heap.size = A at hD ⊢
  have hA : ∀ q : Nat, s.heap.size ≤ q → A q := fun q h => by rw [← hAe]; exact Or.inr h
  have hS : va_S A s.heap s.heap [] := va_S.rf
  have hl := lv_entry ([.ref m0, .int z3]) (n := 2) (Nat.le_of_ble_eq_true rfl)
  rw [lg_entry_eq]
  generalize (lg_sl ([.ref m0, .int z3]) ++ List.replicate (2 - (lg_sl ([.ref m0, .int z3])).length) Slot.unset).toArray = ls at hl ⊢
  have hl : lv_has ls 2 [(0, .ref m0), (1, .int z3)] := hl
  refine lv_aload_n hx hb dX7_endOf_0 rfl (lv_at hl 0 rfl) ?_
  refine lv_iload_n hx hb dX7_endOf_1 rfl (lv_at hl 1 rfl) ?_
  refine lv_iconst (v := nI 5) hx hb dX7_endOf_2 (by decide) ?_
  refine k_ci (wr := []) (w1 := [(m0, .inr (7, [.ref v, .ref a1, .ref a2, .int ik, .int (nI 1), .int en]))]) (va_runV (As := [.int z3, .int (nI 5)]) (rest := []) ⟨hx, hb, hml, hown, hts⟩ (c_M_ofPacket0 l D cI cJ cM cG m0 v a1 a2 ik th en N z3 5 s.heap.size (hN) (hN0)) (cwV 2 hts (kB_V (fun _ => List.mem_cons_of_mem _) q_874 q_875 q_876 q_670 (kB_c q_877)) rfl rfl rfl (by decide +kernel) ⟨Nat.le_of_ble_eq_true rfl, Nat.le_of_ble_eq_true rfl⟩) (k_preV (T := TX7) hP hD hK hKN [0, 1] rfl rfl (ci := 7) rfl (q0 := 0) rfl) rfl rfl hl.1 rfl (lv_room (Nat.le_of_ble_eq_true rfl)) dX7_endOf_3 ⟨Nat.le_of_ble_eq_true rfl, Nat.le_of_ble_eq_true rfl⟩) hP hD hS hA [0, 1] [] rfl rfl rfl (by decide) (fun r3 H locs hw3 hP hD hS => ?_)
  replace hP : va_P D vwCl [(m0, .inr (7, [.ref v, .ref a1, .ref a2, .int ik, .int (nI 1), .int en]))] H := hP
  replace hD : va_D A [(m0, .inr (7, [.ref v, .ref a1, .ref a2, .int ik, .int (nI 1), .int en]))] := hD
  replace hw3 : r3 = nI 0 := hw3
  refine k_ti hw3 ?_
  have hP9 := hP.sub (ws' := [(m0, .inr (7, [.ref v, .ref a1, .ref a2, .int ik, .int (nI 1), .int en]))]) [0] rfl
  have hD9 := hD.sub (ws' := [(m0, .inr (7, [.ref v, .ref a1, .ref a2, .int ik, .int (nI 1), .int en]))]) [0] rfl rfl
  exact W.iret (v := nI 0) hx hb hr (fun t9 ht9 hW9 => ⟨⟨nI 0, (), rfl, rfl, by rw [ht9]; exact hP9, hD9⟩, hS.F ht9⟩) hS.2.2 dX7_endOf_6

set_option maxHeartbeats 4000000 in
set_option maxRecDepth 100000 in
theorem c_M_whyDropped0 (l : Launch) (D : va_G) (cI cJ cM cG : ClassId) (m0 : Nat) (v : Nat) (a1 : Nat) (a2 : Nat) (ik : Int32) (th : Int32) (en : Int32) (N : Nat) (z3 : Int32) (z4 : Int32) (sz : Nat) (hN : N ≤ 10) (hN0 : 0 < N) : Met l yX7_whyDropped (Cond.code yX7_whyDropped cX7_whyDropped 4 (some .int) :: kBig) ({ frames := 1, cells := 0, slots := 0, locals := 25 }) (va_Pc [.ref m0, .int z3, .int z4] (kP D [(cI, .int), (cJ, .long), (cM, .object "MeshRouting$Message"), (cG, .array .int)] [(m0, .inr (7, [.ref v, .ref a1, .ref a2, .int ik, .int th, .int en])), (v, .inl (cJ, 136800, .inr (.inl (mF N))))] sz)) (va_Qi (fun (r : Int32) (_ : Unit) => r = nI 0) (fun _ t9 => kB D (va_A [(m0, .inr (7, [.ref v, .ref a1, .ref a2, .int ik, .int th, .int en])), (v, .inl (cJ, 136800, .inr (.inl (mF N))))] sz) [(m0, .inr (7, [.ref v, .ref a1, .ref a2, .int ik, .int (nI 1), .int en]))] t9) (va_A [(m0, .inr (7, [.ref v, .ref a1, .ref a2, .int ik, .int th, .int en])), (v, .inl (cJ, 136800, .inr (.inl (mF N))))] sz)) 0 0 (va_A [(m0, .inr (7, [.ref v, .ref a1, .ref a2, .int ik, .int th, .int en])), (v, .inl (cJ, 136800, .inr (.inl (mF N))))] sz) := by
  refine Met.ofW (cc := cX7_whyDropped) (maxL := 4) (ret := (some .int)) (by decide) rfl ?_
  intro p e s m args below meth c s₁ B hml hv
  obtain ⟨rfl, hsz, hP, hK, hD0, hKN⟩ := hv
  have hx := B.exec
  have hb := B.bytes
  have hr := B.returns
  have hts := atoms_spec (ws := (Cond.code yX7_whyDropped cX7_whyDropped 4 (some .int) :: kBig)) B.pre
  have hown : s.vm.findClass RX7 = some m.cls := findClass_of_methodNamed B.named
  have hlocks := B.notSynchronized
  have hin7 : ∀ w ∈ u_ws RX7 TX7 6, w ∈ (Cond.code yX7_whyDropped cX7_whyDropped 4 (some .int) :: kBig) := fun w h => List.mem_cons_of_mem _ (inb7 w h)
  subst hsz
  have hD := hD0.self (sz := s.heap.size)
  generalize hAe : va_A [(m0, .inr (7, [.ref v, .ref a1, .ref a2, .int ik, .int th, .int en])), (v, .inl (cJ, 136800, .inr (.inl (mF N))))] s.heap.size = A at hD ⊢
  have hA : ∀ q : Nat, s.heap.size ≤ q → A q := fun q h => by rw [← hAe]; exact Or.inr h
  have hS : va_S A s.heap s.heap [] := va_S.rf
  have hl := lv_entry ([.ref m0, .int z3, .int z4]) (n := 4) (Nat.le_of_ble_eq_true rfl)
  rw [lg_entry_eq]
  generalize (lg_sl ([.ref m0, .int z3, .int z4]) ++ List.replicate (4 - (lg_sl ([.ref m0, .int z3, .int z4])).length) Slot.unset).toArray = ls at hl ⊢
  have hl : lv_has ls 4 [(0, .ref m0), (1, .int z3), (2, .int z4)] := hl
  refine lv_aload_n hx hb dX7_whyDropped_0 rfl (lv_at hl 0 rfl) ?_
  refine lv_iload_n hx hb dX7_whyDropped_1 rfl (lv_at hl 1 rfl) ?_
  refine lv_i2l (v := z3.toInt64) hx hb dX7_whyDropped_2 (rfl) ?_
  refine lv_lconst (v := lN 0) hx hb dX7_whyDropped_3 (by decide) ?_
  refine lv_aload_n hx hb dX7_whyDropped_4 rfl (lv_at hl 0 rfl) ?_
  refine va_get (D := D) (ci := 7) (v := .ref v) (C := RX7) (T := TX7) (N := 6) hx hb hts hin7 hown hK hP 0 rfl rfl 0 (by decide) (hts (.fieldLink RX7 8 "MeshRoutingModel" "v" "[J") (List.mem_cons_of_mem _ q_665)) (fun _ h9 => h9) rfl dX7_whyDropped_5 ?_
  refine lv_bipush (v := nI 10) hx hb dX7_whyDropped_8 (by decide) ?_
  refine k_lald (v := lN 0) hx hb hK hP 1 1 rfl rfl (by omega) (by omega) ((mF_o (by omega) (by omega) (by omega))) dX7_whyDropped_10 ?_
  refine lv_lconst (v := lN 1) hx hb dX7_whyDropped_11 (by decide) ?_
  refine lv_lsub hx hb dX7_whyDropped_12 ?_
  refine k_tl (show ((lN 0) - (lN 1)) = ((-1)) from by decide) ?_
  refine k_ci (wr := [(m0, .inr (7, [.ref v, .ref a1, .ref a2, .int ik, .int th, .int en])), (v, .inl (cJ, 136800, .inr (.inl (mF N))))]) (w1 := []) (va_runS (As := [.long z3.toInt64, .long (lN 0), .long (-1)]) (rest := [.ref m0]) ⟨hx, hb, hml, hown, hts⟩ (c_X7_in0 l D cI cJ cM cG z3.toInt64 (lN 0) (-1) s.heap.size (k_any z3)) (va_cwS 3 hts (kB_S (fun _ => List.mem_cons_of_mem _) q_765 q_766 q_670 (kB_c q_767)) rfl rfl rfl (by decide +kernel) ⟨Nat.le_of_ble_eq_true rfl, Nat.le_of_ble_eq_true rfl⟩) (k_preS hP hD hK hKN [] rfl rfl) rfl rfl hl.1 rfl (lv_room (Nat.le_of_ble_eq_true rfl)) dX7_whyDropped_13 ⟨Nat.le_of_ble_eq_true rfl, Nat.le_of_ble_eq_true rfl⟩) hP hD hS hA [] [0, 1] rfl rfl rfl (by decide) (fun r13 H locs hw13 hP hD hS => ?_)
  replace hP : va_P D vwCl [(m0, .inr (7, [.ref v, .ref a1, .ref a2, .int ik, .int th, .int en])), (v, .inl (cJ, 136800, .inr (.inl (mF N))))] H := hP
  replace hD : va_D A [(m0, .inr (7, [.ref v, .ref a1, .ref a2, .int ik, .int th, .int en])), (v, .inl (cJ, 136800, .inr (.inl (mF N))))] := hD
  replace hw13 : r13 = nI 0 := hw13
  refine k_ti hw13 ?_
  refine k_if_eq (tgt := 33) hx hb dX7_whyDropped_16 (by decide) (by omega) (fun _ => ?_) (fun h9 => absurd h9 (by omega))
  refine lv_iconst (v := nI 1) hx hb dX7_whyDropped_33 (by decide) ?_
  refine va_put (D := D) (ci := 7) (v := .int (nI 1)) (ty := .int) (C := RX7) (T := TX7) (N := 6) hx hb hts hin7 tyX7 tyX7_ok nmX7 hown hK hP hD hS 0 rfl rfl 4 (by decide) (hts (.fieldLink RX7 34 "MeshRoutingModel" "thrown" "I") (List.mem_cons_of_mem _ q_760)) (fun _ h9 => h9) rfl (by decide +kernel) rfl rfl (Nat.le_of_ble_eq_true rfl) dX7_whyDropped_34 (fun H locs hP hD hS => ?_)
  replace hP : va_P D vwCl [(m0, .inr (7, [.ref v, .ref a1, .ref a2, .int ik, .int (nI 1), .int en])), (v, .inl (cJ, 136800, .inr (.inl (mF N))))] H := hP
  replace hD : va_D A [(m0, .inr (7, [.ref v, .ref a1, .ref a2, .int ik, .int (nI 1), .int en])), (v, .inl (cJ, 136800, .inr (.inl (mF N))))] := hD
  refine lv_aload_n hx hb dX7_whyDropped_37 rfl (lv_at hl 0 rfl) ?_
  refine va_get (D := D) (ci := 7) (v := .int (nI 1)) (C := RX7) (T := TX7) (N := 6) hx hb hts hin7 hown hK hP 0 rfl rfl 4 (by decide) (hts (.fieldLink RX7 34 "MeshRoutingModel" "thrown" "I") (List.mem_cons_of_mem _ q_760)) (fun _ h9 => h9) rfl dX7_whyDropped_38 ?_
  refine k_if_ne (tgt := 60) hx hb dX7_whyDropped_41 (by decide) (by omega) (fun _ => ?_) (fun h9 => absurd h9 (by omega))
  refine lv_iconst (v := nI 0) hx hb dX7_whyDropped_60 (by decide) ?_
  refine lv_istore_n (lv' := [(3, .int (nI 0)), (0, .ref m0), (1, .int z3), (2, .int z4)]) hx hb dX7_whyDropped_61 rfl hl (by decide) rfl (fun ls hl => ?_)
  refine lv_iload_n hx hb dX7_whyDropped_62 rfl (lv_at hl 3 rfl) ?_
  refine lv_if_ne (tgt := 73) hx hb dX7_whyDropped_63 (by decide) (fun c => ?_) (fun c => ?_)
  · refine lv_iload_n hx hb dX7_whyDropped_73 rfl (lv_at hl 0 rfl) ?_
    have hP9 := hP.sub (ws' := [(m0, .inr (7, [.ref v, .ref a1, .ref a2, .int ik, .int (nI 1), .int en]))]) [0] rfl
    have hD9 := hD.sub (ws' := [(m0, .inr (7, [.ref v, .ref a1, .ref a2, .int ik, .int (nI 1), .int en]))]) [0] rfl rfl
    exact W.iret (v := nI 0) hx hb hr (fun t9 ht9 hW9 => ⟨⟨nI 0, (), rfl, rfl, by rw [ht9]; exact hP9, hD9⟩, hS.F ht9⟩) hS.2.2 dX7_whyDropped_74
  · refine lv_iload_n hx hb dX7_whyDropped_66 rfl (lv_at hl 0 rfl) ?_
    refine lv_bipush (v := nI 10) hx hb dX7_whyDropped_67 (by decide) ?_
    refine lv_idiv hx hb dX7_whyDropped_69 (by decide) ?_
    refine k_ti (show ((nI 0) / (nI 10)) = (nI 0) from by decide) ?_
    refine lv_goto (tgt := 74) hx hb dX7_whyDropped_70 (by decide) ?_
    have hP9 := hP.sub (ws' := [(m0, .inr (7, [.ref v, .ref a1, .ref a2, .int ik, .int (nI 1), .int en]))]) [0] rfl
    have hD9 := hD.sub (ws' := [(m0, .inr (7, [.ref v, .ref a1, .ref a2, .int ik, .int (nI 1), .int en]))]) [0] rfl rfl
    exact W.iret (v := nI 0) hx hb hr (fun t9 ht9 hW9 => ⟨⟨nI 0, (), rfl, rfl, by rw [ht9]; exact hP9, hD9⟩, hS.F ht9⟩) hS.2.2 dX7_whyDropped_74

set_option maxHeartbeats 4000000 in
set_option maxRecDepth 100000 in
theorem c_M_inState (l : Launch) (D : va_G) (cI cJ cM cG : ClassId) (m0 : Nat) (v : Nat) (a1 : Nat) (a2 : Nat) (ik : Int32) (th : Int32) (en : Int32) (N : Nat) (x : Int32) (sz : Nat) (hN : N ≤ 10) (hN0 : 0 < N) : Met l yX7_inState (Cond.code yX7_inState cX7_inState 4 (some .int) :: kBig) ({ frames := 0, cells := 0, slots := 0, locals := 0 }) (va_Pc [.ref m0, .int x] (kP D [(cI, .int), (cJ, .long), (cM, .object "MeshRouting$Message"), (cG, .array .int)] [(m0, .inr (7, [.ref v, .ref a1, .ref a2, .int ik, .int th, .int en])), (v, .inl (cJ, 136800, .inr (.inl (mF N))))] sz)) (va_Qi (fun (r : Int32) (_ : Unit) => r = nI 0) (fun _ t9 => kB D (va_A [(m0, .inr (7, [.ref v, .ref a1, .ref a2, .int ik, .int th, .int en])), (v, .inl (cJ, 136800, .inr (.inl (mF N))))] sz) [(m0, .inr (7, [.ref v, .ref a1, .ref a2, .int ik, .int th, .int en])), (v, .inl (cJ, 136800, .inr (.inl (mF N))))] t9) (va_A [(m0, .inr (7, [.ref v, .ref a1, .ref a2, .int ik, .int th, .int en])), (v, .inl (cJ, 136800, .inr (.inl (mF N))))] sz)) 0 0 (va_A [(m0, .inr (7, [.ref v, .ref a1, .ref a2, .int ik, .int th, .int en])), (v, .inl (cJ, 136800, .inr (.inl (mF N))))] sz) := by
  refine Met.ofW (cc := cX7_inState) (maxL := 4) (ret := (some .int)) (by decide) rfl ?_
  intro p e s m args below meth c s₁ B hml hv
  obtain ⟨rfl, hsz, hP, hK, hD0, hKN⟩ := hv
  have hx := B.exec
  have hb := B.bytes
  have hr := B.returns
  have hts := atoms_spec (ws := (Cond.code yX7_inState cX7_inState 4 (some .int) :: kBig)) B.pre
  have hown : s.vm.findClass RX7 = some m.cls := findClass_of_methodNamed B.named
  have hlocks := B.notSynchronized
  have hin7 : ∀ w ∈ u_ws RX7 TX7 6, w ∈ (Cond.code yX7_inState cX7_inState 4 (some .int) :: kBig) := fun w h => List.mem_cons_of_mem _ (inb7 w h)
  subst hsz
  have hD := hD0.self (sz := s.heap.size)
  generalize hAe : va_A [(m0, .inr (7, [.ref v, .ref a1, .ref a2, .int ik, .int th, .int en])), (v, .inl (cJ, 136800, .inr (.inl (mF N))))] s.heap.size = A at hD ⊢
  have hA : ∀ q : Nat, s.heap.size ≤ q → A q := fun q h => by rw [← hAe]; exact Or.inr h
  have hS : va_S A s.heap s.heap [] := va_S.rf
  have hl := lv_entry ([.ref m0, .int x]) (n := 4) (Nat.le_of_ble_eq_true rfl)
  rw [lg_entry_eq]
  generalize (lg_sl ([.ref m0, .int x]) ++ List.replicate (4 - (lg_sl ([.ref m0, .int x])).length) Slot.unset).toArray = ls at hl ⊢
  have hl : lv_has ls 4 [(0, .ref m0), (1, .int x)] := hl
  refine lv_iconst (v := nI 0) hx hb dX7_inState_0 (by decide) ?_
  refine lv_istore_n (lv' := [(2, .int (nI 0)), (0, .ref m0), (1, .int x)]) hx hb dX7_inState_1 rfl hl (by decide) rfl (fun ls hl => ?_)
  refine lv_iconst (v := nI 0) hx hb dX7_inState_2 (by decide) ?_
  refine lv_istore_n (lv' := [(3, .int (nI 0)), (2, .int (nI 0)), (0, .ref m0), (1, .int x)]) hx hb dX7_inState_3 rfl hl (by decide) rfl (fun ls hl => ?_)
  refine lv_iload_n hx hb dX7_inState_4 rfl (lv_at hl 0 rfl) ?_
  refine lv_i2l (v := lN 0) hx hb dX7_inState_5 (by decide) ?_
  refine lv_aload_n hx hb dX7_inState_6 rfl (lv_at hl 2 rfl) ?_
  refine va_get (D := D) (ci := 7) (v := .ref v) (C := RX7) (T := TX7) (N := 6) hx hb hts hin7 hown hK hP 0 rfl rfl 0 (by decide) (hts (.fieldLink RX7 8 "MeshRoutingModel" "v" "[J") (List.mem_cons_of_mem _ q_665)) (fun _ h9 => h9) rfl dX7_inState_7 ?_
  refine lv_bipush (v := nI 10) hx hb dX7_inState_10 (by decide) ?_
  refine k_lald (v := lN 0) hx hb hK hP 1 1 rfl rfl (by omega) (by omega) ((mF_o (by omega) (by omega) (by omega))) dX7_inState_12 ?_
  refine W.lcmp hx hb dX7_inState_13 ?_
  refine k_lif_ge (tgt := 48) hx hb dX7_inState_14 (by decide) (by omega) (by omega) (fun _ => ?_) (fun h9 => absurd h9 (by omega))
  refine lv_iload_n hx hb dX7_inState_48 rfl (lv_at hl 1 rfl) ?_
  have hP9 := hP.sub (ws' := [(m0, .inr (7, [.ref v, .ref a1, .ref a2, .int ik, .int th, .int en])), (v, .inl (cJ, 136800, .inr (.inl (mF N))))]) [0, 1] rfl
  have hD9 := hD.sub (ws' := [(m0, .inr (7, [.ref v, .ref a1, .ref a2, .int ik, .int th, .int en])), (v, .inl (cJ, 136800, .inr (.inl (mF N))))]) [0, 1] rfl rfl
  exact W.iret (v := nI 0) hx hb hr (fun t9 ht9 hW9 => ⟨⟨nI 0, (), rfl, rfl, by rw [ht9]; exact hP9, hD9⟩, hS.F ht9⟩) hS.2.2 dX7_inState_49

set_option maxHeartbeats 4000000 in
set_option maxRecDepth 100000 in
theorem c_M_packets1 (l : Launch) (D : va_G) (cI cJ cM cG : ClassId) (m0 : Nat) (v : Nat) (a1 : Nat) (a2 : Nat) (ik : Int32) (th : Int32) (en : Int32) (N : Nat) (kd : Nat) (sz : Nat) (hN : N ≤ 10) (hN0 : 0 < N) (hk : kd < 4) : Met l yX7_packets (Cond.code yX7_packets cX7_packets 2 (some .int) :: kBig) ({ frames := 1, cells := 0, slots := 0, locals := 25 }) (va_Pc [.ref m0, .int (nI kd)] (kP D [(cI, .int), (cJ, .long), (cM, .object "MeshRouting$Message"), (cG, .array .int)] [(m0, .inr (7, [.ref v, .ref a1, .ref a2, .int ik, .int th, .int en])), (v, .inl (cJ, 136800, .inr (.inl (mF N))))] sz)) (va_Qi (fun (r : Int32) (_ : Unit) => r = nI 0) (fun _ t9 => kB D (va_A [(m0, .inr (7, [.ref v, .ref a1, .ref a2, .int ik, .int th, .int en])), (v, .inl (cJ, 136800, .inr (.inl (mF N))))] sz) [(m0, .inr (7, [.ref v, .ref a1, .ref a2, .int ik, .int (nI 0), .int en]))] t9) (va_A [(m0, .inr (7, [.ref v, .ref a1, .ref a2, .int ik, .int th, .int en])), (v, .inl (cJ, 136800, .inr (.inl (mF N))))] sz)) 0 0 (va_A [(m0, .inr (7, [.ref v, .ref a1, .ref a2, .int ik, .int th, .int en])), (v, .inl (cJ, 136800, .inr (.inl (mF N))))] sz) := by
  refine Met.ofW (cc := cX7_packets) (maxL := 2) (ret := (some .int)) (by decide) rfl ?_
  intro p e s m args below meth c s₁ B hml hv
  obtain ⟨rfl, hsz, hP, hK, hD0, hKN⟩ := hv
  have hx := B.exec
  have hb := B.bytes
  have hr := B.returns
  have hts := atoms_spec (ws := (Cond.code yX7_packets cX7_packets 2 (some .int) :: kBig)) B.pre
  have hown : s.vm.findClass RX7 = some m.cls := findClass_of_methodNamed B.named
  have hlocks := B.notSynchronized
  have hin7 : ∀ w ∈ u_ws RX7 TX7 6, w ∈ (Cond.code yX7_packets cX7_packets 2 (some .int) :: kBig) := fun w h => List.mem_cons_of_mem _ (inb7 w h)
  subst hsz
  have hD := hD0.self (sz := s.heap.size)
  generalize hAe : va_A [(m0, .inr (7, [.ref v, .ref a1, .ref a2, .int ik, .int th, .int en])), (v, .inl (cJ, 136800, .inr (.inl (mF N))))] s.heap.size = A at hD ⊢
  have hA : ∀ q : Nat, s.heap.size ≤ q → A q := fun q h => by rw [← hAe]; exact Or.inr h
  have hS : va_S A s.heap s.heap [] := va_S.rf
  have hl := lv_entry ([.ref m0, .int (nI kd)]) (n := 2) (Nat.le_of_ble_eq_true rfl)
  rw [lg_entry_eq]
  generalize (lg_sl ([.ref m0, .int (nI kd)]) ++ List.replicate (2 - (lg_sl ([.ref m0, .int (nI kd)])).length) Slot.unset).toArray = ls at hl ⊢
  have hl : lv_has ls 2 [(0, .ref m0), (1, .int (nI kd))] := hl
  refine lv_aload_n hx hb dX7_packets_0 rfl (lv_at hl 0 rfl) ?_
  refine lv_iconst (v := nI 0) hx hb dX7_packets_1 (by decide) ?_
  refine va_put (D := D) (ci := 7) (v := .int (nI 0)) (ty := .int) (C := RX7) (T := TX7) (N := 6) hx hb hts hin7 tyX7 tyX7_ok nmX7 hown hK hP hD hS 0 rfl rfl 4 (by decide) (hts (.fieldLink RX7 34 "MeshRoutingModel" "thrown" "I") (List.mem_cons_of_mem _ q_760)) (fun _ h9 => h9) rfl (by decide +kernel) rfl rfl (Nat.le_of_ble_eq_true rfl) dX7_packets_2 (fun H locs hP hD hS => ?_)
  replace hP : va_P D vwCl [(m0, .inr (7, [.ref v, .ref a1, .ref a2, .int ik, .int (nI 0), .int en])), (v, .inl (cJ, 136800, .inr (.inl (mF N))))] H := hP
  replace hD : va_D A [(m0, .inr (7, [.ref v, .ref a1, .ref a2, .int ik, .int (nI 0), .int en])), (v, .inl (cJ, 136800, .inr (.inl (mF N))))] := hD
  refine lv_iload_n hx hb dX7_packets_5 rfl (lv_at hl 1 rfl) ?_
  refine lv_i2l (v := lN kd) hx hb dX7_packets_6 (by exact nI_l (by omega)) ?_
  refine lv_lconst (v := lN 0) hx hb dX7_packets_7 (by decide) ?_
  refine lv_ldc2 (v := 3) hx hb hown (by exact hts (.constantLong RX7 32 (3)) (List.mem_cons_of_mem _ q_791)) dX7_packets_8 ?_
  refine k_tl (show (3) = (lN 3) from by decide) ?_
  refine k_ci (wr := [(m0, .inr (7, [.ref v, .ref a1, .ref a2, .int ik, .int (nI 0), .int en])), (v, .inl (cJ, 136800, .inr (.inl (mF N))))]) (w1 := []) (va_runS (As := [.long (lN kd), .long (lN 0), .long (lN 3)]) (rest := []) ⟨hx, hb, hml, hown, hts⟩ (c_X7_in1 l D cI cJ cM cG (lN kd) (lN 0) (lN 3) H.size (k_in1 (by omega) (by omega) (by omega)) (k_in1 (by omega) (by omega) (by omega))) (va_cwS 3 hts (kB_S (fun _ => List.mem_cons_of_mem _) q_765 q_766 q_670 (kB_c q_767)) rfl rfl rfl (by decide +kernel) ⟨Nat.le_of_ble_eq_true rfl, Nat.le_of_ble_eq_true rfl⟩) (k_preS hP hD hK hKN [] rfl rfl) rfl rfl hl.1 rfl (lv_room (Nat.le_of_ble_eq_true rfl)) dX7_packets_11 ⟨Nat.le_of_ble_eq_true rfl, Nat.le_of_ble_eq_true rfl⟩) hP hD hS hA [] [0, 1] rfl rfl rfl (by decide) (fun r11 H locs hw11 hP hD hS => ?_)
  replace hP : va_P D vwCl [(m0, .inr (7, [.ref v, .ref a1, .ref a2, .int ik, .int (nI 0), .int en])), (v, .inl (cJ, 136800, .inr (.inl (mF N))))] H := hP
  replace hD : va_D A [(m0, .inr (7, [.ref v, .ref a1, .ref a2, .int ik, .int (nI 0), .int en])), (v, .inl (cJ, 136800, .inr (.inl (mF N))))] := hD
  replace hw11 : r11 = nI 1 := hw11
  refine k_ti hw11 ?_
  refine k_if_eq (tgt := 25) hx hb dX7_packets_14 (by decide) (by omega) (fun h9 => absurd h9 (by omega)) (fun _ => ?_)
  refine lv_aload_n hx hb dX7_packets_17 rfl (lv_at hl 0 rfl) ?_
  refine lv_iload_n hx hb dX7_packets_18 rfl (lv_at hl 1 rfl) ?_
  refine k_ci (wr := []) (w1 := [(m0, .inr (7, [.ref v, .ref a1, .ref a2, .int ik, .int (nI 0), .int en])), (v, .inl (cJ, 136800, .inr (.inl (mF N))))]) (va_runV (As := [.int (nI kd)]) (rest := []) ⟨hx, hb, hml, hown, hts⟩ (c_M_inState l D cI cJ cM cG m0 v a1 a2 ik (nI 0) en N (nI kd) H.size (hN) (hN0)) (cwV 1 hts (kB_V (fun _ => List.mem_cons_of_mem _) q_779 q_780 q_781 q_670 (kB_c q_782)) rfl rfl rfl (by decide +kernel) ⟨Nat.le_of_ble_eq_true rfl, Nat.le_of_ble_eq_true rfl⟩) (k_preV (T := TX7) hP hD hK hKN [0, 1] rfl rfl (ci := 7) rfl (q0 := 0) rfl) rfl rfl hl.1 rfl (lv_room (Nat.le_of_ble_eq_true rfl)) dX7_packets_19 ⟨Nat.le_of_ble_eq_true rfl, Nat.le_of_ble_eq_true rfl⟩) hP hD hS hA [0, 1] [] rfl rfl rfl (by decide) (fun r19 H locs hw19 hP hD hS => ?_)
  replace hP : va_P D vwCl [(m0, .inr (7, [.ref v, .ref a1, .ref a2, .int ik, .int (nI 0), .int en])), (v, .inl (cJ, 136800, .inr (.inl (mF N))))] H := hP
  replace hD : va_D A [(m0, .inr (7, [.ref v, .ref a1, .ref a2, .int ik, .int (nI 0), .int en])), (v, .inl (cJ, 136800, .inr (.inl (mF N))))] := hD
  replace hw19 : r19 = nI 0 := hw19
  refine k_ti hw19 ?_
  refine lv_goto (tgt := 30) hx hb dX7_packets_22 (by decide) ?_
  have hP9 := hP.sub (ws' := [(m0, .inr (7, [.ref v, .ref a1, .ref a2, .int ik, .int (nI 0), .int en]))]) [0] rfl
  have hD9 := hD.sub (ws' := [(m0, .inr (7, [.ref v, .ref a1, .ref a2, .int ik, .int (nI 0), .int en]))]) [0] rfl rfl
  exact W.iret (v := nI 0) hx hb hr (fun t9 ht9 hW9 => ⟨⟨nI 0, (), rfl, rfl, by rw [ht9]; exact hP9, hD9⟩, hS.F ht9⟩) hS.2.2 dX7_packets_30

set_option maxHeartbeats 4000000 in
set_option maxRecDepth 100000 in
theorem c_M_packets0 (l : Launch) (D : va_G) (cI cJ cM cG : ClassId) (m0 : Nat) (v : Nat) (a1 : Nat) (a2 : Nat) (ik : Int32) (th : Int32) (en : Int32) (N : Nat) (z3 : Int32) (sz : Nat) (hN : N ≤ 10) (hN0 : 0 < N) (hz3 : z3 < 0 ∨ nI (3 + 1) ≤ z3) : Met l yX7_packets (Cond.code yX7_packets cX7_packets 2 (some .int) :: kBig) ({ frames := 1, cells := 0, slots := 0, locals := 25 }) (va_Pc [.ref m0, .int z3] (kP D [(cI, .int), (cJ, .long), (cM, .object "MeshRouting$Message"), (cG, .array .int)] [(m0, .inr (7, [.ref v, .ref a1, .ref a2, .int ik, .int th, .int en])), (v, .inl (cJ, 136800, .inr (.inl (mF N))))] sz)) (va_Qi (fun (r : Int32) (_ : Unit) => r = nI 0) (fun _ t9 => kB D (va_A [(m0, .inr (7, [.ref v, .ref a1, .ref a2, .int ik, .int th, .int en])), (v, .inl (cJ, 136800, .inr (.inl (mF N))))] sz) [(m0, .inr (7, [.ref v, .ref a1, .ref a2, .int ik, .int (nI 1), .int en]))] t9) (va_A [(m0, .inr (7, [.ref v, .ref a1, .ref a2, .int ik, .int th, .int en])), (v, .inl (cJ, 136800, .inr (.inl (mF N))))] sz)) 0 0 (va_A [(m0, .inr (7, [.ref v, .ref a1, .ref a2, .int ik, .int th, .int en])), (v, .inl (cJ, 136800, .inr (.inl (mF N))))] sz) := by
  refine Met.ofW (cc := cX7_packets) (maxL := 2) (ret := (some .int)) (by decide) rfl ?_
  intro p e s m args below meth c s₁ B hml hv
  obtain ⟨rfl, hsz, hP, hK, hD0, hKN⟩ := hv
  have hx := B.exec
  have hb := B.bytes
  have hr := B.returns
  have hts := atoms_spec (ws := (Cond.code yX7_packets cX7_packets 2 (some .int) :: kBig)) B.pre
  have hown : s.vm.findClass RX7 = some m.cls := findClass_of_methodNamed B.named
  have hlocks := B.notSynchronized
  have hin7 : ∀ w ∈ u_ws RX7 TX7 6, w ∈ (Cond.code yX7_packets cX7_packets 2 (some .int) :: kBig) := fun w h => List.mem_cons_of_mem _ (inb7 w h)
  subst hsz
  have hD := hD0.self (sz := s.heap.size)
  generalize hAe : va_A [(m0, .inr (7, [.ref v, .ref a1, .ref a2, .int ik, .int th, .int en])), (v, .inl (cJ, 136800, .inr (.inl (mF N))))] s.heap.size = A at hD ⊢
  have hA : ∀ q : Nat, s.heap.size ≤ q → A q := fun q h => by rw [← hAe]; exact Or.inr h
  have hS : va_S A s.heap s.heap [] := va_S.rf
  have hl := lv_entry ([.ref m0, .int z3]) (n := 2) (Nat.le_of_ble_eq_true rfl)
  rw [lg_entry_eq]
  generalize (lg_sl ([.ref m0, .int z3]) ++ List.replicate (2 - (lg_sl ([.ref m0, .int z3])).length) Slot.unset).toArray = ls at hl ⊢
  have hl : lv_has ls 2 [(0, .ref m0), (1, .int z3)] := hl
  refine lv_aload_n hx hb dX7_packets_0 rfl (lv_at hl 0 rfl) ?_
  refine lv_iconst (v := nI 0) hx hb dX7_packets_1 (by decide) ?_
  refine va_put (D := D) (ci := 7) (v := .int (nI 0)) (ty := .int) (C := RX7) (T := TX7) (N := 6) hx hb hts hin7 tyX7 tyX7_ok nmX7 hown hK hP hD hS 0 rfl rfl 4 (by decide) (hts (.fieldLink RX7 34 "MeshRoutingModel" "thrown" "I") (List.mem_cons_of_mem _ q_760)) (fun _ h9 => h9) rfl (by decide +kernel) rfl rfl (Nat.le_of_ble_eq_true rfl) dX7_packets_2 (fun H locs hP hD hS => ?_)
  replace hP : va_P D vwCl [(m0, .inr (7, [.ref v, .ref a1, .ref a2, .int ik, .int (nI 0), .int en])), (v, .inl (cJ, 136800, .inr (.inl (mF N))))] H := hP
  replace hD : va_D A [(m0, .inr (7, [.ref v, .ref a1, .ref a2, .int ik, .int (nI 0), .int en])), (v, .inl (cJ, 136800, .inr (.inl (mF N))))] := hD
  refine lv_iload_n hx hb dX7_packets_5 rfl (lv_at hl 1 rfl) ?_
  refine lv_i2l (v := z3.toInt64) hx hb dX7_packets_6 (rfl) ?_
  refine lv_lconst (v := lN 0) hx hb dX7_packets_7 (by decide) ?_
  refine lv_ldc2 (v := 3) hx hb hown (by exact hts (.constantLong RX7 32 (3)) (List.mem_cons_of_mem _ q_791)) dX7_packets_8 ?_
  refine k_tl (show (3) = (lN 3) from by decide) ?_
  refine k_ci (wr := [(m0, .inr (7, [.ref v, .ref a1, .ref a2, .int ik, .int (nI 0), .int en])), (v, .inl (cJ, 136800, .inr (.inl (mF N))))]) (w1 := []) (va_runS (As := [.long z3.toInt64, .long (lN 0), .long (lN 3)]) (rest := []) ⟨hx, hb, hml, hown, hts⟩ (c_X7_in0 l D cI cJ cM cG z3.toInt64 (lN 0) (lN 3) H.size (k_over (n := 3) (by omega) hz3)) (va_cwS 3 hts (kB_S (fun _ => List.mem_cons_of_mem _) q_765 q_766 q_670 (kB_c q_767)) rfl rfl rfl (by decide +kernel) ⟨Nat.le_of_ble_eq_true rfl, Nat.le_of_ble_eq_true rfl⟩) (k_preS hP hD hK hKN [] rfl rfl) rfl rfl hl.1 rfl (lv_room (Nat.le_of_ble_eq_true rfl)) dX7_packets_11 ⟨Nat.le_of_ble_eq_true rfl, Nat.le_of_ble_eq_true rfl⟩) hP hD hS hA [] [0, 1] rfl rfl rfl (by decide) (fun r11 H locs hw11 hP hD hS => ?_)
  replace hP : va_P D vwCl [(m0, .inr (7, [.ref v, .ref a1, .ref a2, .int ik, .int (nI 0), .int en])), (v, .inl (cJ, 136800, .inr (.inl (mF N))))] H := hP
  replace hD : va_D A [(m0, .inr (7, [.ref v, .ref a1, .ref a2, .int ik, .int (nI 0), .int en])), (v, .inl (cJ, 136800, .inr (.inl (mF N))))] := hD
  replace hw11 : r11 = nI 0 := hw11
  refine k_ti hw11 ?_
  refine k_if_eq (tgt := 25) hx hb dX7_packets_14 (by decide) (by omega) (fun _ => ?_) (fun h9 => absurd h9 (by omega))
  refine lv_aload_n hx hb dX7_packets_25 rfl (lv_at hl 0 rfl) ?_
  refine lv_iconst (v := nI 1) hx hb dX7_packets_26 (by decide) ?_
  refine k_ci (wr := []) (w1 := [(m0, .inr (7, [.ref v, .ref a1, .ref a2, .int ik, .int (nI 1), .int en])), (v, .inl (cJ, 136800, .inr (.inl (mF N))))]) (va_runV (As := [.int (nI 1)]) (rest := []) ⟨hx, hb, hml, hown, hts⟩ (c_X7_fails l D cI cJ cM cG m0 v a1 a2 ik (nI 0) en (mF N) (nI 1) H.size) (cwV 1 hts (kB_V (fun _ => List.mem_cons_of_mem _) q_924 q_925 q_926 q_670 (kB_c q_883)) rfl rfl rfl (by decide +kernel) ⟨Nat.le_of_ble_eq_true rfl, Nat.le_of_ble_eq_true rfl⟩) (k_preV (T := TX7) hP hD hK hKN [0, 1] rfl rfl (ci := 7) rfl (q0 := 0) rfl) rfl rfl hl.1 rfl (lv_room (Nat.le_of_ble_eq_true rfl)) dX7_packets_27 ⟨Nat.le_of_ble_eq_true rfl, Nat.le_of_ble_eq_true rfl⟩) hP hD hS hA [0, 1] [] rfl rfl rfl (by decide) (fun r27 H locs hw27 hP hD hS => ?_)
  replace hP : va_P D vwCl [(m0, .inr (7, [.ref v, .ref a1, .ref a2, .int ik, .int (nI 1), .int en])), (v, .inl (cJ, 136800, .inr (.inl (mF N))))] H := hP
  replace hD : va_D A [(m0, .inr (7, [.ref v, .ref a1, .ref a2, .int ik, .int (nI 1), .int en])), (v, .inl (cJ, 136800, .inr (.inl (mF N))))] := hD
  replace hw27 : r27 = nI 0 := hw27
  refine k_ti hw27 ?_
  have hP9 := hP.sub (ws' := [(m0, .inr (7, [.ref v, .ref a1, .ref a2, .int ik, .int (nI 1), .int en]))]) [0] rfl
  have hD9 := hD.sub (ws' := [(m0, .inr (7, [.ref v, .ref a1, .ref a2, .int ik, .int (nI 1), .int en]))]) [0] rfl rfl
  exact W.iret (v := nI 0) hx hb hr (fun t9 ht9 hW9 => ⟨⟨nI 0, (), rfl, rfl, by rw [ht9]; exact hP9, hD9⟩, hS.F ht9⟩) hS.2.2 dX7_packets_30

set_option maxHeartbeats 4000000 in
set_option maxRecDepth 100000 in
theorem c_M_totalHops (l : Launch) (D : va_G) (cI cJ cM cG : ClassId) (m0 : Nat) (v : Nat) (a1 : Nat) (a2 : Nat) (ik : Int32) (th : Int32) (en : Int32) (N : Nat) (sz : Nat) (hN : N ≤ 10) (hN0 : 0 < N) : Met l yX7_totalHops (Cond.code yX7_totalHops cX7_totalHops 3 (some .int) :: kBig) ({ frames := 0, cells := 0, slots := 0, locals := 0 }) (va_Pc [.ref m0] (kP D [(cI, .int), (cJ, .long), (cM, .object "MeshRouting$Message"), (cG, .array .int)] [(m0, .inr (7, [.ref v, .ref a1, .ref a2, .int ik, .int th, .int en])), (v, .inl (cJ, 136800, .inr (.inl (mF N))))] sz)) (va_Qi (fun (r : Int32) (_ : Unit) => r = nI 0) (fun _ t9 => kB D (va_A [(m0, .inr (7, [.ref v, .ref a1, .ref a2, .int ik, .int th, .int en])), (v, .inl (cJ, 136800, .inr (.inl (mF N))))] sz) [(m0, .inr (7, [.ref v, .ref a1, .ref a2, .int ik, .int (nI 0), .int en]))] t9) (va_A [(m0, .inr (7, [.ref v, .ref a1, .ref a2, .int ik, .int th, .int en])), (v, .inl (cJ, 136800, .inr (.inl (mF N))))] sz)) 0 0 (va_A [(m0, .inr (7, [.ref v, .ref a1, .ref a2, .int ik, .int th, .int en])), (v, .inl (cJ, 136800, .inr (.inl (mF N))))] sz) := by
  refine Met.ofW (cc := cX7_totalHops) (maxL := 3) (ret := (some .int)) (by decide) rfl ?_
  intro p e s m args below meth c s₁ B hml hv
  obtain ⟨rfl, hsz, hP, hK, hD0, hKN⟩ := hv
  have hx := B.exec
  have hb := B.bytes
  have hr := B.returns
  have hts := atoms_spec (ws := (Cond.code yX7_totalHops cX7_totalHops 3 (some .int) :: kBig)) B.pre
  have hown : s.vm.findClass RX7 = some m.cls := findClass_of_methodNamed B.named
  have hlocks := B.notSynchronized
  have hin7 : ∀ w ∈ u_ws RX7 TX7 6, w ∈ (Cond.code yX7_totalHops cX7_totalHops 3 (some .int) :: kBig) := fun w h => List.mem_cons_of_mem _ (inb7 w h)
  subst hsz
  have hD := hD0.self (sz := s.heap.size)
  generalize hAe : va_A [(m0, .inr (7, [.ref v, .ref a1, .ref a2, .int ik, .int th, .int en])), (v, .inl (cJ, 136800, .inr (.inl (mF N))))] s.heap.size = A at hD ⊢
  have hA : ∀ q : Nat, s.heap.size ≤ q → A q := fun q h => by rw [← hAe]; exact Or.inr h
  have hS : va_S A s.heap s.heap [] := va_S.rf
  have hl := lv_entry ([.ref m0]) (n := 3) (Nat.le_of_ble_eq_true rfl)
  rw [lg_entry_eq]
  generalize (lg_sl ([.ref m0]) ++ List.replicate (3 - (lg_sl ([.ref m0])).length) Slot.unset).toArray = ls at hl ⊢
  have hl : lv_has ls 3 [(0, .ref m0)] := hl
  refine lv_aload_n hx hb dX7_totalHops_0 rfl (lv_at hl 0 rfl) ?_
  refine lv_iconst (v := nI 0) hx hb dX7_totalHops_1 (by decide) ?_
  refine va_put (D := D) (ci := 7) (v := .int (nI 0)) (ty := .int) (C := RX7) (T := TX7) (N := 6) hx hb hts hin7 tyX7 tyX7_ok nmX7 hown hK hP hD hS 0 rfl rfl 4 (by decide) (hts (.fieldLink RX7 34 "MeshRoutingModel" "thrown" "I") (List.mem_cons_of_mem _ q_760)) (fun _ h9 => h9) rfl (by decide +kernel) rfl rfl (Nat.le_of_ble_eq_true rfl) dX7_totalHops_2 (fun H locs hP hD hS => ?_)
  replace hP : va_P D vwCl [(m0, .inr (7, [.ref v, .ref a1, .ref a2, .int ik, .int (nI 0), .int en])), (v, .inl (cJ, 136800, .inr (.inl (mF N))))] H := hP
  replace hD : va_D A [(m0, .inr (7, [.ref v, .ref a1, .ref a2, .int ik, .int (nI 0), .int en])), (v, .inl (cJ, 136800, .inr (.inl (mF N))))] := hD
  refine lv_iconst (v := nI 0) hx hb dX7_totalHops_5 (by decide) ?_
  refine lv_istore_n (lv' := [(1, .int (nI 0)), (0, .ref m0)]) hx hb dX7_totalHops_6 rfl hl (by decide) rfl (fun ls hl => ?_)
  refine lv_iconst (v := nI 0) hx hb dX7_totalHops_7 (by decide) ?_
  refine lv_istore_n (lv' := [(2, .int (nI 0)), (1, .int (nI 0)), (0, .ref m0)]) hx hb dX7_totalHops_8 rfl hl (by decide) rfl (fun ls hl => ?_)
  refine lv_iload_n hx hb dX7_totalHops_9 rfl (lv_at hl 0 rfl) ?_
  refine lv_i2l (v := lN 0) hx hb dX7_totalHops_10 (by decide) ?_
  refine lv_aload_n hx hb dX7_totalHops_11 rfl (lv_at hl 2 rfl) ?_
  refine va_get (D := D) (ci := 7) (v := .ref v) (C := RX7) (T := TX7) (N := 6) hx hb hts hin7 hown hK hP 0 rfl rfl 0 (by decide) (hts (.fieldLink RX7 8 "MeshRoutingModel" "v" "[J") (List.mem_cons_of_mem _ q_665)) (fun _ h9 => h9) rfl dX7_totalHops_12 ?_
  refine lv_bipush (v := nI 10) hx hb dX7_totalHops_15 (by decide) ?_
  refine k_lald (v := lN 0) hx hb hK hP 1 1 rfl rfl (by omega) (by omega) ((mF_o (by omega) (by omega) (by omega))) dX7_totalHops_17 ?_
  refine W.lcmp hx hb dX7_totalHops_18 ?_
  refine k_lif_ge (tgt := 65) hx hb dX7_totalHops_19 (by decide) (by omega) (by omega) (fun _ => ?_) (fun h9 => absurd h9 (by omega))
  refine lv_iload_n hx hb dX7_totalHops_65 rfl (lv_at hl 1 rfl) ?_
  have hP9 := hP.sub (ws' := [(m0, .inr (7, [.ref v, .ref a1, .ref a2, .int ik, .int (nI 0), .int en]))]) [0] rfl
  have hD9 := hD.sub (ws' := [(m0, .inr (7, [.ref v, .ref a1, .ref a2, .int ik, .int (nI 0), .int en]))]) [0] rfl rfl
  exact W.iret (v := nI 0) hx hb hr (fun t9 ht9 hW9 => ⟨⟨nI 0, (), rfl, rfl, by rw [ht9]; exact hP9, hD9⟩, hS.F ht9⟩) hS.2.2 dX7_totalHops_66

set_option maxHeartbeats 4000000 in
set_option maxRecDepth 100000 in
theorem c_M_thrown (l : Launch) (D : va_G) (cI cJ cM cG : ClassId) (m0 : Nat) (v : Nat) (a1 : Nat) (a2 : Nat) (ik : Int32) (th : Int32) (en : Int32) (sz : Nat)  : Met l yX7_thrown (Cond.code yX7_thrown cX7_thrown 1 (some .int) :: kBig) ({ frames := 0, cells := 0, slots := 0, locals := 0 }) (va_Pc [.ref m0] (kP D [(cI, .int), (cJ, .long), (cM, .object "MeshRouting$Message"), (cG, .array .int)] [(m0, .inr (7, [.ref v, .ref a1, .ref a2, .int ik, .int th, .int en]))] sz)) (va_Qi (fun (r : Int32) (_ : Unit) => r = th) (fun _ t9 => kB D (va_A [(m0, .inr (7, [.ref v, .ref a1, .ref a2, .int ik, .int th, .int en]))] sz) [(m0, .inr (7, [.ref v, .ref a1, .ref a2, .int ik, .int th, .int en]))] t9) (va_A [(m0, .inr (7, [.ref v, .ref a1, .ref a2, .int ik, .int th, .int en]))] sz)) 0 0 (va_A [(m0, .inr (7, [.ref v, .ref a1, .ref a2, .int ik, .int th, .int en]))] sz) := by
  refine Met.ofW (cc := cX7_thrown) (maxL := 1) (ret := (some .int)) (by decide) rfl ?_
  intro p e s m args below meth c s₁ B hml hv
  obtain ⟨rfl, hsz, hP, hK, hD0, hKN⟩ := hv
  have hx := B.exec
  have hb := B.bytes
  have hr := B.returns
  have hts := atoms_spec (ws := (Cond.code yX7_thrown cX7_thrown 1 (some .int) :: kBig)) B.pre
  have hown : s.vm.findClass RX7 = some m.cls := findClass_of_methodNamed B.named
  have hlocks := B.notSynchronized
  have hin7 : ∀ w ∈ u_ws RX7 TX7 6, w ∈ (Cond.code yX7_thrown cX7_thrown 1 (some .int) :: kBig) := fun w h => List.mem_cons_of_mem _ (inb7 w h)
  subst hsz
  have hD := hD0.self (sz := s.heap.size)
  generalize hAe : va_A [(m0, .inr (7, [.ref v, .ref a1, .ref a2, .int ik, .int th, .int en]))] s.heap.size = A at hD ⊢
  have hA : ∀ q : Nat, s.heap.size ≤ q → A q := fun q h => by rw [← hAe]; exact Or.inr h
  have hS : va_S A s.heap s.heap [] := va_S.rf
  have hl := lv_entry ([.ref m0]) (n := 1) (Nat.le_of_ble_eq_true rfl)
  rw [lg_entry_eq]
  generalize (lg_sl ([.ref m0]) ++ List.replicate (1 - (lg_sl ([.ref m0])).length) Slot.unset).toArray = ls at hl ⊢
  have hl : lv_has ls 1 [(0, .ref m0)] := hl
  refine lv_aload_n hx hb dX7_thrown_0 rfl (lv_at hl 0 rfl) ?_
  refine va_get (D := D) (ci := 7) (v := .int th) (C := RX7) (T := TX7) (N := 6) hx hb hts hin7 hown hK hP 0 rfl rfl 4 (by decide) (hts (.fieldLink RX7 34 "MeshRoutingModel" "thrown" "I") (List.mem_cons_of_mem _ q_760)) (fun _ h9 => h9) rfl dX7_thrown_1 ?_
  have hP9 := hP.sub (ws' := [(m0, .inr (7, [.ref v, .ref a1, .ref a2, .int ik, .int th, .int en]))]) [0] rfl
  have hD9 := hD.sub (ws' := [(m0, .inr (7, [.ref v, .ref a1, .ref a2, .int ik, .int th, .int en]))]) [0] rfl rfl
  exact W.iret (v := th) hx hb hr (fun t9 ht9 hW9 => ⟨⟨th, (), rfl, rfl, by rw [ht9]; exact hP9, hD9⟩, hS.F ht9⟩) hS.2.2 dX7_thrown_4
