set_option maxHeartbeats 4000000 in
set_option maxRecDepth 100000 in
theorem c_M_lacks1 (l : Launch) (D : va_G) (cI cJ cM cG : ClassId) (m0 : Nat) (v : Nat) (a1 : Nat) (a2 : Nat) (ik : Int32) (th : Int32) (en : Int32) (N : Nat) (a : Nat) (b : Nat) (sz : Nat) (hN : N ≤ 10) (hN0 : 0 < N) (ha : a < N) (hb9 : b < N) : Met l yX7_lacks (Cond.code yX7_lacks cX7_lacks 3 (some .boolean) :: kBig) ({ frames := 2, cells := 0, slots := 0, locals := 46 }) (va_Pc [.ref m0, .int (nI a), .int (nI b)] (kP D [(cI, .int), (cJ, .long), (cM, .object "MeshRouting$Message"), (cG, .array .int)] [(m0, .inr (7, [.ref v, .ref a1, .ref a2, .int ik, .int th, .int en])), (v, .inl (cJ, 136800, .inr (.inl (mF N))))] sz)) (va_Qi (fun (r : Int32) (_ : Unit) => r = nI 0) (fun _ t9 => kB D (va_A [(m0, .inr (7, [.ref v, .ref a1, .ref a2, .int ik, .int th, .int en])), (v, .inl (cJ, 136800, .inr (.inl (mF N))))] sz) [(m0, .inr (7, [.ref v, .ref a1, .ref a2, .int ik, .int (nI 0), .int en])), (v, .inl (cJ, 136800, .inr (.inl (mF N))))] t9) (va_A [(m0, .inr (7, [.ref v, .ref a1, .ref a2, .int ik, .int th, .int en])), (v, .inl (cJ, 136800, .inr (.inl (mF N))))] sz)) 0 0 (va_A [(m0, .inr (7, [.ref v, .ref a1, .ref a2, .int ik, .int th, .int en])), (v, .inl (cJ, 136800, .inr (.inl (mF N))))] sz) := by
  refine Met.ofW (cc := cX7_lacks) (maxL := 3) (ret := (some .boolean)) (by decide) rfl ?_
  intro p e s m args below meth c s₁ B hml hv
  obtain ⟨rfl, hsz, hP, hK, hD0, hKN⟩ := hv
  have hx := B.exec
  have hb := B.bytes
  have hr := B.returns
  have hts := atoms_spec (ws := (Cond.code yX7_lacks cX7_lacks 3 (some .boolean) :: kBig)) B.pre
  have hown : s.vm.findClass RX7 = some m.cls := findClass_of_methodNamed B.named
  have hlocks := B.notSynchronized
  have hin7 : ∀ w ∈ u_ws RX7 TX7 6, w ∈ (Cond.code yX7_lacks cX7_lacks 3 (some .boolean) :: kBig) := fun w h => List.mem_cons_of_mem _ (inb7 w h)
  subst hsz
  have hD := hD0.self (sz := s.heap.size)
  generalize hAe : va_A [(m0, .inr (7, [.ref v, .ref a1, .ref a2, .int ik, .int th, .int en])), (v, .inl (cJ, 136800, .inr (.inl (mF N))))] s.heap.size = A at hD ⊢
  have hA : ∀ q : Nat, s.heap.size ≤ q → A q := fun q h => by rw [← hAe]; exact Or.inr h
  have hS : va_S A s.heap s.heap [] := va_S.rf
  have hl := lv_entry ([.ref m0, .int (nI a), .int (nI b)]) (n := 3) (Nat.le_of_ble_eq_true rfl)
  rw [lg_entry_eq]
  generalize (lg_sl ([.ref m0, .int (nI a), .int (nI b)]) ++ List.replicate (3 - (lg_sl ([.ref m0, .int (nI a), .int (nI b)])).length) Slot.unset).toArray = ls at hl ⊢
  have hl : lv_has ls 3 [(0, .ref m0), (1, .int (nI a)), (2, .int (nI b))] := hl
  refine lv_aload_n hx hb dX7_lacks_0 rfl (lv_at hl 0 rfl) ?_
  refine lv_aload_n hx hb dX7_lacks_1 rfl (lv_at hl 0 rfl) ?_
  refine lv_iload_n hx hb dX7_lacks_2 rfl (lv_at hl 1 rfl) ?_
  refine k_ci (wr := []) (w1 := [(m0, .inr (7, [.ref v, .ref a1, .ref a2, .int ik, .int th, .int en])), (v, .inl (cJ, 136800, .inr (.inl (mF N))))]) (va_runV (As := [.int (nI a)]) (rest := [.ref m0]) ⟨hx, hb, hml, hown, hts⟩ (c_X7_isNode1 l D cI cJ cM cG m0 v a1 a2 ik th en (mF N) N a s.heap.size (mF_1) (ha) (hN) (hN0)) (cwV 1 hts (kB_V (fun _ => List.mem_cons_of_mem _) q_761 q_762 q_763 q_670 (kB_c q_764)) rfl rfl rfl (by decide +kernel) ⟨Nat.le_of_ble_eq_true rfl, Nat.le_of_ble_eq_true rfl⟩) (k_preV (T := TX7) hP hD hK hKN [0, 1] rfl rfl (ci := 7) rfl (q0 := 0) rfl) rfl rfl hl.1 rfl (lv_room (Nat.le_of_ble_eq_true rfl)) dX7_lacks_3 ⟨Nat.le_of_ble_eq_true rfl, Nat.le_of_ble_eq_true rfl⟩) hP hD hS hA [0, 1] [] rfl rfl rfl (by decide) (fun r3 H locs hw3 hP hD hS => ?_)
  replace hP : va_P D vwCl [(m0, .inr (7, [.ref v, .ref a1, .ref a2, .int ik, .int th, .int en])), (v, .inl (cJ, 136800, .inr (.inl (mF N))))] H := hP
  replace hD : va_D A [(m0, .inr (7, [.ref v, .ref a1, .ref a2, .int ik, .int th, .int en])), (v, .inl (cJ, 136800, .inr (.inl (mF N))))] := hD
  replace hw3 : r3 = nI 1 := hw3
  refine k_ti hw3 ?_
  refine k_if_eq (tgt := 21) hx hb dX7_lacks_6 (by decide) (by omega) (fun h9 => absurd h9 (by omega)) (fun _ => ?_)
  refine lv_aload_n hx hb dX7_lacks_9 rfl (lv_at hl 0 rfl) ?_
  refine lv_iload_n hx hb dX7_lacks_10 rfl (lv_at hl 2 rfl) ?_
  refine k_ci (wr := []) (w1 := [(m0, .inr (7, [.ref v, .ref a1, .ref a2, .int ik, .int th, .int en])), (v, .inl (cJ, 136800, .inr (.inl (mF N))))]) (va_runV (As := [.int (nI b)]) (rest := [.ref m0]) ⟨hx, hb, hml, hown, hts⟩ (c_X7_isNode1 l D cI cJ cM cG m0 v a1 a2 ik th en (mF N) N b H.size (mF_1) (hb9) (hN) (hN0)) (cwV 1 hts (kB_V (fun _ => List.mem_cons_of_mem _) q_761 q_762 q_763 q_670 (kB_c q_764)) rfl rfl rfl (by decide +kernel) ⟨Nat.le_of_ble_eq_true rfl, Nat.le_of_ble_eq_true rfl⟩) (k_preV (T := TX7) hP hD hK hKN [0, 1] rfl rfl (ci := 7) rfl (q0 := 0) rfl) rfl rfl hl.1 rfl (lv_room (Nat.le_of_ble_eq_true rfl)) dX7_lacks_11 ⟨Nat.le_of_ble_eq_true rfl, Nat.le_of_ble_eq_true rfl⟩) hP hD hS hA [0, 1] [] rfl rfl rfl (by decide) (fun r11 H locs hw11 hP hD hS => ?_)
  replace hP : va_P D vwCl [(m0, .inr (7, [.ref v, .ref a1, .ref a2, .int ik, .int th, .int en])), (v, .inl (cJ, 136800, .inr (.inl (mF N))))] H := hP
  replace hD : va_D A [(m0, .inr (7, [.ref v, .ref a1, .ref a2, .int ik, .int th, .int en])), (v, .inl (cJ, 136800, .inr (.inl (mF N))))] := hD
  replace hw11 : r11 = nI 1 := hw11
  refine k_ti hw11 ?_
  refine k_if_eq (tgt := 21) hx hb dX7_lacks_14 (by decide) (by omega) (fun h9 => absurd h9 (by omega)) (fun _ => ?_)
  refine lv_iconst (v := nI 0) hx hb dX7_lacks_17 (by decide) ?_
  refine lv_goto (tgt := 22) hx hb dX7_lacks_18 (by decide) ?_
  refine va_put (D := D) (ci := 7) (v := .int (nI 0)) (ty := .int) (C := RX7) (T := TX7) (N := 6) hx hb hts hin7 tyX7 tyX7_ok nmX7 hown hK hP hD hS 0 rfl rfl 4 (by decide) (hts (.fieldLink RX7 34 "MeshRoutingModel" "thrown" "I") (List.mem_cons_of_mem _ q_760)) (fun _ h9 => h9) rfl (by decide +kernel) rfl rfl (Nat.le_of_ble_eq_true rfl) dX7_lacks_22 (fun H locs hP hD hS => ?_)
  replace hP : va_P D vwCl [(m0, .inr (7, [.ref v, .ref a1, .ref a2, .int ik, .int (nI 0), .int en])), (v, .inl (cJ, 136800, .inr (.inl (mF N))))] H := hP
  replace hD : va_D A [(m0, .inr (7, [.ref v, .ref a1, .ref a2, .int ik, .int (nI 0), .int en])), (v, .inl (cJ, 136800, .inr (.inl (mF N))))] := hD
  refine lv_aload_n hx hb dX7_lacks_25 rfl (lv_at hl 0 rfl) ?_
  refine va_get (D := D) (ci := 7) (v := .int (nI 0)) (C := RX7) (T := TX7) (N := 6) hx hb hts hin7 hown hK hP 0 rfl rfl 4 (by decide) (hts (.fieldLink RX7 34 "MeshRoutingModel" "thrown" "I") (List.mem_cons_of_mem _ q_760)) (fun _ h9 => h9) rfl dX7_lacks_26 ?_
  refine lv_iconst (v := nI 1) hx hb dX7_lacks_29 (by decide) ?_
  refine k_icmp_ne (tgt := 37) hx hb dX7_lacks_30 (by decide) (by omega) (by omega) (fun _ => ?_) (fun h9 => absurd h9 (by omega))
  refine lv_iconst (v := nI 0) hx hb dX7_lacks_37 (by decide) ?_
  have hP9 := hP.sub (ws' := [(m0, .inr (7, [.ref v, .ref a1, .ref a2, .int ik, .int (nI 0), .int en])), (v, .inl (cJ, 136800, .inr (.inl (mF N))))]) [0, 1] rfl
  have hD9 := hD.sub (ws' := [(m0, .inr (7, [.ref v, .ref a1, .ref a2, .int ik, .int (nI 0), .int en])), (v, .inl (cJ, 136800, .inr (.inl (mF N))))]) [0, 1] rfl rfl
  exact W.zret (v := nI 0) hx hb hr (by decide) (fun t9 ht9 hW9 => ⟨⟨nI 0, (), rfl, rfl, by rw [ht9]; exact hP9, hD9⟩, hS.F ht9⟩) hS.2.2 dX7_lacks_38

set_option maxHeartbeats 4000000 in
set_option maxRecDepth 100000 in
theorem c_M_lacks0 (l : Launch) (D : va_G) (cI cJ cM cG : ClassId) (m0 : Nat) (v : Nat) (a1 : Nat) (a2 : Nat) (ik : Int32) (th : Int32) (en : Int32) (N : Nat) (x : Int32) (y : Int32) (sz : Nat) (hN : N ≤ 10) (hN0 : 0 < N) (hb2 : kBad2 N x y) : Met l yX7_lacks (Cond.code yX7_lacks cX7_lacks 3 (some .boolean) :: kBig) ({ frames := 2, cells := 0, slots := 0, locals := 46 }) (va_Pc [.ref m0, .int x, .int y] (kP D [(cI, .int), (cJ, .long), (cM, .object "MeshRouting$Message"), (cG, .array .int)] [(m0, .inr (7, [.ref v, .ref a1, .ref a2, .int ik, .int th, .int en])), (v, .inl (cJ, 136800, .inr (.inl (mF N))))] sz)) (va_Qi (fun (r : Int32) (_ : Unit) => r = nI 1) (fun _ t9 => kB D (va_A [(m0, .inr (7, [.ref v, .ref a1, .ref a2, .int ik, .int th, .int en])), (v, .inl (cJ, 136800, .inr (.inl (mF N))))] sz) [(m0, .inr (7, [.ref v, .ref a1, .ref a2, .int ik, .int (nI 1), .int en])), (v, .inl (cJ, 136800, .inr (.inl (mF N))))] t9) (va_A [(m0, .inr (7, [.ref v, .ref a1, .ref a2, .int ik, .int th, .int en])), (v, .inl (cJ, 136800, .inr (.inl (mF N))))] sz)) 0 0 (va_A [(m0, .inr (7, [.ref v, .ref a1, .ref a2, .int ik, .int th, .int en])), (v, .inl (cJ, 136800, .inr (.inl (mF N))))] sz) := by
  refine Met.ofW (cc := cX7_lacks) (maxL := 3) (ret := (some .boolean)) (by decide) rfl ?_
  intro p e s m args below meth c s₁ B hml hv
  obtain ⟨rfl, hsz, hP, hK, hD0, hKN⟩ := hv
  have hx := B.exec
  have hb := B.bytes
  have hr := B.returns
  have hts := atoms_spec (ws := (Cond.code yX7_lacks cX7_lacks 3 (some .boolean) :: kBig)) B.pre
  have hown : s.vm.findClass RX7 = some m.cls := findClass_of_methodNamed B.named
  have hlocks := B.notSynchronized
  have hin7 : ∀ w ∈ u_ws RX7 TX7 6, w ∈ (Cond.code yX7_lacks cX7_lacks 3 (some .boolean) :: kBig) := fun w h => List.mem_cons_of_mem _ (inb7 w h)
  subst hsz
  have hD := hD0.self (sz := s.heap.size)
  generalize hAe : va_A [(m0, .inr (7, [.ref v, .ref a1, .ref a2, .int ik, .int th, .int en])), (v, .inl (cJ, 136800, .inr (.inl (mF N))))] s.heap.size = A at hD ⊢
  have hA : ∀ q : Nat, s.heap.size ≤ q → A q := fun q h => by rw [← hAe]; exact Or.inr h
  have hS : va_S A s.heap s.heap [] := va_S.rf
  have hl := lv_entry ([.ref m0, .int x, .int y]) (n := 3) (Nat.le_of_ble_eq_true rfl)
  rw [lg_entry_eq]
  generalize (lg_sl ([.ref m0, .int x, .int y]) ++ List.replicate (3 - (lg_sl ([.ref m0, .int x, .int y])).length) Slot.unset).toArray = ls at hl ⊢
  have hl : lv_has ls 3 [(0, .ref m0), (1, .int x), (2, .int y)] := hl
  rcases hb2 with hb1 | ⟨⟨j1, hj1, rfl⟩, hb1⟩
  · refine lv_aload_n hx hb dX7_lacks_0 rfl (lv_at hl 0 rfl) ?_
    refine lv_aload_n hx hb dX7_lacks_1 rfl (lv_at hl 0 rfl) ?_
    refine lv_iload_n hx hb dX7_lacks_2 rfl (lv_at hl 1 rfl) ?_
    refine k_ci (wr := []) (w1 := [(m0, .inr (7, [.ref v, .ref a1, .ref a2, .int ik, .int th, .int en])), (v, .inl (cJ, 136800, .inr (.inl (mF N))))]) (va_runV (As := [.int x]) (rest := [.ref m0]) ⟨hx, hb, hml, hown, hts⟩ (c_X7_isNode0 l D cI cJ cM cG m0 v a1 a2 ik th en (mF N) N x s.heap.size (mF_1) (hb1) (hN) (hN0)) (cwV 1 hts (kB_V (fun _ => List.mem_cons_of_mem _) q_761 q_762 q_763 q_670 (kB_c q_764)) rfl rfl rfl (by decide +kernel) ⟨Nat.le_of_ble_eq_true rfl, Nat.le_of_ble_eq_true rfl⟩) (k_preV (T := TX7) hP hD hK hKN [0, 1] rfl rfl (ci := 7) rfl (q0 := 0) rfl) rfl rfl hl.1 rfl (lv_room (Nat.le_of_ble_eq_true rfl)) dX7_lacks_3 ⟨Nat.le_of_ble_eq_true rfl, Nat.le_of_ble_eq_true rfl⟩) hP hD hS hA [0, 1] [] rfl rfl rfl (by decide) (fun r3 H locs hw3 hP hD hS => ?_)
    replace hP : va_P D vwCl [(m0, .inr (7, [.ref v, .ref a1, .ref a2, .int ik, .int th, .int en])), (v, .inl (cJ, 136800, .inr (.inl (mF N))))] H := hP
    replace hD : va_D A [(m0, .inr (7, [.ref v, .ref a1, .ref a2, .int ik, .int th, .int en])), (v, .inl (cJ, 136800, .inr (.inl (mF N))))] := hD
    replace hw3 : r3 = nI 0 := hw3
    refine k_ti hw3 ?_
    refine k_if_eq (tgt := 21) hx hb dX7_lacks_6 (by decide) (by omega) (fun _ => ?_) (fun h9 => absurd h9 (by omega))
    refine lv_iconst (v := nI 1) hx hb dX7_lacks_21 (by decide) ?_
    refine va_put (D := D) (ci := 7) (v := .int (nI 1)) (ty := .int) (C := RX7) (T := TX7) (N := 6) hx hb hts hin7 tyX7 tyX7_ok nmX7 hown hK hP hD hS 0 rfl rfl 4 (by decide) (hts (.fieldLink RX7 34 "MeshRoutingModel" "thrown" "I") (List.mem_cons_of_mem _ q_760)) (fun _ h9 => h9) rfl (by decide +kernel) rfl rfl (Nat.le_of_ble_eq_true rfl) dX7_lacks_22 (fun H locs hP hD hS => ?_)
    replace hP : va_P D vwCl [(m0, .inr (7, [.ref v, .ref a1, .ref a2, .int ik, .int (nI 1), .int en])), (v, .inl (cJ, 136800, .inr (.inl (mF N))))] H := hP
    replace hD : va_D A [(m0, .inr (7, [.ref v, .ref a1, .ref a2, .int ik, .int (nI 1), .int en])), (v, .inl (cJ, 136800, .inr (.inl (mF N))))] := hD
    refine lv_aload_n hx hb dX7_lacks_25 rfl (lv_at hl 0 rfl) ?_
    refine va_get (D := D) (ci := 7) (v := .int (nI 1)) (C := RX7) (T := TX7) (N := 6) hx hb hts hin7 hown hK hP 0 rfl rfl 4 (by decide) (hts (.fieldLink RX7 34 "MeshRoutingModel" "thrown" "I") (List.mem_cons_of_mem _ q_760)) (fun _ h9 => h9) rfl dX7_lacks_26 ?_
    refine lv_iconst (v := nI 1) hx hb dX7_lacks_29 (by decide) ?_
    refine k_icmp_ne (tgt := 37) hx hb dX7_lacks_30 (by decide) (by omega) (by omega) (fun h9 => absurd h9 (by omega)) (fun _ => ?_)
    refine lv_iconst (v := nI 1) hx hb dX7_lacks_33 (by decide) ?_
    refine lv_goto (tgt := 38) hx hb dX7_lacks_34 (by decide) ?_
    have hP9 := hP.sub (ws' := [(m0, .inr (7, [.ref v, .ref a1, .ref a2, .int ik, .int (nI 1), .int en])), (v, .inl (cJ, 136800, .inr (.inl (mF N))))]) [0, 1] rfl
    have hD9 := hD.sub (ws' := [(m0, .inr (7, [.ref v, .ref a1, .ref a2, .int ik, .int (nI 1), .int en])), (v, .inl (cJ, 136800, .inr (.inl (mF N))))]) [0, 1] rfl rfl
    exact W.zret (v := nI 1) hx hb hr (by decide) (fun t9 ht9 hW9 => ⟨⟨nI 1, (), rfl, rfl, by rw [ht9]; exact hP9, hD9⟩, hS.F ht9⟩) hS.2.2 dX7_lacks_38
  · refine lv_aload_n hx hb dX7_lacks_0 rfl (lv_at hl 0 rfl) ?_
    refine lv_aload_n hx hb dX7_lacks_1 rfl (lv_at hl 0 rfl) ?_
    refine lv_iload_n hx hb dX7_lacks_2 rfl (lv_at hl 1 rfl) ?_
    refine k_ci (wr := []) (w1 := [(m0, .inr (7, [.ref v, .ref a1, .ref a2, .int ik, .int th, .int en])), (v, .inl (cJ, 136800, .inr (.inl (mF N))))]) (va_runV (As := [.int (nI j1)]) (rest := [.ref m0]) ⟨hx, hb, hml, hown, hts⟩ (c_X7_isNode1 l D cI cJ cM cG m0 v a1 a2 ik th en (mF N) N j1 s.heap.size (mF_1) (hj1) (hN) (hN0)) (cwV 1 hts (kB_V (fun _ => List.mem_cons_of_mem _) q_761 q_762 q_763 q_670 (kB_c q_764)) rfl rfl rfl (by decide +kernel) ⟨Nat.le_of_ble_eq_true rfl, Nat.le_of_ble_eq_true rfl⟩) (k_preV (T := TX7) hP hD hK hKN [0, 1] rfl rfl (ci := 7) rfl (q0 := 0) rfl) rfl rfl hl.1 rfl (lv_room (Nat.le_of_ble_eq_true rfl)) dX7_lacks_3 ⟨Nat.le_of_ble_eq_true rfl, Nat.le_of_ble_eq_true rfl⟩) hP hD hS hA [0, 1] [] rfl rfl rfl (by decide) (fun r3 H locs hw3 hP hD hS => ?_)
    replace hP : va_P D vwCl [(m0, .inr (7, [.ref v, .ref a1, .ref a2, .int ik, .int th, .int en])), (v, .inl (cJ, 136800, .inr (.inl (mF N))))] H := hP
    replace hD : va_D A [(m0, .inr (7, [.ref v, .ref a1, .ref a2, .int ik, .int th, .int en])), (v, .inl (cJ, 136800, .inr (.inl (mF N))))] := hD
    replace hw3 : r3 = nI 1 := hw3
    refine k_ti hw3 ?_
    refine k_if_eq (tgt := 21) hx hb dX7_lacks_6 (by decide) (by omega) (fun h9 => absurd h9 (by omega)) (fun _ => ?_)
    refine lv_aload_n hx hb dX7_lacks_9 rfl (lv_at hl 0 rfl) ?_
    refine lv_iload_n hx hb dX7_lacks_10 rfl (lv_at hl 2 rfl) ?_
    refine k_ci (wr := []) (w1 := [(m0, .inr (7, [.ref v, .ref a1, .ref a2, .int ik, .int th, .int en])), (v, .inl (cJ, 136800, .inr (.inl (mF N))))]) (va_runV (As := [.int y]) (rest := [.ref m0]) ⟨hx, hb, hml, hown, hts⟩ (c_X7_isNode0 l D cI cJ cM cG m0 v a1 a2 ik th en (mF N) N y H.size (mF_1) (hb1) (hN) (hN0)) (cwV 1 hts (kB_V (fun _ => List.mem_cons_of_mem _) q_761 q_762 q_763 q_670 (kB_c q_764)) rfl rfl rfl (by decide +kernel) ⟨Nat.le_of_ble_eq_true rfl, Nat.le_of_ble_eq_true rfl⟩) (k_preV (T := TX7) hP hD hK hKN [0, 1] rfl rfl (ci := 7) rfl (q0 := 0) rfl) rfl rfl hl.1 rfl (lv_room (Nat.le_of_ble_eq_true rfl)) dX7_lacks_11 ⟨Nat.le_of_ble_eq_true rfl, Nat.le_of_ble_eq_true rfl⟩) hP hD hS hA [0, 1] [] rfl rfl rfl (by decide) (fun r11 H locs hw11 hP hD hS => ?_)
    replace hP : va_P D vwCl [(m0, .inr (7, [.ref v, .ref a1, .ref a2, .int ik, .int th, .int en])), (v, .inl (cJ, 136800, .inr (.inl (mF N))))] H := hP
    replace hD : va_D A [(m0, .inr (7, [.ref v, .ref a1, .ref a2, .int ik, .int th, .int en])), (v, .inl (cJ, 136800, .inr (.inl (mF N))))] := hD
    replace hw11 : r11 = nI 0 := hw11
    refine k_ti hw11 ?_
    refine k_if_eq (tgt := 21) hx hb dX7_lacks_14 (by decide) (by omega) (fun _ => ?_) (fun h9 => absurd h9 (by omega))
    refine lv_iconst (v := nI 1) hx hb dX7_lacks_21 (by decide) ?_
    refine va_put (D := D) (ci := 7) (v := .int (nI 1)) (ty := .int) (C := RX7) (T := TX7) (N := 6) hx hb hts hin7 tyX7 tyX7_ok nmX7 hown hK hP hD hS 0 rfl rfl 4 (by decide) (hts (.fieldLink RX7 34 "MeshRoutingModel" "thrown" "I") (List.mem_cons_of_mem _ q_760)) (fun _ h9 => h9) rfl (by decide +kernel) rfl rfl (Nat.le_of_ble_eq_true rfl) dX7_lacks_22 (fun H locs hP hD hS => ?_)
    replace hP : va_P D vwCl [(m0, .inr (7, [.ref v, .ref a1, .ref a2, .int ik, .int (nI 1), .int en])), (v, .inl (cJ, 136800, .inr (.inl (mF N))))] H := hP
    replace hD : va_D A [(m0, .inr (7, [.ref v, .ref a1, .ref a2, .int ik, .int (nI 1), .int en])), (v, .inl (cJ, 136800, .inr (.inl (mF N))))] := hD
    refine lv_aload_n hx hb dX7_lacks_25 rfl (lv_at hl 0 rfl) ?_
    refine va_get (D := D) (ci := 7) (v := .int (nI 1)) (C := RX7) (T := TX7) (N := 6) hx hb hts hin7 hown hK hP 0 rfl rfl 4 (by decide) (hts (.fieldLink RX7 34 "MeshRoutingModel" "thrown" "I") (List.mem_cons_of_mem _ q_760)) (fun _ h9 => h9) rfl dX7_lacks_26 ?_
    refine lv_iconst (v := nI 1) hx hb dX7_lacks_29 (by decide) ?_
    refine k_icmp_ne (tgt := 37) hx hb dX7_lacks_30 (by decide) (by omega) (by omega) (fun h9 => absurd h9 (by omega)) (fun _ => ?_)
    refine lv_iconst (v := nI 1) hx hb dX7_lacks_33 (by decide) ?_
    refine lv_goto (tgt := 38) hx hb dX7_lacks_34 (by decide) ?_
    have hP9 := hP.sub (ws' := [(m0, .inr (7, [.ref v, .ref a1, .ref a2, .int ik, .int (nI 1), .int en])), (v, .inl (cJ, 136800, .inr (.inl (mF N))))]) [0, 1] rfl
    have hD9 := hD.sub (ws' := [(m0, .inr (7, [.ref v, .ref a1, .ref a2, .int ik, .int (nI 1), .int en])), (v, .inl (cJ, 136800, .inr (.inl (mF N))))]) [0, 1] rfl rfl
    exact W.zret (v := nI 1) hx hb hr (by decide) (fun t9 ht9 hW9 => ⟨⟨nI 1, (), rfl, rfl, by rw [ht9]; exact hP9, hD9⟩, hS.F ht9⟩) hS.2.2 dX7_lacks_38

set_option maxHeartbeats 4000000 in
set_option maxRecDepth 100000 in
theorem c_M_told1 (l : Launch) (D : va_G) (cI cJ cM cG : ClassId) (m0 : Nat) (v : Nat) (a1 : Nat) (a2 : Nat) (ik : Int32) (th : Int32) (en : Int32) (N : Nat) (a : Nat) (b : Nat) (wh : Nat) (wo : Int32) (sz : Nat) (hN : N ≤ 10) (hN0 : 0 < N) (ha : a < N) (hb9 : b < N) : Met l yX7_told (Cond.code yX7_told cX7_told 5 (some .int) :: kBig) ({ frames := 3, cells := 0, slots := 0, locals := 68 }) (va_Pc [.ref m0, .int (nI a), .int (nI b), .int (nI wh), .int wo] (kP D [(cI, .int), (cJ, .long), (cM, .object "MeshRouting$Message"), (cG, .array .int)] [(m0, .inr (7, [.ref v, .ref a1, .ref a2, .int ik, .int th, .int en])), (v, .inl (cJ, 136800, .inr (.inl (mF N))))] sz)) (va_Qi (fun (r : Int32) (_ : Unit) => r = wo) (fun _ t9 => kB D (va_A [(m0, .inr (7, [.ref v, .ref a1, .ref a2, .int ik, .int th, .int en])), (v, .inl (cJ, 136800, .inr (.inl (mF N))))] sz) [(m0, .inr (7, [.ref v, .ref a1, .ref a2, .int ik, .int (nI 0), .int en]))] t9) (va_A [(m0, .inr (7, [.ref v, .ref a1, .ref a2, .int ik, .int th, .int en])), (v, .inl (cJ, 136800, .inr (.inl (mF N))))] sz)) 0 0 (va_A [(m0, .inr (7, [.ref v, .ref a1, .ref a2, .int ik, .int th, .int en])), (v, .inl (cJ, 136800, .inr (.inl (mF N))))] sz) := by
  refine Met.ofW (cc := cX7_told) (maxL := 5) (ret := (some .int)) (by decide) rfl ?_
  intro p e s m args below meth c s₁ B hml hv
  obtain ⟨rfl, hsz, hP, hK, hD0, hKN⟩ := hv
  have hx := B.exec
  have hb := B.bytes
  have hr := B.returns
  have hts := atoms_spec (ws := (Cond.code yX7_told cX7_told 5 (some .int) :: kBig)) B.pre
  have hown : s.vm.findClass RX7 = some m.cls := findClass_of_methodNamed B.named
  have hlocks := B.notSynchronized
  have hin7 : ∀ w ∈ u_ws RX7 TX7 6, w ∈ (Cond.code yX7_told cX7_told 5 (some .int) :: kBig) := fun w h => List.mem_cons_of_mem _ (inb7 w h)
  subst hsz
  have hD := hD0.self (sz := s.heap.size)
  generalize hAe : va_A [(m0, .inr (7, [.ref v, .ref a1, .ref a2, .int ik, .int th, .int en])), (v, .inl (cJ, 136800, .inr (.inl (mF N))))] s.heap.size = A at hD ⊢
  have hA : ∀ q : Nat, s.heap.size ≤ q → A q := fun q h => by rw [← hAe]; exact Or.inr h
  have hS : va_S A s.heap s.heap [] := va_S.rf
  have hl := lv_entry ([.ref m0, .int (nI a), .int (nI b), .int (nI wh), .int wo]) (n := 5) (Nat.le_of_ble_eq_true rfl)
  rw [lg_entry_eq]
  generalize (lg_sl ([.ref m0, .int (nI a), .int (nI b), .int (nI wh), .int wo]) ++ List.replicate (5 - (lg_sl ([.ref m0, .int (nI a), .int (nI b), .int (nI wh), .int wo])).length) Slot.unset).toArray = ls at hl ⊢
  have hl : lv_has ls 5 [(0, .ref m0), (1, .int (nI a)), (2, .int (nI b)), (3, .int (nI wh)), (4, .int wo)] := hl
  refine lv_aload_n hx hb dX7_told_0 rfl (lv_at hl 0 rfl) ?_
  refine lv_iload_n hx hb dX7_told_1 rfl (lv_at hl 1 rfl) ?_
  refine lv_iload_n hx hb dX7_told_2 rfl (lv_at hl 2 rfl) ?_
  refine k_ci (wr := []) (w1 := [(m0, .inr (7, [.ref v, .ref a1, .ref a2, .int ik, .int (nI 0), .int en])), (v, .inl (cJ, 136800, .inr (.inl (mF N))))]) (va_runV (As := [.int (nI a), .int (nI b)]) (rest := []) ⟨hx, hb, hml, hown, hts⟩ (c_M_lacks1 l D cI cJ cM cG m0 v a1 a2 ik th en N a b s.heap.size (hN) (hN0) (ha) (hb9)) (cwV 2 hts (kB_V (fun _ => List.mem_cons_of_mem _) q_756 q_757 q_758 q_670 (kB_c q_759)) rfl rfl rfl (by decide +kernel) ⟨Nat.le_of_ble_eq_true rfl, Nat.le_of_ble_eq_true rfl⟩) (k_preV (T := TX7) hP hD hK hKN [0, 1] rfl rfl (ci := 7) rfl (q0 := 0) rfl) rfl rfl hl.1 rfl (lv_room (Nat.le_of_ble_eq_true rfl)) dX7_told_3 ⟨Nat.le_of_ble_eq_true rfl, Nat.le_of_ble_eq_true rfl⟩) hP hD hS hA [0, 1] [] rfl rfl rfl (by decide) (fun r3 H locs hw3 hP hD hS => ?_)
  replace hP : va_P D vwCl [(m0, .inr (7, [.ref v, .ref a1, .ref a2, .int ik, .int (nI 0), .int en])), (v, .inl (cJ, 136800, .inr (.inl (mF N))))] H := hP
  replace hD : va_D A [(m0, .inr (7, [.ref v, .ref a1, .ref a2, .int ik, .int (nI 0), .int en])), (v, .inl (cJ, 136800, .inr (.inl (mF N))))] := hD
  replace hw3 : r3 = nI 0 := hw3
  refine k_ti hw3 ?_
  refine k_if_eq (tgt := 11) hx hb dX7_told_6 (by decide) (by omega) (fun _ => ?_) (fun h9 => absurd h9 (by omega))
  refine lv_aload_n hx hb dX7_told_11 rfl (lv_at hl 0 rfl) ?_
  refine va_get (D := D) (ci := 7) (v := .ref v) (C := RX7) (T := TX7) (N := 6) hx hb hts hin7 hown hK hP 0 rfl rfl 0 (by decide) (hts (.fieldLink RX7 8 "MeshRoutingModel" "v" "[J") (List.mem_cons_of_mem _ q_665)) (fun _ h9 => h9) rfl dX7_told_12 ?_
  refine lv_iload_n hx hb dX7_told_15 rfl (lv_at hl 1 rfl) ?_
  refine lv_iload_n hx hb dX7_told_16 rfl (lv_at hl 2 rfl) ?_
  refine k_ci (wr := [(m0, .inr (7, [.ref v, .ref a1, .ref a2, .int ik, .int (nI 0), .int en])), (v, .inl (cJ, 136800, .inr (.inl (mF N))))]) (w1 := []) (va_runS (As := [.int (nI a), .int (nI b)]) (rest := [.ref v]) ⟨hx, hb, hml, hown, hts⟩ (c_X7_entry l D cI cJ cM cG a b H.size) (va_cwS 2 hts (kB_S (fun _ => List.mem_cons_of_mem _) q_681 q_682 q_670 (kB_c q_683)) rfl rfl rfl (by decide +kernel) ⟨Nat.le_of_ble_eq_true rfl, Nat.le_of_ble_eq_true rfl⟩) (k_preS hP hD hK hKN [] rfl rfl) rfl rfl hl.1 rfl (lv_room (Nat.le_of_ble_eq_true rfl)) dX7_told_17 ⟨Nat.le_of_ble_eq_true rfl, Nat.le_of_ble_eq_true rfl⟩) hP hD hS hA [] [0, 1] rfl rfl rfl (by decide) (fun r17 H locs hw17 hP hD hS => ?_)
  replace hP : va_P D vwCl [(m0, .inr (7, [.ref v, .ref a1, .ref a2, .int ik, .int (nI 0), .int en])), (v, .inl (cJ, 136800, .inr (.inl (mF N))))] H := hP
  replace hD : va_D A [(m0, .inr (7, [.ref v, .ref a1, .ref a2, .int ik, .int (nI 0), .int en])), (v, .inl (cJ, 136800, .inr (.inl (mF N))))] := hD
  replace hw17 : r17 = nI (200 + 8 * (10 * a + b)) := hw17
  refine k_ti hw17 ?_
  refine lv_iconst (v := nI 0) hx hb dX7_told_20 (by decide) ?_
  refine lv_iadd hx hb dX7_told_21 ?_
  refine k_ti (show ((nI (200 + 8 * (10 * a + b))) + (nI 0)) = (nI (200 + 8 * (10 * a + b) + 0)) from nI_add _ _) ?_
  refine k_lald (v := lN 0) hx hb hK hP 1 1 rfl rfl (by omega) (by omega) ((mF_z (by omega))) dX7_told_22 ?_
  refine lv_lconst (v := lN 1) hx hb dX7_told_23 (by decide) ?_
  refine W.lcmp hx hb dX7_told_24 ?_
  refine k_lif_ne (tgt := 44) hx hb dX7_told_25 (by decide) (by omega) (by omega) (fun _ => ?_) (fun h9 => absurd h9 (by omega))
  refine lv_iload hx hb dX7_told_44 (lv_at hl 4 rfl) ?_
  have hP9 := hP.sub (ws' := [(m0, .inr (7, [.ref v, .ref a1, .ref a2, .int ik, .int (nI 0), .int en]))]) [0] rfl
  have hD9 := hD.sub (ws' := [(m0, .inr (7, [.ref v, .ref a1, .ref a2, .int ik, .int (nI 0), .int en]))]) [0] rfl rfl
  exact W.iret (v := wo) hx hb hr (fun t9 ht9 hW9 => ⟨⟨wo, (), rfl, rfl, by rw [ht9]; exact hP9, hD9⟩, hS.F ht9⟩) hS.2.2 dX7_told_46

set_option maxHeartbeats 4000000 in
set_option maxRecDepth 100000 in
theorem c_M_told0 (l : Launch) (D : va_G) (cI cJ cM cG : ClassId) (m0 : Nat) (v : Nat) (a1 : Nat) (a2 : Nat) (ik : Int32) (th : Int32) (en : Int32) (N : Nat) (x : Int32) (y : Int32) (wh : Nat) (wo : Int32) (sz : Nat) (hN : N ≤ 10) (hN0 : 0 < N) (hb2 : kBad2 N x y) : Met l yX7_told (Cond.code yX7_told cX7_told 5 (some .int) :: kBig) ({ frames := 3, cells := 0, slots := 0, locals := 68 }) (va_Pc [.ref m0, .int x, .int y, .int (nI wh), .int wo] (kP D [(cI, .int), (cJ, .long), (cM, .object "MeshRouting$Message"), (cG, .array .int)] [(m0, .inr (7, [.ref v, .ref a1, .ref a2, .int ik, .int th, .int en])), (v, .inl (cJ, 136800, .inr (.inl (mF N))))] sz)) (va_Qi (fun (r : Int32) (_ : Unit) => r = nI 0) (fun _ t9 => kB D (va_A [(m0, .inr (7, [.ref v, .ref a1, .ref a2, .int ik, .int th, .int en])), (v, .inl (cJ, 136800, .inr (.inl (mF N))))] sz) [(m0, .inr (7, [.ref v, .ref a1, .ref a2, .int ik, .int (nI 1), .int en]))] t9) (va_A [(m0, .inr (7, [.ref v, .ref a1, .ref a2, .int ik, .int th, .int en])), (v, .inl (cJ, 136800, .inr (.inl (mF N))))] sz)) 0 0 (va_A [(m0, .inr (7, [.ref v, .ref a1, .ref a2, .int ik, .int th, .int en])), (v, .inl (cJ, 136800, .inr (.inl (mF N))))] sz) := by
  refine Met.ofW (cc := cX7_told) (maxL := 5) (ret := (some .int)) (by decide) rfl ?_
  intro p e s m args below meth c s₁ B hml hv
  obtain ⟨rfl, hsz, hP, hK, hD0, hKN⟩ := hv
  have hx := B.exec
  have hb := B.bytes
  have hr := B.returns
  have hts := atoms_spec (ws := (Cond.code yX7_told cX7_told 5 (some .int) :: kBig)) B.pre
  have hown : s.vm.findClass RX7 = some m.cls := findClass_of_methodNamed B.named
  have hlocks := B.notSynchronized
  subst hsz
  have hD := hD0.self (sz := s.heap.size)
  generalize hAe : va_A [(m0, .inr (7, [.ref v, .ref a1, .ref a2, .int ik, .int th, .int en])), (v, .inl (cJ, 136800, .inr (.inl (mF N))))] s.heap.size = A at hD ⊢
  have hA : ∀ q : Nat, s.heap.size ≤ q → A q := fun q h => by rw [← hAe]; exact Or.inr h
  have hS : va_S A s.heap s.heap [] := va_S.rf
  have hl := lv_entry ([.ref m0, .int x, .int y, .int (nI wh), .int wo]) (n := 5) (Nat.le_of_ble_eq_true rfl)
  rw [lg_entry_eq]
  generalize (lg_sl ([.ref m0, .int x, .int y, .int (nI wh), .int wo]) ++ List.replicate (5 - (lg_sl ([.ref m0, .int x, .int y, .int (nI wh), .int wo])).length) Slot.unset).toArray = ls at hl ⊢
  have hl : lv_has ls 5 [(0, .ref m0), (1, .int x), (2, .int y), (3, .int (nI wh)), (4, .int wo)] := hl
  refine lv_aload_n hx hb dX7_told_0 rfl (lv_at hl 0 rfl) ?_
  refine lv_iload_n hx hb dX7_told_1 rfl (lv_at hl 1 rfl) ?_
  refine lv_iload_n hx hb dX7_told_2 rfl (lv_at hl 2 rfl) ?_
  refine k_ci (wr := []) (w1 := [(m0, .inr (7, [.ref v, .ref a1, .ref a2, .int ik, .int (nI 1), .int en])), (v, .inl (cJ, 136800, .inr (.inl (mF N))))]) (va_runV (As := [.int x, .int y]) (rest := []) ⟨hx, hb, hml, hown, hts⟩ (c_M_lacks0 l D cI cJ cM cG m0 v a1 a2 ik th en N x y s.heap.size (hN) (hN0) (hb2)) (cwV 2 hts (kB_V (fun _ => List.mem_cons_of_mem _) q_756 q_757 q_758 q_670 (kB_c q_759)) rfl rfl rfl (by decide +kernel) ⟨Nat.le_of_ble_eq_true rfl, Nat.le_of_ble_eq_true rfl⟩) (k_preV (T := TX7) hP hD hK hKN [0, 1] rfl rfl (ci := 7) rfl (q0 := 0) rfl) rfl rfl hl.1 rfl (lv_room (Nat.le_of_ble_eq_true rfl)) dX7_told_3 ⟨Nat.le_of_ble_eq_true rfl, Nat.le_of_ble_eq_true rfl⟩) hP hD hS hA [0, 1] [] rfl rfl rfl (by decide) (fun r3 H locs hw3 hP hD hS => ?_)
  replace hP : va_P D vwCl [(m0, .inr (7, [.ref v, .ref a1, .ref a2, .int ik, .int (nI 1), .int en])), (v, .inl (cJ, 136800, .inr (.inl (mF N))))] H := hP
  replace hD : va_D A [(m0, .inr (7, [.ref v, .ref a1, .ref a2, .int ik, .int (nI 1), .int en])), (v, .inl (cJ, 136800, .inr (.inl (mF N))))] := hD
  replace hw3 : r3 = nI 1 := hw3
  refine k_ti hw3 ?_
  refine k_if_eq (tgt := 11) hx hb dX7_told_6 (by decide) (by omega) (fun h9 => absurd h9 (by omega)) (fun _ => ?_)
  refine lv_iconst (v := nI 0) hx hb dX7_told_9 (by decide) ?_
  have hP9 := hP.sub (ws' := [(m0, .inr (7, [.ref v, .ref a1, .ref a2, .int ik, .int (nI 1), .int en]))]) [0] rfl
  have hD9 := hD.sub (ws' := [(m0, .inr (7, [.ref v, .ref a1, .ref a2, .int ik, .int (nI 1), .int en]))]) [0] rfl rfl
  exact W.iret (v := nI 0) hx hb hr (fun t9 ht9 hW9 => ⟨⟨nI 0, (), rfl, rfl, by rw [ht9]; exact hP9, hD9⟩, hS.F ht9⟩) hS.2.2 dX7_told_10

set_option maxHeartbeats 4000000 in
set_option maxRecDepth 100000 in
theorem c_M_nextNode1 (l : Launch) (D : va_G) (cI cJ cM cG : ClassId) (m0 : Nat) (v : Nat) (a1 : Nat) (a2 : Nat) (ik : Int32) (th : Int32) (en : Int32) (N : Nat) (a : Nat) (b : Nat) (sz : Nat) (hN : N ≤ 10) (hN0 : 0 < N) (ha : a < N) (hb9 : b < N) : Met l yX7_nextNode (Cond.code yX7_nextNode cX7_nextNode 3 (some .int) :: kBig) ({ frames := 4, cells := 0, slots := 0, locals := 92 }) (va_Pc [.ref m0, .int (nI a), .int (nI b)] (kP D [(cI, .int), (cJ, .long), (cM, .object "MeshRouting$Message"), (cG, .array .int)] [(m0, .inr (7, [.ref v, .ref a1, .ref a2, .int ik, .int th, .int en])), (v, .inl (cJ, 136800, .inr (.inl (mF N))))] sz)) (va_Qi (fun (r : Int32) (_ : Unit) => r = (-1)) (fun _ t9 => kB D (va_A [(m0, .inr (7, [.ref v, .ref a1, .ref a2, .int ik, .int th, .int en])), (v, .inl (cJ, 136800, .inr (.inl (mF N))))] sz) [(m0, .inr (7, [.ref v, .ref a1, .ref a2, .int ik, .int (nI 0), .int en]))] t9) (va_A [(m0, .inr (7, [.ref v, .ref a1, .ref a2, .int ik, .int th, .int en])), (v, .inl (cJ, 136800, .inr (.inl (mF N))))] sz)) 0 0 (va_A [(m0, .inr (7, [.ref v, .ref a1, .ref a2, .int ik, .int th, .int en])), (v, .inl (cJ, 136800, .inr (.inl (mF N))))] sz) := by
  refine Met.ofW (cc := cX7_nextNode) (maxL := 3) (ret := (some .int)) (by decide) rfl ?_
  intro p e s m args below meth c s₁ B hml hv
  obtain ⟨rfl, hsz, hP, hK, hD0, hKN⟩ := hv
  have hx := B.exec
  have hb := B.bytes
  have hr := B.returns
  have hts := atoms_spec (ws := (Cond.code yX7_nextNode cX7_nextNode 3 (some .int) :: kBig)) B.pre
  have hown : s.vm.findClass RX7 = some m.cls := findClass_of_methodNamed B.named
  have hlocks := B.notSynchronized
  subst hsz
  have hD := hD0.self (sz := s.heap.size)
  generalize hAe : va_A [(m0, .inr (7, [.ref v, .ref a1, .ref a2, .int ik, .int th, .int en])), (v, .inl (cJ, 136800, .inr (.inl (mF N))))] s.heap.size = A at hD ⊢
  have hA : ∀ q : Nat, s.heap.size ≤ q → A q := fun q h => by rw [← hAe]; exact Or.inr h
  have hS : va_S A s.heap s.heap [] := va_S.rf
  have hl := lv_entry ([.ref m0, .int (nI a), .int (nI b)]) (n := 3) (Nat.le_of_ble_eq_true rfl)
  rw [lg_entry_eq]
  generalize (lg_sl ([.ref m0, .int (nI a), .int (nI b)]) ++ List.replicate (3 - (lg_sl ([.ref m0, .int (nI a), .int (nI b)])).length) Slot.unset).toArray = ls at hl ⊢
  have hl : lv_has ls 3 [(0, .ref m0), (1, .int (nI a)), (2, .int (nI b))] := hl
  refine lv_aload_n hx hb dX7_nextNode_0 rfl (lv_at hl 0 rfl) ?_
  refine lv_iload_n hx hb dX7_nextNode_1 rfl (lv_at hl 1 rfl) ?_
  refine lv_iload_n hx hb dX7_nextNode_2 rfl (lv_at hl 2 rfl) ?_
  refine lv_iconst (v := nI 3) hx hb dX7_nextNode_3 (by decide) ?_
  refine lv_iconst (v := (-1)) hx hb dX7_nextNode_4 (by decide) ?_
  refine k_ci (wr := []) (w1 := [(m0, .inr (7, [.ref v, .ref a1, .ref a2, .int ik, .int (nI 0), .int en]))]) (va_runV (As := [.int (nI a), .int (nI b), .int (nI 3), .int (-1)]) (rest := []) ⟨hx, hb, hml, hown, hts⟩ (c_M_told1 l D cI cJ cM cG m0 v a1 a2 ik th en N a b 3 (-1) s.heap.size (hN) (hN0) (ha) (hb9)) (cwV 4 hts (kB_V (fun _ => List.mem_cons_of_mem _) q_879 q_880 q_881 q_670 (kB_c q_882)) rfl rfl rfl (by decide +kernel) ⟨Nat.le_of_ble_eq_true rfl, Nat.le_of_ble_eq_true rfl⟩) (k_preV (T := TX7) hP hD hK hKN [0, 1] rfl rfl (ci := 7) rfl (q0 := 0) rfl) rfl rfl hl.1 rfl (lv_room (Nat.le_of_ble_eq_true rfl)) dX7_nextNode_5 ⟨Nat.le_of_ble_eq_true rfl, Nat.le_of_ble_eq_true rfl⟩) hP hD hS hA [0, 1] [] rfl rfl rfl (by decide) (fun r5 H locs hw5 hP hD hS => ?_)
  replace hP : va_P D vwCl [(m0, .inr (7, [.ref v, .ref a1, .ref a2, .int ik, .int (nI 0), .int en]))] H := hP
  replace hD : va_D A [(m0, .inr (7, [.ref v, .ref a1, .ref a2, .int ik, .int (nI 0), .int en]))] := hD
  replace hw5 : r5 = (-1) := hw5
  refine k_ti hw5 ?_
  have hP9 := hP.sub (ws' := [(m0, .inr (7, [.ref v, .ref a1, .ref a2, .int ik, .int (nI 0), .int en]))]) [0] rfl
  have hD9 := hD.sub (ws' := [(m0, .inr (7, [.ref v, .ref a1, .ref a2, .int ik, .int (nI 0), .int en]))]) [0] rfl rfl
  exact W.iret (v := (-1)) hx hb hr (fun t9 ht9 hW9 => ⟨⟨(-1), (), rfl, rfl, by rw [ht9]; exact hP9, hD9⟩, hS.F ht9⟩) hS.2.2 dX7_nextNode_8

set_option maxHeartbeats 4000000 in
set_option maxRecDepth 100000 in
theorem c_M_nextNode0 (l : Launch) (D : va_G) (cI cJ cM cG : ClassId) (m0 : Nat) (v : Nat) (a1 : Nat) (a2 : Nat) (ik : Int32) (th : Int32) (en : Int32) (N : Nat) (x : Int32) (y : Int32) (sz : Nat) (hN : N ≤ 10) (hN0 : 0 < N) (hb2 : kBad2 N x y) : Met l yX7_nextNode (Cond.code yX7_nextNode cX7_nextNode 3 (some .int) :: kBig) ({ frames := 4, cells := 0, slots := 0, locals := 92 }) (va_Pc [.ref m0, .int x, .int y] (kP D [(cI, .int), (cJ, .long), (cM, .object "MeshRouting$Message"), (cG, .array .int)] [(m0, .inr (7, [.ref v, .ref a1, .ref a2, .int ik, .int th, .int en])), (v, .inl (cJ, 136800, .inr (.inl (mF N))))] sz)) (va_Qi (fun (r : Int32) (_ : Unit) => r = nI 0) (fun _ t9 => kB D (va_A [(m0, .inr (7, [.ref v, .ref a1, .ref a2, .int ik, .int th, .int en])), (v, .inl (cJ, 136800, .inr (.inl (mF N))))] sz) [(m0, .inr (7, [.ref v, .ref a1, .ref a2, .int ik, .int (nI 1), .int en]))] t9) (va_A [(m0, .inr (7, [.ref v, .ref a1, .ref a2, .int ik, .int th, .int en])), (v, .inl (cJ, 136800, .inr (.inl (mF N))))] sz)) 0 0 (va_A [(m0, .inr (7, [.ref v, .ref a1, .ref a2, .int ik, .int th, .int en])), (v, .inl (cJ, 136800, .inr (.inl (mF N))))] sz) := by
  refine Met.ofW (cc := cX7_nextNode) (maxL := 3) (ret := (some .int)) (by decide) rfl ?_
  intro p e s m args below meth c s₁ B hml hv
  obtain ⟨rfl, hsz, hP, hK, hD0, hKN⟩ := hv
  have hx := B.exec
  have hb := B.bytes
  have hr := B.returns
  have hts := atoms_spec (ws := (Cond.code yX7_nextNode cX7_nextNode 3 (some .int) :: kBig)) B.pre
  have hown : s.vm.findClass RX7 = some m.cls := findClass_of_methodNamed B.named
  have hlocks := B.notSynchronized
  subst hsz
  have hD := hD0.self (sz := s.heap.size)
  generalize hAe : va_A [(m0, .inr (7, [.ref v, .ref a1, .ref a2, .int ik, .int th, .int en])), (v, .inl (cJ, 136800, .inr (.inl (mF N))))] s.heap.size = A at hD ⊢
  have hA : ∀ q : Nat, s.heap.size ≤ q → A q := fun q h => by rw [← hAe]; exact Or.inr h
  have hS : va_S A s.heap s.heap [] := va_S.rf
  have hl := lv_entry ([.ref m0, .int x, .int y]) (n := 3) (Nat.le_of_ble_eq_true rfl)
  rw [lg_entry_eq]
  generalize (lg_sl ([.ref m0, .int x, .int y]) ++ List.replicate (3 - (lg_sl ([.ref m0, .int x, .int y])).length) Slot.unset).toArray = ls at hl ⊢
  have hl : lv_has ls 3 [(0, .ref m0), (1, .int x), (2, .int y)] := hl
  refine lv_aload_n hx hb dX7_nextNode_0 rfl (lv_at hl 0 rfl) ?_
  refine lv_iload_n hx hb dX7_nextNode_1 rfl (lv_at hl 1 rfl) ?_
  refine lv_iload_n hx hb dX7_nextNode_2 rfl (lv_at hl 2 rfl) ?_
  refine lv_iconst (v := nI 3) hx hb dX7_nextNode_3 (by decide) ?_
  refine lv_iconst (v := (-1)) hx hb dX7_nextNode_4 (by decide) ?_
  refine k_ci (wr := []) (w1 := [(m0, .inr (7, [.ref v, .ref a1, .ref a2, .int ik, .int (nI 1), .int en]))]) (va_runV (As := [.int x, .int y, .int (nI 3), .int (-1)]) (rest := []) ⟨hx, hb, hml, hown, hts⟩ (c_M_told0 l D cI cJ cM cG m0 v a1 a2 ik th en N x y 3 (-1) s.heap.size (hN) (hN0) (hb2)) (cwV 4 hts (kB_V (fun _ => List.mem_cons_of_mem _) q_879 q_880 q_881 q_670 (kB_c q_882)) rfl rfl rfl (by decide +kernel) ⟨Nat.le_of_ble_eq_true rfl, Nat.le_of_ble_eq_true rfl⟩) (k_preV (T := TX7) hP hD hK hKN [0, 1] rfl rfl (ci := 7) rfl (q0 := 0) rfl) rfl rfl hl.1 rfl (lv_room (Nat.le_of_ble_eq_true rfl)) dX7_nextNode_5 ⟨Nat.le_of_ble_eq_true rfl, Nat.le_of_ble_eq_true rfl⟩) hP hD hS hA [0, 1] [] rfl rfl rfl (by decide) (fun r5 H locs hw5 hP hD hS => ?_)
  replace hP : va_P D vwCl [(m0, .inr (7, [.ref v, .ref a1, .ref a2, .int ik, .int (nI 1), .int en]))] H := hP
  replace hD : va_D A [(m0, .inr (7, [.ref v, .ref a1, .ref a2, .int ik, .int (nI 1), .int en]))] := hD
  replace hw5 : r5 = nI 0 := hw5
  refine k_ti hw5 ?_
  have hP9 := hP.sub (ws' := [(m0, .inr (7, [.ref v, .ref a1, .ref a2, .int ik, .int (nI 1), .int en]))]) [0] rfl
  have hD9 := hD.sub (ws' := [(m0, .inr (7, [.ref v, .ref a1, .ref a2, .int ik, .int (nI 1), .int en]))]) [0] rfl rfl
  exact W.iret (v := nI 0) hx hb hr (fun t9 ht9 hW9 => ⟨⟨nI 0, (), rfl, rfl, by rw [ht9]; exact hP9, hD9⟩, hS.F ht9⟩) hS.2.2 dX7_nextNode_8

set_option maxHeartbeats 4000000 in
set_option maxRecDepth 100000 in
theorem c_M_hops1 (l : Launch) (D : va_G) (cI cJ cM cG : ClassId) (m0 : Nat) (v : Nat) (a1 : Nat) (a2 : Nat) (ik : Int32) (th : Int32) (en : Int32) (N : Nat) (a : Nat) (b : Nat) (sz : Nat) (hN : N ≤ 10) (hN0 : 0 < N) (ha : a < N) (hb9 : b < N) : Met l yX7_hops (Cond.code yX7_hops cX7_hops 3 (some .int) :: kBig) ({ frames := 4, cells := 0, slots := 0, locals := 92 }) (va_Pc [.ref m0, .int (nI a), .int (nI b)] (kP D [(cI, .int), (cJ, .long), (cM, .object "MeshRouting$Message"), (cG, .array .int)] [(m0, .inr (7, [.ref v, .ref a1, .ref a2, .int ik, .int th, .int en])), (v, .inl (cJ, 136800, .inr (.inl (mF N))))] sz)) (va_Qi (fun (r : Int32) (_ : Unit) => r = (-1)) (fun _ t9 => kB D (va_A [(m0, .inr (7, [.ref v, .ref a1, .ref a2, .int ik, .int th, .int en])), (v, .inl (cJ, 136800, .inr (.inl (mF N))))] sz) [(m0, .inr (7, [.ref v, .ref a1, .ref a2, .int ik, .int (nI 0), .int en]))] t9) (va_A [(m0, .inr (7, [.ref v, .ref a1, .ref a2, .int ik, .int th, .int en])), (v, .inl (cJ, 136800, .inr (.inl (mF N))))] sz)) 0 0 (va_A [(m0, .inr (7, [.ref v, .ref a1, .ref a2, .int ik, .int th, .int en])), (v, .inl (cJ, 136800, .inr (.inl (mF N))))] sz) := by
  refine Met.ofW (cc := cX7_hops) (maxL := 3) (ret := (some .int)) (by decide) rfl ?_
  intro p e s m args below meth c s₁ B hml hv
  obtain ⟨rfl, hsz, hP, hK, hD0, hKN⟩ := hv
  have hx := B.exec
  have hb := B.bytes
  have hr := B.returns
  have hts := atoms_spec (ws := (Cond.code yX7_hops cX7_hops 3 (some .int) :: kBig)) B.pre
  have hown : s.vm.findClass RX7 = some m.cls := findClass_of_methodNamed B.named
  have hlocks := B.notSynchronized
  subst hsz
  have hD := hD0.self (sz := s.heap.size)
  generalize hAe : va_A [(m0, .inr (7, [.ref v, .ref a1, .ref a2, .int ik, .int th, .int en])), (v, .inl (cJ, 136800, .inr (.inl (mF N))))] s.heap.size = A at hD ⊢
  have hA : ∀ q : Nat, s.heap.size ≤ q → A q := fun q h => by rw [← hAe]; exact Or.inr h
  have hS : va_S A s.heap s.heap [] := va_S.rf
  have hl := lv_entry ([.ref m0, .int (nI a), .int (nI b)]) (n := 3) (Nat.le_of_ble_eq_true rfl)
  rw [lg_entry_eq]
  generalize (lg_sl ([.ref m0, .int (nI a), .int (nI b)]) ++ List.replicate (3 - (lg_sl ([.ref m0, .int (nI a), .int (nI b)])).length) Slot.unset).toArray = ls at hl ⊢
  have hl : lv_has ls 3 [(0, .ref m0), (1, .int (nI a)), (2, .int (nI b))] := hl
  refine lv_aload_n hx hb dX7_hops_0 rfl (lv_at hl 0 rfl) ?_
  refine lv_iload_n hx hb dX7_hops_1 rfl (lv_at hl 1 rfl) ?_
  refine lv_iload_n hx hb dX7_hops_2 rfl (lv_at hl 2 rfl) ?_
  refine lv_iconst (v := nI 2) hx hb dX7_hops_3 (by decide) ?_
  refine lv_iconst (v := (-1)) hx hb dX7_hops_4 (by decide) ?_
  refine k_ci (wr := []) (w1 := [(m0, .inr (7, [.ref v, .ref a1, .ref a2, .int ik, .int (nI 0), .int en]))]) (va_runV (As := [.int (nI a), .int (nI b), .int (nI 2), .int (-1)]) (rest := []) ⟨hx, hb, hml, hown, hts⟩ (c_M_told1 l D cI cJ cM cG m0 v a1 a2 ik th en N a b 2 (-1) s.heap.size (hN) (hN0) (ha) (hb9)) (cwV 4 hts (kB_V (fun _ => List.mem_cons_of_mem _) q_879 q_880 q_881 q_670 (kB_c q_882)) rfl rfl rfl (by decide +kernel) ⟨Nat.le_of_ble_eq_true rfl, Nat.le_of_ble_eq_true rfl⟩) (k_preV (T := TX7) hP hD hK hKN [0, 1] rfl rfl (ci := 7) rfl (q0 := 0) rfl) rfl rfl hl.1 rfl (lv_room (Nat.le_of_ble_eq_true rfl)) dX7_hops_5 ⟨Nat.le_of_ble_eq_true rfl, Nat.le_of_ble_eq_true rfl⟩) hP hD hS hA [0, 1] [] rfl rfl rfl (by decide) (fun r5 H locs hw5 hP hD hS => ?_)
  replace hP : va_P D vwCl [(m0, .inr (7, [.ref v, .ref a1, .ref a2, .int ik, .int (nI 0), .int en]))] H := hP
  replace hD : va_D A [(m0, .inr (7, [.ref v, .ref a1, .ref a2, .int ik, .int (nI 0), .int en]))] := hD
  replace hw5 : r5 = (-1) := hw5
  refine k_ti hw5 ?_
  have hP9 := hP.sub (ws' := [(m0, .inr (7, [.ref v, .ref a1, .ref a2, .int ik, .int (nI 0), .int en]))]) [0] rfl
  have hD9 := hD.sub (ws' := [(m0, .inr (7, [.ref v, .ref a1, .ref a2, .int ik, .int (nI 0), .int en]))]) [0] rfl rfl
  exact W.iret (v := (-1)) hx hb hr (fun t9 ht9 hW9 => ⟨⟨(-1), (), rfl, rfl, by rw [ht9]; exact hP9, hD9⟩, hS.F ht9⟩) hS.2.2 dX7_hops_8

set_option maxHeartbeats 4000000 in
set_option maxRecDepth 100000 in
theorem c_M_hops0 (l : Launch) (D : va_G) (cI cJ cM cG : ClassId) (m0 : Nat) (v : Nat) (a1 : Nat) (a2 : Nat) (ik : Int32) (th : Int32) (en : Int32) (N : Nat) (x : Int32) (y : Int32) (sz : Nat) (hN : N ≤ 10) (hN0 : 0 < N) (hb2 : kBad2 N x y) : Met l yX7_hops (Cond.code yX7_hops cX7_hops 3 (some .int) :: kBig) ({ frames := 4, cells := 0, slots := 0, locals := 92 }) (va_Pc [.ref m0, .int x, .int y] (kP D [(cI, .int), (cJ, .long), (cM, .object "MeshRouting$Message"), (cG, .array .int)] [(m0, .inr (7, [.ref v, .ref a1, .ref a2, .int ik, .int th, .int en])), (v, .inl (cJ, 136800, .inr (.inl (mF N))))] sz)) (va_Qi (fun (r : Int32) (_ : Unit) => r = nI 0) (fun _ t9 => kB D (va_A [(m0, .inr (7, [.ref v, .ref a1, .ref a2, .int ik, .int th, .int en])), (v, .inl (cJ, 136800, .inr (.inl (mF N))))] sz) [(m0, .inr (7, [.ref v, .ref a1, .ref a2, .int ik, .int (nI 1), .int en]))] t9) (va_A [(m0, .inr (7, [.ref v, .ref a1, .ref a2, .int ik, .int th, .int en])), (v, .inl (cJ, 136800, .inr (.inl (mF N))))] sz)) 0 0 (va_A [(m0, .inr (7, [.ref v, .ref a1, .ref a2, .int ik, .int th, .int en])), (v, .inl (cJ, 136800, .inr (.inl (mF N))))] sz) := by
  refine Met.ofW (cc := cX7_hops) (maxL := 3) (ret := (some .int)) (by decide) rfl ?_
  intro p e s m args below meth c s₁ B hml hv
  obtain ⟨rfl, hsz, hP, hK, hD0, hKN⟩ := hv
  have hx := B.exec
  have hb := B.bytes
  have hr := B.returns
  have hts := atoms_spec (ws := (Cond.code yX7_hops cX7_hops 3 (some .int) :: kBig)) B.pre
  have hown : s.vm.findClass RX7 = some m.cls := findClass_of_methodNamed B.named
  have hlocks := B.notSynchronized
  subst hsz
  have hD := hD0.self (sz := s.heap.size)
  generalize hAe : va_A [(m0, .inr (7, [.ref v, .ref a1, .ref a2, .int ik, .int th, .int en])), (v, .inl (cJ, 136800, .inr (.inl (mF N))))] s.heap.size = A at hD ⊢
  have hA : ∀ q : Nat, s.heap.size ≤ q → A q := fun q h => by rw [← hAe]; exact Or.inr h
  have hS : va_S A s.heap s.heap [] := va_S.rf
  have hl := lv_entry ([.ref m0, .int x, .int y]) (n := 3) (Nat.le_of_ble_eq_true rfl)
  rw [lg_entry_eq]
  generalize (lg_sl ([.ref m0, .int x, .int y]) ++ List.replicate (3 - (lg_sl ([.ref m0, .int x, .int y])).length) Slot.unset).toArray = ls at hl ⊢
  have hl : lv_has ls 3 [(0, .ref m0), (1, .int x), (2, .int y)] := hl
  refine lv_aload_n hx hb dX7_hops_0 rfl (lv_at hl 0 rfl) ?_
  refine lv_iload_n hx hb dX7_hops_1 rfl (lv_at hl 1 rfl) ?_
  refine lv_iload_n hx hb dX7_hops_2 rfl (lv_at hl 2 rfl) ?_
  refine lv_iconst (v := nI 2) hx hb dX7_hops_3 (by decide) ?_
  refine lv_iconst (v := (-1)) hx hb dX7_hops_4 (by decide) ?_
  refine k_ci (wr := []) (w1 := [(m0, .inr (7, [.ref v, .ref a1, .ref a2, .int ik, .int (nI 1), .int en]))]) (va_runV (As := [.int x, .int y, .int (nI 2), .int (-1)]) (rest := []) ⟨hx, hb, hml, hown, hts⟩ (c_M_told0 l D cI cJ cM cG m0 v a1 a2 ik th en N x y 2 (-1) s.heap.size (hN) (hN0) (hb2)) (cwV 4 hts (kB_V (fun _ => List.mem_cons_of_mem _) q_879 q_880 q_881 q_670 (kB_c q_882)) rfl rfl rfl (by decide +kernel) ⟨Nat.le_of_ble_eq_true rfl, Nat.le_of_ble_eq_true rfl⟩) (k_preV (T := TX7) hP hD hK hKN [0, 1] rfl rfl (ci := 7) rfl (q0 := 0) rfl) rfl rfl hl.1 rfl (lv_room (Nat.le_of_ble_eq_true rfl)) dX7_hops_5 ⟨Nat.le_of_ble_eq_true rfl, Nat.le_of_ble_eq_true rfl⟩) hP hD hS hA [0, 1] [] rfl rfl rfl (by decide) (fun r5 H locs hw5 hP hD hS => ?_)
  replace hP : va_P D vwCl [(m0, .inr (7, [.ref v, .ref a1, .ref a2, .int ik, .int (nI 1), .int en]))] H := hP
  replace hD : va_D A [(m0, .inr (7, [.ref v, .ref a1, .ref a2, .int ik, .int (nI 1), .int en]))] := hD
  replace hw5 : r5 = nI 0 := hw5
  refine k_ti hw5 ?_
  have hP9 := hP.sub (ws' := [(m0, .inr (7, [.ref v, .ref a1, .ref a2, .int ik, .int (nI 1), .int en]))]) [0] rfl
  have hD9 := hD.sub (ws' := [(m0, .inr (7, [.ref v, .ref a1, .ref a2, .int ik, .int (nI 1), .int en]))]) [0] rfl rfl
  exact W.iret (v := nI 0) hx hb hr (fun t9 ht9 hW9 => ⟨⟨nI 0, (), rfl, rfl, by rw [ht9]; exact hP9, hD9⟩, hS.F ht9⟩) hS.2.2 dX7_hops_8

set_option maxHeartbeats 4000000 in
set_option maxRecDepth 100000 in
theorem c_M_expiry1 (l : Launch) (D : va_G) (cI cJ cM cG : ClassId) (m0 : Nat) (v : Nat) (a1 : Nat) (a2 : Nat) (ik : Int32) (th : Int32) (en : Int32) (N : Nat) (a : Nat) (b : Nat) (sz : Nat) (hN : N ≤ 10) (hN0 : 0 < N) (ha : a < N) (hb9 : b < N) : Met l yX7_expiry (Cond.code yX7_expiry cX7_expiry 3 (some .int) :: kBig) ({ frames := 4, cells := 0, slots := 0, locals := 92 }) (va_Pc [.ref m0, .int (nI a), .int (nI b)] (kP D [(cI, .int), (cJ, .long), (cM, .object "MeshRouting$Message"), (cG, .array .int)] [(m0, .inr (7, [.ref v, .ref a1, .ref a2, .int ik, .int th, .int en])), (v, .inl (cJ, 136800, .inr (.inl (mF N))))] sz)) (va_Qi (fun (r : Int32) (_ : Unit) => r = (-1)) (fun _ t9 => kB D (va_A [(m0, .inr (7, [.ref v, .ref a1, .ref a2, .int ik, .int th, .int en])), (v, .inl (cJ, 136800, .inr (.inl (mF N))))] sz) [(m0, .inr (7, [.ref v, .ref a1, .ref a2, .int ik, .int (nI 0), .int en]))] t9) (va_A [(m0, .inr (7, [.ref v, .ref a1, .ref a2, .int ik, .int th, .int en])), (v, .inl (cJ, 136800, .inr (.inl (mF N))))] sz)) 0 0 (va_A [(m0, .inr (7, [.ref v, .ref a1, .ref a2, .int ik, .int th, .int en])), (v, .inl (cJ, 136800, .inr (.inl (mF N))))] sz) := by
  refine Met.ofW (cc := cX7_expiry) (maxL := 3) (ret := (some .int)) (by decide) rfl ?_
  intro p e s m args below meth c s₁ B hml hv
  obtain ⟨rfl, hsz, hP, hK, hD0, hKN⟩ := hv
  have hx := B.exec
  have hb := B.bytes
  have hr := B.returns
  have hts := atoms_spec (ws := (Cond.code yX7_expiry cX7_expiry 3 (some .int) :: kBig)) B.pre
  have hown : s.vm.findClass RX7 = some m.cls := findClass_of_methodNamed B.named
  have hlocks := B.notSynchronized
  subst hsz
  have hD := hD0.self (sz := s.heap.size)
  generalize hAe : va_A [(m0, .inr (7, [.ref v, .ref a1, .ref a2, .int ik, .int th, .int en])), (v, .inl (cJ, 136800, .inr (.inl (mF N))))] s.heap.size = A at hD ⊢
  have hA : ∀ q : Nat, s.heap.size ≤ q → A q := fun q h => by rw [← hAe]; exact Or.inr h
  have hS : va_S A s.heap s.heap [] := va_S.rf
  have hl := lv_entry ([.ref m0, .int (nI a), .int (nI b)]) (n := 3) (Nat.le_of_ble_eq_true rfl)
  rw [lg_entry_eq]
  generalize (lg_sl ([.ref m0, .int (nI a), .int (nI b)]) ++ List.replicate (3 - (lg_sl ([.ref m0, .int (nI a), .int (nI b)])).length) Slot.unset).toArray = ls at hl ⊢
  have hl : lv_has ls 3 [(0, .ref m0), (1, .int (nI a)), (2, .int (nI b))] := hl
  refine lv_aload_n hx hb dX7_expiry_0 rfl (lv_at hl 0 rfl) ?_
  refine lv_iload_n hx hb dX7_expiry_1 rfl (lv_at hl 1 rfl) ?_
  refine lv_iload_n hx hb dX7_expiry_2 rfl (lv_at hl 2 rfl) ?_
  refine lv_iconst (v := nI 4) hx hb dX7_expiry_3 (by decide) ?_
  refine lv_iconst (v := (-1)) hx hb dX7_expiry_4 (by decide) ?_
  refine k_ci (wr := []) (w1 := [(m0, .inr (7, [.ref v, .ref a1, .ref a2, .int ik, .int (nI 0), .int en]))]) (va_runV (As := [.int (nI a), .int (nI b), .int (nI 4), .int (-1)]) (rest := []) ⟨hx, hb, hml, hown, hts⟩ (c_M_told1 l D cI cJ cM cG m0 v a1 a2 ik th en N a b 4 (-1) s.heap.size (hN) (hN0) (ha) (hb9)) (cwV 4 hts (kB_V (fun _ => List.mem_cons_of_mem _) q_879 q_880 q_881 q_670 (kB_c q_882)) rfl rfl rfl (by decide +kernel) ⟨Nat.le_of_ble_eq_true rfl, Nat.le_of_ble_eq_true rfl⟩) (k_preV (T := TX7) hP hD hK hKN [0, 1] rfl rfl (ci := 7) rfl (q0 := 0) rfl) rfl rfl hl.1 rfl (lv_room (Nat.le_of_ble_eq_true rfl)) dX7_expiry_5 ⟨Nat.le_of_ble_eq_true rfl, Nat.le_of_ble_eq_true rfl⟩) hP hD hS hA [0, 1] [] rfl rfl rfl (by decide) (fun r5 H locs hw5 hP hD hS => ?_)
  replace hP : va_P D vwCl [(m0, .inr (7, [.ref v, .ref a1, .ref a2, .int ik, .int (nI 0), .int en]))] H := hP
  replace hD : va_D A [(m0, .inr (7, [.ref v, .ref a1, .ref a2, .int ik, .int (nI 0), .int en]))] := hD
  replace hw5 : r5 = (-1) := hw5
  refine k_ti hw5 ?_
  have hP9 := hP.sub (ws' := [(m0, .inr (7, [.ref v, .ref a1, .ref a2, .int ik, .int (nI 0), .int en]))]) [0] rfl
  have hD9 := hD.sub (ws' := [(m0, .inr (7, [.ref v, .ref a1, .ref a2, .int ik, .int (nI 0), .int en]))]) [0] rfl rfl
  exact W.iret (v := (-1)) hx hb hr (fun t9 ht9 hW9 => ⟨⟨(-1), (), rfl, rfl, by rw [ht9]; exact hP9, hD9⟩, hS.F ht9⟩) hS.2.2 dX7_expiry_8

set_option maxHeartbeats 4000000 in
set_option maxRecDepth 100000 in
theorem c_M_expiry0 (l : Launch) (D : va_G) (cI cJ cM cG : ClassId) (m0 : Nat) (v : Nat) (a1 : Nat) (a2 : Nat) (ik : Int32) (th : Int32) (en : Int32) (N : Nat) (x : Int32) (y : Int32) (sz : Nat) (hN : N ≤ 10) (hN0 : 0 < N) (hb2 : kBad2 N x y) : Met l yX7_expiry (Cond.code yX7_expiry cX7_expiry 3 (some .int) :: kBig) ({ frames := 4, cells := 0, slots := 0, locals := 92 }) (va_Pc [.ref m0, .int x, .int y] (kP D [(cI, .int), (cJ, .long), (cM, .object "MeshRouting$Message"), (cG, .array .int)] [(m0, .inr (7, [.ref v, .ref a1, .ref a2, .int ik, .int th, .int en])), (v, .inl (cJ, 136800, .inr (.inl (mF N))))] sz)) (va_Qi (fun (r : Int32) (_ : Unit) => r = nI 0) (fun _ t9 => kB D (va_A [(m0, .inr (7, [.ref v, .ref a1, .ref a2, .int ik, .int th, .int en])), (v, .inl (cJ, 136800, .inr (.inl (mF N))))] sz) [(m0, .inr (7, [.ref v, .ref a1, .ref a2, .int ik, .int (nI 1), .int en]))] t9) (va_A [(m0, .inr (7, [.ref v, .ref a1, .ref a2, .int ik, .int th, .int en])), (v, .inl (cJ, 136800, .inr (.inl (mF N))))] sz)) 0 0 (va_A [(m0, .inr (7, [.ref v, .ref a1, .ref a2, .int ik, .int th, .int en])), (v, .inl (cJ, 136800, .inr (.inl (mF N))))] sz) := by
  refine Met.ofW (cc := cX7_expiry) (maxL := 3) (ret := (some .int)) (by decide) rfl ?_
  intro p e s m args below meth c s₁ B hml hv
  obtain ⟨rfl, hsz, hP, hK, hD0, hKN⟩ := hv
  have hx := B.exec
  have hb := B.bytes
  have hr := B.returns
  have hts := atoms_spec (ws := (Cond.code yX7_expiry cX7_expiry 3 (some .int) :: kBig)) B.pre
  have hown : s.vm.findClass RX7 = some m.cls := findClass_of_methodNamed B.named
  have hlocks := B.notSynchronized
  subst hsz
  have hD := hD0.self (sz := s.heap.size)
  generalize hAe : va_A [(m0, .inr (7, [.ref v, .ref a1, .ref a2, .int ik, .int th, .int en])), (v, .inl (cJ, 136800, .inr (.inl (mF N))))] s.heap.size = A at hD ⊢
  have hA : ∀ q : Nat, s.heap.size ≤ q → A q := fun q h => by rw [← hAe]; exact Or.inr h
  have hS : va_S A s.heap s.heap [] := va_S.rf
  have hl := lv_entry ([.ref m0, .int x, .int y]) (n := 3) (Nat.le_of_ble_eq_true rfl)
  rw [lg_entry_eq]
  generalize (lg_sl ([.ref m0, .int x, .int y]) ++ List.replicate (3 - (lg_sl ([.ref m0, .int x, .int y])).length) Slot.unset).toArray = ls at hl ⊢
  have hl : lv_has ls 3 [(0, .ref m0), (1, .int x), (2, .int y)] := hl
  refine lv_aload_n hx hb dX7_expiry_0 rfl (lv_at hl 0 rfl) ?_
  refine lv_iload_n hx hb dX7_expiry_1 rfl (lv_at hl 1 rfl) ?_
  refine lv_iload_n hx hb dX7_expiry_2 rfl (lv_at hl 2 rfl) ?_
  refine lv_iconst (v := nI 4) hx hb dX7_expiry_3 (by decide) ?_
  refine lv_iconst (v := (-1)) hx hb dX7_expiry_4 (by decide) ?_
  refine k_ci (wr := []) (w1 := [(m0, .inr (7, [.ref v, .ref a1, .ref a2, .int ik, .int (nI 1), .int en]))]) (va_runV (As := [.int x, .int y, .int (nI 4), .int (-1)]) (rest := []) ⟨hx, hb, hml, hown, hts⟩ (c_M_told0 l D cI cJ cM cG m0 v a1 a2 ik th en N x y 4 (-1) s.heap.size (hN) (hN0) (hb2)) (cwV 4 hts (kB_V (fun _ => List.mem_cons_of_mem _) q_879 q_880 q_881 q_670 (kB_c q_882)) rfl rfl rfl (by decide +kernel) ⟨Nat.le_of_ble_eq_true rfl, Nat.le_of_ble_eq_true rfl⟩) (k_preV (T := TX7) hP hD hK hKN [0, 1] rfl rfl (ci := 7) rfl (q0 := 0) rfl) rfl rfl hl.1 rfl (lv_room (Nat.le_of_ble_eq_true rfl)) dX7_expiry_5 ⟨Nat.le_of_ble_eq_true rfl, Nat.le_of_ble_eq_true rfl⟩) hP hD hS hA [0, 1] [] rfl rfl rfl (by decide) (fun r5 H locs hw5 hP hD hS => ?_)
  replace hP : va_P D vwCl [(m0, .inr (7, [.ref v, .ref a1, .ref a2, .int ik, .int (nI 1), .int en]))] H := hP
  replace hD : va_D A [(m0, .inr (7, [.ref v, .ref a1, .ref a2, .int ik, .int (nI 1), .int en]))] := hD
  replace hw5 : r5 = nI 0 := hw5
  refine k_ti hw5 ?_
  have hP9 := hP.sub (ws' := [(m0, .inr (7, [.ref v, .ref a1, .ref a2, .int ik, .int (nI 1), .int en]))]) [0] rfl
  have hD9 := hD.sub (ws' := [(m0, .inr (7, [.ref v, .ref a1, .ref a2, .int ik, .int (nI 1), .int en]))]) [0] rfl rfl
  exact W.iret (v := nI 0) hx hb hr (fun t9 ht9 hW9 => ⟨⟨nI 0, (), rfl, rfl, by rw [ht9]; exact hP9, hD9⟩, hS.F ht9⟩) hS.2.2 dX7_expiry_8

set_option maxHeartbeats 4000000 in
set_option maxRecDepth 100000 in
theorem c_M_users1 (l : Launch) (D : va_G) (cI cJ cM cG : ClassId) (m0 : Nat) (v : Nat) (a1 : Nat) (a2 : Nat) (ik : Int32) (th : Int32) (en : Int32) (N : Nat) (a : Nat) (b : Nat) (sz : Nat) (hN : N ≤ 10) (hN0 : 0 < N) (ha : a < N) (hb9 : b < N) : Met l yX7_users (Cond.code yX7_users cX7_users 3 (some .int) :: kBig) ({ frames := 4, cells := 0, slots := 0, locals := 92 }) (va_Pc [.ref m0, .int (nI a), .int (nI b)] (kP D [(cI, .int), (cJ, .long), (cM, .object "MeshRouting$Message"), (cG, .array .int)] [(m0, .inr (7, [.ref v, .ref a1, .ref a2, .int ik, .int th, .int en])), (v, .inl (cJ, 136800, .inr (.inl (mF N))))] sz)) (va_Qi (fun (r : Int32) (_ : Unit) => r = nI 0) (fun _ t9 => kB D (va_A [(m0, .inr (7, [.ref v, .ref a1, .ref a2, .int ik, .int th, .int en])), (v, .inl (cJ, 136800, .inr (.inl (mF N))))] sz) [(m0, .inr (7, [.ref v, .ref a1, .ref a2, .int ik, .int (nI 0), .int en]))] t9) (va_A [(m0, .inr (7, [.ref v, .ref a1, .ref a2, .int ik, .int th, .int en])), (v, .inl (cJ, 136800, .inr (.inl (mF N))))] sz)) 0 0 (va_A [(m0, .inr (7, [.ref v, .ref a1, .ref a2, .int ik, .int th, .int en])), (v, .inl (cJ, 136800, .inr (.inl (mF N))))] sz) := by
  refine Met.ofW (cc := cX7_users) (maxL := 3) (ret := (some .int)) (by decide) rfl ?_
  intro p e s m args below meth c s₁ B hml hv
  obtain ⟨rfl, hsz, hP, hK, hD0, hKN⟩ := hv
  have hx := B.exec
  have hb := B.bytes
  have hr := B.returns
  have hts := atoms_spec (ws := (Cond.code yX7_users cX7_users 3 (some .int) :: kBig)) B.pre
  have hown : s.vm.findClass RX7 = some m.cls := findClass_of_methodNamed B.named
  have hlocks := B.notSynchronized
  subst hsz
  have hD := hD0.self (sz := s.heap.size)
  generalize hAe : va_A [(m0, .inr (7, [.ref v, .ref a1, .ref a2, .int ik, .int th, .int en])), (v, .inl (cJ, 136800, .inr (.inl (mF N))))] s.heap.size = A at hD ⊢
  have hA : ∀ q : Nat, s.heap.size ≤ q → A q := fun q h => by rw [← hAe]; exact Or.inr h
  have hS : va_S A s.heap s.heap [] := va_S.rf
  have hl := lv_entry ([.ref m0, .int (nI a), .int (nI b)]) (n := 3) (Nat.le_of_ble_eq_true rfl)
  rw [lg_entry_eq]
  generalize (lg_sl ([.ref m0, .int (nI a), .int (nI b)]) ++ List.replicate (3 - (lg_sl ([.ref m0, .int (nI a), .int (nI b)])).length) Slot.unset).toArray = ls at hl ⊢
  have hl : lv_has ls 3 [(0, .ref m0), (1, .int (nI a)), (2, .int (nI b))] := hl
  refine lv_aload_n hx hb dX7_users_0 rfl (lv_at hl 0 rfl) ?_
  refine lv_iload_n hx hb dX7_users_1 rfl (lv_at hl 1 rfl) ?_
  refine lv_iload_n hx hb dX7_users_2 rfl (lv_at hl 2 rfl) ?_
  refine lv_iconst (v := nI 5) hx hb dX7_users_3 (by decide) ?_
  refine lv_iconst (v := nI 0) hx hb dX7_users_4 (by decide) ?_
  refine k_ci (wr := []) (w1 := [(m0, .inr (7, [.ref v, .ref a1, .ref a2, .int ik, .int (nI 0), .int en]))]) (va_runV (As := [.int (nI a), .int (nI b), .int (nI 5), .int (nI 0)]) (rest := []) ⟨hx, hb, hml, hown, hts⟩ (c_M_told1 l D cI cJ cM cG m0 v a1 a2 ik th en N a b 5 (nI 0) s.heap.size (hN) (hN0) (ha) (hb9)) (cwV 4 hts (kB_V (fun _ => List.mem_cons_of_mem _) q_879 q_880 q_881 q_670 (kB_c q_882)) rfl rfl rfl (by decide +kernel) ⟨Nat.le_of_ble_eq_true rfl, Nat.le_of_ble_eq_true rfl⟩) (k_preV (T := TX7) hP hD hK hKN [0, 1] rfl rfl (ci := 7) rfl (q0 := 0) rfl) rfl rfl hl.1 rfl (lv_room (Nat.le_of_ble_eq_true rfl)) dX7_users_5 ⟨Nat.le_of_ble_eq_true rfl, Nat.le_of_ble_eq_true rfl⟩) hP hD hS hA [0, 1] [] rfl rfl rfl (by decide) (fun r5 H locs hw5 hP hD hS => ?_)
  replace hP : va_P D vwCl [(m0, .inr (7, [.ref v, .ref a1, .ref a2, .int ik, .int (nI 0), .int en]))] H := hP
  replace hD : va_D A [(m0, .inr (7, [.ref v, .ref a1, .ref a2, .int ik, .int (nI 0), .int en]))] := hD
  replace hw5 : r5 = nI 0 := hw5
  refine k_ti hw5 ?_
  have hP9 := hP.sub (ws' := [(m0, .inr (7, [.ref v, .ref a1, .ref a2, .int ik, .int (nI 0), .int en]))]) [0] rfl
  have hD9 := hD.sub (ws' := [(m0, .inr (7, [.ref v, .ref a1, .ref a2, .int ik, .int (nI 0), .int en]))]) [0] rfl rfl
  exact W.iret (v := nI 0) hx hb hr (fun t9 ht9 hW9 => ⟨⟨nI 0, (), rfl, rfl, by rw [ht9]; exact hP9, hD9⟩, hS.F ht9⟩) hS.2.2 dX7_users_8

set_option maxHeartbeats 4000000 in
set_option maxRecDepth 100000 in
theorem c_M_users0 (l : Launch) (D : va_G) (cI cJ cM cG : ClassId) (m0 : Nat) (v : Nat) (a1 : Nat) (a2 : Nat) (ik : Int32) (th : Int32) (en : Int32) (N : Nat) (x : Int32) (y : Int32) (sz : Nat) (hN : N ≤ 10) (hN0 : 0 < N) (hb2 : kBad2 N x y) : Met l yX7_users (Cond.code yX7_users cX7_users 3 (some .int) :: kBig) ({ frames := 4, cells := 0, slots := 0, locals := 92 }) (va_Pc [.ref m0, .int x, .int y] (kP D [(cI, .int), (cJ, .long), (cM, .object "MeshRouting$Message"), (cG, .array .int)] [(m0, .inr (7, [.ref v, .ref a1, .ref a2, .int ik, .int th, .int en])), (v, .inl (cJ, 136800, .inr (.inl (mF N))))] sz)) (va_Qi (fun (r : Int32) (_ : Unit) => r = nI 0) (fun _ t9 => kB D (va_A [(m0, .inr (7, [.ref v, .ref a1, .ref a2, .int ik, .int th, .int en])), (v, .inl (cJ, 136800, .inr (.inl (mF N))))] sz) [(m0, .inr (7, [.ref v, .ref a1, .ref a2, .int ik, .int (nI 1), .int en]))] t9) (va_A [(m0, .inr (7, [.ref v, .ref a1, .ref a2, .int ik, .int th, .int en])), (v, .inl (cJ, 136800, .inr (.inl (mF N))))] sz)) 0 0 (va_A [(m0, .inr (7, [.ref v, .ref a1, .ref a2, .int ik, .int th, .int en])), (v, .inl (cJ, 136800, .inr (.inl (mF N))))] sz) := by
  refine Met.ofW (cc := cX7_users) (maxL := 3) (ret := (some .int)) (by decide) rfl ?_
  intro p e s m args below meth c s₁ B hml hv
  obtain ⟨rfl, hsz, hP, hK, hD0, hKN⟩ := hv
  have hx := B.exec
  have hb := B.bytes
  have hr := B.returns
  have hts := atoms_spec (ws := (Cond.code yX7_users cX7_users 3 (some .int) :: kBig)) B.pre
  have hown : s.vm.findClass RX7 = some m.cls := findClass_of_methodNamed B.named
  have hlocks := B.notSynchronized
  subst hsz
  have hD := hD0.self (sz := s.heap.size)
  generalize hAe : va_A [(m0, .inr (7, [.ref v, .ref a1, .ref a2, .int ik, .int th, .int en])), (v, .inl (cJ, 136800, .inr (.inl (mF N))))] s.heap.size = A at hD ⊢
  have hA : ∀ q : Nat, s.heap.size ≤ q → A q := fun q h => by rw [← hAe]; exact Or.inr h
  have hS : va_S A s.heap s.heap [] := va_S.rf
  have hl := lv_entry ([.ref m0, .int x, .int y]) (n := 3) (Nat.le_of_ble_eq_true rfl)
  rw [lg_entry_eq]
  generalize (lg_sl ([.ref m0, .int x, .int y]) ++ List.replicate (3 - (lg_sl ([.ref m0, .int x, .int y])).length) Slot.unset).toArray = ls at hl ⊢
  have hl : lv_has ls 3 [(0, .ref m0), (1, .int x), (2, .int y)] := hl
  refine lv_aload_n hx hb dX7_users_0 rfl (lv_at hl 0 rfl) ?_
  refine lv_iload_n hx hb dX7_users_1 rfl (lv_at hl 1 rfl) ?_
  refine lv_iload_n hx hb dX7_users_2 rfl (lv_at hl 2 rfl) ?_
  refine lv_iconst (v := nI 5) hx hb dX7_users_3 (by decide) ?_
  refine lv_iconst (v := nI 0) hx hb dX7_users_4 (by decide) ?_
  refine k_ci (wr := []) (w1 := [(m0, .inr (7, [.ref v, .ref a1, .ref a2, .int ik, .int (nI 1), .int en]))]) (va_runV (As := [.int x, .int y, .int (nI 5), .int (nI 0)]) (rest := []) ⟨hx, hb, hml, hown, hts⟩ (c_M_told0 l D cI cJ cM cG m0 v a1 a2 ik th en N x y 5 (nI 0) s.heap.size (hN) (hN0) (hb2)) (cwV 4 hts (kB_V (fun _ => List.mem_cons_of_mem _) q_879 q_880 q_881 q_670 (kB_c q_882)) rfl rfl rfl (by decide +kernel) ⟨Nat.le_of_ble_eq_true rfl, Nat.le_of_ble_eq_true rfl⟩) (k_preV (T := TX7) hP hD hK hKN [0, 1] rfl rfl (ci := 7) rfl (q0 := 0) rfl) rfl rfl hl.1 rfl (lv_room (Nat.le_of_ble_eq_true rfl)) dX7_users_5 ⟨Nat.le_of_ble_eq_true rfl, Nat.le_of_ble_eq_true rfl⟩) hP hD hS hA [0, 1] [] rfl rfl rfl (by decide) (fun r5 H locs hw5 hP hD hS => ?_)
  replace hP : va_P D vwCl [(m0, .inr (7, [.ref v, .ref a1, .ref a2, .int ik, .int (nI 1), .int en]))] H := hP
  replace hD : va_D A [(m0, .inr (7, [.ref v, .ref a1, .ref a2, .int ik, .int (nI 1), .int en]))] := hD
  replace hw5 : r5 = nI 0 := hw5
  refine k_ti hw5 ?_
  have hP9 := hP.sub (ws' := [(m0, .inr (7, [.ref v, .ref a1, .ref a2, .int ik, .int (nI 1), .int en]))]) [0] rfl
  have hD9 := hD.sub (ws' := [(m0, .inr (7, [.ref v, .ref a1, .ref a2, .int ik, .int (nI 1), .int en]))]) [0] rfl rfl
  exact W.iret (v := nI 0) hx hb hr (fun t9 ht9 hW9 => ⟨⟨nI 0, (), rfl, rfl, by rw [ht9]; exact hP9, hD9⟩, hS.F ht9⟩) hS.2.2 dX7_users_8

set_option maxHeartbeats 4000000 in
set_option maxRecDepth 100000 in
theorem c_M_isValid1 (l : Launch) (D : va_G) (cI cJ cM cG : ClassId) (m0 : Nat) (v : Nat) (a1 : Nat) (a2 : Nat) (ik : Int32) (th : Int32) (en : Int32) (N : Nat) (a : Nat) (b : Nat) (sz : Nat) (hN : N ≤ 10) (hN0 : 0 < N) (ha : a < N) (hb9 : b < N) : Met l yX7_isValid (Cond.code yX7_isValid cX7_isValid 3 (some .boolean) :: kBig) ({ frames := 3, cells := 0, slots := 0, locals := 68 }) (va_Pc [.ref m0, .int (nI a), .int (nI b)] (kP D [(cI, .int), (cJ, .long), (cM, .object "MeshRouting$Message"), (cG, .array .int)] [(m0, .inr (7, [.ref v, .ref a1, .ref a2, .int ik, .int th, .int en])), (v, .inl (cJ, 136800, .inr (.inl (mF N))))] sz)) (va_Qi (fun (r : Int32) (_ : Unit) => r = nI 0) (fun _ t9 => kB D (va_A [(m0, .inr (7, [.ref v, .ref a1, .ref a2, .int ik, .int th, .int en])), (v, .inl (cJ, 136800, .inr (.inl (mF N))))] sz) [(m0, .inr (7, [.ref v, .ref a1, .ref a2, .int ik, .int (nI 0), .int en]))] t9) (va_A [(m0, .inr (7, [.ref v, .ref a1, .ref a2, .int ik, .int th, .int en])), (v, .inl (cJ, 136800, .inr (.inl (mF N))))] sz)) 0 0 (va_A [(m0, .inr (7, [.ref v, .ref a1, .ref a2, .int ik, .int th, .int en])), (v, .inl (cJ, 136800, .inr (.inl (mF N))))] sz) := by
  refine Met.ofW (cc := cX7_isValid) (maxL := 3) (ret := (some .boolean)) (by decide) rfl ?_
  intro p e s m args below meth c s₁ B hml hv
  obtain ⟨rfl, hsz, hP, hK, hD0, hKN⟩ := hv
  have hx := B.exec
  have hb := B.bytes
  have hr := B.returns
  have hts := atoms_spec (ws := (Cond.code yX7_isValid cX7_isValid 3 (some .boolean) :: kBig)) B.pre
  have hown : s.vm.findClass RX7 = some m.cls := findClass_of_methodNamed B.named
  have hlocks := B.notSynchronized
  subst hsz
  have hD := hD0.self (sz := s.heap.size)
  generalize hAe : va_A [(m0, .inr (7, [.ref v, .ref a1, .ref a2, .int ik, .int th, .int en])), (v, .inl (cJ, 136800, .inr (.inl (mF N))))] s.heap.size = A at hD ⊢
  have hA : ∀ q : Nat, s.heap.size ≤ q → A q := fun q h => by rw [← hAe]; exact Or.inr h
  have hS : va_S A s.heap s.heap [] := va_S.rf
  have hl := lv_entry ([.ref m0, .int (nI a), .int (nI b)]) (n := 3) (Nat.le_of_ble_eq_true rfl)
  rw [lg_entry_eq]
  generalize (lg_sl ([.ref m0, .int (nI a), .int (nI b)]) ++ List.replicate (3 - (lg_sl ([.ref m0, .int (nI a), .int (nI b)])).length) Slot.unset).toArray = ls at hl ⊢
  have hl : lv_has ls 3 [(0, .ref m0), (1, .int (nI a)), (2, .int (nI b))] := hl
  refine lv_aload_n hx hb dX7_isValid_0 rfl (lv_at hl 0 rfl) ?_
  refine lv_iload_n hx hb dX7_isValid_1 rfl (lv_at hl 1 rfl) ?_
  refine lv_iload_n hx hb dX7_isValid_2 rfl (lv_at hl 2 rfl) ?_
  refine k_ci (wr := []) (w1 := [(m0, .inr (7, [.ref v, .ref a1, .ref a2, .int ik, .int (nI 0), .int en])), (v, .inl (cJ, 136800, .inr (.inl (mF N))))]) (va_runV (As := [.int (nI a), .int (nI b)]) (rest := []) ⟨hx, hb, hml, hown, hts⟩ (c_M_lacks1 l D cI cJ cM cG m0 v a1 a2 ik th en N a b s.heap.size (hN) (hN0) (ha) (hb9)) (cwV 2 hts (kB_V (fun _ => List.mem_cons_of_mem _) q_756 q_757 q_758 q_670 (kB_c q_759)) rfl rfl rfl (by decide +kernel) ⟨Nat.le_of_ble_eq_true rfl, Nat.le_of_ble_eq_true rfl⟩) (k_preV (T := TX7) hP hD hK hKN [0, 1] rfl rfl (ci := 7) rfl (q0 := 0) rfl) rfl rfl hl.1 rfl (lv_room (Nat.le_of_ble_eq_true rfl)) dX7_isValid_3 ⟨Nat.le_of_ble_eq_true rfl, Nat.le_of_ble_eq_true rfl⟩) hP hD hS hA [0, 1] [] rfl rfl rfl (by decide) (fun r3 H locs hw3 hP hD hS => ?_)
  replace hP : va_P D vwCl [(m0, .inr (7, [.ref v, .ref a1, .ref a2, .int ik, .int (nI 0), .int en])), (v, .inl (cJ, 136800, .inr (.inl (mF N))))] H := hP
  replace hD : va_D A [(m0, .inr (7, [.ref v, .ref a1, .ref a2, .int ik, .int (nI 0), .int en])), (v, .inl (cJ, 136800, .inr (.inl (mF N))))] := hD
  replace hw3 : r3 = nI 0 := hw3
  refine k_ti hw3 ?_
  refine k_if_ne (tgt := 22) hx hb dX7_isValid_6 (by decide) (by omega) (fun h9 => absurd h9 (by omega)) (fun _ => ?_)
  refine lv_aload_n hx hb dX7_isValid_9 rfl (lv_at hl 0 rfl) ?_
  refine lv_iload_n hx hb dX7_isValid_10 rfl (lv_at hl 1 rfl) ?_
  refine lv_iload_n hx hb dX7_isValid_11 rfl (lv_at hl 2 rfl) ?_
  refine k_ci (wr := []) (w1 := [(m0, .inr (7, [.ref v, .ref a1, .ref a2, .int ik, .int (nI 0), .int en])), (v, .inl (cJ, 136800, .inr (.inl (mF N))))]) (va_runV (As := [.int (nI a), .int (nI b)]) (rest := []) ⟨hx, hb, hml, hown, hts⟩ (c_X7_isGood l D cI cJ cM cG m0 v a1 a2 ik (nI 0) en (mF N) a b H.size (by omega) (by omega) (fun j _ _ => mF_z (by omega))) (cwV 2 hts (kB_V (fun _ => List.mem_cons_of_mem _) q_724 q_725 q_726 q_670 (kB_c q_727)) rfl rfl rfl (by decide +kernel) ⟨Nat.le_of_ble_eq_true rfl, Nat.le_of_ble_eq_true rfl⟩) (k_preV (T := TX7) hP hD hK hKN [0, 1] rfl rfl (ci := 7) rfl (q0 := 0) rfl) rfl rfl hl.1 rfl (lv_room (Nat.le_of_ble_eq_true rfl)) dX7_isValid_12 ⟨Nat.le_of_ble_eq_true rfl, Nat.le_of_ble_eq_true rfl⟩) hP hD hS hA [0, 1] [] rfl rfl rfl (by decide) (fun r12 H locs hw12 hP hD hS => ?_)
  replace hP : va_P D vwCl [(m0, .inr (7, [.ref v, .ref a1, .ref a2, .int ik, .int (nI 0), .int en])), (v, .inl (cJ, 136800, .inr (.inl (mF N))))] H := hP
  replace hD : va_D A [(m0, .inr (7, [.ref v, .ref a1, .ref a2, .int ik, .int (nI 0), .int en])), (v, .inl (cJ, 136800, .inr (.inl (mF N))))] := hD
  replace hw12 : r12 = nI 0 := hw12
  refine k_ti hw12 ?_
  refine k_if_eq (tgt := 22) hx hb dX7_isValid_15 (by decide) (by omega) (fun _ => ?_) (fun h9 => absurd h9 (by omega))
  refine lv_iconst (v := nI 0) hx hb dX7_isValid_22 (by decide) ?_
  have hP9 := hP.sub (ws' := [(m0, .inr (7, [.ref v, .ref a1, .ref a2, .int ik, .int (nI 0), .int en]))]) [0] rfl
  have hD9 := hD.sub (ws' := [(m0, .inr (7, [.ref v, .ref a1, .ref a2, .int ik, .int (nI 0), .int en]))]) [0] rfl rfl
  exact W.zret (v := nI 0) hx hb hr (by decide) (fun t9 ht9 hW9 => ⟨⟨nI 0, (), rfl, rfl, by rw [ht9]; exact hP9, hD9⟩, hS.F ht9⟩) hS.2.2 dX7_isValid_23

set_option maxHeartbeats 4000000 in
set_option maxRecDepth 100000 in
theorem c_M_isValid0 (l : Launch) (D : va_G) (cI cJ cM cG : ClassId) (m0 : Nat) (v : Nat) (a1 : Nat) (a2 : Nat) (ik : Int32) (th : Int32) (en : Int32) (N : Nat) (x : Int32) (y : Int32) (sz : Nat) (hN : N ≤ 10) (hN0 : 0 < N) (hb2 : kBad2 N x y) : Met l yX7_isValid (Cond.code yX7_isValid cX7_isValid 3 (some .boolean) :: kBig) ({ frames := 3, cells := 0, slots := 0, locals := 68 }) (va_Pc [.ref m0, .int x, .int y] (kP D [(cI, .int), (cJ, .long), (cM, .object "MeshRouting$Message"), (cG, .array .int)] [(m0, .inr (7, [.ref v, .ref a1, .ref a2, .int ik, .int th, .int en])), (v, .inl (cJ, 136800, .inr (.inl (mF N))))] sz)) (va_Qi (fun (r : Int32) (_ : Unit) => r = nI 0) (fun _ t9 => kB D (va_A [(m0, .inr (7, [.ref v, .ref a1, .ref a2, .int ik, .int th, .int en])), (v, .inl (cJ, 136800, .inr (.inl (mF N))))] sz) [(m0, .inr (7, [.ref v, .ref a1, .ref a2, .int ik, .int (nI 1), .int en]))] t9) (va_A [(m0, .inr (7, [.ref v, .ref a1, .ref a2, .int ik, .int th, .int en])), (v, .inl (cJ, 136800, .inr (.inl (mF N))))] sz)) 0 0 (va_A [(m0, .inr (7, [.ref v, .ref a1, .ref a2, .int ik, .int th, .int en])), (v, .inl (cJ, 136800, .inr (.inl (mF N))))] sz) := by
  refine Met.ofW (cc := cX7_isValid) (maxL := 3) (ret := (some .boolean)) (by decide) rfl ?_
  intro p e s m args below meth c s₁ B hml hv
  obtain ⟨rfl, hsz, hP, hK, hD0, hKN⟩ := hv
  have hx := B.exec
  have hb := B.bytes
  have hr := B.returns
  have hts := atoms_spec (ws := (Cond.code yX7_isValid cX7_isValid 3 (some .boolean) :: kBig)) B.pre
  have hown : s.vm.findClass RX7 = some m.cls := findClass_of_methodNamed B.named
  have hlocks := B.notSynchronized
  subst hsz
  have hD := hD0.self (sz := s.heap.size)
  generalize hAe : va_A [(m0, .inr (7, [.ref v, .ref a1, .ref a2, .int ik, .int th, .int en])), (v, .inl (cJ, 136800, .inr (.inl (mF N))))] s.heap.size = A at hD ⊢
  have hA : ∀ q : Nat, s.heap.size ≤ q → A q := fun q h => by rw [← hAe]; exact Or.inr h
  have hS : va_S A s.heap s.heap [] := va_S.rf
  have hl := lv_entry ([.ref m0, .int x, .int y]) (n := 3) (Nat.le_of_ble_eq_true rfl)
  rw [lg_entry_eq]
  generalize (lg_sl ([.ref m0, .int x, .int y]) ++ List.replicate (3 - (lg_sl ([.ref m0, .int x, .int y])).length) Slot.unset).toArray = ls at hl ⊢
  have hl : lv_has ls 3 [(0, .ref m0), (1, .int x), (2, .int y)] := hl
  refine lv_aload_n hx hb dX7_isValid_0 rfl (lv_at hl 0 rfl) ?_
  refine lv_iload_n hx hb dX7_isValid_1 rfl (lv_at hl 1 rfl) ?_
  refine lv_iload_n hx hb dX7_isValid_2 rfl (lv_at hl 2 rfl) ?_
  refine k_ci (wr := []) (w1 := [(m0, .inr (7, [.ref v, .ref a1, .ref a2, .int ik, .int (nI 1), .int en])), (v, .inl (cJ, 136800, .inr (.inl (mF N))))]) (va_runV (As := [.int x, .int y]) (rest := []) ⟨hx, hb, hml, hown, hts⟩ (c_M_lacks0 l D cI cJ cM cG m0 v a1 a2 ik th en N x y s.heap.size (hN) (hN0) (hb2)) (cwV 2 hts (kB_V (fun _ => List.mem_cons_of_mem _) q_756 q_757 q_758 q_670 (kB_c q_759)) rfl rfl rfl (by decide +kernel) ⟨Nat.le_of_ble_eq_true rfl, Nat.le_of_ble_eq_true rfl⟩) (k_preV (T := TX7) hP hD hK hKN [0, 1] rfl rfl (ci := 7) rfl (q0 := 0) rfl) rfl rfl hl.1 rfl (lv_room (Nat.le_of_ble_eq_true rfl)) dX7_isValid_3 ⟨Nat.le_of_ble_eq_true rfl, Nat.le_of_ble_eq_true rfl⟩) hP hD hS hA [0, 1] [] rfl rfl rfl (by decide) (fun r3 H locs hw3 hP hD hS => ?_)
  replace hP : va_P D vwCl [(m0, .inr (7, [.ref v, .ref a1, .ref a2, .int ik, .int (nI 1), .int en])), (v, .inl (cJ, 136800, .inr (.inl (mF N))))] H := hP
  replace hD : va_D A [(m0, .inr (7, [.ref v, .ref a1, .ref a2, .int ik, .int (nI 1), .int en])), (v, .inl (cJ, 136800, .inr (.inl (mF N))))] := hD
  replace hw3 : r3 = nI 1 := hw3
  refine k_ti hw3 ?_
  refine k_if_ne (tgt := 22) hx hb dX7_isValid_6 (by decide) (by omega) (fun _ => ?_) (fun h9 => absurd h9 (by omega))
  refine lv_iconst (v := nI 0) hx hb dX7_isValid_22 (by decide) ?_
  have hP9 := hP.sub (ws' := [(m0, .inr (7, [.ref v, .ref a1, .ref a2, .int ik, .int (nI 1), .int en]))]) [0] rfl
  have hD9 := hD.sub (ws' := [(m0, .inr (7, [.ref v, .ref a1, .ref a2, .int ik, .int (nI 1), .int en]))]) [0] rfl rfl
  exact W.zret (v := nI 0) hx hb hr (by decide) (fun t9 ht9 hW9 => ⟨⟨nI 0, (), rfl, rfl, by rw [ht9]; exact hP9, hD9⟩, hS.F ht9⟩) hS.2.2 dX7_isValid_23

set_option maxHeartbeats 4000000 in
set_option maxRecDepth 100000 in
theorem c_M_searching1 (l : Launch) (D : va_G) (cI cJ cM cG : ClassId) (m0 : Nat) (v : Nat) (a1 : Nat) (a2 : Nat) (ik : Int32) (th : Int32) (en : Int32) (N : Nat) (a : Nat) (b : Nat) (sz : Nat) (hN : N ≤ 10) (hN0 : 0 < N) (ha : a < N) (hb9 : b < N) : Met l yX7_searching (Cond.code yX7_searching cX7_searching 3 (some .int) :: kBig) ({ frames := 3, cells := 0, slots := 0, locals := 68 }) (va_Pc [.ref m0, .int (nI a), .int (nI b)] (kP D [(cI, .int), (cJ, .long), (cM, .object "MeshRouting$Message"), (cG, .array .int)] [(m0, .inr (7, [.ref v, .ref a1, .ref a2, .int ik, .int th, .int en])), (v, .inl (cJ, 136800, .inr (.inl (mF N))))] sz)) (va_Qi (fun (r : Int32) (_ : Unit) => r = nI 0) (fun _ t9 => kB D (va_A [(m0, .inr (7, [.ref v, .ref a1, .ref a2, .int ik, .int th, .int en])), (v, .inl (cJ, 136800, .inr (.inl (mF N))))] sz) [(m0, .inr (7, [.ref v, .ref a1, .ref a2, .int ik, .int (nI 0), .int en]))] t9) (va_A [(m0, .inr (7, [.ref v, .ref a1, .ref a2, .int ik, .int th, .int en])), (v, .inl (cJ, 136800, .inr (.inl (mF N))))] sz)) 0 0 (va_A [(m0, .inr (7, [.ref v, .ref a1, .ref a2, .int ik, .int th, .int en])), (v, .inl (cJ, 136800, .inr (.inl (mF N))))] sz) := by
  refine Met.ofW (cc := cX7_searching) (maxL := 3) (ret := (some .int)) (by decide) rfl ?_
  intro p e s m args below meth c s₁ B hml hv
  obtain ⟨rfl, hsz, hP, hK, hD0, hKN⟩ := hv
  have hx := B.exec
  have hb := B.bytes
  have hr := B.returns
  have hts := atoms_spec (ws := (Cond.code yX7_searching cX7_searching 3 (some .int) :: kBig)) B.pre
  have hown : s.vm.findClass RX7 = some m.cls := findClass_of_methodNamed B.named
  have hlocks := B.notSynchronized
  have hin7 : ∀ w ∈ u_ws RX7 TX7 6, w ∈ (Cond.code yX7_searching cX7_searching 3 (some .int) :: kBig) := fun w h => List.mem_cons_of_mem _ (inb7 w h)
  subst hsz
  have hD := hD0.self (sz := s.heap.size)
  generalize hAe : va_A [(m0, .inr (7, [.ref v, .ref a1, .ref a2, .int ik, .int th, .int en])), (v, .inl (cJ, 136800, .inr (.inl (mF N))))] s.heap.size = A at hD ⊢
  have hA : ∀ q : Nat, s.heap.size ≤ q → A q := fun q h => by rw [← hAe]; exact Or.inr h
  have hS : va_S A s.heap s.heap [] := va_S.rf
  have hl := lv_entry ([.ref m0, .int (nI a), .int (nI b)]) (n := 3) (Nat.le_of_ble_eq_true rfl)
  rw [lg_entry_eq]
  generalize (lg_sl ([.ref m0, .int (nI a), .int (nI b)]) ++ List.replicate (3 - (lg_sl ([.ref m0, .int (nI a), .int (nI b)])).length) Slot.unset).toArray = ls at hl ⊢
  have hl : lv_has ls 3 [(0, .ref m0), (1, .int (nI a)), (2, .int (nI b))] := hl
  refine lv_aload_n hx hb dX7_searching_0 rfl (lv_at hl 0 rfl) ?_
  refine lv_iload_n hx hb dX7_searching_1 rfl (lv_at hl 1 rfl) ?_
  refine lv_iload_n hx hb dX7_searching_2 rfl (lv_at hl 2 rfl) ?_
  refine k_ci (wr := []) (w1 := [(m0, .inr (7, [.ref v, .ref a1, .ref a2, .int ik, .int (nI 0), .int en])), (v, .inl (cJ, 136800, .inr (.inl (mF N))))]) (va_runV (As := [.int (nI a), .int (nI b)]) (rest := []) ⟨hx, hb, hml, hown, hts⟩ (c_M_lacks1 l D cI cJ cM cG m0 v a1 a2 ik th en N a b s.heap.size (hN) (hN0) (ha) (hb9)) (cwV 2 hts (kB_V (fun _ => List.mem_cons_of_mem _) q_756 q_757 q_758 q_670 (kB_c q_759)) rfl rfl rfl (by decide +kernel) ⟨Nat.le_of_ble_eq_true rfl, Nat.le_of_ble_eq_true rfl⟩) (k_preV (T := TX7) hP hD hK hKN [0, 1] rfl rfl (ci := 7) rfl (q0 := 0) rfl) rfl rfl hl.1 rfl (lv_room (Nat.le_of_ble_eq_true rfl)) dX7_searching_3 ⟨Nat.le_of_ble_eq_true rfl, Nat.le_of_ble_eq_true rfl⟩) hP hD hS hA [0, 1] [] rfl rfl rfl (by decide) (fun r3 H locs hw3 hP hD hS => ?_)
  replace hP : va_P D vwCl [(m0, .inr (7, [.ref v, .ref a1, .ref a2, .int ik, .int (nI 0), .int en])), (v, .inl (cJ, 136800, .inr (.inl (mF N))))] H := hP
  replace hD : va_D A [(m0, .inr (7, [.ref v, .ref a1, .ref a2, .int ik, .int (nI 0), .int en])), (v, .inl (cJ, 136800, .inr (.inl (mF N))))] := hD
  replace hw3 : r3 = nI 0 := hw3
  refine k_ti hw3 ?_
  refine k_if_eq (tgt := 13) hx hb dX7_searching_6 (by decide) (by omega) (fun _ => ?_) (fun h9 => absurd h9 (by omega))
  refine lv_aload_n hx hb dX7_searching_13 rfl (lv_at hl 0 rfl) ?_
  refine va_get (D := D) (ci := 7) (v := .ref v) (C := RX7) (T := TX7) (N := 6) hx hb hts hin7 hown hK hP 0 rfl rfl 0 (by decide) (hts (.fieldLink RX7 8 "MeshRoutingModel" "v" "[J") (List.mem_cons_of_mem _ q_665)) (fun _ h9 => h9) rfl dX7_searching_14 ?_
  refine lv_iload_n hx hb dX7_searching_17 rfl (lv_at hl 1 rfl) ?_
  refine lv_iload_n hx hb dX7_searching_18 rfl (lv_at hl 2 rfl) ?_
  refine k_ci (wr := [(m0, .inr (7, [.ref v, .ref a1, .ref a2, .int ik, .int (nI 0), .int en])), (v, .inl (cJ, 136800, .inr (.inl (mF N))))]) (w1 := []) (va_runS (As := [.int (nI a), .int (nI b)]) (rest := [.ref v]) ⟨hx, hb, hml, hown, hts⟩ (c_X7_search l D cI cJ cM cG a b H.size) (va_cwS 2 hts (kB_S (fun _ => List.mem_cons_of_mem _) q_703 q_704 q_670 (kB_c q_705)) rfl rfl rfl (by decide +kernel) ⟨Nat.le_of_ble_eq_true rfl, Nat.le_of_ble_eq_true rfl⟩) (k_preS hP hD hK hKN [] rfl rfl) rfl rfl hl.1 rfl (lv_room (Nat.le_of_ble_eq_true rfl)) dX7_searching_19 ⟨Nat.le_of_ble_eq_true rfl, Nat.le_of_ble_eq_true rfl⟩) hP hD hS hA [] [0, 1] rfl rfl rfl (by decide) (fun r19 H locs hw19 hP hD hS => ?_)
  replace hP : va_P D vwCl [(m0, .inr (7, [.ref v, .ref a1, .ref a2, .int ik, .int (nI 0), .int en])), (v, .inl (cJ, 136800, .inr (.inl (mF N))))] H := hP
  replace hD : va_D A [(m0, .inr (7, [.ref v, .ref a1, .ref a2, .int ik, .int (nI 0), .int en])), (v, .inl (cJ, 136800, .inr (.inl (mF N))))] := hD
  replace hw19 : r19 = nI (1000 + 4 * (10 * a + b)) := hw19
  refine k_ti hw19 ?_
  refine lv_iconst (v := nI 0) hx hb dX7_searching_22 (by decide) ?_
  refine lv_iadd hx hb dX7_searching_23 ?_
  refine k_ti (show ((nI (1000 + 4 * (10 * a + b))) + (nI 0)) = (nI (1000 + 4 * (10 * a + b) + 0)) from nI_add _ _) ?_
  refine k_lald (v := lN 0) hx hb hK hP 1 1 rfl rfl (by omega) (by omega) ((mF_z (by omega))) dX7_searching_24 ?_
  refine lv_l2i (v := nI 0) hx hb dX7_searching_25 (by decide) ?_
  have hP9 := hP.sub (ws' := [(m0, .inr (7, [.ref v, .ref a1, .ref a2, .int ik, .int (nI 0), .int en]))]) [0] rfl
  have hD9 := hD.sub (ws' := [(m0, .inr (7, [.ref v, .ref a1, .ref a2, .int ik, .int (nI 0), .int en]))]) [0] rfl rfl
  exact W.iret (v := nI 0) hx hb hr (fun t9 ht9 hW9 => ⟨⟨nI 0, (), rfl, rfl, by rw [ht9]; exact hP9, hD9⟩, hS.F ht9⟩) hS.2.2 dX7_searching_26

set_option maxHeartbeats 4000000 in
set_option maxRecDepth 100000 in
theorem c_M_searching0 (l : Launch) (D : va_G) (cI cJ cM cG : ClassId) (m0 : Nat) (v : Nat) (a1 : Nat) (a2 : Nat) (ik : Int32) (th : Int32) (en : Int32) (N : Nat) (x : Int32) (y : Int32) (sz : Nat) (hN : N ≤ 10) (hN0 : 0 < N) (hb2 : kBad2 N x y) : Met l yX7_searching (Cond.code yX7_searching cX7_searching 3 (some .int) :: kBig) ({ frames := 3, cells := 0, slots := 0, locals := 68 }) (va_Pc [.ref m0, .int x, .int y] (kP D [(cI, .int), (cJ, .long), (cM, .object "MeshRouting$Message"), (cG, .array .int)] [(m0, .inr (7, [.ref v, .ref a1, .ref a2, .int ik, .int th, .int en])), (v, .inl (cJ, 136800, .inr (.inl (mF N))))] sz)) (va_Qi (fun (r : Int32) (_ : Unit) => r = nI 0) (fun _ t9 => kB D (va_A [(m0, .inr (7, [.ref v, .ref a1, .ref a2, .int ik, .int th, .int en])), (v, .inl (cJ, 136800, .inr (.inl (mF N))))] sz) [(m0, .inr (7, [.ref v, .ref a1, .ref a2, .int ik, .int (nI 1), .int en]))] t9) (va_A [(m0, .inr (7, [.ref v, .ref a1, .ref a2, .int ik, .int th, .int en])), (v, .inl (cJ, 136800, .inr (.inl (mF N))))] sz)) 0 0 (va_A [(m0, .inr (7, [.ref v, .ref a1, .ref a2, .int ik, .int th, .int en])), (v, .inl (cJ, 136800, .inr (.inl (mF N))))] sz) := by
  refine Met.ofW (cc := cX7_searching) (maxL := 3) (ret := (some .int)) (by decide) rfl ?_
  intro p e s m args below meth c s₁ B hml hv
  obtain ⟨rfl, hsz, hP, hK, hD0, hKN⟩ := hv
  have hx := B.exec
  have hb := B.bytes
  have hr := B.returns
  have hts := atoms_spec (ws := (Cond.code yX7_searching cX7_searching 3 (some .int) :: kBig)) B.pre
  have hown : s.vm.findClass RX7 = some m.cls := findClass_of_methodNamed B.named
  have hlocks := B.notSynchronized
  subst hsz
  have hD := hD0.self (sz := s.heap.size)
  generalize hAe : va_A [(m0, .inr (7, [.ref v, .ref a1, .ref a2, .int ik, .int th, .int en])), (v, .inl (cJ, 136800, .inr (.inl (mF N))))] s.heap.size = A at hD ⊢
  have hA : ∀ q : Nat, s.heap.size ≤ q → A q := fun q h => by rw [← hAe]; exact Or.inr h
  have hS : va_S A s.heap s.heap [] := va_S.rf
  have hl := lv_entry ([.ref m0, .int x, .int y]) (n := 3) (Nat.le_of_ble_eq_true rfl)
  rw [lg_entry_eq]
  generalize (lg_sl ([.ref m0, .int x, .int y]) ++ List.replicate (3 - (lg_sl ([.ref m0, .int x, .int y])).length) Slot.unset).toArray = ls at hl ⊢
  have hl : lv_has ls 3 [(0, .ref m0), (1, .int x), (2, .int y)] := hl
  refine lv_aload_n hx hb dX7_searching_0 rfl (lv_at hl 0 rfl) ?_
  refine lv_iload_n hx hb dX7_searching_1 rfl (lv_at hl 1 rfl) ?_
  refine lv_iload_n hx hb dX7_searching_2 rfl (lv_at hl 2 rfl) ?_
  refine k_ci (wr := []) (w1 := [(m0, .inr (7, [.ref v, .ref a1, .ref a2, .int ik, .int (nI 1), .int en])), (v, .inl (cJ, 136800, .inr (.inl (mF N))))]) (va_runV (As := [.int x, .int y]) (rest := []) ⟨hx, hb, hml, hown, hts⟩ (c_M_lacks0 l D cI cJ cM cG m0 v a1 a2 ik th en N x y s.heap.size (hN) (hN0) (hb2)) (cwV 2 hts (kB_V (fun _ => List.mem_cons_of_mem _) q_756 q_757 q_758 q_670 (kB_c q_759)) rfl rfl rfl (by decide +kernel) ⟨Nat.le_of_ble_eq_true rfl, Nat.le_of_ble_eq_true rfl⟩) (k_preV (T := TX7) hP hD hK hKN [0, 1] rfl rfl (ci := 7) rfl (q0 := 0) rfl) rfl rfl hl.1 rfl (lv_room (Nat.le_of_ble_eq_true rfl)) dX7_searching_3 ⟨Nat.le_of_ble_eq_true rfl, Nat.le_of_ble_eq_true rfl⟩) hP hD hS hA [0, 1] [] rfl rfl rfl (by decide) (fun r3 H locs hw3 hP hD hS => ?_)
  replace hP : va_P D vwCl [(m0, .inr (7, [.ref v, .ref a1, .ref a2, .int ik, .int (nI 1), .int en])), (v, .inl (cJ, 136800, .inr (.inl (mF N))))] H := hP
  replace hD : va_D A [(m0, .inr (7, [.ref v, .ref a1, .ref a2, .int ik, .int (nI 1), .int en])), (v, .inl (cJ, 136800, .inr (.inl (mF N))))] := hD
  replace hw3 : r3 = nI 1 := hw3
  refine k_ti hw3 ?_
  refine k_if_eq (tgt := 13) hx hb dX7_searching_6 (by decide) (by omega) (fun h9 => absurd h9 (by omega)) (fun _ => ?_)
  refine lv_iconst (v := nI 0) hx hb dX7_searching_9 (by decide) ?_
  refine lv_goto (tgt := 26) hx hb dX7_searching_10 (by decide) ?_
  have hP9 := hP.sub (ws' := [(m0, .inr (7, [.ref v, .ref a1, .ref a2, .int ik, .int (nI 1), .int en]))]) [0] rfl
  have hD9 := hD.sub (ws' := [(m0, .inr (7, [.ref v, .ref a1, .ref a2, .int ik, .int (nI 1), .int en]))]) [0] rfl rfl
  exact W.iret (v := nI 0) hx hb hr (fun t9 ht9 hW9 => ⟨⟨nI 0, (), rfl, rfl, by rw [ht9]; exact hP9, hD9⟩, hS.F ht9⟩) hS.2.2 dX7_searching_26

set_option maxHeartbeats 4000000 in
set_option maxRecDepth 100000 in
theorem c_M_timeout1 (l : Launch) (D : va_G) (cI cJ cM cG : ClassId) (m0 : Nat) (v : Nat) (a1 : Nat) (a2 : Nat) (ik : Int32) (th : Int32) (en : Int32) (N : Nat) (a : Nat) (b : Nat) (sz : Nat) (hN : N ≤ 10) (hN0 : 0 < N) (ha : a < N) (hb9 : b < N) : Met l yX7_timeout (Cond.code yX7_timeout cX7_timeout 4 (some .int) :: kBig) ({ frames := 3, cells := 0, slots := 0, locals := 68 }) (va_Pc [.ref m0, .int (nI a), .int (nI b)] (kP D [(cI, .int), (cJ, .long), (cM, .object "MeshRouting$Message"), (cG, .array .int)] [(m0, .inr (7, [.ref v, .ref a1, .ref a2, .int ik, .int th, .int en])), (v, .inl (cJ, 136800, .inr (.inl (mF N))))] sz)) (va_Qi (fun (r : Int32) (_ : Unit) => r = (-1)) (fun _ t9 => kB D (va_A [(m0, .inr (7, [.ref v, .ref a1, .ref a2, .int ik, .int th, .int en])), (v, .inl (cJ, 136800, .inr (.inl (mF N))))] sz) [(m0, .inr (7, [.ref v, .ref a1, .ref a2, .int ik, .int (nI 0), .int en]))] t9) (va_A [(m0, .inr (7, [.ref v, .ref a1, .ref a2, .int ik, .int th, .int en])), (v, .inl (cJ, 136800, .inr (.inl (mF N))))] sz)) 0 0 (va_A [(m0, .inr (7, [.ref v, .ref a1, .ref a2, .int ik, .int th, .int en])), (v, .inl (cJ, 136800, .inr (.inl (mF N))))] sz) := by
  refine Met.ofW (cc := cX7_timeout) (maxL := 4) (ret := (some .int)) (by decide) rfl ?_
  intro p e s m args below meth c s₁ B hml hv
  obtain ⟨rfl, hsz, hP, hK, hD0, hKN⟩ := hv
  have hx := B.exec
  have hb := B.bytes
  have hr := B.returns
  have hts := atoms_spec (ws := (Cond.code yX7_timeout cX7_timeout 4 (some .int) :: kBig)) B.pre
  have hown : s.vm.findClass RX7 = some m.cls := findClass_of_methodNamed B.named
  have hlocks := B.notSynchronized
  have hin7 : ∀ w ∈ u_ws RX7 TX7 6, w ∈ (Cond.code yX7_timeout cX7_timeout 4 (some .int) :: kBig) := fun w h => List.mem_cons_of_mem _ (inb7 w h)
  subst hsz
  have hD := hD0.self (sz := s.heap.size)
  generalize hAe : va_A [(m0, .inr (7, [.ref v, .ref a1, .ref a2, .int ik, .int th, .int en])), (v, .inl (cJ, 136800, .inr (.inl (mF N))))] s.heap.size = A at hD ⊢
  have hA : ∀ q : Nat, s.heap.size ≤ q → A q := fun q h => by rw [← hAe]; exact Or.inr h
  have hS : va_S A s.heap s.heap [] := va_S.rf
  have hl := lv_entry ([.ref m0, .int (nI a), .int (nI b)]) (n := 4) (Nat.le_of_ble_eq_true rfl)
  rw [lg_entry_eq]
  generalize (lg_sl ([.ref m0, .int (nI a), .int (nI b)]) ++ List.replicate (4 - (lg_sl ([.ref m0, .int (nI a), .int (nI b)])).length) Slot.unset).toArray = ls at hl ⊢
  have hl : lv_has ls 4 [(0, .ref m0), (1, .int (nI a)), (2, .int (nI b))] := hl
  refine lv_aload_n hx hb dX7_timeout_0 rfl (lv_at hl 0 rfl) ?_
  refine lv_iload_n hx hb dX7_timeout_1 rfl (lv_at hl 1 rfl) ?_
  refine lv_iload_n hx hb dX7_timeout_2 rfl (lv_at hl 2 rfl) ?_
  refine k_ci (wr := []) (w1 := [(m0, .inr (7, [.ref v, .ref a1, .ref a2, .int ik, .int (nI 0), .int en])), (v, .inl (cJ, 136800, .inr (.inl (mF N))))]) (va_runV (As := [.int (nI a), .int (nI b)]) (rest := []) ⟨hx, hb, hml, hown, hts⟩ (c_M_lacks1 l D cI cJ cM cG m0 v a1 a2 ik th en N a b s.heap.size (hN) (hN0) (ha) (hb9)) (cwV 2 hts (kB_V (fun _ => List.mem_cons_of_mem _) q_756 q_757 q_758 q_670 (kB_c q_759)) rfl rfl rfl (by decide +kernel) ⟨Nat.le_of_ble_eq_true rfl, Nat.le_of_ble_eq_true rfl⟩) (k_preV (T := TX7) hP hD hK hKN [0, 1] rfl rfl (ci := 7) rfl (q0 := 0) rfl) rfl rfl hl.1 rfl (lv_room (Nat.le_of_ble_eq_true rfl)) dX7_timeout_3 ⟨Nat.le_of_ble_eq_true rfl, Nat.le_of_ble_eq_true rfl⟩) hP hD hS hA [0, 1] [] rfl rfl rfl (by decide) (fun r3 H locs hw3 hP hD hS => ?_)
  replace hP : va_P D vwCl [(m0, .inr (7, [.ref v, .ref a1, .ref a2, .int ik, .int (nI 0), .int en])), (v, .inl (cJ, 136800, .inr (.inl (mF N))))] H := hP
  replace hD : va_D A [(m0, .inr (7, [.ref v, .ref a1, .ref a2, .int ik, .int (nI 0), .int en])), (v, .inl (cJ, 136800, .inr (.inl (mF N))))] := hD
  replace hw3 : r3 = nI 0 := hw3
  refine k_ti hw3 ?_
  refine k_if_eq (tgt := 11) hx hb dX7_timeout_6 (by decide) (by omega) (fun _ => ?_) (fun h9 => absurd h9 (by omega))
  refine lv_iload_n hx hb dX7_timeout_11 rfl (lv_at hl 1 rfl) ?_
  refine lv_iload_n hx hb dX7_timeout_12 rfl (lv_at hl 2 rfl) ?_
  refine k_ci (wr := [(m0, .inr (7, [.ref v, .ref a1, .ref a2, .int ik, .int (nI 0), .int en])), (v, .inl (cJ, 136800, .inr (.inl (mF N))))]) (w1 := []) (va_runS (As := [.int (nI a), .int (nI b)]) (rest := []) ⟨hx, hb, hml, hown, hts⟩ (c_X7_search l D cI cJ cM cG a b H.size) (va_cwS 2 hts (kB_S (fun _ => List.mem_cons_of_mem _) q_703 q_704 q_670 (kB_c q_705)) rfl rfl rfl (by decide +kernel) ⟨Nat.le_of_ble_eq_true rfl, Nat.le_of_ble_eq_true rfl⟩) (k_preS hP hD hK hKN [] rfl rfl) rfl rfl hl.1 rfl (lv_room (Nat.le_of_ble_eq_true rfl)) dX7_timeout_13 ⟨Nat.le_of_ble_eq_true rfl, Nat.le_of_ble_eq_true rfl⟩) hP hD hS hA [] [0, 1] rfl rfl rfl (by decide) (fun r13 H locs hw13 hP hD hS => ?_)
  replace hP : va_P D vwCl [(m0, .inr (7, [.ref v, .ref a1, .ref a2, .int ik, .int (nI 0), .int en])), (v, .inl (cJ, 136800, .inr (.inl (mF N))))] H := hP
  replace hD : va_D A [(m0, .inr (7, [.ref v, .ref a1, .ref a2, .int ik, .int (nI 0), .int en])), (v, .inl (cJ, 136800, .inr (.inl (mF N))))] := hD
  replace hw13 : r13 = nI (1000 + 4 * (10 * a + b)) := hw13
  refine k_ti hw13 ?_
  refine lv_istore_n (lv' := [(3, .int (nI (1000 + 4 * (10 * a + b)))), (0, .ref m0), (1, .int (nI a)), (2, .int (nI b))]) hx hb dX7_timeout_16 rfl hl (by decide) rfl (fun ls hl => ?_)
  refine lv_aload_n hx hb dX7_timeout_17 rfl (lv_at hl 1 rfl) ?_
  refine va_get (D := D) (ci := 7) (v := .ref v) (C := RX7) (T := TX7) (N := 6) hx hb hts hin7 hown hK hP 0 rfl rfl 0 (by decide) (hts (.fieldLink RX7 8 "MeshRoutingModel" "v" "[J") (List.mem_cons_of_mem _ q_665)) (fun _ h9 => h9) rfl dX7_timeout_18 ?_
  refine lv_iload_n hx hb dX7_timeout_21 rfl (lv_at hl 0 rfl) ?_
  refine lv_iconst (v := nI 0) hx hb dX7_timeout_22 (by decide) ?_
  refine lv_iadd hx hb dX7_timeout_23 ?_
  refine k_ti (show ((nI (1000 + 4 * (10 * a + b))) + (nI 0)) = (nI (1000 + 4 * (10 * a + b) + 0)) from nI_add _ _) ?_
  refine k_lald (v := lN 0) hx hb hK hP 1 1 rfl rfl (by omega) (by omega) ((mF_z (by omega))) dX7_timeout_24 ?_
  refine lv_lconst (v := lN 0) hx hb dX7_timeout_25 (by decide) ?_
  refine W.lcmp hx hb dX7_timeout_26 ?_
  refine k_lif_le (tgt := 42) hx hb dX7_timeout_27 (by decide) (by omega) (by omega) (fun _ => ?_) (fun h9 => absurd h9 (by omega))
  refine lv_iconst (v := (-1)) hx hb dX7_timeout_42 (by decide) ?_
  have hP9 := hP.sub (ws' := [(m0, .inr (7, [.ref v, .ref a1, .ref a2, .int ik, .int (nI 0), .int en]))]) [0] rfl
  have hD9 := hD.sub (ws' := [(m0, .inr (7, [.ref v, .ref a1, .ref a2, .int ik, .int (nI 0), .int en]))]) [0] rfl rfl
  exact W.iret (v := (-1)) hx hb hr (fun t9 ht9 hW9 => ⟨⟨(-1), (), rfl, rfl, by rw [ht9]; exact hP9, hD9⟩, hS.F ht9⟩) hS.2.2 dX7_timeout_43

set_option maxHeartbeats 4000000 in
set_option maxRecDepth 100000 in
theorem c_M_timeout0 (l : Launch) (D : va_G) (cI cJ cM cG : ClassId) (m0 : Nat) (v : Nat) (a1 : Nat) (a2 : Nat) (ik : Int32) (th : Int32) (en : Int32) (N : Nat) (x : Int32) (y : Int32) (sz : Nat) (hN : N ≤ 10) (hN0 : 0 < N) (hb2 : kBad2 N x y) : Met l yX7_timeout (Cond.code yX7_timeout cX7_timeout 4 (some .int) :: kBig) ({ frames := 3, cells := 0, slots := 0, locals := 68 }) (va_Pc [.ref m0, .int x, .int y] (kP D [(cI, .int), (cJ, .long), (cM, .object "MeshRouting$Message"), (cG, .array .int)] [(m0, .inr (7, [.ref v, .ref a1, .ref a2, .int ik, .int th, .int en])), (v, .inl (cJ, 136800, .inr (.inl (mF N))))] sz)) (va_Qi (fun (r : Int32) (_ : Unit) => r = nI 0) (fun _ t9 => kB D (va_A [(m0, .inr (7, [.ref v, .ref a1, .ref a2, .int ik, .int th, .int en])), (v, .inl (cJ, 136800, .inr (.inl (mF N))))] sz) [(m0, .inr (7, [.ref v, .ref a1, .ref a2, .int ik, .int (nI 1), .int en]))] t9) (va_A [(m0, .inr (7, [.ref v, .ref a1, .ref a2, .int ik, .int th, .int en])), (v, .inl (cJ, 136800, .inr (.inl (mF N))))] sz)) 0 0 (va_A [(m0, .inr (7, [.ref v, .ref a1, .ref a2, .int ik, .int th, .int en])), (v, .inl (cJ, 136800, .inr (.inl (mF N))))] sz) := by
  refine Met.ofW (cc := cX7_timeout) (maxL := 4) (ret := (some .int)) (by decide) rfl ?_
  intro p e s m args below meth c s₁ B hml hv
  obtain ⟨rfl, hsz, hP, hK, hD0, hKN⟩ := hv
  have hx := B.exec
  have hb := B.bytes
  have hr := B.returns
  have hts := atoms_spec (ws := (Cond.code yX7_timeout cX7_timeout 4 (some .int) :: kBig)) B.pre
  have hown : s.vm.findClass RX7 = some m.cls := findClass_of_methodNamed B.named
  have hlocks := B.notSynchronized
  subst hsz
  have hD := hD0.self (sz := s.heap.size)
  generalize hAe : va_A [(m0, .inr (7, [.ref v, .ref a1, .ref a2, .int ik, .int th, .int en])), (v, .inl (cJ, 136800, .inr (.inl (mF N))))] s.heap.size = A at hD ⊢
  have hA : ∀ q : Nat, s.heap.size ≤ q → A q := fun q h => by rw [← hAe]; exact Or.inr h
  have hS : va_S A s.heap s.heap [] := va_S.rf
  have hl := lv_entry ([.ref m0, .int x, .int y]) (n := 4) (Nat.le_of_ble_eq_true rfl)
  rw [lg_entry_eq]
  generalize (lg_sl ([.ref m0, .int x, .int y]) ++ List.replicate (4 - (lg_sl ([.ref m0, .int x, .int y])).length) Slot.unset).toArray = ls at hl ⊢
  have hl : lv_has ls 4 [(0, .ref m0), (1, .int x), (2, .int y)] := hl
  refine lv_aload_n hx hb dX7_timeout_0 rfl (lv_at hl 0 rfl) ?_
  refine lv_iload_n hx hb dX7_timeout_1 rfl (lv_at hl 1 rfl) ?_
  refine lv_iload_n hx hb dX7_timeout_2 rfl (lv_at hl 2 rfl) ?_
  refine k_ci (wr := []) (w1 := [(m0, .inr (7, [.ref v, .ref a1, .ref a2, .int ik, .int (nI 1), .int en])), (v, .inl (cJ, 136800, .inr (.inl (mF N))))]) (va_runV (As := [.int x, .int y]) (rest := []) ⟨hx, hb, hml, hown, hts⟩ (c_M_lacks0 l D cI cJ cM cG m0 v a1 a2 ik th en N x y s.heap.size (hN) (hN0) (hb2)) (cwV 2 hts (kB_V (fun _ => List.mem_cons_of_mem _) q_756 q_757 q_758 q_670 (kB_c q_759)) rfl rfl rfl (by decide +kernel) ⟨Nat.le_of_ble_eq_true rfl, Nat.le_of_ble_eq_true rfl⟩) (k_preV (T := TX7) hP hD hK hKN [0, 1] rfl rfl (ci := 7) rfl (q0 := 0) rfl) rfl rfl hl.1 rfl (lv_room (Nat.le_of_ble_eq_true rfl)) dX7_timeout_3 ⟨Nat.le_of_ble_eq_true rfl, Nat.le_of_ble_eq_true rfl⟩) hP hD hS hA [0, 1] [] rfl rfl rfl (by decide) (fun r3 H locs hw3 hP hD hS => ?_)
  replace hP : va_P D vwCl [(m0, .inr (7, [.ref v, .ref a1, .ref a2, .int ik, .int (nI 1), .int en])), (v, .inl (cJ, 136800, .inr (.inl (mF N))))] H := hP
  replace hD : va_D A [(m0, .inr (7, [.ref v, .ref a1, .ref a2, .int ik, .int (nI 1), .int en])), (v, .inl (cJ, 136800, .inr (.inl (mF N))))] := hD
  replace hw3 : r3 = nI 1 := hw3
  refine k_ti hw3 ?_
  refine k_if_eq (tgt := 11) hx hb dX7_timeout_6 (by decide) (by omega) (fun h9 => absurd h9 (by omega)) (fun _ => ?_)
  refine lv_iconst (v := nI 0) hx hb dX7_timeout_9 (by decide) ?_
  have hP9 := hP.sub (ws' := [(m0, .inr (7, [.ref v, .ref a1, .ref a2, .int ik, .int (nI 1), .int en]))]) [0] rfl
  have hD9 := hD.sub (ws' := [(m0, .inr (7, [.ref v, .ref a1, .ref a2, .int ik, .int (nI 1), .int en]))]) [0] rfl rfl
  exact W.iret (v := nI 0) hx hb hr (fun t9 ht9 hW9 => ⟨⟨nI 0, (), rfl, rfl, by rw [ht9]; exact hP9, hD9⟩, hS.F ht9⟩) hS.2.2 dX7_timeout_10

set_option maxHeartbeats 4000000 in
set_option maxRecDepth 100000 in
theorem c_M_buffered1 (l : Launch) (D : va_G) (cI cJ cM cG : ClassId) (m0 : Nat) (v : Nat) (a1 : Nat) (a2 : Nat) (ik : Int32) (th : Int32) (en : Int32) (N : Nat) (a : Nat) (b : Nat) (sz : Nat) (hN : N ≤ 10) (hN0 : 0 < N) (ha : a < N) (hb9 : b < N) : Met l yX7_buffered (Cond.code yX7_buffered cX7_buffered 3 (some .int) :: kBig) ({ frames := 3, cells := 0, slots := 0, locals := 68 }) (va_Pc [.ref m0, .int (nI a), .int (nI b)] (kP D [(cI, .int), (cJ, .long), (cM, .object "MeshRouting$Message"), (cG, .array .int)] [(m0, .inr (7, [.ref v, .ref a1, .ref a2, .int ik, .int th, .int en])), (v, .inl (cJ, 136800, .inr (.inl (mF N))))] sz)) (va_Qi (fun (r : Int32) (_ : Unit) => r = nI 0) (fun _ t9 => kB D (va_A [(m0, .inr (7, [.ref v, .ref a1, .ref a2, .int ik, .int th, .int en])), (v, .inl (cJ, 136800, .inr (.inl (mF N))))] sz) [(m0, .inr (7, [.ref v, .ref a1, .ref a2, .int ik, .int (nI 0), .int en]))] t9) (va_A [(m0, .inr (7, [.ref v, .ref a1, .ref a2, .int ik, .int th, .int en])), (v, .inl (cJ, 136800, .inr (.inl (mF N))))] sz)) 0 0 (va_A [(m0, .inr (7, [.ref v, .ref a1, .ref a2, .int ik, .int th, .int en])), (v, .inl (cJ, 136800, .inr (.inl (mF N))))] sz) := by
  refine Met.ofW (cc := cX7_buffered) (maxL := 3) (ret := (some .int)) (by decide) rfl ?_
  intro p e s m args below meth c s₁ B hml hv
  obtain ⟨rfl, hsz, hP, hK, hD0, hKN⟩ := hv
  have hx := B.exec
  have hb := B.bytes
  have hr := B.returns
  have hts := atoms_spec (ws := (Cond.code yX7_buffered cX7_buffered 3 (some .int) :: kBig)) B.pre
  have hown : s.vm.findClass RX7 = some m.cls := findClass_of_methodNamed B.named
  have hlocks := B.notSynchronized
  have hin7 : ∀ w ∈ u_ws RX7 TX7 6, w ∈ (Cond.code yX7_buffered cX7_buffered 3 (some .int) :: kBig) := fun w h => List.mem_cons_of_mem _ (inb7 w h)
  subst hsz
  have hD := hD0.self (sz := s.heap.size)
  generalize hAe : va_A [(m0, .inr (7, [.ref v, .ref a1, .ref a2, .int ik, .int th, .int en])), (v, .inl (cJ, 136800, .inr (.inl (mF N))))] s.heap.size = A at hD ⊢
  have hA : ∀ q : Nat, s.heap.size ≤ q → A q := fun q h => by rw [← hAe]; exact Or.inr h
  have hS : va_S A s.heap s.heap [] := va_S.rf
  have hl := lv_entry ([.ref m0, .int (nI a), .int (nI b)]) (n := 3) (Nat.le_of_ble_eq_true rfl)
  rw [lg_entry_eq]
  generalize (lg_sl ([.ref m0, .int (nI a), .int (nI b)]) ++ List.replicate (3 - (lg_sl ([.ref m0, .int (nI a), .int (nI b)])).length) Slot.unset).toArray = ls at hl ⊢
  have hl : lv_has ls 3 [(0, .ref m0), (1, .int (nI a)), (2, .int (nI b))] := hl
  refine lv_aload_n hx hb dX7_buffered_0 rfl (lv_at hl 0 rfl) ?_
  refine lv_iload_n hx hb dX7_buffered_1 rfl (lv_at hl 1 rfl) ?_
  refine lv_iload_n hx hb dX7_buffered_2 rfl (lv_at hl 2 rfl) ?_
  refine k_ci (wr := []) (w1 := [(m0, .inr (7, [.ref v, .ref a1, .ref a2, .int ik, .int (nI 0), .int en])), (v, .inl (cJ, 136800, .inr (.inl (mF N))))]) (va_runV (As := [.int (nI a), .int (nI b)]) (rest := []) ⟨hx, hb, hml, hown, hts⟩ (c_M_lacks1 l D cI cJ cM cG m0 v a1 a2 ik th en N a b s.heap.size (hN) (hN0) (ha) (hb9)) (cwV 2 hts (kB_V (fun _ => List.mem_cons_of_mem _) q_756 q_757 q_758 q_670 (kB_c q_759)) rfl rfl rfl (by decide +kernel) ⟨Nat.le_of_ble_eq_true rfl, Nat.le_of_ble_eq_true rfl⟩) (k_preV (T := TX7) hP hD hK hKN [0, 1] rfl rfl (ci := 7) rfl (q0 := 0) rfl) rfl rfl hl.1 rfl (lv_room (Nat.le_of_ble_eq_true rfl)) dX7_buffered_3 ⟨Nat.le_of_ble_eq_true rfl, Nat.le_of_ble_eq_true rfl⟩) hP hD hS hA [0, 1] [] rfl rfl rfl (by decide) (fun r3 H locs hw3 hP hD hS => ?_)
  replace hP : va_P D vwCl [(m0, .inr (7, [.ref v, .ref a1, .ref a2, .int ik, .int (nI 0), .int en])), (v, .inl (cJ, 136800, .inr (.inl (mF N))))] H := hP
  replace hD : va_D A [(m0, .inr (7, [.ref v, .ref a1, .ref a2, .int ik, .int (nI 0), .int en])), (v, .inl (cJ, 136800, .inr (.inl (mF N))))] := hD
  replace hw3 : r3 = nI 0 := hw3
  refine k_ti hw3 ?_
  refine k_if_eq (tgt := 13) hx hb dX7_buffered_6 (by decide) (by omega) (fun _ => ?_) (fun h9 => absurd h9 (by omega))
  refine lv_aload_n hx hb dX7_buffered_13 rfl (lv_at hl 0 rfl) ?_
  refine va_get (D := D) (ci := 7) (v := .ref v) (C := RX7) (T := TX7) (N := 6) hx hb hts hin7 hown hK hP 0 rfl rfl 0 (by decide) (hts (.fieldLink RX7 8 "MeshRoutingModel" "v" "[J") (List.mem_cons_of_mem _ q_665)) (fun _ h9 => h9) rfl dX7_buffered_14 ?_
  refine lv_iload_n hx hb dX7_buffered_17 rfl (lv_at hl 1 rfl) ?_
  refine lv_iload_n hx hb dX7_buffered_18 rfl (lv_at hl 2 rfl) ?_
  refine k_ci (wr := [(m0, .inr (7, [.ref v, .ref a1, .ref a2, .int ik, .int (nI 0), .int en])), (v, .inl (cJ, 136800, .inr (.inl (mF N))))]) (w1 := []) (va_runS (As := [.int (nI a), .int (nI b)]) (rest := [.ref v]) ⟨hx, hb, hml, hown, hts⟩ (c_X7_buffer l D cI cJ cM cG a b H.size) (va_cwS 2 hts (kB_S (fun _ => List.mem_cons_of_mem _) q_741 q_742 q_670 (kB_c q_743)) rfl rfl rfl (by decide +kernel) ⟨Nat.le_of_ble_eq_true rfl, Nat.le_of_ble_eq_true rfl⟩) (k_preS hP hD hK hKN [] rfl rfl) rfl rfl hl.1 rfl (lv_room (Nat.le_of_ble_eq_true rfl)) dX7_buffered_19 ⟨Nat.le_of_ble_eq_true rfl, Nat.le_of_ble_eq_true rfl⟩) hP hD hS hA [] [0, 1] rfl rfl rfl (by decide) (fun r19 H locs hw19 hP hD hS => ?_)
  replace hP : va_P D vwCl [(m0, .inr (7, [.ref v, .ref a1, .ref a2, .int ik, .int (nI 0), .int en])), (v, .inl (cJ, 136800, .inr (.inl (mF N))))] H := hP
  replace hD : va_D A [(m0, .inr (7, [.ref v, .ref a1, .ref a2, .int ik, .int (nI 0), .int en])), (v, .inl (cJ, 136800, .inr (.inl (mF N))))] := hD
  replace hw19 : r19 = nI (1400 + 9 * (10 * a + b)) := hw19
  refine k_ti hw19 ?_
  refine k_lald (v := lN 0) hx hb hK hP 1 1 rfl rfl (by omega) (by omega) ((mF_z (by omega))) dX7_buffered_22 ?_
  refine lv_l2i (v := nI 0) hx hb dX7_buffered_23 (by decide) ?_
  have hP9 := hP.sub (ws' := [(m0, .inr (7, [.ref v, .ref a1, .ref a2, .int ik, .int (nI 0), .int en]))]) [0] rfl
  have hD9 := hD.sub (ws' := [(m0, .inr (7, [.ref v, .ref a1, .ref a2, .int ik, .int (nI 0), .int en]))]) [0] rfl rfl
  exact W.iret (v := nI 0) hx hb hr (fun t9 ht9 hW9 => ⟨⟨nI 0, (), rfl, rfl, by rw [ht9]; exact hP9, hD9⟩, hS.F ht9⟩) hS.2.2 dX7_buffered_24

set_option maxHeartbeats 4000000 in
set_option maxRecDepth 100000 in
theorem c_M_buffered0 (l : Launch) (D : va_G) (cI cJ cM cG : ClassId) (m0 : Nat) (v : Nat) (a1 : Nat) (a2 : Nat) (ik : Int32) (th : Int32) (en : Int32) (N : Nat) (x : Int32) (y : Int32) (sz : Nat) (hN : N ≤ 10) (hN0 : 0 < N) (hb2 : kBad2 N x y) : Met l yX7_buffered (Cond.code yX7_buffered cX7_buffered 3 (some .int) :: kBig) ({ frames := 3, cells := 0, slots := 0, locals := 68 }) (va_Pc [.ref m0, .int x, .int y] (kP D [(cI, .int), (cJ, .long), (cM, .object "MeshRouting$Message"), (cG, .array .int)] [(m0, .inr (7, [.ref v, .ref a1, .ref a2, .int ik, .int th, .int en])), (v, .inl (cJ, 136800, .inr (.inl (mF N))))] sz)) (va_Qi (fun (r : Int32) (_ : Unit) => r = nI 0) (fun _ t9 => kB D (va_A [(m0, .inr (7, [.ref v, .ref a1, .ref a2, .int ik, .int th, .int en])), (v, .inl (cJ, 136800, .inr (.inl (mF N))))] sz) [(m0, .inr (7, [.ref v, .ref a1, .ref a2, .int ik, .int (nI 1), .int en]))] t9) (va_A [(m0, .inr (7, [.ref v, .ref a1, .ref a2, .int ik, .int th, .int en])), (v, .inl (cJ, 136800, .inr (.inl (mF N))))] sz)) 0 0 (va_A [(m0, .inr (7, [.ref v, .ref a1, .ref a2, .int ik, .int th, .int en])), (v, .inl (cJ, 136800, .inr (.inl (mF N))))] sz) := by
  refine Met.ofW (cc := cX7_buffered) (maxL := 3) (ret := (some .int)) (by decide) rfl ?_
  intro p e s m args below meth c s₁ B hml hv
  obtain ⟨rfl, hsz, hP, hK, hD0, hKN⟩ := hv
  have hx := B.exec
  have hb := B.bytes
  have hr := B.returns
  have hts := atoms_spec (ws := (Cond.code yX7_buffered cX7_buffered 3 (some .int) :: kBig)) B.pre
  have hown : s.vm.findClass RX7 = some m.cls := findClass_of_methodNamed B.named
  have hlocks := B.notSynchronized
  subst hsz
  have hD := hD0.self (sz := s.heap.size)
  generalize hAe : va_A [(m0, .inr (7, [.ref v, .ref a1, .ref a2, .int ik, .int th, .int en])), (v, .inl (cJ, 136800, .inr (.inl (mF N))))] s.heap.size = A at hD ⊢
  have hA : ∀ q : Nat, s.heap.size ≤ q → A q := fun q h => by rw [← hAe]; exact Or.inr h
  have hS : va_S A s.heap s.heap [] := va_S.rf
  have hl := lv_entry ([.ref m0, .int x, .int y]) (n := 3) (Nat.le_of_ble_eq_true rfl)
  rw [lg_entry_eq]
  generalize (lg_sl ([.ref m0, .int x, .int y]) ++ List.replicate (3 - (lg_sl ([.ref m0, .int x, .int y])).length) Slot.unset).toArray = ls at hl ⊢
  have hl : lv_has ls 3 [(0, .ref m0), (1, .int x), (2, .int y)] := hl
  refine lv_aload_n hx hb dX7_buffered_0 rfl (lv_at hl 0 rfl) ?_
  refine lv_iload_n hx hb dX7_buffered_1 rfl (lv_at hl 1 rfl) ?_
  refine lv_iload_n hx hb dX7_buffered_2 rfl (lv_at hl 2 rfl) ?_
  refine k_ci (wr := []) (w1 := [(m0, .inr (7, [.ref v, .ref a1, .ref a2, .int ik, .int (nI 1), .int en])), (v, .inl (cJ, 136800, .inr (.inl (mF N))))]) (va_runV (As := [.int x, .int y]) (rest := []) ⟨hx, hb, hml, hown, hts⟩ (c_M_lacks0 l D cI cJ cM cG m0 v a1 a2 ik th en N x y s.heap.size (hN) (hN0) (hb2)) (cwV 2 hts (kB_V (fun _ => List.mem_cons_of_mem _) q_756 q_757 q_758 q_670 (kB_c q_759)) rfl rfl rfl (by decide +kernel) ⟨Nat.le_of_ble_eq_true rfl, Nat.le_of_ble_eq_true rfl⟩) (k_preV (T := TX7) hP hD hK hKN [0, 1] rfl rfl (ci := 7) rfl (q0 := 0) rfl) rfl rfl hl.1 rfl (lv_room (Nat.le_of_ble_eq_true rfl)) dX7_buffered_3 ⟨Nat.le_of_ble_eq_true rfl, Nat.le_of_ble_eq_true rfl⟩) hP hD hS hA [0, 1] [] rfl rfl rfl (by decide) (fun r3 H locs hw3 hP hD hS => ?_)
  replace hP : va_P D vwCl [(m0, .inr (7, [.ref v, .ref a1, .ref a2, .int ik, .int (nI 1), .int en])), (v, .inl (cJ, 136800, .inr (.inl (mF N))))] H := hP
  replace hD : va_D A [(m0, .inr (7, [.ref v, .ref a1, .ref a2, .int ik, .int (nI 1), .int en])), (v, .inl (cJ, 136800, .inr (.inl (mF N))))] := hD
  replace hw3 : r3 = nI 1 := hw3
  refine k_ti hw3 ?_
  refine k_if_eq (tgt := 13) hx hb dX7_buffered_6 (by decide) (by omega) (fun h9 => absurd h9 (by omega)) (fun _ => ?_)
  refine lv_iconst (v := nI 0) hx hb dX7_buffered_9 (by decide) ?_
  refine lv_goto (tgt := 24) hx hb dX7_buffered_10 (by decide) ?_
  have hP9 := hP.sub (ws' := [(m0, .inr (7, [.ref v, .ref a1, .ref a2, .int ik, .int (nI 1), .int en]))]) [0] rfl
  have hD9 := hD.sub (ws' := [(m0, .inr (7, [.ref v, .ref a1, .ref a2, .int ik, .int (nI 1), .int en]))]) [0] rfl rfl
  exact W.iret (v := nI 0) hx hb hr (fun t9 ht9 hW9 => ⟨⟨nI 0, (), rfl, rfl, by rw [ht9]; exact hP9, hD9⟩, hS.F ht9⟩) hS.2.2 dX7_buffered_24

set_option maxHeartbeats 4000000 in
set_option maxRecDepth 100000 in
theorem c_M_sequence1 (l : Launch) (D : va_G) (cI cJ cM cG : ClassId) (m0 : Nat) (v : Nat) (a1 : Nat) (a2 : Nat) (ik : Int32) (th : Int32) (en : Int32) (N : Nat) (a : Nat) (b : Nat) (sz : Nat) (hN : N ≤ 10) (hN0 : 0 < N) (ha : a < N) (hb9 : b < N) : Met l yX7_sequence (Cond.code yX7_sequence cX7_sequence 3 (some .int) :: kBig) ({ frames := 4, cells := 0, slots := 0, locals := 92 }) (va_Pc [.ref m0, .int (nI a), .int (nI b)] (kP D [(cI, .int), (cJ, .long), (cM, .object "MeshRouting$Message"), (cG, .array .int)] [(m0, .inr (7, [.ref v, .ref a1, .ref a2, .int ik, .int th, .int en])), (v, .inl (cJ, 136800, .inr (.inl (mF N))))] sz)) (va_Qi (fun (r : Int32) (_ : Unit) => r = if a = b then nI 0 else -2) (fun _ t9 => kB D (va_A [(m0, .inr (7, [.ref v, .ref a1, .ref a2, .int ik, .int th, .int en])), (v, .inl (cJ, 136800, .inr (.inl (mF N))))] sz) [(m0, .inr (7, [.ref v, .ref a1, .ref a2, .int ik, .int (nI 0), .int en]))] t9) (va_A [(m0, .inr (7, [.ref v, .ref a1, .ref a2, .int ik, .int th, .int en])), (v, .inl (cJ, 136800, .inr (.inl (mF N))))] sz)) 0 0 (va_A [(m0, .inr (7, [.ref v, .ref a1, .ref a2, .int ik, .int th, .int en])), (v, .inl (cJ, 136800, .inr (.inl (mF N))))] sz) := by
  refine Met.ofW (cc := cX7_sequence) (maxL := 3) (ret := (some .int)) (by decide) rfl ?_
  intro p e s m args below meth c s₁ B hml hv
  obtain ⟨rfl, hsz, hP, hK, hD0, hKN⟩ := hv
  have hx := B.exec
  have hb := B.bytes
  have hr := B.returns
  have hts := atoms_spec (ws := (Cond.code yX7_sequence cX7_sequence 3 (some .int) :: kBig)) B.pre
  have hown : s.vm.findClass RX7 = some m.cls := findClass_of_methodNamed B.named
  have hlocks := B.notSynchronized
  have hin7 : ∀ w ∈ u_ws RX7 TX7 6, w ∈ (Cond.code yX7_sequence cX7_sequence 3 (some .int) :: kBig) := fun w h => List.mem_cons_of_mem _ (inb7 w h)
  subst hsz
  have hD := hD0.self (sz := s.heap.size)
  generalize hAe : va_A [(m0, .inr (7, [.ref v, .ref a1, .ref a2, .int ik, .int th, .int en])), (v, .inl (cJ, 136800, .inr (.inl (mF N))))] s.heap.size = A at hD ⊢
  have hA : ∀ q : Nat, s.heap.size ≤ q → A q := fun q h => by rw [← hAe]; exact Or.inr h
  have hS : va_S A s.heap s.heap [] := va_S.rf
  have hl := lv_entry ([.ref m0, .int (nI a), .int (nI b)]) (n := 3) (Nat.le_of_ble_eq_true rfl)
  rw [lg_entry_eq]
  generalize (lg_sl ([.ref m0, .int (nI a), .int (nI b)]) ++ List.replicate (3 - (lg_sl ([.ref m0, .int (nI a), .int (nI b)])).length) Slot.unset).toArray = ls at hl ⊢
  have hl : lv_has ls 3 [(0, .ref m0), (1, .int (nI a)), (2, .int (nI b))] := hl
  refine lv_aload_n hx hb dX7_sequence_0 rfl (lv_at hl 0 rfl) ?_
  refine lv_iload_n hx hb dX7_sequence_1 rfl (lv_at hl 1 rfl) ?_
  refine lv_iload_n hx hb dX7_sequence_2 rfl (lv_at hl 2 rfl) ?_
  refine k_ci (wr := []) (w1 := [(m0, .inr (7, [.ref v, .ref a1, .ref a2, .int ik, .int (nI 0), .int en])), (v, .inl (cJ, 136800, .inr (.inl (mF N))))]) (va_runV (As := [.int (nI a), .int (nI b)]) (rest := []) ⟨hx, hb, hml, hown, hts⟩ (c_M_lacks1 l D cI cJ cM cG m0 v a1 a2 ik th en N a b s.heap.size (hN) (hN0) (ha) (hb9)) (cwV 2 hts (kB_V (fun _ => List.mem_cons_of_mem _) q_756 q_757 q_758 q_670 (kB_c q_759)) rfl rfl rfl (by decide +kernel) ⟨Nat.le_of_ble_eq_true rfl, Nat.le_of_ble_eq_true rfl⟩) (k_preV (T := TX7) hP hD hK hKN [0, 1] rfl rfl (ci := 7) rfl (q0 := 0) rfl) rfl rfl hl.1 rfl (lv_room (Nat.le_of_ble_eq_true rfl)) dX7_sequence_3 ⟨Nat.le_of_ble_eq_true rfl, Nat.le_of_ble_eq_true rfl⟩) hP hD hS hA [0, 1] [] rfl rfl rfl (by decide) (fun r3 H locs hw3 hP hD hS => ?_)
  replace hP : va_P D vwCl [(m0, .inr (7, [.ref v, .ref a1, .ref a2, .int ik, .int (nI 0), .int en])), (v, .inl (cJ, 136800, .inr (.inl (mF N))))] H := hP
  replace hD : va_D A [(m0, .inr (7, [.ref v, .ref a1, .ref a2, .int ik, .int (nI 0), .int en])), (v, .inl (cJ, 136800, .inr (.inl (mF N))))] := hD
  replace hw3 : r3 = nI 0 := hw3
  refine k_ti hw3 ?_
  refine k_if_eq (tgt := 11) hx hb dX7_sequence_6 (by decide) (by omega) (fun _ => ?_) (fun h9 => absurd h9 (by omega))
  refine lv_iload_n hx hb dX7_sequence_11 rfl (lv_at hl 1 rfl) ?_
  refine lv_iload_n hx hb dX7_sequence_12 rfl (lv_at hl 2 rfl) ?_
  refine k_icmp_ne (tgt := 29) hx hb dX7_sequence_13 (by decide) (by omega) (by omega) (fun hne => ?_) (fun heq => ?_)
  · refine lv_aload_n hx hb dX7_sequence_29 rfl (lv_at hl 0 rfl) ?_
    refine lv_iload_n hx hb dX7_sequence_30 rfl (lv_at hl 1 rfl) ?_
    refine lv_iload_n hx hb dX7_sequence_31 rfl (lv_at hl 2 rfl) ?_
    refine lv_iconst (v := nI 1) hx hb dX7_sequence_32 (by decide) ?_
    refine lv_bipush (v := (-2)) hx hb dX7_sequence_33 (by decide) ?_
    refine k_ci (wr := []) (w1 := [(m0, .inr (7, [.ref v, .ref a1, .ref a2, .int ik, .int (nI 0), .int en]))]) (va_runV (As := [.int (nI a), .int (nI b), .int (nI 1), .int (-2)]) (rest := []) ⟨hx, hb, hml, hown, hts⟩ (c_M_told1 l D cI cJ cM cG m0 v a1 a2 ik (nI 0) en N a b 1 (-2) H.size (hN) (hN0) (ha) (hb9)) (cwV 4 hts (kB_V (fun _ => List.mem_cons_of_mem _) q_879 q_880 q_881 q_670 (kB_c q_882)) rfl rfl rfl (by decide +kernel) ⟨Nat.le_of_ble_eq_true rfl, Nat.le_of_ble_eq_true rfl⟩) (k_preV (T := TX7) hP hD hK hKN [0, 1] rfl rfl (ci := 7) rfl (q0 := 0) rfl) rfl rfl hl.1 rfl (lv_room (Nat.le_of_ble_eq_true rfl)) dX7_sequence_35 ⟨Nat.le_of_ble_eq_true rfl, Nat.le_of_ble_eq_true rfl⟩) hP hD hS hA [0, 1] [] rfl rfl rfl (by decide) (fun r35 H locs hw35 hP hD hS => ?_)
    replace hP : va_P D vwCl [(m0, .inr (7, [.ref v, .ref a1, .ref a2, .int ik, .int (nI 0), .int en]))] H := hP
    replace hD : va_D A [(m0, .inr (7, [.ref v, .ref a1, .ref a2, .int ik, .int (nI 0), .int en]))] := hD
    replace hw35 : r35 = (-2) := hw35
    refine k_ti hw35 ?_
    have hP9 := hP.sub (ws' := [(m0, .inr (7, [.ref v, .ref a1, .ref a2, .int ik, .int (nI 0), .int en]))]) [0] rfl
    have hD9 := hD.sub (ws' := [(m0, .inr (7, [.ref v, .ref a1, .ref a2, .int ik, .int (nI 0), .int en]))]) [0] rfl rfl
    exact W.iret (v := (-2)) hx hb hr (fun t9 ht9 hW9 => ⟨⟨(-2), (), rfl, (if_neg hne).symm, by rw [ht9]; exact hP9, hD9⟩, hS.F ht9⟩) hS.2.2 dX7_sequence_38
  · refine lv_aload_n hx hb dX7_sequence_16 rfl (lv_at hl 0 rfl) ?_
    refine va_get (D := D) (ci := 7) (v := .ref v) (C := RX7) (T := TX7) (N := 6) hx hb hts hin7 hown hK hP 0 rfl rfl 0 (by decide) (hts (.fieldLink RX7 8 "MeshRoutingModel" "v" "[J") (List.mem_cons_of_mem _ q_665)) (fun _ h9 => h9) rfl dX7_sequence_17 ?_
    refine lv_bipush (v := nI 50) hx hb dX7_sequence_20 (by decide) ?_
    refine lv_iload_n hx hb dX7_sequence_22 rfl (lv_at hl 1 rfl) ?_
    refine lv_iadd hx hb dX7_sequence_23 ?_
    refine k_ti (show ((nI 50) + (nI a)) = (nI (50 + a)) from nI_add _ _) ?_
    refine k_lald (v := lN 0) hx hb hK hP 1 1 rfl rfl (by omega) (by omega) ((mF_z (by omega))) dX7_sequence_24 ?_
    refine lv_l2i (v := nI 0) hx hb dX7_sequence_25 (by decide) ?_
    refine lv_goto (tgt := 38) hx hb dX7_sequence_26 (by decide) ?_
    have hP9 := hP.sub (ws' := [(m0, .inr (7, [.ref v, .ref a1, .ref a2, .int ik, .int (nI 0), .int en]))]) [0] rfl
    have hD9 := hD.sub (ws' := [(m0, .inr (7, [.ref v, .ref a1, .ref a2, .int ik, .int (nI 0), .int en]))]) [0] rfl rfl
    exact W.iret (v := nI 0) hx hb hr (fun t9 ht9 hW9 => ⟨⟨nI 0, (), rfl, (if_pos heq).symm, by rw [ht9]; exact hP9, hD9⟩, hS.F ht9⟩) hS.2.2 dX7_sequence_38

set_option maxHeartbeats 4000000 in
set_option maxRecDepth 100000 in
theorem c_M_sequence0 (l : Launch) (D : va_G) (cI cJ cM cG : ClassId) (m0 : Nat) (v : Nat) (a1 : Nat) (a2 : Nat) (ik : Int32) (th : Int32) (en : Int32) (N : Nat) (x : Int32) (y : Int32) (sz : Nat) (hN : N ≤ 10) (hN0 : 0 < N) (hb2 : kBad2 N x y) : Met l yX7_sequence (Cond.code yX7_sequence cX7_sequence 3 (some .int) :: kBig) ({ frames := 3, cells := 0, slots := 0, locals := 68 }) (va_Pc [.ref m0, .int x, .int y] (kP D [(cI, .int), (cJ, .long), (cM, .object "MeshRouting$Message"), (cG, .array .int)] [(m0, .inr (7, [.ref v, .ref a1, .ref a2, .int ik, .int th, .int en])), (v, .inl (cJ, 136800, .inr (.inl (mF N))))] sz)) (va_Qi (fun (r : Int32) (_ : Unit) => r = nI 0) (fun _ t9 => kB D (va_A [(m0, .inr (7, [.ref v, .ref a1, .ref a2, .int ik, .int th, .int en])), (v, .inl (cJ, 136800, .inr (.inl (mF N))))] sz) [(m0, .inr (7, [.ref v, .ref a1, .ref a2, .int ik, .int (nI 1), .int en]))] t9) (va_A [(m0, .inr (7, [.ref v, .ref a1, .ref a2, .int ik, .int th, .int en])), (v, .inl (cJ, 136800, .inr (.inl (mF N))))] sz)) 0 0 (va_A [(m0, .inr (7, [.ref v, .ref a1, .ref a2, .int ik, .int th, .int en])), (v, .inl (cJ, 136800, .inr (.inl (mF N))))] sz) := by
  refine Met.ofW (cc := cX7_sequence) (maxL := 3) (ret := (some .int)) (by decide) rfl ?_
  intro p e s m args below meth c s₁ B hml hv
  obtain ⟨rfl, hsz, hP, hK, hD0, hKN⟩ := hv
  have hx := B.exec
  have hb := B.bytes
  have hr := B.returns
  have hts := atoms_spec (ws := (Cond.code yX7_sequence cX7_sequence 3 (some .int) :: kBig)) B.pre
  have hown : s.vm.findClass RX7 = some m.cls := findClass_of_methodNamed B.named
  have hlocks := B.notSynchronized
  subst hsz
  have hD := hD0.self (sz := s.heap.size)
  generalize hAe : va_A [(m0, .inr (7, [.ref v, .ref a1, .ref a2, .int ik, .int th, .int en])), (v, .inl (cJ, 136800, .inr (.inl (mF N))))] s.heap.size = A at hD ⊢
  have hA : ∀ q : Nat, s.heap.size ≤ q → A q := fun q h => by rw [← hAe]; exact Or.inr h
  have hS : va_S A s.heap s.heap [] := va_S.rf
  have hl := lv_entry ([.ref m0, .int x, .int y]) (n := 3) (Nat.le_of_ble_eq_true rfl)
  rw [lg_entry_eq]
  generalize (lg_sl ([.ref m0, .int x, .int y]) ++ List.replicate (3 - (lg_sl ([.ref m0, .int x, .int y])).length) Slot.unset).toArray = ls at hl ⊢
  have hl : lv_has ls 3 [(0, .ref m0), (1, .int x), (2, .int y)] := hl
  refine lv_aload_n hx hb dX7_sequence_0 rfl (lv_at hl 0 rfl) ?_
  refine lv_iload_n hx hb dX7_sequence_1 rfl (lv_at hl 1 rfl) ?_
  refine lv_iload_n hx hb dX7_sequence_2 rfl (lv_at hl 2 rfl) ?_
  refine k_ci (wr := []) (w1 := [(m0, .inr (7, [.ref v, .ref a1, .ref a2, .int ik, .int (nI 1), .int en])), (v, .inl (cJ, 136800, .inr (.inl (mF N))))]) (va_runV (As := [.int x, .int y]) (rest := []) ⟨hx, hb, hml, hown, hts⟩ (c_M_lacks0 l D cI cJ cM cG m0 v a1 a2 ik th en N x y s.heap.size (hN) (hN0) (hb2)) (cwV 2 hts (kB_V (fun _ => List.mem_cons_of_mem _) q_756 q_757 q_758 q_670 (kB_c q_759)) rfl rfl rfl (by decide +kernel) ⟨Nat.le_of_ble_eq_true rfl, Nat.le_of_ble_eq_true rfl⟩) (k_preV (T := TX7) hP hD hK hKN [0, 1] rfl rfl (ci := 7) rfl (q0 := 0) rfl) rfl rfl hl.1 rfl (lv_room (Nat.le_of_ble_eq_true rfl)) dX7_sequence_3 ⟨Nat.le_of_ble_eq_true rfl, Nat.le_of_ble_eq_true rfl⟩) hP hD hS hA [0, 1] [] rfl rfl rfl (by decide) (fun r3 H locs hw3 hP hD hS => ?_)
  replace hP : va_P D vwCl [(m0, .inr (7, [.ref v, .ref a1, .ref a2, .int ik, .int (nI 1), .int en])), (v, .inl (cJ, 136800, .inr (.inl (mF N))))] H := hP
  replace hD : va_D A [(m0, .inr (7, [.ref v, .ref a1, .ref a2, .int ik, .int (nI 1), .int en])), (v, .inl (cJ, 136800, .inr (.inl (mF N))))] := hD
  replace hw3 : r3 = nI 1 := hw3
  refine k_ti hw3 ?_
  refine k_if_eq (tgt := 11) hx hb dX7_sequence_6 (by decide) (by omega) (fun h9 => absurd h9 (by omega)) (fun _ => ?_)
  refine lv_iconst (v := nI 0) hx hb dX7_sequence_9 (by decide) ?_
  have hP9 := hP.sub (ws' := [(m0, .inr (7, [.ref v, .ref a1, .ref a2, .int ik, .int (nI 1), .int en]))]) [0] rfl
  have hD9 := hD.sub (ws' := [(m0, .inr (7, [.ref v, .ref a1, .ref a2, .int ik, .int (nI 1), .int en]))]) [0] rfl rfl
  exact W.iret (v := nI 0) hx hb hr (fun t9 ht9 hW9 => ⟨⟨nI 0, (), rfl, rfl, by rw [ht9]; exact hP9, hD9⟩, hS.F ht9⟩) hS.2.2 dX7_sequence_10

set_option maxHeartbeats 4000000 in
set_option maxRecDepth 100000 in
theorem c_M_follows (l : Launch) (D : va_G) (cI cJ cM cG : ClassId) (m0 : Nat) (v : Nat) (a1 : Nat) (a2 : Nat) (ik : Int32) (th : Int32) (en : Int32) (N : Nat) (a : Nat) (b : Nat) (sz : Nat) (hN : N ≤ 10) (hN0 : 0 < N) (ha : a < N) (hb9 : b < N) : Met l yX7_follows (Cond.code yX7_follows cX7_follows 6 (some .int) :: kBig) ({ frames := 2, cells := 0, slots := 0, locals := 44 }) (va_Pc [.ref m0, .int (nI a), .int (nI b)] (kP D [(cI, .int), (cJ, .long), (cM, .object "MeshRouting$Message"), (cG, .array .int)] [(m0, .inr (7, [.ref v, .ref a1, .ref a2, .int ik, .int th, .int en])), (v, .inl (cJ, 136800, .inr (.inl (mF N))))] sz)) (va_Qi (fun (r : Int32) (_ : Unit) => r = if a = b then nI 0 else -1) (fun _ t9 => kB D (va_A [(m0, .inr (7, [.ref v, .ref a1, .ref a2, .int ik, .int th, .int en])), (v, .inl (cJ, 136800, .inr (.inl (mF N))))] sz) [(m0, .inr (7, [.ref v, .ref a1, .ref a2, .int ik, .int th, .int en])), (v, .inl (cJ, 136800, .inr (.inl (mF N))))] t9) (va_A [(m0, .inr (7, [.ref v, .ref a1, .ref a2, .int ik, .int th, .int en])), (v, .inl (cJ, 136800, .inr (.inl (mF N))))] sz)) 0 0 (va_A [(m0, .inr (7, [.ref v, .ref a1, .ref a2, .int ik, .int th, .int en])), (v, .inl (cJ, 136800, .inr (.inl (mF N))))] sz) := by
  refine Met.ofW (cc := cX7_follows) (maxL := 6) (ret := (some .int)) (by decide) rfl ?_
  intro p e s m args below meth c s₁ B hml hv
  obtain ⟨rfl, hsz, hP, hK, hD0, hKN⟩ := hv
  have hx := B.exec
  have hb := B.bytes
  have hr := B.returns
  have hts := atoms_spec (ws := (Cond.code yX7_follows cX7_follows 6 (some .int) :: kBig)) B.pre
  have hown : s.vm.findClass RX7 = some m.cls := findClass_of_methodNamed B.named
  have hlocks := B.notSynchronized
  subst hsz
  have hD := hD0.self (sz := s.heap.size)
  generalize hAe : va_A [(m0, .inr (7, [.ref v, .ref a1, .ref a2, .int ik, .int th, .int en])), (v, .inl (cJ, 136800, .inr (.inl (mF N))))] s.heap.size = A at hD ⊢
  have hA : ∀ q : Nat, s.heap.size ≤ q → A q := fun q h => by rw [← hAe]; exact Or.inr h
  have hS : va_S A s.heap s.heap [] := va_S.rf
  have hl := lv_entry ([.ref m0, .int (nI a), .int (nI b)]) (n := 6) (Nat.le_of_ble_eq_true rfl)
  rw [lg_entry_eq]
  generalize (lg_sl ([.ref m0, .int (nI a), .int (nI b)]) ++ List.replicate (6 - (lg_sl ([.ref m0, .int (nI a), .int (nI b)])).length) Slot.unset).toArray = ls at hl ⊢
  have hl : lv_has ls 6 [(0, .ref m0), (1, .int (nI a)), (2, .int (nI b))] := hl
  refine lv_iload_n hx hb dX7_follows_0 rfl (lv_at hl 1 rfl) ?_
  refine lv_istore_n (lv' := [(3, .int (nI a)), (0, .ref m0), (1, .int (nI a)), (2, .int (nI b))]) hx hb dX7_follows_1 rfl hl (by decide) rfl (fun ls hl => ?_)
  refine lv_iconst (v := nI 0) hx hb dX7_follows_2 (by decide) ?_
  refine lv_istore (lv' := [(4, .int (nI 0)), (3, .int (nI a)), (0, .ref m0), (1, .int (nI a)), (2, .int (nI b))]) hx hb dX7_follows_3 hl (by decide) rfl (fun ls hl => ?_)
  refine lv_iconst (v := nI 0) hx hb dX7_follows_5 (by decide) ?_
  refine lv_istore (lv' := [(5, .int (nI 0)), (4, .int (nI 0)), (3, .int (nI a)), (0, .ref m0), (1, .int (nI a)), (2, .int (nI b))]) hx hb dX7_follows_6 hl (by decide) rfl (fun ls hl => ?_)
  refine lv_iload hx hb dX7_follows_8 (lv_at hl 0 rfl) ?_
  refine lv_bipush (v := nI 10) hx hb dX7_follows_10 (by decide) ?_
  refine k_icmp_gt (tgt := 75) hx hb dX7_follows_12 (by decide) (by omega) (by omega) (fun h9 => absurd h9 (by omega)) (fun _ => ?_)
  refine lv_iload_n hx hb dX7_follows_15 rfl (lv_at hl 2 rfl) ?_
  refine lv_iload_n hx hb dX7_follows_16 rfl (lv_at hl 5 rfl) ?_
  refine k_icmp_ne (tgt := 23) hx hb dX7_follows_17 (by decide) (by omega) (by omega) (fun hne => ?_) (fun heq => ?_)
  · refine lv_iload hx hb dX7_follows_23 (lv_at hl 1 rfl) ?_
    refine lv_iload_n hx hb dX7_follows_25 rfl (lv_at hl 2 rfl) ?_
    refine lv_ishr hx hb dX7_follows_26 ?_
    refine k_ti (show ((nI 0) >>> ((nI a) &&& 31)) = (nI 0) from k_sh0 _ (by omega)) ?_
    refine lv_iconst (v := nI 1) hx hb dX7_follows_27 (by decide) ?_
    refine lv_iand hx hb dX7_follows_28 ?_
    refine k_ti (show ((nI 0) &&& (nI 1)) = (nI 0) from by decide) ?_
    refine lv_iconst (v := nI 1) hx hb dX7_follows_29 (by decide) ?_
    refine k_icmp_ne (tgt := 36) hx hb dX7_follows_30 (by decide) (by omega) (by omega) (fun _ => ?_) (fun h9 => absurd h9 (by omega))
    refine lv_aload_n hx hb dX7_follows_36 rfl (lv_at hl 3 rfl) ?_
    refine lv_iload_n hx hb dX7_follows_37 rfl (lv_at hl 2 rfl) ?_
    refine lv_iload_n hx hb dX7_follows_38 rfl (lv_at hl 5 rfl) ?_
    refine k_ci (wr := []) (w1 := [(m0, .inr (7, [.ref v, .ref a1, .ref a2, .int ik, .int th, .int en])), (v, .inl (cJ, 136800, .inr (.inl (mF N))))]) (va_runV (As := [.int (nI a), .int (nI b)]) (rest := []) ⟨hx, hb, hml, hown, hts⟩ (c_X7_isGood l D cI cJ cM cG m0 v a1 a2 ik th en (mF N) a b s.heap.size (by omega) (by omega) (fun j _ _ => mF_z (by omega))) (cwV 2 hts (kB_V (fun _ => List.mem_cons_of_mem _) q_724 q_725 q_726 q_670 (kB_c q_727)) rfl rfl rfl (by decide +kernel) ⟨Nat.le_of_ble_eq_true rfl, Nat.le_of_ble_eq_true rfl⟩) (k_preV (T := TX7) hP hD hK hKN [0, 1] rfl rfl (ci := 7) rfl (q0 := 0) rfl) rfl rfl hl.1 rfl (lv_room (Nat.le_of_ble_eq_true rfl)) dX7_follows_39 ⟨Nat.le_of_ble_eq_true rfl, Nat.le_of_ble_eq_true rfl⟩) hP hD hS hA [0, 1] [] rfl rfl rfl (by decide) (fun r39 H locs hw39 hP hD hS => ?_)
    replace hP : va_P D vwCl [(m0, .inr (7, [.ref v, .ref a1, .ref a2, .int ik, .int th, .int en])), (v, .inl (cJ, 136800, .inr (.inl (mF N))))] H := hP
    replace hD : va_D A [(m0, .inr (7, [.ref v, .ref a1, .ref a2, .int ik, .int th, .int en])), (v, .inl (cJ, 136800, .inr (.inl (mF N))))] := hD
    replace hw39 : r39 = nI 0 := hw39
    refine k_ti hw39 ?_
    refine k_if_ne (tgt := 47) hx hb dX7_follows_42 (by decide) (by omega) (fun h9 => absurd h9 (by omega)) (fun _ => ?_)
    refine lv_iconst (v := (-1)) hx hb dX7_follows_45 (by decide) ?_
    have hP9 := hP.sub (ws' := [(m0, .inr (7, [.ref v, .ref a1, .ref a2, .int ik, .int th, .int en])), (v, .inl (cJ, 136800, .inr (.inl (mF N))))]) [0, 1] rfl
    have hD9 := hD.sub (ws' := [(m0, .inr (7, [.ref v, .ref a1, .ref a2, .int ik, .int th, .int en])), (v, .inl (cJ, 136800, .inr (.inl (mF N))))]) [0, 1] rfl rfl
    exact W.iret (v := (-1)) hx hb hr (fun t9 ht9 hW9 => ⟨⟨(-1), (), rfl, (if_neg hne).symm, by rw [ht9]; exact hP9, hD9⟩, hS.F ht9⟩) hS.2.2 dX7_follows_46
  · refine lv_iload hx hb dX7_follows_20 (lv_at hl 0 rfl) ?_
    have hP9 := hP.sub (ws' := [(m0, .inr (7, [.ref v, .ref a1, .ref a2, .int ik, .int th, .int en])), (v, .inl (cJ, 136800, .inr (.inl (mF N))))]) [0, 1] rfl
    have hD9 := hD.sub (ws' := [(m0, .inr (7, [.ref v, .ref a1, .ref a2, .int ik, .int th, .int en])), (v, .inl (cJ, 136800, .inr (.inl (mF N))))]) [0, 1] rfl rfl
    exact W.iret (v := nI 0) hx hb hr (fun t9 ht9 hW9 => ⟨⟨nI 0, (), rfl, (if_pos heq).symm, by rw [ht9]; exact hP9, hD9⟩, hS.F ht9⟩) hS.2.2 dX7_follows_22

set_option maxHeartbeats 4000000 in
set_option maxRecDepth 100000 in
theorem c_M_follow1 (l : Launch) (D : va_G) (cI cJ cM cG : ClassId) (m0 : Nat) (v : Nat) (a1 : Nat) (a2 : Nat) (ik : Int32) (th : Int32) (en : Int32) (N : Nat) (a : Nat) (b : Nat) (sz : Nat) (hN : N ≤ 10) (hN0 : 0 < N) (ha : a < N) (hb9 : b < N) : Met l yX7_follow (Cond.code yX7_follow cX7_follow 3 (some .int) :: kBig) ({ frames := 3, cells := 0, slots := 0, locals := 69 }) (va_Pc [.ref m0, .int (nI a), .int (nI b)] (kP D [(cI, .int), (cJ, .long), (cM, .object "MeshRouting$Message"), (cG, .array .int)] [(m0, .inr (7, [.ref v, .ref a1, .ref a2, .int ik, .int th, .int en])), (v, .inl (cJ, 136800, .inr (.inl (mF N))))] sz)) (va_Qi (fun (r : Int32) (_ : Unit) => r = if a = b then nI 0 else -1) (fun _ t9 => kB D (va_A [(m0, .inr (7, [.ref v, .ref a1, .ref a2, .int ik, .int th, .int en])), (v, .inl (cJ, 136800, .inr (.inl (mF N))))] sz) [(m0, .inr (7, [.ref v, .ref a1, .ref a2, .int ik, .int (nI 0), .int en]))] t9) (va_A [(m0, .inr (7, [.ref v, .ref a1, .ref a2, .int ik, .int th, .int en])), (v, .inl (cJ, 136800, .inr (.inl (mF N))))] sz)) 0 0 (va_A [(m0, .inr (7, [.ref v, .ref a1, .ref a2, .int ik, .int th, .int en])), (v, .inl (cJ, 136800, .inr (.inl (mF N))))] sz) := by
  refine Met.ofW (cc := cX7_follow) (maxL := 3) (ret := (some .int)) (by decide) rfl ?_
  intro p e s m args below meth c s₁ B hml hv
  obtain ⟨rfl, hsz, hP, hK, hD0, hKN⟩ := hv
  have hx := B.exec
  have hb := B.bytes
  have hr := B.returns
  have hts := atoms_spec (ws := (Cond.code yX7_follow cX7_follow 3 (some .int) :: kBig)) B.pre
  have hown : s.vm.findClass RX7 = some m.cls := findClass_of_methodNamed B.named
  have hlocks := B.notSynchronized
  subst hsz
  have hD := hD0.self (sz := s.heap.size)
  generalize hAe : va_A [(m0, .inr (7, [.ref v, .ref a1, .ref a2, .int ik, .int th, .int en])), (v, .inl (cJ, 136800, .inr (.inl (mF N))))] s.heap.size = A at hD ⊢
  have hA : ∀ q : Nat, s.heap.size ≤ q → A q := fun q h => by rw [← hAe]; exact Or.inr h
  have hS : va_S A s.heap s.heap [] := va_S.rf
  have hl := lv_entry ([.ref m0, .int (nI a), .int (nI b)]) (n := 3) (Nat.le_of_ble_eq_true rfl)
  rw [lg_entry_eq]
  generalize (lg_sl ([.ref m0, .int (nI a), .int (nI b)]) ++ List.replicate (3 - (lg_sl ([.ref m0, .int (nI a), .int (nI b)])).length) Slot.unset).toArray = ls at hl ⊢
  have hl : lv_has ls 3 [(0, .ref m0), (1, .int (nI a)), (2, .int (nI b))] := hl
  refine lv_aload_n hx hb dX7_follow_0 rfl (lv_at hl 0 rfl) ?_
  refine lv_iload_n hx hb dX7_follow_1 rfl (lv_at hl 1 rfl) ?_
  refine lv_iload_n hx hb dX7_follow_2 rfl (lv_at hl 2 rfl) ?_
  refine k_ci (wr := []) (w1 := [(m0, .inr (7, [.ref v, .ref a1, .ref a2, .int ik, .int (nI 0), .int en])), (v, .inl (cJ, 136800, .inr (.inl (mF N))))]) (va_runV (As := [.int (nI a), .int (nI b)]) (rest := []) ⟨hx, hb, hml, hown, hts⟩ (c_M_lacks1 l D cI cJ cM cG m0 v a1 a2 ik th en N a b s.heap.size (hN) (hN0) (ha) (hb9)) (cwV 2 hts (kB_V (fun _ => List.mem_cons_of_mem _) q_756 q_757 q_758 q_670 (kB_c q_759)) rfl rfl rfl (by decide +kernel) ⟨Nat.le_of_ble_eq_true rfl, Nat.le_of_ble_eq_true rfl⟩) (k_preV (T := TX7) hP hD hK hKN [0, 1] rfl rfl (ci := 7) rfl (q0 := 0) rfl) rfl rfl hl.1 rfl (lv_room (Nat.le_of_ble_eq_true rfl)) dX7_follow_3 ⟨Nat.le_of_ble_eq_true rfl, Nat.le_of_ble_eq_true rfl⟩) hP hD hS hA [0, 1] [] rfl rfl rfl (by decide) (fun r3 H locs hw3 hP hD hS => ?_)
  replace hP : va_P D vwCl [(m0, .inr (7, [.ref v, .ref a1, .ref a2, .int ik, .int (nI 0), .int en])), (v, .inl (cJ, 136800, .inr (.inl (mF N))))] H := hP
  replace hD : va_D A [(m0, .inr (7, [.ref v, .ref a1, .ref a2, .int ik, .int (nI 0), .int en])), (v, .inl (cJ, 136800, .inr (.inl (mF N))))] := hD
  replace hw3 : r3 = nI 0 := hw3
  refine k_ti hw3 ?_
  refine k_if_eq (tgt := 13) hx hb dX7_follow_6 (by decide) (by omega) (fun _ => ?_) (fun h9 => absurd h9 (by omega))
  refine lv_aload_n hx hb dX7_follow_13 rfl (lv_at hl 0 rfl) ?_
  refine lv_iload_n hx hb dX7_follow_14 rfl (lv_at hl 1 rfl) ?_
  refine lv_iload_n hx hb dX7_follow_15 rfl (lv_at hl 2 rfl) ?_
  refine k_ci (wr := []) (w1 := [(m0, .inr (7, [.ref v, .ref a1, .ref a2, .int ik, .int (nI 0), .int en])), (v, .inl (cJ, 136800, .inr (.inl (mF N))))]) (va_runV (As := [.int (nI a), .int (nI b)]) (rest := []) ⟨hx, hb, hml, hown, hts⟩ (c_M_follows l D cI cJ cM cG m0 v a1 a2 ik (nI 0) en N a b H.size (hN) (hN0) (ha) (hb9)) (cwV 2 hts (kB_V (fun _ => List.mem_cons_of_mem _) q_896 q_897 q_898 q_670 (kB_c q_899)) rfl rfl rfl (by decide +kernel) ⟨Nat.le_of_ble_eq_true rfl, Nat.le_of_ble_eq_true rfl⟩) (k_preV (T := TX7) hP hD hK hKN [0, 1] rfl rfl (ci := 7) rfl (q0 := 0) rfl) rfl rfl hl.1 rfl (lv_room (Nat.le_of_ble_eq_true rfl)) dX7_follow_16 ⟨Nat.le_of_ble_eq_true rfl, Nat.le_of_ble_eq_true rfl⟩) hP hD hS hA [0, 1] [] rfl rfl rfl (by decide) (fun r16 H locs hw16 hP hD hS => ?_)
  replace hP : va_P D vwCl [(m0, .inr (7, [.ref v, .ref a1, .ref a2, .int ik, .int (nI 0), .int en])), (v, .inl (cJ, 136800, .inr (.inl (mF N))))] H := hP
  replace hD : va_D A [(m0, .inr (7, [.ref v, .ref a1, .ref a2, .int ik, .int (nI 0), .int en])), (v, .inl (cJ, 136800, .inr (.inl (mF N))))] := hD
  replace hw16 : r16 = if a = b then nI 0 else -1 := hw16
  refine k_ti hw16 ?_
  have hP9 := hP.sub (ws' := [(m0, .inr (7, [.ref v, .ref a1, .ref a2, .int ik, .int (nI 0), .int en]))]) [0] rfl
  have hD9 := hD.sub (ws' := [(m0, .inr (7, [.ref v, .ref a1, .ref a2, .int ik, .int (nI 0), .int en]))]) [0] rfl rfl
  exact W.iret (v := if a = b then nI 0 else -1) hx hb hr (fun t9 ht9 hW9 => ⟨⟨if a = b then nI 0 else -1, (), rfl, rfl, by rw [ht9]; exact hP9, hD9⟩, hS.F ht9⟩) hS.2.2 dX7_follow_19

set_option maxHeartbeats 4000000 in
set_option maxRecDepth 100000 in
theorem c_M_follow0 (l : Launch) (D : va_G) (cI cJ cM cG : ClassId) (m0 : Nat) (v : Nat) (a1 : Nat) (a2 : Nat) (ik : Int32) (th : Int32) (en : Int32) (N : Nat) (x : Int32) (y : Int32) (sz : Nat) (hN : N ≤ 10) (hN0 : 0 < N) (hb2 : kBad2 N x y) : Met l yX7_follow (Cond.code yX7_follow cX7_follow 3 (some .int) :: kBig) ({ frames := 3, cells := 0, slots := 0, locals := 68 }) (va_Pc [.ref m0, .int x, .int y] (kP D [(cI, .int), (cJ, .long), (cM, .object "MeshRouting$Message"), (cG, .array .int)] [(m0, .inr (7, [.ref v, .ref a1, .ref a2, .int ik, .int th, .int en])), (v, .inl (cJ, 136800, .inr (.inl (mF N))))] sz)) (va_Qi (fun (r : Int32) (_ : Unit) => r = nI 0) (fun _ t9 => kB D (va_A [(m0, .inr (7, [.ref v, .ref a1, .ref a2, .int ik, .int th, .int en])), (v, .inl (cJ, 136800, .inr (.inl (mF N))))] sz) [(m0, .inr (7, [.ref v, .ref a1, .ref a2, .int ik, .int (nI 1), .int en]))] t9) (va_A [(m0, .inr (7, [.ref v, .ref a1, .ref a2, .int ik, .int th, .int en])), (v, .inl (cJ, 136800, .inr (.inl (mF N))))] sz)) 0 0 (va_A [(m0, .inr (7, [.ref v, .ref a1, .ref a2, .int ik, .int th, .int en])), (v, .inl (cJ, 136800, .inr (.inl (mF N))))] sz) := by
  refine Met.ofW (cc := cX7_follow) (maxL := 3) (ret := (some .int)) (by decide) rfl ?_
  intro p e s m args below meth c s₁ B hml hv
  obtain ⟨rfl, hsz, hP, hK, hD0, hKN⟩ := hv
  have hx := B.exec
  have hb := B.bytes
  have hr := B.returns
  have hts := atoms_spec (ws := (Cond.code yX7_follow cX7_follow 3 (some .int) :: kBig)) B.pre
  have hown : s.vm.findClass RX7 = some m.cls := findClass_of_methodNamed B.named
  have hlocks := B.notSynchronized
  subst hsz
  have hD := hD0.self (sz := s.heap.size)
  generalize hAe : va_A [(m0, .inr (7, [.ref v, .ref a1, .ref a2, .int ik, .int th, .int en])), (v, .inl (cJ, 136800, .inr (.inl (mF N))))] s.heap.size = A at hD ⊢
  have hA : ∀ q : Nat, s.heap.size ≤ q → A q := fun q h => by rw [← hAe]; exact Or.inr h
  have hS : va_S A s.heap s.heap [] := va_S.rf
  have hl := lv_entry ([.ref m0, .int x, .int y]) (n := 3) (Nat.le_of_ble_eq_true rfl)
  rw [lg_entry_eq]
  generalize (lg_sl ([.ref m0, .int x, .int y]) ++ List.replicate (3 - (lg_sl ([.ref m0, .int x, .int y])).length) Slot.unset).toArray = ls at hl ⊢
  have hl : lv_has ls 3 [(0, .ref m0), (1, .int x), (2, .int y)] := hl
  refine lv_aload_n hx hb dX7_follow_0 rfl (lv_at hl 0 rfl) ?_
  refine lv_iload_n hx hb dX7_follow_1 rfl (lv_at hl 1 rfl) ?_
  refine lv_iload_n hx hb dX7_follow_2 rfl (lv_at hl 2 rfl) ?_
  refine k_ci (wr := []) (w1 := [(m0, .inr (7, [.ref v, .ref a1, .ref a2, .int ik, .int (nI 1), .int en])), (v, .inl (cJ, 136800, .inr (.inl (mF N))))]) (va_runV (As := [.int x, .int y]) (rest := []) ⟨hx, hb, hml, hown, hts⟩ (c_M_lacks0 l D cI cJ cM cG m0 v a1 a2 ik th en N x y s.heap.size (hN) (hN0) (hb2)) (cwV 2 hts (kB_V (fun _ => List.mem_cons_of_mem _) q_756 q_757 q_758 q_670 (kB_c q_759)) rfl rfl rfl (by decide +kernel) ⟨Nat.le_of_ble_eq_true rfl, Nat.le_of_ble_eq_true rfl⟩) (k_preV (T := TX7) hP hD hK hKN [0, 1] rfl rfl (ci := 7) rfl (q0 := 0) rfl) rfl rfl hl.1 rfl (lv_room (Nat.le_of_ble_eq_true rfl)) dX7_follow_3 ⟨Nat.le_of_ble_eq_true rfl, Nat.le_of_ble_eq_true rfl⟩) hP hD hS hA [0, 1] [] rfl rfl rfl (by decide) (fun r3 H locs hw3 hP hD hS => ?_)
  replace hP : va_P D vwCl [(m0, .inr (7, [.ref v, .ref a1, .ref a2, .int ik, .int (nI 1), .int en])), (v, .inl (cJ, 136800, .inr (.inl (mF N))))] H := hP
  replace hD : va_D A [(m0, .inr (7, [.ref v, .ref a1, .ref a2, .int ik, .int (nI 1), .int en])), (v, .inl (cJ, 136800, .inr (.inl (mF N))))] := hD
  replace hw3 : r3 = nI 1 := hw3
  refine k_ti hw3 ?_
  refine k_if_eq (tgt := 13) hx hb dX7_follow_6 (by decide) (by omega) (fun h9 => absurd h9 (by omega)) (fun _ => ?_)
  refine lv_iconst (v := nI 0) hx hb dX7_follow_9 (by decide) ?_
  refine lv_goto (tgt := 19) hx hb dX7_follow_10 (by decide) ?_
  have hP9 := hP.sub (ws' := [(m0, .inr (7, [.ref v, .ref a1, .ref a2, .int ik, .int (nI 1), .int en]))]) [0] rfl
  have hD9 := hD.sub (ws' := [(m0, .inr (7, [.ref v, .ref a1, .ref a2, .int ik, .int (nI 1), .int en]))]) [0] rfl rfl
  exact W.iret (v := nI 0) hx hb hr (fun t9 ht9 hW9 => ⟨⟨nI 0, (), rfl, rfl, by rw [ht9]; exact hP9, hD9⟩, hS.F ht9⟩) hS.2.2 dX7_follow_19
