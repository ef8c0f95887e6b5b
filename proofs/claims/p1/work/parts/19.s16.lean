set_option maxHeartbeats 4000000 in
set_option maxRecDepth 100000 in
theorem c_M_loops (l : Launch) (D : va_G) (cI cJ cM cG : ClassId) (m0 : Nat) (v : Nat) (a1 : Nat) (a2 : Nat) (ik : Int32) (th : Int32) (en : Int32) (N : Nat) (sz : Nat) (hN : N ≤ 10) (hN0 : 0 < N) : Met l yX7_loops (Cond.code yX7_loops cX7_loops 4 (some .int) :: kBig) ({ frames := 3, cells := 0, slots := 0, locals := 69 }) (va_Pc [.ref m0] (kP D [(cI, .int), (cJ, .long), (cM, .object "MeshRouting$Message"), (cG, .array .int)] [(m0, .inr (7, [.ref v, .ref a1, .ref a2, .int ik, .int th, .int en])), (v, .inl (cJ, 136800, .inr (.inl (mF N))))] sz)) (va_Qi (fun (r : Int32) (_ : Unit) => r = nI 0) (fun _ t9 => kB D (va_A [(m0, .inr (7, [.ref v, .ref a1, .ref a2, .int ik, .int th, .int en])), (v, .inl (cJ, 136800, .inr (.inl (mF N))))] sz) [(m0, .inr (7, [.ref v, .ref a1, .ref a2, .int ik, .int (nI 0), .int en]))] t9) (va_A [(m0, .inr (7, [.ref v, .ref a1, .ref a2, .int ik, .int th, .int en])), (v, .inl (cJ, 136800, .inr (.inl (mF N))))] sz)) 0 0 (va_A [(m0, .inr (7, [.ref v, .ref a1, .ref a2, .int ik, .int th, .int en])), (v, .inl (cJ, 136800, .inr (.inl (mF N))))] sz) := by
  refine Met.ofW (cc := cX7_loops) (maxL := 4) (ret := (some .int)) (by decide) rfl ?_
  intro p e s m args below meth c s₁ B hml hv
  obtain ⟨rfl, hsz, hP, hK, hD0, hKN⟩ := hv
  have hx := B.exec
  have hb := B.bytes
  have hr := B.returns
  have hts := atoms_spec (ws := (Cond.code yX7_loops cX7_loops 4 (some .int) :: kBig)) B.pre
  have hown : s.vm.findClass RX7 = some m.cls := findClass_of_methodNamed B.named
  have hlocks := B.notSynchronized
  have hin7 : ∀ w ∈ u_ws RX7 TX7 6, w ∈ (Cond.code yX7_loops cX7_loops 4 (some .int) :: kBig) := fun w h => List.mem_cons_of_mem _ (inb7 w h)
  subst hsz
  have hD := hD0.self (sz := s.heap.size)
  generalize hAe : va_A [(m0, .inr (7, [.ref v, .ref a1, .ref a2, .int ik, .int th, .int en])), (v, .inl (cJ, 136800, .inr (.inl (mF N))))] s.heap.size = A at hD ⊢
  have hA : ∀ q : Nat, s.heap.size ≤ q → A q := fun q h => by rw [← hAe]; exact Or.inr h
  have hS : va_S A s.heap s.heap [] := va_S.rf
  have hl := lv_entry ([.ref m0]) (n := 4) (Nat.le_of_ble_eq_true rfl)
  rw [lg_entry_eq]
  generalize (lg_sl ([.ref m0]) ++ List.replicate (4 - (lg_sl ([.ref m0])).length) Slot.unset).toArray = ls at hl ⊢
  have hl : lv_has ls 4 [(0, .ref m0)] := hl
  refine lv_aload_n hx hb dX7_loops_0 rfl (lv_at hl 0 rfl) ?_
  refine lv_iconst (v := nI 0) hx hb dX7_loops_1 (by decide) ?_
  refine va_put (D := D) (ci := 7) (v := .int (nI 0)) (ty := .int) (C := RX7) (T := TX7) (N := 6) hx hb hts hin7 tyX7 tyX7_ok nmX7 hown hK hP hD hS 0 rfl rfl 4 (by decide) (hts (.fieldLink RX7 34 "MeshRoutingModel" "thrown" "I") (List.mem_cons_of_mem _ q_760)) (fun _ h9 => h9) rfl (by decide +kernel) rfl rfl (Nat.le_of_ble_eq_true rfl) dX7_loops_2 (fun H locs hP hD hS => ?_)
  replace hP : va_P D vwCl [(m0, .inr (7, [.ref v, .ref a1, .ref a2, .int ik, .int (nI 0), .int en])), (v, .inl (cJ, 136800, .inr (.inl (mF N))))] H := hP
  replace hD : va_D A [(m0, .inr (7, [.ref v, .ref a1, .ref a2, .int ik, .int (nI 0), .int en])), (v, .inl (cJ, 136800, .inr (.inl (mF N))))] := hD
  refine lv_iconst (v := nI 0) hx hb dX7_loops_5 (by decide) ?_
  refine lv_istore_n (lv' := [(1, .int (nI 0)), (0, .ref m0)]) hx hb dX7_loops_6 rfl hl (by decide) rfl (fun ls hl => ?_)
  refine lv_iconst (v := nI 0) hx hb dX7_loops_7 (by decide) ?_
  refine lv_istore_n (lv' := [(2, .int (nI 0)), (1, .int (nI 0)), (0, .ref m0)]) hx hb dX7_loops_8 rfl hl (by decide) rfl (fun ls hl => ?_)
  refine k_loop (nL := 4) (wf := fun i => [(m0, .inr (7, [.ref v, .ref a1, .ref a2, .int ik, .int (nI 0), .int en])), (v, .inl (cJ, 136800, .inr (.inl (mF N))))]) (lvf := fun i => [(0, .ref m0), (1, .int (nI 0)), (2, .int (nI i))]) (B := N) 0 (Nat.zero_le _) hP hD hS (lv_sub hl [2, 1, 0] rfl) (fun H locs ls hP hD hS hl => ?_) (fun i hk9 hk ih H locs ls hP hD hS hl => ?_)
  · replace hP : va_P D vwCl [(m0, .inr (7, [.ref v, .ref a1, .ref a2, .int ik, .int (nI 0), .int en])), (v, .inl (cJ, 136800, .inr (.inl (mF N))))] H := hP
    replace hD : va_D A [(m0, .inr (7, [.ref v, .ref a1, .ref a2, .int ik, .int (nI 0), .int en])), (v, .inl (cJ, 136800, .inr (.inl (mF N))))] := hD
    replace hl : lv_has ls 4 [(0, .ref m0), (1, .int (nI 0)), (2, .int (nI N))] := hl
    refine lv_iload_n hx hb dX7_loops_9 rfl (lv_at hl 2 rfl) ?_
    refine lv_i2l (v := lN N) hx hb dX7_loops_10 (by exact nI_l (by omega)) ?_
    refine lv_aload_n hx hb dX7_loops_11 rfl (lv_at hl 0 rfl) ?_
    refine va_get (D := D) (ci := 7) (v := .ref v) (C := RX7) (T := TX7) (N := 6) hx hb hts hin7 hown hK hP 0 rfl rfl 0 (by decide) (hts (.fieldLink RX7 8 "MeshRoutingModel" "v" "[J") (List.mem_cons_of_mem _ q_665)) (fun _ h9 => h9) rfl dX7_loops_12 ?_
    refine lv_iconst (v := nI 1) hx hb dX7_loops_15 (by decide) ?_
    refine k_lald (v := lN N) hx hb hK hP 1 1 rfl rfl (by omega) (by omega) (mF_1) dX7_loops_16 ?_
    refine W.lcmp hx hb dX7_loops_17 ?_
    refine k_lif_ge (tgt := 71) hx hb dX7_loops_18 (by decide) (by omega) (by omega) (fun _ => ?_) (fun h9 => absurd h9 (by omega))
    refine lv_iload_n hx hb dX7_loops_71 rfl (lv_at hl 1 rfl) ?_
    have hP9 := hP.sub (ws' := [(m0, .inr (7, [.ref v, .ref a1, .ref a2, .int ik, .int (nI 0), .int en]))]) [0] rfl
    have hD9 := hD.sub (ws' := [(m0, .inr (7, [.ref v, .ref a1, .ref a2, .int ik, .int (nI 0), .int en]))]) [0] rfl rfl
    exact W.iret (v := nI 0) hx hb hr (fun t9 ht9 hW9 => ⟨⟨nI 0, (), rfl, rfl, by rw [ht9]; exact hP9, hD9⟩, hS.F ht9⟩) hS.2.2 dX7_loops_72
  · replace hP : va_P D vwCl [(m0, .inr (7, [.ref v, .ref a1, .ref a2, .int ik, .int (nI 0), .int en])), (v, .inl (cJ, 136800, .inr (.inl (mF N))))] H := hP
    replace hD : va_D A [(m0, .inr (7, [.ref v, .ref a1, .ref a2, .int ik, .int (nI 0), .int en])), (v, .inl (cJ, 136800, .inr (.inl (mF N))))] := hD
    replace hl : lv_has ls 4 [(0, .ref m0), (1, .int (nI 0)), (2, .int (nI i))] := hl
    refine lv_iload_n hx hb dX7_loops_9 rfl (lv_at hl 2 rfl) ?_
    refine lv_i2l (v := lN i) hx hb dX7_loops_10 (by exact nI_l (by omega)) ?_
    refine lv_aload_n hx hb dX7_loops_11 rfl (lv_at hl 0 rfl) ?_
    refine va_get (D := D) (ci := 7) (v := .ref v) (C := RX7) (T := TX7) (N := 6) hx hb hts hin7 hown hK hP 0 rfl rfl 0 (by decide) (hts (.fieldLink RX7 8 "MeshRoutingModel" "v" "[J") (List.mem_cons_of_mem _ q_665)) (fun _ h9 => h9) rfl dX7_loops_12 ?_
    refine lv_iconst (v := nI 1) hx hb dX7_loops_15 (by decide) ?_
    refine k_lald (v := lN N) hx hb hK hP 1 1 rfl rfl (by omega) (by omega) (mF_1) dX7_loops_16 ?_
    refine W.lcmp hx hb dX7_loops_17 ?_
    refine k_lif_ge (tgt := 71) hx hb dX7_loops_18 (by decide) (by omega) (by omega) (fun h9 => absurd h9 (by omega)) (fun _ => ?_)
    refine lv_iconst (v := nI 0) hx hb dX7_loops_21 (by decide) ?_
    refine lv_istore_n (lv' := [(3, .int (nI 0)), (0, .ref m0), (1, .int (nI 0)), (2, .int (nI i))]) hx hb dX7_loops_22 rfl hl (by decide) rfl (fun ls hl => ?_)
    refine k_loop (nL := 4) (wf := fun k2 => [(m0, .inr (7, [.ref v, .ref a1, .ref a2, .int ik, .int (nI 0), .int en])), (v, .inl (cJ, 136800, .inr (.inl (mF N))))]) (lvf := fun k2 => [(0, .ref m0), (1, .int (nI 0)), (2, .int (nI i)), (3, .int (nI k2))]) (B := N) 0 (Nat.zero_le _) hP hD hS (lv_sub hl [1, 2, 3, 0] rfl) (fun H locs ls hP hD hS hl => ?_) (fun k2 hk9 hk ih H locs ls hP hD hS hl => ?_)
    · replace hP : va_P D vwCl [(m0, .inr (7, [.ref v, .ref a1, .ref a2, .int ik, .int (nI 0), .int en])), (v, .inl (cJ, 136800, .inr (.inl (mF N))))] H := hP
      replace hD : va_D A [(m0, .inr (7, [.ref v, .ref a1, .ref a2, .int ik, .int (nI 0), .int en])), (v, .inl (cJ, 136800, .inr (.inl (mF N))))] := hD
      replace hl : lv_has ls 4 [(0, .ref m0), (1, .int (nI 0)), (2, .int (nI i)), (3, .int (nI N))] := hl
      refine lv_iload_n hx hb dX7_loops_23 rfl (lv_at hl 3 rfl) ?_
      refine lv_i2l (v := lN N) hx hb dX7_loops_24 (by exact nI_l (by omega)) ?_
      refine lv_aload_n hx hb dX7_loops_25 rfl (lv_at hl 0 rfl) ?_
      refine va_get (D := D) (ci := 7) (v := .ref v) (C := RX7) (T := TX7) (N := 6) hx hb hts hin7 hown hK hP 0 rfl rfl 0 (by decide) (hts (.fieldLink RX7 8 "MeshRoutingModel" "v" "[J") (List.mem_cons_of_mem _ q_665)) (fun _ h9 => h9) rfl dX7_loops_26 ?_
      refine lv_iconst (v := nI 1) hx hb dX7_loops_29 (by decide) ?_
      refine k_lald (v := lN N) hx hb hK hP 1 1 rfl rfl (by omega) (by omega) (mF_1) dX7_loops_30 ?_
      refine W.lcmp hx hb dX7_loops_31 ?_
      refine k_lif_ge (tgt := 65) hx hb dX7_loops_32 (by decide) (by omega) (by omega) (fun _ => ?_) (fun h9 => absurd h9 (by omega))
      refine lv_iinc (v := nI (i + 1)) (lv' := [(2, .int (nI (i + 1))), (0, .ref m0), (1, .int (nI 0)), (3, .int (nI N))]) hx hb dX7_loops_65 hl (k := 2) rfl (by exact nI_add i 1) (by decide) rfl (fun ls hl => ?_)
      refine lv_goto (tgt := 9) hx hb dX7_loops_68 (by decide) ?_
      exact ih _ _ _ hP hD hS (lv_sub hl [1, 2, 0] rfl)
    · replace hP : va_P D vwCl [(m0, .inr (7, [.ref v, .ref a1, .ref a2, .int ik, .int (nI 0), .int en])), (v, .inl (cJ, 136800, .inr (.inl (mF N))))] H := hP
      replace hD : va_D A [(m0, .inr (7, [.ref v, .ref a1, .ref a2, .int ik, .int (nI 0), .int en])), (v, .inl (cJ, 136800, .inr (.inl (mF N))))] := hD
      replace hl : lv_has ls 4 [(0, .ref m0), (1, .int (nI 0)), (2, .int (nI i)), (3, .int (nI k2))] := hl
      refine lv_iload_n hx hb dX7_loops_23 rfl (lv_at hl 3 rfl) ?_
      refine lv_i2l (v := lN k2) hx hb dX7_loops_24 (by exact nI_l (by omega)) ?_
      refine lv_aload_n hx hb dX7_loops_25 rfl (lv_at hl 0 rfl) ?_
      refine va_get (D := D) (ci := 7) (v := .ref v) (C := RX7) (T := TX7) (N := 6) hx hb hts hin7 hown hK hP 0 rfl rfl 0 (by decide) (hts (.fieldLink RX7 8 "MeshRoutingModel" "v" "[J") (List.mem_cons_of_mem _ q_665)) (fun _ h9 => h9) rfl dX7_loops_26 ?_
      refine lv_iconst (v := nI 1) hx hb dX7_loops_29 (by decide) ?_
      refine k_lald (v := lN N) hx hb hK hP 1 1 rfl rfl (by omega) (by omega) (mF_1) dX7_loops_30 ?_
      refine W.lcmp hx hb dX7_loops_31 ?_
      refine k_lif_ge (tgt := 65) hx hb dX7_loops_32 (by decide) (by omega) (by omega) (fun h9 => absurd h9 (by omega)) (fun _ => ?_)
      refine lv_iload_n hx hb dX7_loops_35 rfl (lv_at hl 1 rfl) ?_
      refine lv_iload_n hx hb dX7_loops_36 rfl (lv_at hl 2 rfl) ?_
      refine lv_iload_n hx hb dX7_loops_37 rfl (lv_at hl 3 rfl) ?_
      refine k_icmp_eq (tgt := 56) hx hb dX7_loops_38 (by decide) (by omega) (by omega) (fun c => ?_) (fun c => ?_)
      · refine lv_iconst (v := nI 0) hx hb dX7_loops_56 (by decide) ?_
        refine lv_iadd hx hb dX7_loops_57 ?_
        refine k_ti (show ((nI 0) + (nI 0)) = (nI 0) from by decide) ?_
        refine lv_istore_n (lv' := [(1, .int (nI 0)), (0, .ref m0), (2, .int (nI i)), (3, .int (nI k2))]) hx hb dX7_loops_58 rfl hl (by decide) rfl (fun ls hl => ?_)
        refine lv_iinc (v := nI (k2 + 1)) (lv' := [(3, .int (nI (k2 + 1))), (1, .int (nI 0)), (0, .ref m0), (2, .int (nI i))]) hx hb dX7_loops_59 hl (k := 3) rfl (by exact nI_add k2 1) (by decide) rfl (fun ls hl => ?_)
        refine lv_goto (tgt := 23) hx hb dX7_loops_62 (by decide) ?_
        exact ih _ _ _ hP hD hS (lv_sub hl [2, 1, 3, 0] rfl)
      · refine lv_aload_n hx hb dX7_loops_41 rfl (lv_at hl 0 rfl) ?_
        refine lv_iload_n hx hb dX7_loops_42 rfl (lv_at hl 2 rfl) ?_
        refine lv_iload_n hx hb dX7_loops_43 rfl (lv_at hl 3 rfl) ?_
        refine k_ci (wr := []) (w1 := [(m0, .inr (7, [.ref v, .ref a1, .ref a2, .int ik, .int (nI 0), .int en])), (v, .inl (cJ, 136800, .inr (.inl (mF N))))]) (va_runV (As := [.int (nI i), .int (nI k2)]) (rest := [.int (nI 0)]) ⟨hx, hb, hml, hown, hts⟩ (c_M_follows l D cI cJ cM cG m0 v a1 a2 ik (nI 0) en N i k2 H.size (hN) (hN0) (by omega) (by omega)) (cwV 2 hts (kB_V (fun _ => List.mem_cons_of_mem _) q_896 q_897 q_898 q_670 (kB_c q_899)) rfl rfl rfl (by decide +kernel) ⟨Nat.le_of_ble_eq_true rfl, Nat.le_of_ble_eq_true rfl⟩) (k_preV (T := TX7) hP hD hK hKN [0, 1] rfl rfl (ci := 7) rfl (q0 := 0) rfl) rfl rfl hl.1 rfl (lv_room (Nat.le_of_ble_eq_true rfl)) dX7_loops_44 ⟨Nat.le_of_ble_eq_true rfl, Nat.le_of_ble_eq_true rfl⟩) hP hD hS hA [0, 1] [] rfl rfl rfl (by decide) (fun r44 H locs hw44 hP hD hS => ?_)
        replace hP : va_P D vwCl [(m0, .inr (7, [.ref v, .ref a1, .ref a2, .int ik, .int (nI 0), .int en])), (v, .inl (cJ, 136800, .inr (.inl (mF N))))] H := hP
        replace hD : va_D A [(m0, .inr (7, [.ref v, .ref a1, .ref a2, .int ik, .int (nI 0), .int en])), (v, .inl (cJ, 136800, .inr (.inl (mF N))))] := hD
        replace hw44 : r44 = if i = k2 then nI 0 else -1 := hw44
        refine k_ti hw44 ?_
        refine lv_bipush (v := (-2)) hx hb dX7_loops_47 (by decide) ?_
        refine lv_icmp_ne (tgt := 56) hx hb dX7_loops_49 (by decide) (fun _ => ?_) (fun h9 => absurd h9 (by split <;> decide))
        refine lv_iconst (v := nI 0) hx hb dX7_loops_56 (by decide) ?_
        refine lv_iadd hx hb dX7_loops_57 ?_
        refine k_ti (show ((nI 0) + (nI 0)) = (nI 0) from by decide) ?_
        refine lv_istore_n (lv' := [(1, .int (nI 0)), (0, .ref m0), (2, .int (nI i)), (3, .int (nI k2))]) hx hb dX7_loops_58 rfl hl (by decide) rfl (fun ls hl => ?_)
        refine lv_iinc (v := nI (k2 + 1)) (lv' := [(3, .int (nI (k2 + 1))), (1, .int (nI 0)), (0, .ref m0), (2, .int (nI i))]) hx hb dX7_loops_59 hl (k := 3) rfl (by exact nI_add k2 1) (by decide) rfl (fun ls hl => ?_)
        refine lv_goto (tgt := 23) hx hb dX7_loops_62 (by decide) ?_
        exact ih _ _ _ hP hD hS (lv_sub hl [2, 1, 3, 0] rfl)

set_option maxHeartbeats 4000000 in
set_option maxRecDepth 100000 in
theorem c_M_distance1 (l : Launch) (D : va_G) (cI cJ cM cG : ClassId) (m0 : Nat) (v : Nat) (a1 : Nat) (a2 : Nat) (ik : Int32) (th : Int32) (en : Int32) (N : Nat) (a : Nat) (b : Nat) (sz : Nat) (hN : N ≤ 10) (hN0 : 0 < N) (ha : a < N) (hb9 : b < N) : Met l yX7_distance (Cond.code yX7_distance cX7_distance 8 (some .int) :: kBig) ({ frames := 3, cells := 0, slots := 0, locals := 68 }) (va_Pc [.ref m0, .int (nI a), .int (nI b)] (kP D [(cI, .int), (cJ, .long), (cM, .object "MeshRouting$Message"), (cG, .array .int)] [(m0, .inr (7, [.ref v, .ref a1, .ref a2, .int ik, .int th, .int en])), (v, .inl (cJ, 136800, .inr (.inl (mF N))))] sz)) (va_Qi (fun (r : Int32) (_ : Unit) => r = if a = b then nI 0 else -1) (fun _ t9 => kB D (va_A [(m0, .inr (7, [.ref v, .ref a1, .ref a2, .int ik, .int th, .int en])), (v, .inl (cJ, 136800, .inr (.inl (mF N))))] sz) [(m0, .inr (7, [.ref v, .ref a1, .ref a2, .int ik, .int (nI 0), .int en]))] t9) (va_A [(m0, .inr (7, [.ref v, .ref a1, .ref a2, .int ik, .int th, .int en])), (v, .inl (cJ, 136800, .inr (.inl (mF N))))] sz)) 0 0 (va_A [(m0, .inr (7, [.ref v, .ref a1, .ref a2, .int ik, .int th, .int en])), (v, .inl (cJ, 136800, .inr (.inl (mF N))))] sz) := by
  refine Met.ofW (cc := cX7_distance) (maxL := 8) (ret := (some .int)) (by decide) rfl ?_
  intro p e s m args below meth c s₁ B hml hv
  obtain ⟨rfl, hsz, hP, hK, hD0, hKN⟩ := hv
  have hx := B.exec
  have hb := B.bytes
  have hr := B.returns
  have hts := atoms_spec (ws := (Cond.code yX7_distance cX7_distance 8 (some .int) :: kBig)) B.pre
  have hown : s.vm.findClass RX7 = some m.cls := findClass_of_methodNamed B.named
  have hlocks := B.notSynchronized
  subst hsz
  have hD := hD0.self (sz := s.heap.size)
  generalize hAe : va_A [(m0, .inr (7, [.ref v, .ref a1, .ref a2, .int ik, .int th, .int en])), (v, .inl (cJ, 136800, .inr (.inl (mF N))))] s.heap.size = A at hD ⊢
  have hA : ∀ q : Nat, s.heap.size ≤ q → A q := fun q h => by rw [← hAe]; exact Or.inr h
  have hS : va_S A s.heap s.heap [] := va_S.rf
  have hl := lv_entry ([.ref m0, .int (nI a), .int (nI b)]) (n := 8) (Nat.le_of_ble_eq_true rfl)
  rw [lg_entry_eq]
  generalize (lg_sl ([.ref m0, .int (nI a), .int (nI b)]) ++ List.replicate (8 - (lg_sl ([.ref m0, .int (nI a), .int (nI b)])).length) Slot.unset).toArray = ls at hl ⊢
  have hl : lv_has ls 8 [(0, .ref m0), (1, .int (nI a)), (2, .int (nI b))] := hl
  refine lv_aload_n hx hb dX7_distance_0 rfl (lv_at hl 0 rfl) ?_
  refine lv_iload_n hx hb dX7_distance_1 rfl (lv_at hl 1 rfl) ?_
  refine lv_iload_n hx hb dX7_distance_2 rfl (lv_at hl 2 rfl) ?_
  refine k_ci (wr := []) (w1 := [(m0, .inr (7, [.ref v, .ref a1, .ref a2, .int ik, .int (nI 0), .int en])), (v, .inl (cJ, 136800, .inr (.inl (mF N))))]) (va_runV (As := [.int (nI a), .int (nI b)]) (rest := []) ⟨hx, hb, hml, hown, hts⟩ (c_M_lacks1 l D cI cJ cM cG m0 v a1 a2 ik th en N a b s.heap.size (hN) (hN0) (ha) (hb9)) (cwV 2 hts (kB_V (fun _ => List.mem_cons_of_mem _) q_756 q_757 q_758 q_670 (kB_c q_759)) rfl rfl rfl (by decide +kernel) ⟨Nat.le_of_ble_eq_true rfl, Nat.le_of_ble_eq_true rfl⟩) (k_preV (T := TX7) hP hD hK hKN [0, 1] rfl rfl (ci := 7) rfl (q0 := 0) rfl) rfl rfl hl.1 rfl (lv_room (Nat.le_of_ble_eq_true rfl)) dX7_distance_3 ⟨Nat.le_of_ble_eq_true rfl, Nat.le_of_ble_eq_true rfl⟩) hP hD hS hA [0, 1] [] rfl rfl rfl (by decide) (fun r3 H locs hw3 hP hD hS => ?_)
  replace hP : va_P D vwCl [(m0, .inr (7, [.ref v, .ref a1, .ref a2, .int ik, .int (nI 0), .int en])), (v, .inl (cJ, 136800, .inr (.inl (mF N))))] H := hP
  replace hD : va_D A [(m0, .inr (7, [.ref v, .ref a1, .ref a2, .int ik, .int (nI 0), .int en])), (v, .inl (cJ, 136800, .inr (.inl (mF N))))] := hD
  replace hw3 : r3 = nI 0 := hw3
  refine k_ti hw3 ?_
  refine k_if_eq (tgt := 11) hx hb dX7_distance_6 (by decide) (by omega) (fun _ => ?_) (fun h9 => absurd h9 (by omega))
  refine lv_iconst (v := nI 1) hx hb dX7_distance_11 (by decide) ?_
  refine lv_iload_n hx hb dX7_distance_12 rfl (lv_at hl 1 rfl) ?_
  refine lv_ishl hx hb dX7_distance_13 ?_
  refine lv_istore_n (lv' := [(3, .int ((nI 1) <<< ((nI a) &&& 31))), (0, .ref m0), (1, .int (nI a)), (2, .int (nI b))]) hx hb dX7_distance_14 rfl hl (by decide) rfl (fun ls hl => ?_)
  refine lv_iconst (v := nI 0) hx hb dX7_distance_15 (by decide) ?_
  refine lv_istore (lv' := [(4, .int (nI 0)), (3, .int ((nI 1) <<< ((nI a) &&& 31))), (0, .ref m0), (1, .int (nI a)), (2, .int (nI b))]) hx hb dX7_distance_16 hl (by decide) rfl (fun ls hl => ?_)
  by_cases hab : a = b
  · refine lv_iload hx hb dX7_distance_18 (lv_at hl 0 rfl) ?_
    refine lv_bipush (v := nI 10) hx hb dX7_distance_20 (by decide) ?_
    refine k_icmp_gt (tgt := 115) hx hb dX7_distance_22 (by decide) (by omega) (by omega) (fun h9 => absurd h9 (by omega)) (fun _ => ?_)
    refine lv_iload_n hx hb dX7_distance_25 rfl (lv_at hl 1 rfl) ?_
    refine lv_iload_n hx hb dX7_distance_26 rfl (lv_at hl 4 rfl) ?_
    refine lv_ishr hx hb dX7_distance_27 ?_
    refine lv_iconst (v := nI 1) hx hb dX7_distance_28 (by decide) ?_
    refine lv_iand hx hb dX7_distance_29 ?_
    refine k_ti (show ((((nI 1) <<< ((nI a) &&& 31)) >>> ((nI b) &&& 31)) &&& (nI 1)) = (nI 1) from (k_reach a (by omega) b (by omega)).trans (if_pos hab)) ?_
    refine lv_iconst (v := nI 1) hx hb dX7_distance_30 (by decide) ?_
    refine k_icmp_ne (tgt := 37) hx hb dX7_distance_31 (by decide) (by omega) (by omega) (fun h9 => absurd h9 (by omega)) (fun _ => ?_)
    refine lv_iload hx hb dX7_distance_34 (lv_at hl 0 rfl) ?_
    have hP9 := hP.sub (ws' := [(m0, .inr (7, [.ref v, .ref a1, .ref a2, .int ik, .int (nI 0), .int en]))]) [0] rfl
    have hD9 := hD.sub (ws' := [(m0, .inr (7, [.ref v, .ref a1, .ref a2, .int ik, .int (nI 0), .int en]))]) [0] rfl rfl
    exact W.iret (v := nI 0) hx hb hr (fun t9 ht9 hW9 => ⟨⟨nI 0, (), rfl, (if_pos hab).symm, by rw [ht9]; exact hP9, hD9⟩, hS.F ht9⟩) hS.2.2 dX7_distance_36
  · refine k_loop (nL := 8) (wf := fun k => [(m0, .inr (7, [.ref v, .ref a1, .ref a2, .int ik, .int (nI 0), .int en])), (v, .inl (cJ, 136800, .inr (.inl (mF N))))]) (lvf := fun k => [(0, .ref m0), (1, .int (nI a)), (2, .int (nI b)), (3, .int ((nI 1) <<< ((nI a) &&& 31))), (4, .int (nI k))]) (B := 11) 0 (Nat.zero_le _) hP hD hS (lv_sub hl [2, 3, 4, 1, 0] rfl) (fun H locs ls hP hD hS hl => ?_) (fun k hk9 hk ih H locs ls hP hD hS hl => ?_)
    · replace hP : va_P D vwCl [(m0, .inr (7, [.ref v, .ref a1, .ref a2, .int ik, .int (nI 0), .int en])), (v, .inl (cJ, 136800, .inr (.inl (mF N))))] H := hP
      replace hD : va_D A [(m0, .inr (7, [.ref v, .ref a1, .ref a2, .int ik, .int (nI 0), .int en])), (v, .inl (cJ, 136800, .inr (.inl (mF N))))] := hD
      replace hl : lv_has ls 8 [(0, .ref m0), (1, .int (nI a)), (2, .int (nI b)), (3, .int ((nI 1) <<< ((nI a) &&& 31))), (4, .int (nI 11))] := hl
      refine lv_iload hx hb dX7_distance_18 (lv_at hl 4 rfl) ?_
      refine lv_bipush (v := nI 10) hx hb dX7_distance_20 (by decide) ?_
      refine k_icmp_gt (tgt := 115) hx hb dX7_distance_22 (by decide) (by omega) (by omega) (fun _ => ?_) (fun h9 => absurd h9 (by omega))
      refine lv_iconst (v := (-1)) hx hb dX7_distance_115 (by decide) ?_
      have hP9 := hP.sub (ws' := [(m0, .inr (7, [.ref v, .ref a1, .ref a2, .int ik, .int (nI 0), .int en]))]) [0] rfl
      have hD9 := hD.sub (ws' := [(m0, .inr (7, [.ref v, .ref a1, .ref a2, .int ik, .int (nI 0), .int en]))]) [0] rfl rfl
      exact W.iret (v := (-1)) hx hb hr (fun t9 ht9 hW9 => ⟨⟨(-1), (), rfl, (if_neg hab).symm, by rw [ht9]; exact hP9, hD9⟩, hS.F ht9⟩) hS.2.2 dX7_distance_116
    · replace hP : va_P D vwCl [(m0, .inr (7, [.ref v, .ref a1, .ref a2, .int ik, .int (nI 0), .int en])), (v, .inl (cJ, 136800, .inr (.inl (mF N))))] H := hP
      replace hD : va_D A [(m0, .inr (7, [.ref v, .ref a1, .ref a2, .int ik, .int (nI 0), .int en])), (v, .inl (cJ, 136800, .inr (.inl (mF N))))] := hD
      replace hl : lv_has ls 8 [(0, .ref m0), (1, .int (nI a)), (2, .int (nI b)), (3, .int ((nI 1) <<< ((nI a) &&& 31))), (4, .int (nI k))] := hl
      refine lv_iload hx hb dX7_distance_18 (lv_at hl 4 rfl) ?_
      refine lv_bipush (v := nI 10) hx hb dX7_distance_20 (by decide) ?_
      refine k_icmp_gt (tgt := 115) hx hb dX7_distance_22 (by decide) (by omega) (by omega) (fun h9 => absurd h9 (by omega)) (fun _ => ?_)
      refine lv_iload_n hx hb dX7_distance_25 rfl (lv_at hl 3 rfl) ?_
      refine lv_iload_n hx hb dX7_distance_26 rfl (lv_at hl 2 rfl) ?_
      refine lv_ishr hx hb dX7_distance_27 ?_
      refine lv_iconst (v := nI 1) hx hb dX7_distance_28 (by decide) ?_
      refine lv_iand hx hb dX7_distance_29 ?_
      refine k_ti (show ((((nI 1) <<< ((nI a) &&& 31)) >>> ((nI b) &&& 31)) &&& (nI 1)) = (nI 0) from (k_reach a (by omega) b (by omega)).trans (if_neg hab)) ?_
      refine lv_iconst (v := nI 1) hx hb dX7_distance_30 (by decide) ?_
      refine k_icmp_ne (tgt := 37) hx hb dX7_distance_31 (by decide) (by omega) (by omega) (fun _ => ?_) (fun h9 => absurd h9 (by omega))
      refine lv_iload_n hx hb dX7_distance_37 rfl (lv_at hl 3 rfl) ?_
      refine lv_istore (lv' := [(5, .int ((nI 1) <<< ((nI a) &&& 31))), (0, .ref m0), (1, .int (nI a)), (2, .int (nI b)), (3, .int ((nI 1) <<< ((nI a) &&& 31))), (4, .int (nI k))]) hx hb dX7_distance_38 hl (by decide) rfl (fun ls hl => ?_)
      refine lv_iconst (v := nI 0) hx hb dX7_distance_40 (by decide) ?_
      refine lv_istore (lv' := [(6, .int (nI 0)), (5, .int ((nI 1) <<< ((nI a) &&& 31))), (0, .ref m0), (1, .int (nI a)), (2, .int (nI b)), (3, .int ((nI 1) <<< ((nI a) &&& 31))), (4, .int (nI k))]) hx hb dX7_distance_41 hl (by decide) rfl (fun ls hl => ?_)
      have ih1 := ih
      refine k_loop (nL := 8) (wf := fun k2 => [(m0, .inr (7, [.ref v, .ref a1, .ref a2, .int ik, .int (nI 0), .int en])), (v, .inl (cJ, 136800, .inr (.inl (mF N))))]) (lvf := fun k2 => [(0, .ref m0), (1, .int (nI a)), (2, .int (nI b)), (3, .int ((nI 1) <<< ((nI a) &&& 31))), (4, .int (nI k)), (5, .int ((nI 1) <<< ((nI a) &&& 31))), (6, .int (nI k2))]) (B := 10) 0 (Nat.zero_le _) hP hD hS (lv_sub hl [2, 3, 4, 5, 6, 1, 0] rfl) (fun H locs ls hP hD hS hl => ?_) (fun k2 hk9 hk ih H locs ls hP hD hS hl => ?_)
      · replace hP : va_P D vwCl [(m0, .inr (7, [.ref v, .ref a1, .ref a2, .int ik, .int (nI 0), .int en])), (v, .inl (cJ, 136800, .inr (.inl (mF N))))] H := hP
        replace hD : va_D A [(m0, .inr (7, [.ref v, .ref a1, .ref a2, .int ik, .int (nI 0), .int en])), (v, .inl (cJ, 136800, .inr (.inl (mF N))))] := hD
        replace hl : lv_has ls 8 [(0, .ref m0), (1, .int (nI a)), (2, .int (nI b)), (3, .int ((nI 1) <<< ((nI a) &&& 31))), (4, .int (nI k)), (5, .int ((nI 1) <<< ((nI a) &&& 31))), (6, .int (nI 10))] := hl
        refine lv_iload hx hb dX7_distance_43 (lv_at hl 6 rfl) ?_
        refine lv_bipush (v := nI 10) hx hb dX7_distance_45 (by decide) ?_
        refine k_icmp_ge (tgt := 106) hx hb dX7_distance_47 (by decide) (by omega) (by omega) (fun _ => ?_) (fun h9 => absurd h9 (by omega))
        refine lv_iload hx hb dX7_distance_106 (lv_at hl 5 rfl) ?_
        refine lv_istore_n (lv' := [(3, .int ((nI 1) <<< ((nI a) &&& 31))), (0, .ref m0), (1, .int (nI a)), (2, .int (nI b)), (4, .int (nI k)), (5, .int ((nI 1) <<< ((nI a) &&& 31))), (6, .int (nI 10))]) hx hb dX7_distance_108 rfl hl (by decide) rfl (fun ls hl => ?_)
        refine lv_iinc (v := nI (k + 1)) (lv' := [(4, .int (nI (k + 1))), (3, .int ((nI 1) <<< ((nI a) &&& 31))), (0, .ref m0), (1, .int (nI a)), (2, .int (nI b)), (5, .int ((nI 1) <<< ((nI a) &&& 31))), (6, .int (nI 10))]) hx hb dX7_distance_109 hl (k := 4) rfl (by exact nI_add k 1) (by decide) rfl (fun ls hl => ?_)
        refine lv_goto (tgt := 18) hx hb dX7_distance_112 (by decide) ?_
        exact ih1 _ _ _ hP hD hS (lv_sub hl [2, 3, 4, 1, 0] rfl)
      · replace hP : va_P D vwCl [(m0, .inr (7, [.ref v, .ref a1, .ref a2, .int ik, .int (nI 0), .int en])), (v, .inl (cJ, 136800, .inr (.inl (mF N))))] H := hP
        replace hD : va_D A [(m0, .inr (7, [.ref v, .ref a1, .ref a2, .int ik, .int (nI 0), .int en])), (v, .inl (cJ, 136800, .inr (.inl (mF N))))] := hD
        replace hl : lv_has ls 8 [(0, .ref m0), (1, .int (nI a)), (2, .int (nI b)), (3, .int ((nI 1) <<< ((nI a) &&& 31))), (4, .int (nI k)), (5, .int ((nI 1) <<< ((nI a) &&& 31))), (6, .int (nI k2))] := hl
        refine lv_iload hx hb dX7_distance_43 (lv_at hl 6 rfl) ?_
        refine lv_bipush (v := nI 10) hx hb dX7_distance_45 (by decide) ?_
        refine k_icmp_ge (tgt := 106) hx hb dX7_distance_47 (by decide) (by omega) (by omega) (fun h9 => absurd h9 (by omega)) (fun _ => ?_)
        refine lv_iconst (v := nI 0) hx hb dX7_distance_50 (by decide) ?_
        refine lv_istore (lv' := [(7, .int (nI 0)), (0, .ref m0), (1, .int (nI a)), (2, .int (nI b)), (3, .int ((nI 1) <<< ((nI a) &&& 31))), (4, .int (nI k)), (5, .int ((nI 1) <<< ((nI a) &&& 31))), (6, .int (nI k2))]) hx hb dX7_distance_51 hl (by decide) rfl (fun ls hl => ?_)
        by_cases hai : a = k2
        · have ih2 := ih
          refine k_loop (nL := 8) (wf := fun k3 => [(m0, .inr (7, [.ref v, .ref a1, .ref a2, .int ik, .int (nI 0), .int en])), (v, .inl (cJ, 136800, .inr (.inl (mF N))))]) (lvf := fun k3 => [(0, .ref m0), (1, .int (nI a)), (2, .int (nI b)), (3, .int ((nI 1) <<< ((nI a) &&& 31))), (4, .int (nI k)), (5, .int ((nI 1) <<< ((nI a) &&& 31))), (6, .int (nI k2)), (7, .int (nI k3))]) (B := 10) 0 (Nat.zero_le _) hP hD hS (lv_sub hl [1, 2, 3, 4, 5, 6, 7, 0] rfl) (fun H locs ls hP hD hS hl => ?_) (fun k3 hk9 hk ih H locs ls hP hD hS hl => ?_)
          · replace hP : va_P D vwCl [(m0, .inr (7, [.ref v, .ref a1, .ref a2, .int ik, .int (nI 0), .int en])), (v, .inl (cJ, 136800, .inr (.inl (mF N))))] H := hP
            replace hD : va_D A [(m0, .inr (7, [.ref v, .ref a1, .ref a2, .int ik, .int (nI 0), .int en])), (v, .inl (cJ, 136800, .inr (.inl (mF N))))] := hD
            replace hl : lv_has ls 8 [(0, .ref m0), (1, .int (nI a)), (2, .int (nI b)), (3, .int ((nI 1) <<< ((nI a) &&& 31))), (4, .int (nI k)), (5, .int ((nI 1) <<< ((nI a) &&& 31))), (6, .int (nI k2)), (7, .int (nI 10))] := hl
            refine lv_iload hx hb dX7_distance_53 (lv_at hl 7 rfl) ?_
            refine lv_bipush (v := nI 10) hx hb dX7_distance_55 (by decide) ?_
            refine k_icmp_ge (tgt := 100) hx hb dX7_distance_57 (by decide) (by omega) (by omega) (fun _ => ?_) (fun h9 => absurd h9 (by omega))
            refine lv_iinc (v := nI (k2 + 1)) (lv' := [(6, .int (nI (k2 + 1))), (0, .ref m0), (1, .int (nI a)), (2, .int (nI b)), (3, .int ((nI 1) <<< ((nI a) &&& 31))), (4, .int (nI k)), (5, .int ((nI 1) <<< ((nI a) &&& 31))), (7, .int (nI 10))]) hx hb dX7_distance_100 hl (k := 6) rfl (by exact nI_add k2 1) (by decide) rfl (fun ls hl => ?_)
            refine lv_goto (tgt := 43) hx hb dX7_distance_103 (by decide) ?_
            exact ih2 _ _ _ hP hD hS (lv_sub hl [1, 2, 3, 4, 5, 6, 0] rfl)
          · replace hP : va_P D vwCl [(m0, .inr (7, [.ref v, .ref a1, .ref a2, .int ik, .int (nI 0), .int en])), (v, .inl (cJ, 136800, .inr (.inl (mF N))))] H := hP
            replace hD : va_D A [(m0, .inr (7, [.ref v, .ref a1, .ref a2, .int ik, .int (nI 0), .int en])), (v, .inl (cJ, 136800, .inr (.inl (mF N))))] := hD
            replace hl : lv_has ls 8 [(0, .ref m0), (1, .int (nI a)), (2, .int (nI b)), (3, .int ((nI 1) <<< ((nI a) &&& 31))), (4, .int (nI k)), (5, .int ((nI 1) <<< ((nI a) &&& 31))), (6, .int (nI k2)), (7, .int (nI k3))] := hl
            refine lv_iload hx hb dX7_distance_53 (lv_at hl 7 rfl) ?_
            refine lv_bipush (v := nI 10) hx hb dX7_distance_55 (by decide) ?_
            refine k_icmp_ge (tgt := 100) hx hb dX7_distance_57 (by decide) (by omega) (by omega) (fun h9 => absurd h9 (by omega)) (fun _ => ?_)
            refine lv_iload_n hx hb dX7_distance_60 rfl (lv_at hl 3 rfl) ?_
            refine lv_iload hx hb dX7_distance_61 (lv_at hl 6 rfl) ?_
            refine lv_ishr hx hb dX7_distance_63 ?_
            refine lv_iconst (v := nI 1) hx hb dX7_distance_64 (by decide) ?_
            refine lv_iand hx hb dX7_distance_65 ?_
            refine k_ti (show ((((nI 1) <<< ((nI a) &&& 31)) >>> ((nI k2) &&& 31)) &&& (nI 1)) = (nI 1) from (k_reach a (by omega) k2 (by omega)).trans (if_pos hai)) ?_
            refine lv_iconst (v := nI 1) hx hb dX7_distance_66 (by decide) ?_
            refine k_icmp_ne (tgt := 100) hx hb dX7_distance_67 (by decide) (by omega) (by omega) (fun h9 => absurd h9 (by omega)) (fun _ => ?_)
            refine lv_iload hx hb dX7_distance_70 (lv_at hl 5 rfl) ?_
            refine lv_aload_n hx hb dX7_distance_72 rfl (lv_at hl 0 rfl) ?_
            refine lv_iload hx hb dX7_distance_73 (lv_at hl 6 rfl) ?_
            refine lv_iload hx hb dX7_distance_75 (lv_at hl 7 rfl) ?_
            refine k_ci (wr := []) (w1 := [(m0, .inr (7, [.ref v, .ref a1, .ref a2, .int ik, .int (nI 0), .int en])), (v, .inl (cJ, 136800, .inr (.inl (mF N))))]) (va_runV (As := [.int (nI k2), .int (nI k3)]) (rest := [.int ((nI 1) <<< ((nI a) &&& 31))]) ⟨hx, hb, hml, hown, hts⟩ (c_X7_isUp l D cI cJ cM cG m0 v a1 a2 ik (nI 0) en (mF N) k2 k3 H.size (by omega) (by omega) (fun j _ _ => mF_z (by omega))) (cwV 2 hts (kB_V (fun _ => List.mem_cons_of_mem _) q_694 q_695 q_696 q_670 (kB_c q_697)) rfl rfl rfl (by decide +kernel) ⟨Nat.le_of_ble_eq_true rfl, Nat.le_of_ble_eq_true rfl⟩) (k_preV (T := TX7) hP hD hK hKN [0, 1] rfl rfl (ci := 7) rfl (q0 := 0) rfl) rfl rfl hl.1 rfl (lv_room (Nat.le_of_ble_eq_true rfl)) dX7_distance_77 ⟨Nat.le_of_ble_eq_true rfl, Nat.le_of_ble_eq_true rfl⟩) hP hD hS hA [0, 1] [] rfl rfl rfl (by decide) (fun r77 H locs hw77 hP hD hS => ?_)
            replace hP : va_P D vwCl [(m0, .inr (7, [.ref v, .ref a1, .ref a2, .int ik, .int (nI 0), .int en])), (v, .inl (cJ, 136800, .inr (.inl (mF N))))] H := hP
            replace hD : va_D A [(m0, .inr (7, [.ref v, .ref a1, .ref a2, .int ik, .int (nI 0), .int en])), (v, .inl (cJ, 136800, .inr (.inl (mF N))))] := hD
            replace hw77 : r77 = nI 0 := hw77
            refine k_ti hw77 ?_
            refine k_if_eq (tgt := 90) hx hb dX7_distance_80 (by decide) (by omega) (fun _ => ?_) (fun h9 => absurd h9 (by omega))
            refine lv_iconst (v := nI 0) hx hb dX7_distance_90 (by decide) ?_
            refine lv_ior hx hb dX7_distance_91 ?_
            refine k_ti (show (((nI 1) <<< ((nI a) &&& 31)) ||| (nI 0)) = ((nI 1) <<< ((nI a) &&& 31)) from k_or0) ?_
            refine lv_istore (lv' := [(5, .int ((nI 1) <<< ((nI a) &&& 31))), (0, .ref m0), (1, .int (nI a)), (2, .int (nI b)), (3, .int ((nI 1) <<< ((nI a) &&& 31))), (4, .int (nI k)), (6, .int (nI k2)), (7, .int (nI k3))]) hx hb dX7_distance_92 hl (by decide) rfl (fun ls hl => ?_)
            refine lv_iinc (v := nI (k3 + 1)) (lv' := [(7, .int (nI (k3 + 1))), (5, .int ((nI 1) <<< ((nI a) &&& 31))), (0, .ref m0), (1, .int (nI a)), (2, .int (nI b)), (3, .int ((nI 1) <<< ((nI a) &&& 31))), (4, .int (nI k)), (6, .int (nI k2))]) hx hb dX7_distance_94 hl (k := 7) rfl (by exact nI_add k3 1) (by decide) rfl (fun ls hl => ?_)
            refine lv_goto (tgt := 53) hx hb dX7_distance_97 (by decide) ?_
            exact ih _ _ _ hP hD hS (lv_sub hl [2, 3, 4, 5, 6, 1, 7, 0] rfl)
        · refine lv_iload hx hb dX7_distance_53 (lv_at hl 0 rfl) ?_
          refine lv_bipush (v := nI 10) hx hb dX7_distance_55 (by decide) ?_
          refine k_icmp_ge (tgt := 100) hx hb dX7_distance_57 (by decide) (by omega) (by omega) (fun h9 => absurd h9 (by omega)) (fun _ => ?_)
          refine lv_iload_n hx hb dX7_distance_60 rfl (lv_at hl 4 rfl) ?_
          refine lv_iload hx hb dX7_distance_61 (lv_at hl 7 rfl) ?_
          refine lv_ishr hx hb dX7_distance_63 ?_
          refine lv_iconst (v := nI 1) hx hb dX7_distance_64 (by decide) ?_
          refine lv_iand hx hb dX7_distance_65 ?_
          refine k_ti (show ((((nI 1) <<< ((nI a) &&& 31)) >>> ((nI k2) &&& 31)) &&& (nI 1)) = (nI 0) from (k_reach a (by omega) k2 (by omega)).trans (if_neg hai)) ?_
          refine lv_iconst (v := nI 1) hx hb dX7_distance_66 (by decide) ?_
          refine k_icmp_ne (tgt := 100) hx hb dX7_distance_67 (by decide) (by omega) (by omega) (fun _ => ?_) (fun h9 => absurd h9 (by omega))
          refine lv_iinc (v := nI (k2 + 1)) (lv' := [(6, .int (nI (k2 + 1))), (7, .int (nI 0)), (0, .ref m0), (1, .int (nI a)), (2, .int (nI b)), (3, .int ((nI 1) <<< ((nI a) &&& 31))), (4, .int (nI k)), (5, .int ((nI 1) <<< ((nI a) &&& 31)))]) hx hb dX7_distance_100 hl (k := 7) rfl (by exact nI_add k2 1) (by decide) rfl (fun ls hl => ?_)
          refine lv_goto (tgt := 43) hx hb dX7_distance_103 (by decide) ?_
          exact ih _ _ _ hP hD hS (lv_sub hl [2, 3, 4, 5, 6, 7, 0] rfl)

set_option maxHeartbeats 4000000 in
set_option maxRecDepth 100000 in
theorem c_M_distance0 (l : Launch) (D : va_G) (cI cJ cM cG : ClassId) (m0 : Nat) (v : Nat) (a1 : Nat) (a2 : Nat) (ik : Int32) (th : Int32) (en : Int32) (N : Nat) (x : Int32) (y : Int32) (sz : Nat) (hN : N ≤ 10) (hN0 : 0 < N) (hb2 : kBad2 N x y) : Met l yX7_distance (Cond.code yX7_distance cX7_distance 8 (some .int) :: kBig) ({ frames := 3, cells := 0, slots := 0, locals := 68 }) (va_Pc [.ref m0, .int x, .int y] (kP D [(cI, .int), (cJ, .long), (cM, .object "MeshRouting$Message"), (cG, .array .int)] [(m0, .inr (7, [.ref v, .ref a1, .ref a2, .int ik, .int th, .int en])), (v, .inl (cJ, 136800, .inr (.inl (mF N))))] sz)) (va_Qi (fun (r : Int32) (_ : Unit) => r = nI 0) (fun _ t9 => kB D (va_A [(m0, .inr (7, [.ref v, .ref a1, .ref a2, .int ik, .int th, .int en])), (v, .inl (cJ, 136800, .inr (.inl (mF N))))] sz) [(m0, .inr (7, [.ref v, .ref a1, .ref a2, .int ik, .int (nI 1), .int en]))] t9) (va_A [(m0, .inr (7, [.ref v, .ref a1, .ref a2, .int ik, .int th, .int en])), (v, .inl (cJ, 136800, .inr (.inl (mF N))))] sz)) 0 0 (va_A [(m0, .inr (7, [.ref v, .ref a1, .ref a2, .int ik, .int th, .int en])), (v, .inl (cJ, 136800, .inr (.inl (mF N))))] sz) := by
  refine Met.ofW (cc := cX7_distance) (maxL := 8) (ret := (some .int)) (by decide) rfl ?_
  intro p e s m args below meth c s₁ B hml hv
  obtain ⟨rfl, hsz, hP, hK, hD0, hKN⟩ := hv
  have hx := B.exec
  have hb := B.bytes
  have hr := B.returns
  have hts := atoms_spec (ws := (Cond.code yX7_distance cX7_distance 8 (some .int) :: kBig)) B.pre
  have hown : s.vm.findClass RX7 = some m.cls := findClass_of_methodNamed B.named
  have hlocks := B.notSynchronized
  subst hsz
  have hD := hD0.self (sz := s.heap.size)
  generalize hAe : va_A [(m0, .inr (7, [.ref v, .ref a1, .ref a2, .int ik, .int th, .int en])), (v, .inl (cJ, 136800, .inr (.inl (mF N))))] s.heap.size = A at hD ⊢
  have hA : ∀ q : Nat, s.heap.size ≤ q → A q := fun q h => by rw [← hAe]; exact Or.inr h
  have hS : va_S A s.heap s.heap [] := va_S.rf
  have hl := lv_entry ([.ref m0, .int x, .int y]) (n := 8) (Nat.le_of_ble_eq_true rfl)
  rw [lg_entry_eq]
  generalize (lg_sl ([.ref m0, .int x, .int y]) ++ List.replicate (8 - (lg_sl ([.ref m0, .int x, .int y])).length) Slot.unset).toArray = ls at hl ⊢
  have hl : lv_has ls 8 [(0, .ref m0), (1, .int x), (2, .int y)] := hl
  refine lv_aload_n hx hb dX7_distance_0 rfl (lv_at hl 0 rfl) ?_
  refine lv_iload_n hx hb dX7_distance_1 rfl (lv_at hl 1 rfl) ?_
  refine lv_iload_n hx hb dX7_distance_2 rfl (lv_at hl 2 rfl) ?_
  refine k_ci (wr := []) (w1 := [(m0, .inr (7, [.ref v, .ref a1, .ref a2, .int ik, .int (nI 1), .int en])), (v, .inl (cJ, 136800, .inr (.inl (mF N))))]) (va_runV (As := [.int x, .int y]) (rest := []) ⟨hx, hb, hml, hown, hts⟩ (c_M_lacks0 l D cI cJ cM cG m0 v a1 a2 ik th en N x y s.heap.size (hN) (hN0) (hb2)) (cwV 2 hts (kB_V (fun _ => List.mem_cons_of_mem _) q_756 q_757 q_758 q_670 (kB_c q_759)) rfl rfl rfl (by decide +kernel) ⟨Nat.le_of_ble_eq_true rfl, Nat.le_of_ble_eq_true rfl⟩) (k_preV (T := TX7) hP hD hK hKN [0, 1] rfl rfl (ci := 7) rfl (q0 := 0) rfl) rfl rfl hl.1 rfl (lv_room (Nat.le_of_ble_eq_true rfl)) dX7_distance_3 ⟨Nat.le_of_ble_eq_true rfl, Nat.le_of_ble_eq_true rfl⟩) hP hD hS hA [0, 1] [] rfl rfl rfl (by decide) (fun r3 H locs hw3 hP hD hS => ?_)
  replace hP : va_P D vwCl [(m0, .inr (7, [.ref v, .ref a1, .ref a2, .int ik, .int (nI 1), .int en])), (v, .inl (cJ, 136800, .inr (.inl (mF N))))] H := hP
  replace hD : va_D A [(m0, .inr (7, [.ref v, .ref a1, .ref a2, .int ik, .int (nI 1), .int en])), (v, .inl (cJ, 136800, .inr (.inl (mF N))))] := hD
  replace hw3 : r3 = nI 1 := hw3
  refine k_ti hw3 ?_
  refine k_if_eq (tgt := 11) hx hb dX7_distance_6 (by decide) (by omega) (fun h9 => absurd h9 (by omega)) (fun _ => ?_)
  refine lv_iconst (v := nI 0) hx hb dX7_distance_9 (by decide) ?_
  have hP9 := hP.sub (ws' := [(m0, .inr (7, [.ref v, .ref a1, .ref a2, .int ik, .int (nI 1), .int en]))]) [0] rfl
  have hD9 := hD.sub (ws' := [(m0, .inr (7, [.ref v, .ref a1, .ref a2, .int ik, .int (nI 1), .int en]))]) [0] rfl rfl
  exact W.iret (v := nI 0) hx hb hr (fun t9 ht9 hW9 => ⟨⟨nI 0, (), rfl, rfl, by rw [ht9]; exact hP9, hD9⟩, hS.F ht9⟩) hS.2.2 dX7_distance_10

set_option maxHeartbeats 4000000 in
set_option maxRecDepth 100000 in
theorem c_X7_mix (l : Launch) (D : va_G) (cI cJ cM cG : ClassId) (h0 : Int64) (x : Int64) (sz : Nat)  : Met l yX7_mix (Cond.code yX7_mix cX7_mix 4 (some .long) :: kBig) ({ frames := 0, cells := 0, slots := 0, locals := 0 }) (va_Pc [.long h0, .long x] (kP D [(cI, .int), (cJ, .long), (cM, .object "MeshRouting$Message"), (cG, .array .int)] [] sz)) (va_Ql (fun (r : Int64) (_ : Unit) => r = h0 * lN 31 + x) (fun _ t9 => kB D (va_A [] sz) [] t9) (va_A [] sz)) 0 0 (va_A [] sz) := by
  refine Met.ofW (cc := cX7_mix) (maxL := 4) (ret := (some .long)) (by decide) rfl ?_
  intro p e s m args below meth c s₁ B hml hv
  obtain ⟨rfl, hsz, hP, hK, hD0, hKN⟩ := hv
  have hx := B.exec
  have hb := B.bytes
  have hr := B.returns
  have hts := atoms_spec (ws := (Cond.code yX7_mix cX7_mix 4 (some .long) :: kBig)) B.pre
  have hown : s.vm.findClass RX7 = some m.cls := findClass_of_methodNamed B.named
  have hlocks := B.notSynchronized
  subst hsz
  have hD := hD0.self (sz := s.heap.size)
  generalize hAe : va_A [] s.heap.size = A at hD ⊢
  have hA : ∀ q : Nat, s.heap.size ≤ q → A q := fun q h => by rw [← hAe]; exact Or.inr h
  have hS : va_S A s.heap s.heap [] := va_S.rf
  have hl := lv_entry ([.long h0, .long x]) (n := 4) (Nat.le_of_ble_eq_true rfl)
  rw [lg_entry_eq]
  generalize (lg_sl ([.long h0, .long x]) ++ List.replicate (4 - (lg_sl ([.long h0, .long x])).length) Slot.unset).toArray = ls at hl ⊢
  have hl : lv_has ls 4 [(0, .long h0), (2, .long x)] := hl
  refine lv_ldc2 (v := 31) hx hb hown (by exact hts (.constantLong RX7 268 (31)) (List.mem_cons_of_mem _ q_889)) dX7_mix_0 ?_
  refine k_tl (show (31) = (lN 31) from by decide) ?_
  refine lv_lload_n hx hb dX7_mix_3 rfl (lv_at hl 0 rfl) ?_
  refine lv_lmul hx hb dX7_mix_4 ?_
  refine k_tl (show ((lN 31) * h0) = (h0 * lN 31) from Int64.mul_comm _ _) ?_
  refine lv_lload_n hx hb dX7_mix_5 rfl (lv_at hl 1 rfl) ?_
  refine lv_ladd hx hb dX7_mix_6 ?_
  have hP9 := hP.sub (ws' := []) [] rfl
  have hD9 := hD.sub (ws' := []) [] rfl rfl
  exact W.lret (v := (h0 * lN 31) + x) hx hb hr (fun t9 ht9 hW9 => ⟨⟨(h0 * lN 31) + x, (), rfl, rfl, by rw [ht9]; exact hP9, hD9⟩, hS.F ht9⟩) hS.2.2 dX7_mix_7

set_option maxHeartbeats 4000000 in
set_option maxRecDepth 100000 in
theorem c_M_mixEntry (l : Launch) (D : va_G) (cI cJ cM cG : ClassId) (m0 : Nat) (v : Nat) (a1 : Nat) (a2 : Nat) (ik : Int32) (th : Int32) (en : Int32) (N : Nat) (h0 : Int64) (a : Nat) (b : Nat) (sz : Nat) (hN : N ≤ 10) (hN0 : 0 < N) (ha : a < N) (hb9 : b < N) : Met l yX7_mixEntry (Cond.code yX7_mixEntry cX7_mixEntry 9 (some .long) :: kBig) ({ frames := 2, cells := 0, slots := 0, locals := 44 }) (va_Pc [.ref m0, .long h0, .int (nI a), .int (nI b)] (kP D [(cI, .int), (cJ, .long), (cM, .object "MeshRouting$Message"), (cG, .array .int)] [(m0, .inr (7, [.ref v, .ref a1, .ref a2, .int ik, .int th, .int en])), (v, .inl (cJ, 136800, .inr (.inl (mF N))))] sz)) (va_Ql (fun (r : Int64) (_ : Unit) => r = kHc h0) (fun _ t9 => kB D (va_A [(m0, .inr (7, [.ref v, .ref a1, .ref a2, .int ik, .int th, .int en])), (v, .inl (cJ, 136800, .inr (.inl (mF N))))] sz) [(m0, .inr (7, [.ref v, .ref a1, .ref a2, .int ik, .int th, .int en])), (v, .inl (cJ, 136800, .inr (.inl (mF N))))] t9) (va_A [(m0, .inr (7, [.ref v, .ref a1, .ref a2, .int ik, .int th, .int en])), (v, .inl (cJ, 136800, .inr (.inl (mF N))))] sz)) 0 0 (va_A [(m0, .inr (7, [.ref v, .ref a1, .ref a2, .int ik, .int th, .int en])), (v, .inl (cJ, 136800, .inr (.inl (mF N))))] sz) := by
  refine Met.ofW (cc := cX7_mixEntry) (maxL := 9) (ret := (some .long)) (by decide) rfl ?_
  intro p e s m args below meth c s₁ B hml hv
  obtain ⟨rfl, hsz, hP, hK, hD0, hKN⟩ := hv
  have hx := B.exec
  have hb := B.bytes
  have hr := B.returns
  have hts := atoms_spec (ws := (Cond.code yX7_mixEntry cX7_mixEntry 9 (some .long) :: kBig)) B.pre
  have hown : s.vm.findClass RX7 = some m.cls := findClass_of_methodNamed B.named
  have hlocks := B.notSynchronized
  have hin7 : ∀ w ∈ u_ws RX7 TX7 6, w ∈ (Cond.code yX7_mixEntry cX7_mixEntry 9 (some .long) :: kBig) := fun w h => List.mem_cons_of_mem _ (inb7 w h)
  subst hsz
  have hD := hD0.self (sz := s.heap.size)
  generalize hAe : va_A [(m0, .inr (7, [.ref v, .ref a1, .ref a2, .int ik, .int th, .int en])), (v, .inl (cJ, 136800, .inr (.inl (mF N))))] s.heap.size = A at hD ⊢
  have hA : ∀ q : Nat, s.heap.size ≤ q → A q := fun q h => by rw [← hAe]; exact Or.inr h
  have hS : va_S A s.heap s.heap [] := va_S.rf
  have hl := lv_entry ([.ref m0, .long h0, .int (nI a), .int (nI b)]) (n := 9) (Nat.le_of_ble_eq_true rfl)
  rw [lg_entry_eq]
  generalize (lg_sl ([.ref m0, .long h0, .int (nI a), .int (nI b)]) ++ List.replicate (9 - (lg_sl ([.ref m0, .long h0, .int (nI a), .int (nI b)])).length) Slot.unset).toArray = ls at hl ⊢
  have hl : lv_has ls 9 [(0, .ref m0), (1, .long h0), (3, .int (nI a)), (4, .int (nI b))] := hl
  refine lv_iload_n hx hb dX7_mixEntry_0 rfl (lv_at hl 2 rfl) ?_
  refine lv_iload hx hb dX7_mixEntry_1 (lv_at hl 3 rfl) ?_
  refine k_ci (wr := [(m0, .inr (7, [.ref v, .ref a1, .ref a2, .int ik, .int th, .int en])), (v, .inl (cJ, 136800, .inr (.inl (mF N))))]) (w1 := []) (va_runS (As := [.int (nI a), .int (nI b)]) (rest := []) ⟨hx, hb, hml, hown, hts⟩ (c_X7_entry l D cI cJ cM cG a b s.heap.size) (va_cwS 2 hts (kB_S (fun _ => List.mem_cons_of_mem _) q_681 q_682 q_670 (kB_c q_683)) rfl rfl rfl (by decide +kernel) ⟨Nat.le_of_ble_eq_true rfl, Nat.le_of_ble_eq_true rfl⟩) (k_preS hP hD hK hKN [] rfl rfl) rfl rfl hl.1 rfl (lv_room (Nat.le_of_ble_eq_true rfl)) dX7_mixEntry_3 ⟨Nat.le_of_ble_eq_true rfl, Nat.le_of_ble_eq_true rfl⟩) hP hD hS hA [] [0, 1] rfl rfl rfl (by decide) (fun r3 H locs hw3 hP hD hS => ?_)
  replace hP : va_P D vwCl [(m0, .inr (7, [.ref v, .ref a1, .ref a2, .int ik, .int th, .int en])), (v, .inl (cJ, 136800, .inr (.inl (mF N))))] H := hP
  replace hD : va_D A [(m0, .inr (7, [.ref v, .ref a1, .ref a2, .int ik, .int th, .int en])), (v, .inl (cJ, 136800, .inr (.inl (mF N))))] := hD
  replace hw3 : r3 = nI (200 + 8 * (10 * a + b)) := hw3
  refine k_ti hw3 ?_
  refine lv_istore (lv' := [(5, .int (nI (200 + 8 * (10 * a + b)))), (0, .ref m0), (1, .long h0), (3, .int (nI a)), (4, .int (nI b))]) hx hb dX7_mixEntry_6 hl (by decide) rfl (fun ls hl => ?_)
  refine lv_aload_n hx hb dX7_mixEntry_8 rfl (lv_at hl 1 rfl) ?_
  refine va_get (D := D) (ci := 7) (v := .ref v) (C := RX7) (T := TX7) (N := 6) hx hb hts hin7 hown hK hP 0 rfl rfl 0 (by decide) (hts (.fieldLink RX7 8 "MeshRoutingModel" "v" "[J") (List.mem_cons_of_mem _ q_665)) (fun _ h9 => h9) rfl dX7_mixEntry_9 ?_
  refine lv_iload hx hb dX7_mixEntry_12 (lv_at hl 0 rfl) ?_
  refine lv_iconst (v := nI 0) hx hb dX7_mixEntry_14 (by decide) ?_
  refine lv_iadd hx hb dX7_mixEntry_15 ?_
  refine k_ti (show ((nI (200 + 8 * (10 * a + b))) + (nI 0)) = (nI (200 + 8 * (10 * a + b) + 0)) from nI_add _ _) ?_
  refine k_lald (v := lN 0) hx hb hK hP 1 1 rfl rfl (by omega) (by omega) ((mF_z (by omega))) dX7_mixEntry_16 ?_
  refine lv_lconst (v := lN 1) hx hb dX7_mixEntry_17 (by decide) ?_
  refine W.lcmp hx hb dX7_mixEntry_18 ?_
  refine k_lif_ne (tgt := 26) hx hb dX7_mixEntry_19 (by decide) (by omega) (by omega) (fun _ => ?_) (fun h9 => absurd h9 (by omega))
  refine lv_iconst (v := nI 0) hx hb dX7_mixEntry_26 (by decide) ?_
  refine lv_istore (lv' := [(6, .int (nI 0)), (5, .int (nI (200 + 8 * (10 * a + b)))), (0, .ref m0), (1, .long h0), (3, .int (nI a)), (4, .int (nI b))]) hx hb dX7_mixEntry_27 hl (by decide) rfl (fun ls hl => ?_)
  refine lv_lload_n hx hb dX7_mixEntry_29 rfl (lv_at hl 3 rfl) ?_
  refine lv_aload_n hx hb dX7_mixEntry_30 rfl (lv_at hl 2 rfl) ?_
  refine lv_iload_n hx hb dX7_mixEntry_31 rfl (lv_at hl 4 rfl) ?_
  refine lv_iload hx hb dX7_mixEntry_32 (lv_at hl 5 rfl) ?_
  refine k_ci (wr := []) (w1 := [(m0, .inr (7, [.ref v, .ref a1, .ref a2, .int ik, .int th, .int en])), (v, .inl (cJ, 136800, .inr (.inl (mF N))))]) (va_runV (As := [.int (nI a), .int (nI b)]) (rest := [.long h0]) ⟨hx, hb, hml, hown, hts⟩ (c_X7_isGood l D cI cJ cM cG m0 v a1 a2 ik th en (mF N) a b H.size (by omega) (by omega) (fun j _ _ => mF_z (by omega))) (cwV 2 hts (kB_V (fun _ => List.mem_cons_of_mem _) q_724 q_725 q_726 q_670 (kB_c q_727)) rfl rfl rfl (by decide +kernel) ⟨Nat.le_of_ble_eq_true rfl, Nat.le_of_ble_eq_true rfl⟩) (k_preV (T := TX7) hP hD hK hKN [0, 1] rfl rfl (ci := 7) rfl (q0 := 0) rfl) rfl rfl hl.1 rfl (lv_room (Nat.le_of_ble_eq_true rfl)) dX7_mixEntry_34 ⟨Nat.le_of_ble_eq_true rfl, Nat.le_of_ble_eq_true rfl⟩) hP hD hS hA [0, 1] [] rfl rfl rfl (by decide) (fun r34 H locs hw34 hP hD hS => ?_)
  replace hP : va_P D vwCl [(m0, .inr (7, [.ref v, .ref a1, .ref a2, .int ik, .int th, .int en])), (v, .inl (cJ, 136800, .inr (.inl (mF N))))] H := hP
  replace hD : va_D A [(m0, .inr (7, [.ref v, .ref a1, .ref a2, .int ik, .int th, .int en])), (v, .inl (cJ, 136800, .inr (.inl (mF N))))] := hD
  replace hw34 : r34 = nI 0 := hw34
  refine k_ti hw34 ?_
  refine k_if_eq (tgt := 44) hx hb dX7_mixEntry_37 (by decide) (by omega) (fun _ => ?_) (fun h9 => absurd h9 (by omega))
  refine lv_lconst (v := lN 0) hx hb dX7_mixEntry_44 (by decide) ?_
  refine k_cl (wr := [(m0, .inr (7, [.ref v, .ref a1, .ref a2, .int ik, .int th, .int en])), (v, .inl (cJ, 136800, .inr (.inl (mF N))))]) (w1 := []) (va_runS (As := [.long h0, .long (lN 0)]) (rest := []) ⟨hx, hb, hml, hown, hts⟩ (c_X7_mix l D cI cJ cM cG h0 (lN 0) H.size) (va_cwS 2 hts (kB_S (fun _ => List.mem_cons_of_mem _) q_886 q_887 q_670 (kB_c q_888)) rfl rfl rfl (by decide +kernel) ⟨Nat.le_of_ble_eq_true rfl, Nat.le_of_ble_eq_true rfl⟩) (k_preS hP hD hK hKN [] rfl rfl) rfl rfl hl.1 rfl (lv_room (Nat.le_of_ble_eq_true rfl)) dX7_mixEntry_45 ⟨Nat.le_of_ble_eq_true rfl, Nat.le_of_ble_eq_true rfl⟩) hP hD hS hA [] [0, 1] rfl rfl rfl (by decide) (fun r45 H locs hw45 hP hD hS => ?_)
  replace hP : va_P D vwCl [(m0, .inr (7, [.ref v, .ref a1, .ref a2, .int ik, .int th, .int en])), (v, .inl (cJ, 136800, .inr (.inl (mF N))))] H := hP
  replace hD : va_D A [(m0, .inr (7, [.ref v, .ref a1, .ref a2, .int ik, .int th, .int en])), (v, .inl (cJ, 136800, .inr (.inl (mF N))))] := hD
  replace hw45 : r45 = h0 * lN 31 + (lN 0) := hw45
  refine k_tl hw45 ?_
  refine lv_lstore (lv' := [(7, .long (h0 * lN 31 + (lN 0))), (6, .int (nI 0)), (5, .int (nI (200 + 8 * (10 * a + b)))), (0, .ref m0), (1, .long h0), (3, .int (nI a)), (4, .int (nI b))]) hx hb dX7_mixEntry_48 hl (by decide) rfl (fun ls hl => ?_)
  refine lv_lload hx hb dX7_mixEntry_50 (lv_at hl 0 rfl) ?_
  refine lv_iload hx hb dX7_mixEntry_52 (lv_at hl 1 rfl) ?_
  refine k_if_eq (tgt := 69) hx hb dX7_mixEntry_54 (by decide) (by omega) (fun _ => ?_) (fun h9 => absurd h9 (by omega))
  refine lv_ldc2 (v := -1) hx hb hown (by exact hts (.constantLong RX7 24 (-1)) (List.mem_cons_of_mem _ q_666)) dX7_mixEntry_69 ?_
  refine k_tl (show (-1) = ((-1)) from by decide) ?_
  refine k_cl (wr := [(m0, .inr (7, [.ref v, .ref a1, .ref a2, .int ik, .int th, .int en])), (v, .inl (cJ, 136800, .inr (.inl (mF N))))]) (w1 := []) (va_runS (As := [.long (h0 * lN 31 + (lN 0)), .long (-1)]) (rest := []) ⟨hx, hb, hml, hown, hts⟩ (c_X7_mix l D cI cJ cM cG (h0 * lN 31 + (lN 0)) (-1) H.size) (va_cwS 2 hts (kB_S (fun _ => List.mem_cons_of_mem _) q_886 q_887 q_670 (kB_c q_888)) rfl rfl rfl (by decide +kernel) ⟨Nat.le_of_ble_eq_true rfl, Nat.le_of_ble_eq_true rfl⟩) (k_preS hP hD hK hKN [] rfl rfl) rfl rfl hl.1 rfl (lv_room (Nat.le_of_ble_eq_true rfl)) dX7_mixEntry_72 ⟨Nat.le_of_ble_eq_true rfl, Nat.le_of_ble_eq_true rfl⟩) hP hD hS hA [] [0, 1] rfl rfl rfl (by decide) (fun r72 H locs hw72 hP hD hS => ?_)
  replace hP : va_P D vwCl [(m0, .inr (7, [.ref v, .ref a1, .ref a2, .int ik, .int th, .int en])), (v, .inl (cJ, 136800, .inr (.inl (mF N))))] H := hP
  replace hD : va_D A [(m0, .inr (7, [.ref v, .ref a1, .ref a2, .int ik, .int th, .int en])), (v, .inl (cJ, 136800, .inr (.inl (mF N))))] := hD
  replace hw72 : r72 = (h0 * lN 31 + (lN 0)) * lN 31 + (-1) := hw72
  refine k_tl hw72 ?_
  refine lv_lstore (lv' := [(7, .long ((h0 * lN 31 + (lN 0)) * lN 31 + (-1))), (6, .int (nI 0)), (5, .int (nI (200 + 8 * (10 * a + b)))), (0, .ref m0), (1, .long h0), (3, .int (nI a)), (4, .int (nI b))]) hx hb dX7_mixEntry_75 hl (by decide) rfl (fun ls hl => ?_)
  refine lv_lload hx hb dX7_mixEntry_77 (lv_at hl 0 rfl) ?_
  refine lv_iload hx hb dX7_mixEntry_79 (lv_at hl 1 rfl) ?_
  refine k_if_eq (tgt := 96) hx hb dX7_mixEntry_81 (by decide) (by omega) (fun _ => ?_) (fun h9 => absurd h9 (by omega))
  refine lv_ldc2 (v := -1) hx hb hown (by exact hts (.constantLong RX7 24 (-1)) (List.mem_cons_of_mem _ q_666)) dX7_mixEntry_96 ?_
  refine k_tl (show (-1) = ((-1)) from by decide) ?_
  refine k_cl (wr := [(m0, .inr (7, [.ref v, .ref a1, .ref a2, .int ik, .int th, .int en])), (v, .inl (cJ, 136800, .inr (.inl (mF N))))]) (w1 := []) (va_runS (As := [.long ((h0 * lN 31 + (lN 0)) * lN 31 + (-1)), .long (-1)]) (rest := []) ⟨hx, hb, hml, hown, hts⟩ (c_X7_mix l D cI cJ cM cG ((h0 * lN 31 + (lN 0)) * lN 31 + (-1)) (-1) H.size) (va_cwS 2 hts (kB_S (fun _ => List.mem_cons_of_mem _) q_886 q_887 q_670 (kB_c q_888)) rfl rfl rfl (by decide +kernel) ⟨Nat.le_of_ble_eq_true rfl, Nat.le_of_ble_eq_true rfl⟩) (k_preS hP hD hK hKN [] rfl rfl) rfl rfl hl.1 rfl (lv_room (Nat.le_of_ble_eq_true rfl)) dX7_mixEntry_99 ⟨Nat.le_of_ble_eq_true rfl, Nat.le_of_ble_eq_true rfl⟩) hP hD hS hA [] [0, 1] rfl rfl rfl (by decide) (fun r99 H locs hw99 hP hD hS => ?_)
  replace hP : va_P D vwCl [(m0, .inr (7, [.ref v, .ref a1, .ref a2, .int ik, .int th, .int en])), (v, .inl (cJ, 136800, .inr (.inl (mF N))))] H := hP
  replace hD : va_D A [(m0, .inr (7, [.ref v, .ref a1, .ref a2, .int ik, .int th, .int en])), (v, .inl (cJ, 136800, .inr (.inl (mF N))))] := hD
  replace hw99 : r99 = ((h0 * lN 31 + (lN 0)) * lN 31 + (-1)) * lN 31 + (-1) := hw99
  refine k_tl hw99 ?_
  refine lv_lstore (lv' := [(7, .long (((h0 * lN 31 + (lN 0)) * lN 31 + (-1)) * lN 31 + (-1))), (6, .int (nI 0)), (5, .int (nI (200 + 8 * (10 * a + b)))), (0, .ref m0), (1, .long h0), (3, .int (nI a)), (4, .int (nI b))]) hx hb dX7_mixEntry_102 hl (by decide) rfl (fun ls hl => ?_)
  refine lv_lload hx hb dX7_mixEntry_104 (lv_at hl 0 rfl) ?_
  refine lv_iload hx hb dX7_mixEntry_106 (lv_at hl 1 rfl) ?_
  refine k_if_eq (tgt := 123) hx hb dX7_mixEntry_108 (by decide) (by omega) (fun _ => ?_) (fun h9 => absurd h9 (by omega))
  refine lv_ldc2 (v := -2) hx hb hown (by exact hts (.constantLong RX7 274 (-2)) (List.mem_cons_of_mem _ q_894)) dX7_mixEntry_123 ?_
  refine k_tl (show (-2) = ((-2)) from by decide) ?_
  refine k_cl (wr := [(m0, .inr (7, [.ref v, .ref a1, .ref a2, .int ik, .int th, .int en])), (v, .inl (cJ, 136800, .inr (.inl (mF N))))]) (w1 := []) (va_runS (As := [.long (((h0 * lN 31 + (lN 0)) * lN 31 + (-1)) * lN 31 + (-1)), .long (-2)]) (rest := []) ⟨hx, hb, hml, hown, hts⟩ (c_X7_mix l D cI cJ cM cG (((h0 * lN 31 + (lN 0)) * lN 31 + (-1)) * lN 31 + (-1)) (-2) H.size) (va_cwS 2 hts (kB_S (fun _ => List.mem_cons_of_mem _) q_886 q_887 q_670 (kB_c q_888)) rfl rfl rfl (by decide +kernel) ⟨Nat.le_of_ble_eq_true rfl, Nat.le_of_ble_eq_true rfl⟩) (k_preS hP hD hK hKN [] rfl rfl) rfl rfl hl.1 rfl (lv_room (Nat.le_of_ble_eq_true rfl)) dX7_mixEntry_126 ⟨Nat.le_of_ble_eq_true rfl, Nat.le_of_ble_eq_true rfl⟩) hP hD hS hA [] [0, 1] rfl rfl rfl (by decide) (fun r126 H locs hw126 hP hD hS => ?_)
  replace hP : va_P D vwCl [(m0, .inr (7, [.ref v, .ref a1, .ref a2, .int ik, .int th, .int en])), (v, .inl (cJ, 136800, .inr (.inl (mF N))))] H := hP
  replace hD : va_D A [(m0, .inr (7, [.ref v, .ref a1, .ref a2, .int ik, .int th, .int en])), (v, .inl (cJ, 136800, .inr (.inl (mF N))))] := hD
  replace hw126 : r126 = (((h0 * lN 31 + (lN 0)) * lN 31 + (-1)) * lN 31 + (-1)) * lN 31 + (-2) := hw126
  refine k_tl hw126 ?_
  refine lv_lstore (lv' := [(7, .long ((((h0 * lN 31 + (lN 0)) * lN 31 + (-1)) * lN 31 + (-1)) * lN 31 + (-2))), (6, .int (nI 0)), (5, .int (nI (200 + 8 * (10 * a + b)))), (0, .ref m0), (1, .long h0), (3, .int (nI a)), (4, .int (nI b))]) hx hb dX7_mixEntry_129 hl (by decide) rfl (fun ls hl => ?_)
  refine lv_lload hx hb dX7_mixEntry_131 (lv_at hl 0 rfl) ?_
  refine lv_iload hx hb dX7_mixEntry_133 (lv_at hl 1 rfl) ?_
  refine k_if_eq (tgt := 150) hx hb dX7_mixEntry_135 (by decide) (by omega) (fun _ => ?_) (fun h9 => absurd h9 (by omega))
  refine lv_lconst (v := lN 0) hx hb dX7_mixEntry_150 (by decide) ?_
  refine k_cl (wr := [(m0, .inr (7, [.ref v, .ref a1, .ref a2, .int ik, .int th, .int en])), (v, .inl (cJ, 136800, .inr (.inl (mF N))))]) (w1 := []) (va_runS (As := [.long ((((h0 * lN 31 + (lN 0)) * lN 31 + (-1)) * lN 31 + (-1)) * lN 31 + (-2)), .long (lN 0)]) (rest := []) ⟨hx, hb, hml, hown, hts⟩ (c_X7_mix l D cI cJ cM cG ((((h0 * lN 31 + (lN 0)) * lN 31 + (-1)) * lN 31 + (-1)) * lN 31 + (-2)) (lN 0) H.size) (va_cwS 2 hts (kB_S (fun _ => List.mem_cons_of_mem _) q_886 q_887 q_670 (kB_c q_888)) rfl rfl rfl (by decide +kernel) ⟨Nat.le_of_ble_eq_true rfl, Nat.le_of_ble_eq_true rfl⟩) (k_preS hP hD hK hKN [] rfl rfl) rfl rfl hl.1 rfl (lv_room (Nat.le_of_ble_eq_true rfl)) dX7_mixEntry_151 ⟨Nat.le_of_ble_eq_true rfl, Nat.le_of_ble_eq_true rfl⟩) hP hD hS hA [] [0, 1] rfl rfl rfl (by decide) (fun r151 H locs hw151 hP hD hS => ?_)
  replace hP : va_P D vwCl [(m0, .inr (7, [.ref v, .ref a1, .ref a2, .int ik, .int th, .int en])), (v, .inl (cJ, 136800, .inr (.inl (mF N))))] H := hP
  replace hD : va_D A [(m0, .inr (7, [.ref v, .ref a1, .ref a2, .int ik, .int th, .int en])), (v, .inl (cJ, 136800, .inr (.inl (mF N))))] := hD
  replace hw151 : r151 = ((((h0 * lN 31 + (lN 0)) * lN 31 + (-1)) * lN 31 + (-1)) * lN 31 + (-2)) * lN 31 + (lN 0) := hw151
  refine k_tl hw151 ?_
  refine lv_lstore (lv' := [(7, .long (((((h0 * lN 31 + (lN 0)) * lN 31 + (-1)) * lN 31 + (-1)) * lN 31 + (-2)) * lN 31 + (lN 0))), (6, .int (nI 0)), (5, .int (nI (200 + 8 * (10 * a + b)))), (0, .ref m0), (1, .long h0), (3, .int (nI a)), (4, .int (nI b))]) hx hb dX7_mixEntry_154 hl (by decide) rfl (fun ls hl => ?_)
  refine lv_lload hx hb dX7_mixEntry_156 (lv_at hl 0 rfl) ?_
  refine lv_aload_n hx hb dX7_mixEntry_158 rfl (lv_at hl 3 rfl) ?_
  refine va_get (D := D) (ci := 7) (v := .ref v) (C := RX7) (T := TX7) (N := 6) hx hb hts hin7 hown hK hP 0 rfl rfl 0 (by decide) (hts (.fieldLink RX7 8 "MeshRoutingModel" "v" "[J") (List.mem_cons_of_mem _ q_665)) (fun _ h9 => h9) rfl dX7_mixEntry_159 ?_
  refine lv_iload_n hx hb dX7_mixEntry_162 rfl (lv_at hl 5 rfl) ?_
  refine lv_iload hx hb dX7_mixEntry_163 (lv_at hl 6 rfl) ?_
  refine k_ci (wr := [(m0, .inr (7, [.ref v, .ref a1, .ref a2, .int ik, .int th, .int en])), (v, .inl (cJ, 136800, .inr (.inl (mF N))))]) (w1 := []) (va_runS (As := [.int (nI a), .int (nI b)]) (rest := [.ref v, .long (((((h0 * lN 31 + (lN 0)) * lN 31 + (-1)) * lN 31 + (-1)) * lN 31 + (-2)) * lN 31 + (lN 0))]) ⟨hx, hb, hml, hown, hts⟩ (c_X7_search l D cI cJ cM cG a b H.size) (va_cwS 2 hts (kB_S (fun _ => List.mem_cons_of_mem _) q_703 q_704 q_670 (kB_c q_705)) rfl rfl rfl (by decide +kernel) ⟨Nat.le_of_ble_eq_true rfl, Nat.le_of_ble_eq_true rfl⟩) (k_preS hP hD hK hKN [] rfl rfl) rfl rfl hl.1 rfl (lv_room (Nat.le_of_ble_eq_true rfl)) dX7_mixEntry_165 ⟨Nat.le_of_ble_eq_true rfl, Nat.le_of_ble_eq_true rfl⟩) hP hD hS hA [] [0, 1] rfl rfl rfl (by decide) (fun r165 H locs hw165 hP hD hS => ?_)
  replace hP : va_P D vwCl [(m0, .inr (7, [.ref v, .ref a1, .ref a2, .int ik, .int th, .int en])), (v, .inl (cJ, 136800, .inr (.inl (mF N))))] H := hP
  replace hD : va_D A [(m0, .inr (7, [.ref v, .ref a1, .ref a2, .int ik, .int th, .int en])), (v, .inl (cJ, 136800, .inr (.inl (mF N))))] := hD
  replace hw165 : r165 = nI (1000 + 4 * (10 * a + b)) := hw165
  refine k_ti hw165 ?_
  refine lv_iconst (v := nI 0) hx hb dX7_mixEntry_168 (by decide) ?_
  refine lv_iadd hx hb dX7_mixEntry_169 ?_
  refine k_ti (show ((nI (1000 + 4 * (10 * a + b))) + (nI 0)) = (nI (1000 + 4 * (10 * a + b) + 0)) from nI_add _ _) ?_
  refine k_lald (v := lN 0) hx hb hK hP 1 1 rfl rfl (by omega) (by omega) ((mF_z (by omega))) dX7_mixEntry_170 ?_
  refine k_cl (wr := [(m0, .inr (7, [.ref v, .ref a1, .ref a2, .int ik, .int th, .int en])), (v, .inl (cJ, 136800, .inr (.inl (mF N))))]) (w1 := []) (va_runS (As := [.long (((((h0 * lN 31 + (lN 0)) * lN 31 + (-1)) * lN 31 + (-1)) * lN 31 + (-2)) * lN 31 + (lN 0)), .long (lN 0)]) (rest := []) ⟨hx, hb, hml, hown, hts⟩ (c_X7_mix l D cI cJ cM cG (((((h0 * lN 31 + (lN 0)) * lN 31 + (-1)) * lN 31 + (-1)) * lN 31 + (-2)) * lN 31 + (lN 0)) (lN 0) H.size) (va_cwS 2 hts (kB_S (fun _ => List.mem_cons_of_mem _) q_886 q_887 q_670 (kB_c q_888)) rfl rfl rfl (by decide +kernel) ⟨Nat.le_of_ble_eq_true rfl, Nat.le_of_ble_eq_true rfl⟩) (k_preS hP hD hK hKN [] rfl rfl) rfl rfl hl.1 rfl (lv_room (Nat.le_of_ble_eq_true rfl)) dX7_mixEntry_171 ⟨Nat.le_of_ble_eq_true rfl, Nat.le_of_ble_eq_true rfl⟩) hP hD hS hA [] [0, 1] rfl rfl rfl (by decide) (fun r171 H locs hw171 hP hD hS => ?_)
  replace hP : va_P D vwCl [(m0, .inr (7, [.ref v, .ref a1, .ref a2, .int ik, .int th, .int en])), (v, .inl (cJ, 136800, .inr (.inl (mF N))))] H := hP
  replace hD : va_D A [(m0, .inr (7, [.ref v, .ref a1, .ref a2, .int ik, .int th, .int en])), (v, .inl (cJ, 136800, .inr (.inl (mF N))))] := hD
  replace hw171 : r171 = (((((h0 * lN 31 + (lN 0)) * lN 31 + (-1)) * lN 31 + (-1)) * lN 31 + (-2)) * lN 31 + (lN 0)) * lN 31 + (lN 0) := hw171
  refine k_tl hw171 ?_
  refine lv_lstore (lv' := [(7, .long ((((((h0 * lN 31 + (lN 0)) * lN 31 + (-1)) * lN 31 + (-1)) * lN 31 + (-2)) * lN 31 + (lN 0)) * lN 31 + (lN 0))), (6, .int (nI 0)), (5, .int (nI (200 + 8 * (10 * a + b)))), (0, .ref m0), (1, .long h0), (3, .int (nI a)), (4, .int (nI b))]) hx hb dX7_mixEntry_174 hl (by decide) rfl (fun ls hl => ?_)
  refine lv_lload hx hb dX7_mixEntry_176 (lv_at hl 0 rfl) ?_
  refine lv_aload_n hx hb dX7_mixEntry_178 rfl (lv_at hl 3 rfl) ?_
  refine va_get (D := D) (ci := 7) (v := .ref v) (C := RX7) (T := TX7) (N := 6) hx hb hts hin7 hown hK hP 0 rfl rfl 0 (by decide) (hts (.fieldLink RX7 8 "MeshRoutingModel" "v" "[J") (List.mem_cons_of_mem _ q_665)) (fun _ h9 => h9) rfl dX7_mixEntry_179 ?_
  refine lv_iload_n hx hb dX7_mixEntry_182 rfl (lv_at hl 5 rfl) ?_
  refine lv_iload hx hb dX7_mixEntry_183 (lv_at hl 6 rfl) ?_
  refine k_ci (wr := [(m0, .inr (7, [.ref v, .ref a1, .ref a2, .int ik, .int th, .int en])), (v, .inl (cJ, 136800, .inr (.inl (mF N))))]) (w1 := []) (va_runS (As := [.int (nI a), .int (nI b)]) (rest := [.ref v, .long ((((((h0 * lN 31 + (lN 0)) * lN 31 + (-1)) * lN 31 + (-1)) * lN 31 + (-2)) * lN 31 + (lN 0)) * lN 31 + (lN 0))]) ⟨hx, hb, hml, hown, hts⟩ (c_X7_buffer l D cI cJ cM cG a b H.size) (va_cwS 2 hts (kB_S (fun _ => List.mem_cons_of_mem _) q_741 q_742 q_670 (kB_c q_743)) rfl rfl rfl (by decide +kernel) ⟨Nat.le_of_ble_eq_true rfl, Nat.le_of_ble_eq_true rfl⟩) (k_preS hP hD hK hKN [] rfl rfl) rfl rfl hl.1 rfl (lv_room (Nat.le_of_ble_eq_true rfl)) dX7_mixEntry_185 ⟨Nat.le_of_ble_eq_true rfl, Nat.le_of_ble_eq_true rfl⟩) hP hD hS hA [] [0, 1] rfl rfl rfl (by decide) (fun r185 H locs hw185 hP hD hS => ?_)
  replace hP : va_P D vwCl [(m0, .inr (7, [.ref v, .ref a1, .ref a2, .int ik, .int th, .int en])), (v, .inl (cJ, 136800, .inr (.inl (mF N))))] H := hP
  replace hD : va_D A [(m0, .inr (7, [.ref v, .ref a1, .ref a2, .int ik, .int th, .int en])), (v, .inl (cJ, 136800, .inr (.inl (mF N))))] := hD
  replace hw185 : r185 = nI (1400 + 9 * (10 * a + b)) := hw185
  refine k_ti hw185 ?_
  refine k_lald (v := lN 0) hx hb hK hP 1 1 rfl rfl (by omega) (by omega) ((mF_z (by omega))) dX7_mixEntry_188 ?_
  refine k_cl (wr := [(m0, .inr (7, [.ref v, .ref a1, .ref a2, .int ik, .int th, .int en])), (v, .inl (cJ, 136800, .inr (.inl (mF N))))]) (w1 := []) (va_runS (As := [.long ((((((h0 * lN 31 + (lN 0)) * lN 31 + (-1)) * lN 31 + (-1)) * lN 31 + (-2)) * lN 31 + (lN 0)) * lN 31 + (lN 0)), .long (lN 0)]) (rest := []) ⟨hx, hb, hml, hown, hts⟩ (c_X7_mix l D cI cJ cM cG ((((((h0 * lN 31 + (lN 0)) * lN 31 + (-1)) * lN 31 + (-1)) * lN 31 + (-2)) * lN 31 + (lN 0)) * lN 31 + (lN 0)) (lN 0) H.size) (va_cwS 2 hts (kB_S (fun _ => List.mem_cons_of_mem _) q_886 q_887 q_670 (kB_c q_888)) rfl rfl rfl (by decide +kernel) ⟨Nat.le_of_ble_eq_true rfl, Nat.le_of_ble_eq_true rfl⟩) (k_preS hP hD hK hKN [] rfl rfl) rfl rfl hl.1 rfl (lv_room (Nat.le_of_ble_eq_true rfl)) dX7_mixEntry_189 ⟨Nat.le_of_ble_eq_true rfl, Nat.le_of_ble_eq_true rfl⟩) hP hD hS hA [] [0, 1] rfl rfl rfl (by decide) (fun r189 H locs hw189 hP hD hS => ?_)
  replace hP : va_P D vwCl [(m0, .inr (7, [.ref v, .ref a1, .ref a2, .int ik, .int th, .int en])), (v, .inl (cJ, 136800, .inr (.inl (mF N))))] H := hP
  replace hD : va_D A [(m0, .inr (7, [.ref v, .ref a1, .ref a2, .int ik, .int th, .int en])), (v, .inl (cJ, 136800, .inr (.inl (mF N))))] := hD
  replace hw189 : r189 = ((((((h0 * lN 31 + (lN 0)) * lN 31 + (-1)) * lN 31 + (-1)) * lN 31 + (-2)) * lN 31 + (lN 0)) * lN 31 + (lN 0)) * lN 31 + (lN 0) := hw189
  refine k_tl hw189 ?_
  have hP9 := hP.sub (ws' := [(m0, .inr (7, [.ref v, .ref a1, .ref a2, .int ik, .int th, .int en])), (v, .inl (cJ, 136800, .inr (.inl (mF N))))]) [0, 1] rfl
  have hD9 := hD.sub (ws' := [(m0, .inr (7, [.ref v, .ref a1, .ref a2, .int ik, .int th, .int en])), (v, .inl (cJ, 136800, .inr (.inl (mF N))))]) [0, 1] rfl rfl
  exact W.lret (v := ((((((h0 * lN 31 + (lN 0)) * lN 31 + (-1)) * lN 31 + (-1)) * lN 31 + (-2)) * lN 31 + (lN 0)) * lN 31 + (lN 0)) * lN 31 + (lN 0)) hx hb hr (fun t9 ht9 hW9 => ⟨⟨((((((h0 * lN 31 + (lN 0)) * lN 31 + (-1)) * lN 31 + (-1)) * lN 31 + (-2)) * lN 31 + (lN 0)) * lN 31 + (lN 0)) * lN 31 + (lN 0), (), rfl, rfl, by rw [ht9]; exact hP9, hD9⟩, hS.F ht9⟩) hS.2.2 dX7_mixEntry_192

set_option maxHeartbeats 4000000 in
set_option maxRecDepth 100000 in
theorem c_M_fingerprint (l : Launch) (D : va_G) (cI cJ cM cG : ClassId) (m0 : Nat) (v : Nat) (a1 : Nat) (a2 : Nat) (ik : Int32) (th : Int32) (en : Int32) (N : Nat) (sz : Nat) (hN : N ≤ 10) (hN0 : 0 < N) : Met l yX7_fingerprint (Cond.code yX7_fingerprint cX7_fingerprint 5 (some .long) :: kBig) ({ frames := 3, cells := 0, slots := 0, locals := 72 }) (va_Pc [.ref m0] (kP D [(cI, .int), (cJ, .long), (cM, .object "MeshRouting$Message"), (cG, .array .int)] [(m0, .inr (7, [.ref v, .ref a1, .ref a2, .int ik, .int th, .int en])), (v, .inl (cJ, 136800, .inr (.inl (mF N))))] sz)) (va_Ql (fun (r : Int64) (_ : Unit) => r = kFp N) (fun _ t9 => kB D (va_A [(m0, .inr (7, [.ref v, .ref a1, .ref a2, .int ik, .int th, .int en])), (v, .inl (cJ, 136800, .inr (.inl (mF N))))] sz) [(m0, .inr (7, [.ref v, .ref a1, .ref a2, .int ik, .int (nI 0), .int en]))] t9) (va_A [(m0, .inr (7, [.ref v, .ref a1, .ref a2, .int ik, .int th, .int en])), (v, .inl (cJ, 136800, .inr (.inl (mF N))))] sz)) 0 0 (va_A [(m0, .inr (7, [.ref v, .ref a1, .ref a2, .int ik, .int th, .int en])), (v, .inl (cJ, 136800, .inr (.inl (mF N))))] sz) := by
  refine Met.ofW (cc := cX7_fingerprint) (maxL := 5) (ret := (some .long)) (by decide) rfl ?_
  intro p e s m args below meth c s₁ B hml hv
  obtain ⟨rfl, hsz, hP, hK, hD0, hKN⟩ := hv
  have hx := B.exec
  have hb := B.bytes
  have hr := B.returns
  have hts := atoms_spec (ws := (Cond.code yX7_fingerprint cX7_fingerprint 5 (some .long) :: kBig)) B.pre
  have hown : s.vm.findClass RX7 = some m.cls := findClass_of_methodNamed B.named
  have hlocks := B.notSynchronized
  have hin7 : ∀ w ∈ u_ws RX7 TX7 6, w ∈ (Cond.code yX7_fingerprint cX7_fingerprint 5 (some .long) :: kBig) := fun w h => List.mem_cons_of_mem _ (inb7 w h)
  subst hsz
  have hD := hD0.self (sz := s.heap.size)
  generalize hAe : va_A [(m0, .inr (7, [.ref v, .ref a1, .ref a2, .int ik, .int th, .int en])), (v, .inl (cJ, 136800, .inr (.inl (mF N))))] s.heap.size = A at hD ⊢
  have hA : ∀ q : Nat, s.heap.size ≤ q → A q := fun q h => by rw [← hAe]; exact Or.inr h
  have hS : va_S A s.heap s.heap [] := va_S.rf
  have hl := lv_entry ([.ref m0]) (n := 5) (Nat.le_of_ble_eq_true rfl)
  rw [lg_entry_eq]
  generalize (lg_sl ([.ref m0]) ++ List.replicate (5 - (lg_sl ([.ref m0])).length) Slot.unset).toArray = ls at hl ⊢
  have hl : lv_has ls 5 [(0, .ref m0)] := hl
  refine lv_aload_n hx hb dX7_fingerprint_0 rfl (lv_at hl 0 rfl) ?_
  refine lv_iconst (v := nI 0) hx hb dX7_fingerprint_1 (by decide) ?_
  refine va_put (D := D) (ci := 7) (v := .int (nI 0)) (ty := .int) (C := RX7) (T := TX7) (N := 6) hx hb hts hin7 tyX7 tyX7_ok nmX7 hown hK hP hD hS 0 rfl rfl 4 (by decide) (hts (.fieldLink RX7 34 "MeshRoutingModel" "thrown" "I") (List.mem_cons_of_mem _ q_760)) (fun _ h9 => h9) rfl (by decide +kernel) rfl rfl (Nat.le_of_ble_eq_true rfl) dX7_fingerprint_2 (fun H locs hP hD hS => ?_)
  replace hP : va_P D vwCl [(m0, .inr (7, [.ref v, .ref a1, .ref a2, .int ik, .int (nI 0), .int en])), (v, .inl (cJ, 136800, .inr (.inl (mF N))))] H := hP
  replace hD : va_D A [(m0, .inr (7, [.ref v, .ref a1, .ref a2, .int ik, .int (nI 0), .int en])), (v, .inl (cJ, 136800, .inr (.inl (mF N))))] := hD
  refine lv_ldc2 (v := 29) hx hb hown (by exact hts (.constantLong RX7 276 (29)) (List.mem_cons_of_mem _ q_885)) dX7_fingerprint_5 ?_
  refine k_tl (show (29) = (lN 29) from by decide) ?_
  refine lv_aload_n hx hb dX7_fingerprint_8 rfl (lv_at hl 0 rfl) ?_
  refine va_get (D := D) (ci := 7) (v := .ref v) (C := RX7) (T := TX7) (N := 6) hx hb hts hin7 hown hK hP 0 rfl rfl 0 (by decide) (hts (.fieldLink RX7 8 "MeshRoutingModel" "v" "[J") (List.mem_cons_of_mem _ q_665)) (fun _ h9 => h9) rfl dX7_fingerprint_9 ?_
  refine lv_iconst (v := nI 0) hx hb dX7_fingerprint_12 (by decide) ?_
  refine k_lald (v := lN 0) hx hb hK hP 1 1 rfl rfl (by omega) (by omega) ((mF_o (by omega) (by omega) (by omega))) dX7_fingerprint_13 ?_
  refine k_cl (wr := [(m0, .inr (7, [.ref v, .ref a1, .ref a2, .int ik, .int (nI 0), .int en])), (v, .inl (cJ, 136800, .inr (.inl (mF N))))]) (w1 := []) (va_runS (As := [.long (lN 29), .long (lN 0)]) (rest := []) ⟨hx, hb, hml, hown, hts⟩ (c_X7_mix l D cI cJ cM cG (lN 29) (lN 0) H.size) (va_cwS 2 hts (kB_S (fun _ => List.mem_cons_of_mem _) q_886 q_887 q_670 (kB_c q_888)) rfl rfl rfl (by decide +kernel) ⟨Nat.le_of_ble_eq_true rfl, Nat.le_of_ble_eq_true rfl⟩) (k_preS hP hD hK hKN [] rfl rfl) rfl rfl hl.1 rfl (lv_room (Nat.le_of_ble_eq_true rfl)) dX7_fingerprint_14 ⟨Nat.le_of_ble_eq_true rfl, Nat.le_of_ble_eq_true rfl⟩) hP hD hS hA [] [0, 1] rfl rfl rfl (by decide) (fun r14 H locs hw14 hP hD hS => ?_)
  replace hP : va_P D vwCl [(m0, .inr (7, [.ref v, .ref a1, .ref a2, .int ik, .int (nI 0), .int en])), (v, .inl (cJ, 136800, .inr (.inl (mF N))))] H := hP
  replace hD : va_D A [(m0, .inr (7, [.ref v, .ref a1, .ref a2, .int ik, .int (nI 0), .int en])), (v, .inl (cJ, 136800, .inr (.inl (mF N))))] := hD
  replace hw14 : r14 = (lN 29) * lN 31 + (lN 0) := hw14
  refine k_tl hw14 ?_
  refine k_tl (show ((lN 29) * lN 31 + (lN 0)) = (lN 899) from by decide) ?_
  refine lv_lstore_n (lv' := [(1, .long (lN 899)), (0, .ref m0)]) hx hb dX7_fingerprint_17 rfl hl (by decide) rfl (fun ls hl => ?_)
  refine lv_iconst (v := nI 0) hx hb dX7_fingerprint_18 (by decide) ?_
  refine lv_istore_n (lv' := [(3, .int (nI 0)), (1, .long (lN 899)), (0, .ref m0)]) hx hb dX7_fingerprint_19 rfl hl (by decide) rfl (fun ls hl => ?_)
  replace hl : lv_has ls 5 [(3, .int (nI 0)), (1, .long (kIt 0 (lN 899))), (0, .ref m0)] := hl
  refine k_loop (nL := 5) (wf := fun k => [(m0, .inr (7, [.ref v, .ref a1, .ref a2, .int ik, .int (nI 0), .int en])), (v, .inl (cJ, 136800, .inr (.inl (mF N))))]) (lvf := fun k => [(0, .ref m0), (1, .long (kIt k (lN 899))), (3, .int (nI k))]) (B := 8) 0 (Nat.zero_le _) hP hD hS (lv_sub hl [2, 1, 0] rfl) (fun H locs ls hP hD hS hl => ?_) (fun k hk9 hk ih H locs ls hP hD hS hl => ?_)
  · replace hP : va_P D vwCl [(m0, .inr (7, [.ref v, .ref a1, .ref a2, .int ik, .int (nI 0), .int en])), (v, .inl (cJ, 136800, .inr (.inl (mF N))))] H := hP
    replace hD : va_D A [(m0, .inr (7, [.ref v, .ref a1, .ref a2, .int ik, .int (nI 0), .int en])), (v, .inl (cJ, 136800, .inr (.inl (mF N))))] := hD
    replace hl : lv_has ls 5 [(0, .ref m0), (1, .long (kIt 8 (lN 899))), (3, .int (nI 8))] := hl
    refine lv_iload_n hx hb dX7_fingerprint_20 rfl (lv_at hl 2 rfl) ?_
    refine lv_bipush (v := nI 8) hx hb dX7_fingerprint_21 (by decide) ?_
    refine k_icmp_ge (tgt := 45) hx hb dX7_fingerprint_23 (by decide) (by omega) (by omega) (fun _ => ?_) (fun h9 => absurd h9 (by omega))
    refine lv_iconst (v := nI 0) hx hb dX7_fingerprint_45 (by decide) ?_
    refine lv_istore_n (lv' := [(3, .int (nI 0)), (0, .ref m0), (1, .long (kIt 8 (lN 899)))]) hx hb dX7_fingerprint_46 rfl hl (by decide) rfl (fun ls hl => ?_)
    replace hl : lv_has ls 5 [(3, .int (nI 0)), (0, .ref m0), (1, .long (kHall N 0 (kIt 8 (lN 899))))] := hl
    refine k_loop (nL := 5) (wf := fun k => [(m0, .inr (7, [.ref v, .ref a1, .ref a2, .int ik, .int (nI 0), .int en])), (v, .inl (cJ, 136800, .inr (.inl (mF N))))]) (lvf := fun k => [(0, .ref m0), (1, .long (kHall N k (kIt 8 (lN 899)))), (3, .int (nI k))]) (B := N) 0 (Nat.zero_le _) hP hD hS (lv_sub hl [1, 2, 0] rfl) (fun H locs ls hP hD hS hl => ?_) (fun k hk9 hk ih H locs ls hP hD hS hl => ?_)
    · replace hP : va_P D vwCl [(m0, .inr (7, [.ref v, .ref a1, .ref a2, .int ik, .int (nI 0), .int en])), (v, .inl (cJ, 136800, .inr (.inl (mF N))))] H := hP
      replace hD : va_D A [(m0, .inr (7, [.ref v, .ref a1, .ref a2, .int ik, .int (nI 0), .int en])), (v, .inl (cJ, 136800, .inr (.inl (mF N))))] := hD
      replace hl : lv_has ls 5 [(0, .ref m0), (1, .long (kHall N N (kIt 8 (lN 899)))), (3, .int (nI N))] := hl
      refine lv_iload_n hx hb dX7_fingerprint_47 rfl (lv_at hl 2 rfl) ?_
      refine lv_i2l (v := lN N) hx hb dX7_fingerprint_48 (by exact nI_l (by omega)) ?_
      refine lv_aload_n hx hb dX7_fingerprint_49 rfl (lv_at hl 0 rfl) ?_
      refine va_get (D := D) (ci := 7) (v := .ref v) (C := RX7) (T := TX7) (N := 6) hx hb hts hin7 hown hK hP 0 rfl rfl 0 (by decide) (hts (.fieldLink RX7 8 "MeshRoutingModel" "v" "[J") (List.mem_cons_of_mem _ q_665)) (fun _ h9 => h9) rfl dX7_fingerprint_50 ?_
      refine lv_iconst (v := nI 1) hx hb dX7_fingerprint_53 (by decide) ?_
      refine k_lald (v := lN N) hx hb hK hP 1 1 rfl rfl (by omega) (by omega) (mF_1) dX7_fingerprint_54 ?_
      refine W.lcmp hx hb dX7_fingerprint_55 ?_
      refine k_lif_ge (tgt := 106) hx hb dX7_fingerprint_56 (by decide) (by omega) (by omega) (fun _ => ?_) (fun h9 => absurd h9 (by omega))
      refine lv_iconst (v := nI 0) hx hb dX7_fingerprint_106 (by decide) ?_
      refine lv_istore_n (lv' := [(3, .int (nI 0)), (0, .ref m0), (1, .long (kHall N N (kIt 8 (lN 899))))]) hx hb dX7_fingerprint_107 rfl hl (by decide) rfl (fun ls hl => ?_)
      replace hl : lv_has ls 5 [(3, .int (nI 0)), (0, .ref m0), (1, .long (kIt 0 (kHall N N (kIt 8 (lN 899)))))] := hl
      refine k_loop (nL := 5) (wf := fun k => [(m0, .inr (7, [.ref v, .ref a1, .ref a2, .int ik, .int (nI 0), .int en])), (v, .inl (cJ, 136800, .inr (.inl (mF N))))]) (lvf := fun k => [(0, .ref m0), (1, .long (kIt k (kHall N N (kIt 8 (lN 899))))), (3, .int (nI k))]) (B := N) 0 (Nat.zero_le _) hP hD hS (lv_sub hl [1, 2, 0] rfl) (fun H locs ls hP hD hS hl => ?_) (fun k hk9 hk ih H locs ls hP hD hS hl => ?_)
      · replace hP : va_P D vwCl [(m0, .inr (7, [.ref v, .ref a1, .ref a2, .int ik, .int (nI 0), .int en])), (v, .inl (cJ, 136800, .inr (.inl (mF N))))] H := hP
        replace hD : va_D A [(m0, .inr (7, [.ref v, .ref a1, .ref a2, .int ik, .int (nI 0), .int en])), (v, .inl (cJ, 136800, .inr (.inl (mF N))))] := hD
        replace hl : lv_has ls 5 [(0, .ref m0), (1, .long (kIt N (kHall N N (kIt 8 (lN 899))))), (3, .int (nI N))] := hl
        refine lv_iload_n hx hb dX7_fingerprint_108 rfl (lv_at hl 2 rfl) ?_
        refine lv_i2l (v := lN N) hx hb dX7_fingerprint_109 (by exact nI_l (by omega)) ?_
        refine lv_aload_n hx hb dX7_fingerprint_110 rfl (lv_at hl 0 rfl) ?_
        refine va_get (D := D) (ci := 7) (v := .ref v) (C := RX7) (T := TX7) (N := 6) hx hb hts hin7 hown hK hP 0 rfl rfl 0 (by decide) (hts (.fieldLink RX7 8 "MeshRoutingModel" "v" "[J") (List.mem_cons_of_mem _ q_665)) (fun _ h9 => h9) rfl dX7_fingerprint_111 ?_
        refine lv_iconst (v := nI 1) hx hb dX7_fingerprint_114 (by decide) ?_
        refine k_lald (v := lN N) hx hb hK hP 1 1 rfl rfl (by omega) (by omega) (mF_1) dX7_fingerprint_115 ?_
        refine W.lcmp hx hb dX7_fingerprint_116 ?_
        refine k_lif_ge (tgt := 140) hx hb dX7_fingerprint_117 (by decide) (by omega) (by omega) (fun _ => ?_) (fun h9 => absurd h9 (by omega))
        refine lv_iconst (v := nI 0) hx hb dX7_fingerprint_140 (by decide) ?_
        refine lv_istore_n (lv' := [(3, .int (nI 0)), (0, .ref m0), (1, .long (kIt N (kHall N N (kIt 8 (lN 899)))))]) hx hb dX7_fingerprint_141 rfl hl (by decide) rfl (fun ls hl => ?_)
        replace hl : lv_has ls 5 [(3, .int (nI 0)), (0, .ref m0), (1, .long (kIt (N + 0) (kHall N N (kIt 8 (lN 899)))))] := hl
        refine k_loop (nL := 5) (wf := fun k => [(m0, .inr (7, [.ref v, .ref a1, .ref a2, .int ik, .int (nI 0), .int en])), (v, .inl (cJ, 136800, .inr (.inl (mF N))))]) (lvf := fun k => [(0, .ref m0), (1, .long (kIt (N + k) (kHall N N (kIt 8 (lN 899))))), (3, .int (nI k))]) (B := 4) 0 (Nat.zero_le _) hP hD hS (lv_sub hl [1, 2, 0] rfl) (fun H locs ls hP hD hS hl => ?_) (fun k hk9 hk ih H locs ls hP hD hS hl => ?_)
        · replace hP : va_P D vwCl [(m0, .inr (7, [.ref v, .ref a1, .ref a2, .int ik, .int (nI 0), .int en])), (v, .inl (cJ, 136800, .inr (.inl (mF N))))] H := hP
          replace hD : va_D A [(m0, .inr (7, [.ref v, .ref a1, .ref a2, .int ik, .int (nI 0), .int en])), (v, .inl (cJ, 136800, .inr (.inl (mF N))))] := hD
          replace hl : lv_has ls 5 [(0, .ref m0), (1, .long (kIt (N + 4) (kHall N N (kIt 8 (lN 899))))), (3, .int (nI 4))] := hl
          refine lv_iload_n hx hb dX7_fingerprint_142 rfl (lv_at hl 2 rfl) ?_
          refine lv_iconst (v := nI 4) hx hb dX7_fingerprint_143 (by decide) ?_
          refine k_icmp_ge (tgt := 164) hx hb dX7_fingerprint_144 (by decide) (by omega) (by omega) (fun _ => ?_) (fun h9 => absurd h9 (by omega))
          refine lv_lload_n hx hb dX7_fingerprint_164 rfl (lv_at hl 1 rfl) ?_
          have hP9 := hP.sub (ws' := [(m0, .inr (7, [.ref v, .ref a1, .ref a2, .int ik, .int (nI 0), .int en]))]) [0] rfl
          have hD9 := hD.sub (ws' := [(m0, .inr (7, [.ref v, .ref a1, .ref a2, .int ik, .int (nI 0), .int en]))]) [0] rfl rfl
          exact W.lret (v := kIt (N + 4) (kHall N N (kIt 8 (lN 899)))) hx hb hr (fun t9 ht9 hW9 => ⟨⟨kIt (N + 4) (kHall N N (kIt 8 (lN 899))), (), rfl, rfl, by rw [ht9]; exact hP9, hD9⟩, hS.F ht9⟩) hS.2.2 dX7_fingerprint_165
        · replace hP : va_P D vwCl [(m0, .inr (7, [.ref v, .ref a1, .ref a2, .int ik, .int (nI 0), .int en])), (v, .inl (cJ, 136800, .inr (.inl (mF N))))] H := hP
          replace hD : va_D A [(m0, .inr (7, [.ref v, .ref a1, .ref a2, .int ik, .int (nI 0), .int en])), (v, .inl (cJ, 136800, .inr (.inl (mF N))))] := hD
          replace hl : lv_has ls 5 [(0, .ref m0), (1, .long (kIt (N + k) (kHall N N (kIt 8 (lN 899))))), (3, .int (nI k))] := hl
          refine lv_iload_n hx hb dX7_fingerprint_142 rfl (lv_at hl 2 rfl) ?_
          refine lv_iconst (v := nI 4) hx hb dX7_fingerprint_143 (by decide) ?_
          refine k_icmp_ge (tgt := 164) hx hb dX7_fingerprint_144 (by decide) (by omega) (by omega) (fun h9 => absurd h9 (by omega)) (fun _ => ?_)
          refine lv_lload_n hx hb dX7_fingerprint_147 rfl (lv_at hl 1 rfl) ?_
          refine lv_aload_n hx hb dX7_fingerprint_148 rfl (lv_at hl 0 rfl) ?_
          refine lv_iload_n hx hb dX7_fingerprint_149 rfl (lv_at hl 2 rfl) ?_
          refine k_ci (wr := []) (w1 := [(m0, .inr (7, [.ref v, .ref a1, .ref a2, .int ik, .int (nI 0), .int en])), (v, .inl (cJ, 136800, .inr (.inl (mF N))))]) (va_runV (As := [.int (nI k)]) (rest := [.long (kIt (N + k) (kHall N N (kIt 8 (lN 899))))]) ⟨hx, hb, hml, hown, hts⟩ (c_M_inState l D cI cJ cM cG m0 v a1 a2 ik (nI 0) en N (nI k) H.size (hN) (hN0)) (cwV 1 hts (kB_V (fun _ => List.mem_cons_of_mem _) q_779 q_780 q_781 q_670 (kB_c q_782)) rfl rfl rfl (by decide +kernel) ⟨Nat.le_of_ble_eq_true rfl, Nat.le_of_ble_eq_true rfl⟩) (k_preV (T := TX7) hP hD hK hKN [0, 1] rfl rfl (ci := 7) rfl (q0 := 0) rfl) rfl rfl hl.1 rfl (lv_room (Nat.le_of_ble_eq_true rfl)) dX7_fingerprint_150 ⟨Nat.le_of_ble_eq_true rfl, Nat.le_of_ble_eq_true rfl⟩) hP hD hS hA [0, 1] [] rfl rfl rfl (by decide) (fun r150 H locs hw150 hP hD hS => ?_)
          replace hP : va_P D vwCl [(m0, .inr (7, [.ref v, .ref a1, .ref a2, .int ik, .int (nI 0), .int en])), (v, .inl (cJ, 136800, .inr (.inl (mF N))))] H := hP
          replace hD : va_D A [(m0, .inr (7, [.ref v, .ref a1, .ref a2, .int ik, .int (nI 0), .int en])), (v, .inl (cJ, 136800, .inr (.inl (mF N))))] := hD
          replace hw150 : r150 = nI 0 := hw150
          refine k_ti hw150 ?_
          refine lv_i2l (v := lN 0) hx hb dX7_fingerprint_153 (by decide) ?_
          refine k_cl (wr := [(m0, .inr (7, [.ref v, .ref a1, .ref a2, .int ik, .int (nI 0), .int en])), (v, .inl (cJ, 136800, .inr (.inl (mF N))))]) (w1 := []) (va_runS (As := [.long (kIt (N + k) (kHall N N (kIt 8 (lN 899)))), .long (lN 0)]) (rest := []) ⟨hx, hb, hml, hown, hts⟩ (c_X7_mix l D cI cJ cM cG (kIt (N + k) (kHall N N (kIt 8 (lN 899)))) (lN 0) H.size) (va_cwS 2 hts (kB_S (fun _ => List.mem_cons_of_mem _) q_886 q_887 q_670 (kB_c q_888)) rfl rfl rfl (by decide +kernel) ⟨Nat.le_of_ble_eq_true rfl, Nat.le_of_ble_eq_true rfl⟩) (k_preS hP hD hK hKN [] rfl rfl) rfl rfl hl.1 rfl (lv_room (Nat.le_of_ble_eq_true rfl)) dX7_fingerprint_154 ⟨Nat.le_of_ble_eq_true rfl, Nat.le_of_ble_eq_true rfl⟩) hP hD hS hA [] [0, 1] rfl rfl rfl (by decide) (fun r154 H locs hw154 hP hD hS => ?_)
          replace hP : va_P D vwCl [(m0, .inr (7, [.ref v, .ref a1, .ref a2, .int ik, .int (nI 0), .int en])), (v, .inl (cJ, 136800, .inr (.inl (mF N))))] H := hP
          replace hD : va_D A [(m0, .inr (7, [.ref v, .ref a1, .ref a2, .int ik, .int (nI 0), .int en])), (v, .inl (cJ, 136800, .inr (.inl (mF N))))] := hD
          replace hw154 : r154 = (kIt (N + k) (kHall N N (kIt 8 (lN 899)))) * lN 31 + (lN 0) := hw154
          refine k_tl hw154 ?_
          refine k_tl (show ((kIt (N + k) (kHall N N (kIt 8 (lN 899)))) * lN 31 + (lN 0)) = (kIt (N + (k + 1)) (kHall N N (kIt 8 (lN 899)))) from rfl) ?_
          refine lv_lstore_n (lv' := [(1, .long (kIt (N + (k + 1)) (kHall N N (kIt 8 (lN 899))))), (0, .ref m0), (3, .int (nI k))]) hx hb dX7_fingerprint_157 rfl hl (by decide) rfl (fun ls hl => ?_)
          refine lv_iinc (v := nI (k + 1)) (lv' := [(3, .int (nI (k + 1))), (1, .long (kIt (N + (k + 1)) (kHall N N (kIt 8 (lN 899))))), (0, .ref m0)]) hx hb dX7_fingerprint_158 hl (k := 2) rfl (by exact nI_add k 1) (by decide) rfl (fun ls hl => ?_)
          refine lv_goto (tgt := 142) hx hb dX7_fingerprint_161 (by decide) ?_
          exact ih _ _ _ hP hD hS (lv_sub hl [2, 1, 0] rfl)
      · replace hP : va_P D vwCl [(m0, .inr (7, [.ref v, .ref a1, .ref a2, .int ik, .int (nI 0), .int en])), (v, .inl (cJ, 136800, .inr (.inl (mF N))))] H := hP
        replace hD : va_D A [(m0, .inr (7, [.ref v, .ref a1, .ref a2, .int ik, .int (nI 0), .int en])), (v, .inl (cJ, 136800, .inr (.inl (mF N))))] := hD
        replace hl : lv_has ls 5 [(0, .ref m0), (1, .long (kIt k (kHall N N (kIt 8 (lN 899))))), (3, .int (nI k))] := hl
        refine lv_iload_n hx hb dX7_fingerprint_108 rfl (lv_at hl 2 rfl) ?_
        refine lv_i2l (v := lN k) hx hb dX7_fingerprint_109 (by exact nI_l (by omega)) ?_
        refine lv_aload_n hx hb dX7_fingerprint_110 rfl (lv_at hl 0 rfl) ?_
        refine va_get (D := D) (ci := 7) (v := .ref v) (C := RX7) (T := TX7) (N := 6) hx hb hts hin7 hown hK hP 0 rfl rfl 0 (by decide) (hts (.fieldLink RX7 8 "MeshRoutingModel" "v" "[J") (List.mem_cons_of_mem _ q_665)) (fun _ h9 => h9) rfl dX7_fingerprint_111 ?_
        refine lv_iconst (v := nI 1) hx hb dX7_fingerprint_114 (by decide) ?_
        refine k_lald (v := lN N) hx hb hK hP 1 1 rfl rfl (by omega) (by omega) (mF_1) dX7_fingerprint_115 ?_
        refine W.lcmp hx hb dX7_fingerprint_116 ?_
        refine k_lif_ge (tgt := 140) hx hb dX7_fingerprint_117 (by decide) (by omega) (by omega) (fun h9 => absurd h9 (by omega)) (fun _ => ?_)
        refine lv_lload_n hx hb dX7_fingerprint_120 rfl (lv_at hl 1 rfl) ?_
        refine lv_aload_n hx hb dX7_fingerprint_121 rfl (lv_at hl 0 rfl) ?_
        refine va_get (D := D) (ci := 7) (v := .ref v) (C := RX7) (T := TX7) (N := 6) hx hb hts hin7 hown hK hP 0 rfl rfl 0 (by decide) (hts (.fieldLink RX7 8 "MeshRoutingModel" "v" "[J") (List.mem_cons_of_mem _ q_665)) (fun _ h9 => h9) rfl dX7_fingerprint_122 ?_
        refine lv_bipush (v := nI 50) hx hb dX7_fingerprint_125 (by decide) ?_
        refine lv_iload_n hx hb dX7_fingerprint_127 rfl (lv_at hl 2 rfl) ?_
        refine lv_iadd hx hb dX7_fingerprint_128 ?_
        refine k_ti (show ((nI 50) + (nI k)) = (nI (50 + k)) from nI_add _ _) ?_
        refine k_lald (v := lN 0) hx hb hK hP 1 1 rfl rfl (by omega) (by omega) ((mF_z (by omega))) dX7_fingerprint_129 ?_
        refine k_cl (wr := [(m0, .inr (7, [.ref v, .ref a1, .ref a2, .int ik, .int (nI 0), .int en])), (v, .inl (cJ, 136800, .inr (.inl (mF N))))]) (w1 := []) (va_runS (As := [.long (kIt k (kHall N N (kIt 8 (lN 899)))), .long (lN 0)]) (rest := []) ⟨hx, hb, hml, hown, hts⟩ (c_X7_mix l D cI cJ cM cG (kIt k (kHall N N (kIt 8 (lN 899)))) (lN 0) H.size) (va_cwS 2 hts (kB_S (fun _ => List.mem_cons_of_mem _) q_886 q_887 q_670 (kB_c q_888)) rfl rfl rfl (by decide +kernel) ⟨Nat.le_of_ble_eq_true rfl, Nat.le_of_ble_eq_true rfl⟩) (k_preS hP hD hK hKN [] rfl rfl) rfl rfl hl.1 rfl (lv_room (Nat.le_of_ble_eq_true rfl)) dX7_fingerprint_130 ⟨Nat.le_of_ble_eq_true rfl, Nat.le_of_ble_eq_true rfl⟩) hP hD hS hA [] [0, 1] rfl rfl rfl (by decide) (fun r130 H locs hw130 hP hD hS => ?_)
        replace hP : va_P D vwCl [(m0, .inr (7, [.ref v, .ref a1, .ref a2, .int ik, .int (nI 0), .int en])), (v, .inl (cJ, 136800, .inr (.inl (mF N))))] H := hP
        replace hD : va_D A [(m0, .inr (7, [.ref v, .ref a1, .ref a2, .int ik, .int (nI 0), .int en])), (v, .inl (cJ, 136800, .inr (.inl (mF N))))] := hD
        replace hw130 : r130 = (kIt k (kHall N N (kIt 8 (lN 899)))) * lN 31 + (lN 0) := hw130
        refine k_tl hw130 ?_
        refine k_tl (show ((kIt k (kHall N N (kIt 8 (lN 899)))) * lN 31 + (lN 0)) = (kIt (k + 1) (kHall N N (kIt 8 (lN 899)))) from rfl) ?_
        refine lv_lstore_n (lv' := [(1, .long (kIt (k + 1) (kHall N N (kIt 8 (lN 899))))), (0, .ref m0), (3, .int (nI k))]) hx hb dX7_fingerprint_133 rfl hl (by decide) rfl (fun ls hl => ?_)
        refine lv_iinc (v := nI (k + 1)) (lv' := [(3, .int (nI (k + 1))), (1, .long (kIt (k + 1) (kHall N N (kIt 8 (lN 899))))), (0, .ref m0)]) hx hb dX7_fingerprint_134 hl (k := 2) rfl (by exact nI_add k 1) (by decide) rfl (fun ls hl => ?_)
        refine lv_goto (tgt := 108) hx hb dX7_fingerprint_137 (by decide) ?_
        exact ih _ _ _ hP hD hS (lv_sub hl [2, 1, 0] rfl)
    · replace hP : va_P D vwCl [(m0, .inr (7, [.ref v, .ref a1, .ref a2, .int ik, .int (nI 0), .int en])), (v, .inl (cJ, 136800, .inr (.inl (mF N))))] H := hP
      replace hD : va_D A [(m0, .inr (7, [.ref v, .ref a1, .ref a2, .int ik, .int (nI 0), .int en])), (v, .inl (cJ, 136800, .inr (.inl (mF N))))] := hD
      replace hl : lv_has ls 5 [(0, .ref m0), (1, .long (kHall N k (kIt 8 (lN 899)))), (3, .int (nI k))] := hl
      refine lv_iload_n hx hb dX7_fingerprint_47 rfl (lv_at hl 2 rfl) ?_
      refine lv_i2l (v := lN k) hx hb dX7_fingerprint_48 (by exact nI_l (by omega)) ?_
      refine lv_aload_n hx hb dX7_fingerprint_49 rfl (lv_at hl 0 rfl) ?_
      refine va_get (D := D) (ci := 7) (v := .ref v) (C := RX7) (T := TX7) (N := 6) hx hb hts hin7 hown hK hP 0 rfl rfl 0 (by decide) (hts (.fieldLink RX7 8 "MeshRoutingModel" "v" "[J") (List.mem_cons_of_mem _ q_665)) (fun _ h9 => h9) rfl dX7_fingerprint_50 ?_
      refine lv_iconst (v := nI 1) hx hb dX7_fingerprint_53 (by decide) ?_
      refine k_lald (v := lN N) hx hb hK hP 1 1 rfl rfl (by omega) (by omega) (mF_1) dX7_fingerprint_54 ?_
      refine W.lcmp hx hb dX7_fingerprint_55 ?_
      refine k_lif_ge (tgt := 106) hx hb dX7_fingerprint_56 (by decide) (by omega) (by omega) (fun h9 => absurd h9 (by omega)) (fun _ => ?_)
      refine lv_iconst (v := nI 0) hx hb dX7_fingerprint_59 (by decide) ?_
      refine lv_istore (lv' := [(4, .int (nI 0)), (0, .ref m0), (1, .long (kHall N k (kIt 8 (lN 899)))), (3, .int (nI k))]) hx hb dX7_fingerprint_60 hl (by decide) rfl (fun ls hl => ?_)
      replace hl : lv_has ls 5 [(4, .int (nI 0)), (0, .ref m0), (1, .long (kHrow k 0 (kHall N k (kIt 8 (lN 899))))), (3, .int (nI k))] := hl
      refine k_loop (nL := 5) (wf := fun k2 => [(m0, .inr (7, [.ref v, .ref a1, .ref a2, .int ik, .int (nI 0), .int en])), (v, .inl (cJ, 136800, .inr (.inl (mF N))))]) (lvf := fun k2 => [(0, .ref m0), (1, .long (kHrow k k2 (kHall N k (kIt 8 (lN 899))))), (3, .int (nI k)), (4, .int (nI k2))]) (B := N) 0 (Nat.zero_le _) hP hD hS (lv_sub hl [1, 2, 3, 0] rfl) (fun H locs ls hP hD hS hl => ?_) (fun k2 hk9 hk ih H locs ls hP hD hS hl => ?_)
      · replace hP : va_P D vwCl [(m0, .inr (7, [.ref v, .ref a1, .ref a2, .int ik, .int (nI 0), .int en])), (v, .inl (cJ, 136800, .inr (.inl (mF N))))] H := hP
        replace hD : va_D A [(m0, .inr (7, [.ref v, .ref a1, .ref a2, .int ik, .int (nI 0), .int en])), (v, .inl (cJ, 136800, .inr (.inl (mF N))))] := hD
        replace hl : lv_has ls 5 [(0, .ref m0), (1, .long (kHrow k N (kHall N k (kIt 8 (lN 899))))), (3, .int (nI k)), (4, .int (nI N))] := hl
        refine lv_iload hx hb dX7_fingerprint_62 (lv_at hl 3 rfl) ?_
        refine lv_i2l (v := lN N) hx hb dX7_fingerprint_64 (by exact nI_l (by omega)) ?_
        refine lv_aload_n hx hb dX7_fingerprint_65 rfl (lv_at hl 0 rfl) ?_
        refine va_get (D := D) (ci := 7) (v := .ref v) (C := RX7) (T := TX7) (N := 6) hx hb hts hin7 hown hK hP 0 rfl rfl 0 (by decide) (hts (.fieldLink RX7 8 "MeshRoutingModel" "v" "[J") (List.mem_cons_of_mem _ q_665)) (fun _ h9 => h9) rfl dX7_fingerprint_66 ?_
        refine lv_iconst (v := nI 1) hx hb dX7_fingerprint_69 (by decide) ?_
        refine k_lald (v := lN N) hx hb hK hP 1 1 rfl rfl (by omega) (by omega) (mF_1) dX7_fingerprint_70 ?_
        refine W.lcmp hx hb dX7_fingerprint_71 ?_
        refine k_lif_ge (tgt := 100) hx hb dX7_fingerprint_72 (by decide) (by omega) (by omega) (fun _ => ?_) (fun h9 => absurd h9 (by omega))
        refine lv_iinc (v := nI (k + 1)) (lv' := [(3, .int (nI (k + 1))), (0, .ref m0), (1, .long (kHrow k N (kHall N k (kIt 8 (lN 899))))), (4, .int (nI N))]) hx hb dX7_fingerprint_100 hl (k := 2) rfl (by exact nI_add k 1) (by decide) rfl (fun ls hl => ?_)
        refine lv_goto (tgt := 47) hx hb dX7_fingerprint_103 (by decide) ?_
        replace hl : lv_has ls 5 [(3, .int (nI (k + 1))), (0, .ref m0), (1, .long (kHall N (k + 1) (kIt 8 (lN 899)))), (4, .int (nI N))] := hl
        exact ih _ _ _ hP hD hS (lv_sub hl [1, 2, 0] rfl)
      · replace hP : va_P D vwCl [(m0, .inr (7, [.ref v, .ref a1, .ref a2, .int ik, .int (nI 0), .int en])), (v, .inl (cJ, 136800, .inr (.inl (mF N))))] H := hP
        replace hD : va_D A [(m0, .inr (7, [.ref v, .ref a1, .ref a2, .int ik, .int (nI 0), .int en])), (v, .inl (cJ, 136800, .inr (.inl (mF N))))] := hD
        replace hl : lv_has ls 5 [(0, .ref m0), (1, .long (kHrow k k2 (kHall N k (kIt 8 (lN 899))))), (3, .int (nI k)), (4, .int (nI k2))] := hl
        refine lv_iload hx hb dX7_fingerprint_62 (lv_at hl 3 rfl) ?_
        refine lv_i2l (v := lN k2) hx hb dX7_fingerprint_64 (by exact nI_l (by omega)) ?_
        refine lv_aload_n hx hb dX7_fingerprint_65 rfl (lv_at hl 0 rfl) ?_
        refine va_get (D := D) (ci := 7) (v := .ref v) (C := RX7) (T := TX7) (N := 6) hx hb hts hin7 hown hK hP 0 rfl rfl 0 (by decide) (hts (.fieldLink RX7 8 "MeshRoutingModel" "v" "[J") (List.mem_cons_of_mem _ q_665)) (fun _ h9 => h9) rfl dX7_fingerprint_66 ?_
        refine lv_iconst (v := nI 1) hx hb dX7_fingerprint_69 (by decide) ?_
        refine k_lald (v := lN N) hx hb hK hP 1 1 rfl rfl (by omega) (by omega) (mF_1) dX7_fingerprint_70 ?_
        refine W.lcmp hx hb dX7_fingerprint_71 ?_
        refine k_lif_ge (tgt := 100) hx hb dX7_fingerprint_72 (by decide) (by omega) (by omega) (fun h9 => absurd h9 (by omega)) (fun _ => ?_)
        refine lv_iload_n hx hb dX7_fingerprint_75 rfl (lv_at hl 2 rfl) ?_
        refine lv_iload hx hb dX7_fingerprint_76 (lv_at hl 3 rfl) ?_
        refine k_icmp_ne (tgt := 85) hx hb dX7_fingerprint_78 (by decide) (by omega) (by omega) (fun hne => ?_) (fun heq => ?_)
        · refine lv_aload_n hx hb dX7_fingerprint_85 rfl (lv_at hl 0 rfl) ?_
          refine lv_lload_n hx hb dX7_fingerprint_86 rfl (lv_at hl 1 rfl) ?_
          refine lv_iload_n hx hb dX7_fingerprint_87 rfl (lv_at hl 2 rfl) ?_
          refine lv_iload hx hb dX7_fingerprint_88 (lv_at hl 3 rfl) ?_
          refine k_cl (wr := []) (w1 := [(m0, .inr (7, [.ref v, .ref a1, .ref a2, .int ik, .int (nI 0), .int en])), (v, .inl (cJ, 136800, .inr (.inl (mF N))))]) (va_runV (As := [.long (kHrow k k2 (kHall N k (kIt 8 (lN 899)))), .int (nI k), .int (nI k2)]) (rest := []) ⟨hx, hb, hml, hown, hts⟩ (c_M_mixEntry l D cI cJ cM cG m0 v a1 a2 ik (nI 0) en N (kHrow k k2 (kHall N k (kIt 8 (lN 899)))) k k2 H.size (hN) (hN0) (by omega) (by omega)) (cwV 3 hts (kB_V (fun _ => List.mem_cons_of_mem _) q_890 q_891 q_892 q_670 (kB_c q_893)) rfl rfl rfl (by decide +kernel) ⟨Nat.le_of_ble_eq_true rfl, Nat.le_of_ble_eq_true rfl⟩) (k_preV (T := TX7) hP hD hK hKN [0, 1] rfl rfl (ci := 7) rfl (q0 := 0) rfl) rfl rfl hl.1 rfl (lv_room (Nat.le_of_ble_eq_true rfl)) dX7_fingerprint_90 ⟨Nat.le_of_ble_eq_true rfl, Nat.le_of_ble_eq_true rfl⟩) hP hD hS hA [0, 1] [] rfl rfl rfl (by decide) (fun r90 H locs hw90 hP hD hS => ?_)
          replace hP : va_P D vwCl [(m0, .inr (7, [.ref v, .ref a1, .ref a2, .int ik, .int (nI 0), .int en])), (v, .inl (cJ, 136800, .inr (.inl (mF N))))] H := hP
          replace hD : va_D A [(m0, .inr (7, [.ref v, .ref a1, .ref a2, .int ik, .int (nI 0), .int en])), (v, .inl (cJ, 136800, .inr (.inl (mF N))))] := hD
          replace hw90 : r90 = kHc (kHrow k k2 (kHall N k (kIt 8 (lN 899)))) := hw90
          refine k_tl hw90 ?_
          refine k_tl (show (kHc (kHrow k k2 (kHall N k (kIt 8 (lN 899))))) = (kHrow k (k2 + 1) (kHall N k (kIt 8 (lN 899)))) from (if_neg (fun q => hne q.symm)).symm) ?_
          refine lv_lstore_n (lv' := [(1, .long (kHrow k (k2 + 1) (kHall N k (kIt 8 (lN 899))))), (0, .ref m0), (3, .int (nI k)), (4, .int (nI k2))]) hx hb dX7_fingerprint_93 rfl hl (by decide) rfl (fun ls hl => ?_)
          refine lv_iinc (v := nI (k2 + 1)) (lv' := [(4, .int (nI (k2 + 1))), (1, .long (kHrow k (k2 + 1) (kHall N k (kIt 8 (lN 899))))), (0, .ref m0), (3, .int (nI k))]) hx hb dX7_fingerprint_94 hl (k := 3) rfl (by exact nI_add k2 1) (by decide) rfl (fun ls hl => ?_)
          refine lv_goto (tgt := 62) hx hb dX7_fingerprint_97 (by decide) ?_
          exact ih _ _ _ hP hD hS (lv_sub hl [2, 1, 3, 0] rfl)
        · refine lv_lload_n hx hb dX7_fingerprint_81 rfl (lv_at hl 1 rfl) ?_
          refine lv_goto (tgt := 93) hx hb dX7_fingerprint_82 (by decide) ?_
          refine k_tl (show (kHrow k k2 (kHall N k (kIt 8 (lN 899)))) = (kHrow k (k2 + 1) (kHall N k (kIt 8 (lN 899)))) from (if_pos heq.symm).symm) ?_
          refine lv_lstore_n (lv' := [(1, .long (kHrow k (k2 + 1) (kHall N k (kIt 8 (lN 899))))), (0, .ref m0), (3, .int (nI k)), (4, .int (nI k2))]) hx hb dX7_fingerprint_93 rfl hl (by decide) rfl (fun ls hl => ?_)
          refine lv_iinc (v := nI (k2 + 1)) (lv' := [(4, .int (nI (k2 + 1))), (1, .long (kHrow k (k2 + 1) (kHall N k (kIt 8 (lN 899))))), (0, .ref m0), (3, .int (nI k))]) hx hb dX7_fingerprint_94 hl (k := 3) rfl (by exact nI_add k2 1) (by decide) rfl (fun ls hl => ?_)
          refine lv_goto (tgt := 62) hx hb dX7_fingerprint_97 (by decide) ?_
          exact ih _ _ _ hP hD hS (lv_sub hl [2, 1, 3, 0] rfl)
  · replace hP : va_P D vwCl [(m0, .inr (7, [.ref v, .ref a1, .ref a2, .int ik, .int (nI 0), .int en])), (v, .inl (cJ, 136800, .inr (.inl (mF N))))] H := hP
    replace hD : va_D A [(m0, .inr (7, [.ref v, .ref a1, .ref a2, .int ik, .int (nI 0), .int en])), (v, .inl (cJ, 136800, .inr (.inl (mF N))))] := hD
    replace hl : lv_has ls 5 [(0, .ref m0), (1, .long (kIt k (lN 899))), (3, .int (nI k))] := hl
    refine lv_iload_n hx hb dX7_fingerprint_20 rfl (lv_at hl 2 rfl) ?_
    refine lv_bipush (v := nI 8) hx hb dX7_fingerprint_21 (by decide) ?_
    refine k_icmp_ge (tgt := 45) hx hb dX7_fingerprint_23 (by decide) (by omega) (by omega) (fun h9 => absurd h9 (by omega)) (fun _ => ?_)
    refine lv_lload_n hx hb dX7_fingerprint_26 rfl (lv_at hl 1 rfl) ?_
    refine lv_aload_n hx hb dX7_fingerprint_27 rfl (lv_at hl 0 rfl) ?_
    refine va_get (D := D) (ci := 7) (v := .ref v) (C := RX7) (T := TX7) (N := 6) hx hb hts hin7 hown hK hP 0 rfl rfl 0 (by decide) (hts (.fieldLink RX7 8 "MeshRoutingModel" "v" "[J") (List.mem_cons_of_mem _ q_665)) (fun _ h9 => h9) rfl dX7_fingerprint_28 ?_
    refine lv_iconst (v := nI 2) hx hb dX7_fingerprint_31 (by decide) ?_
    refine lv_iload_n hx hb dX7_fingerprint_32 rfl (lv_at hl 2 rfl) ?_
    refine lv_iadd hx hb dX7_fingerprint_33 ?_
    refine k_ti (show ((nI 2) + (nI k)) = (nI (2 + k)) from nI_add _ _) ?_
    refine k_lald (v := lN 0) hx hb hK hP 1 1 rfl rfl (by omega) (by omega) ((mF_o (by omega) (by omega) (by omega))) dX7_fingerprint_34 ?_
    refine k_cl (wr := [(m0, .inr (7, [.ref v, .ref a1, .ref a2, .int ik, .int (nI 0), .int en])), (v, .inl (cJ, 136800, .inr (.inl (mF N))))]) (w1 := []) (va_runS (As := [.long (kIt k (lN 899)), .long (lN 0)]) (rest := []) ⟨hx, hb, hml, hown, hts⟩ (c_X7_mix l D cI cJ cM cG (kIt k (lN 899)) (lN 0) H.size) (va_cwS 2 hts (kB_S (fun _ => List.mem_cons_of_mem _) q_886 q_887 q_670 (kB_c q_888)) rfl rfl rfl (by decide +kernel) ⟨Nat.le_of_ble_eq_true rfl, Nat.le_of_ble_eq_true rfl⟩) (k_preS hP hD hK hKN [] rfl rfl) rfl rfl hl.1 rfl (lv_room (Nat.le_of_ble_eq_true rfl)) dX7_fingerprint_35 ⟨Nat.le_of_ble_eq_true rfl, Nat.le_of_ble_eq_true rfl⟩) hP hD hS hA [] [0, 1] rfl rfl rfl (by decide) (fun r35 H locs hw35 hP hD hS => ?_)
    replace hP : va_P D vwCl [(m0, .inr (7, [.ref v, .ref a1, .ref a2, .int ik, .int (nI 0), .int en])), (v, .inl (cJ, 136800, .inr (.inl (mF N))))] H := hP
    replace hD : va_D A [(m0, .inr (7, [.ref v, .ref a1, .ref a2, .int ik, .int (nI 0), .int en])), (v, .inl (cJ, 136800, .inr (.inl (mF N))))] := hD
    replace hw35 : r35 = (kIt k (lN 899)) * lN 31 + (lN 0) := hw35
    refine k_tl hw35 ?_
    refine k_tl (show ((kIt k (lN 899)) * lN 31 + (lN 0)) = (kIt (k + 1) (lN 899)) from rfl) ?_
    refine lv_lstore_n (lv' := [(1, .long (kIt (k + 1) (lN 899))), (0, .ref m0), (3, .int (nI k))]) hx hb dX7_fingerprint_38 rfl hl (by decide) rfl (fun ls hl => ?_)
    refine lv_iinc (v := nI (k + 1)) (lv' := [(3, .int (nI (k + 1))), (1, .long (kIt (k + 1) (lN 899))), (0, .ref m0)]) hx hb dX7_fingerprint_39 hl (k := 2) rfl (by exact nI_add k 1) (by decide) rfl (fun ls hl => ?_)
    refine lv_goto (tgt := 20) hx hb dX7_fingerprint_42 (by decide) ?_
    exact ih _ _ _ hP hD hS (lv_sub hl [2, 1, 0] rfl)

set_option maxHeartbeats 4000000 in
set_option maxRecDepth 100000 in
theorem c_X7_leastOf0 (l : Launch) (D : va_G) (cI cJ cM cG : ClassId)  (sz : Nat)  : Met l yX7_leastOf (Cond.code yX7_leastOf cX7_leastOf 1 (some .int) :: kBig) ({ frames := 0, cells := 0, slots := 0, locals := 0 }) (va_Pc [.int (nI 0)] (kP D [(cI, .int), (cJ, .long), (cM, .object "MeshRouting$Message"), (cG, .array .int)] [] sz)) (va_Qi (fun (r : Int32) (_ : Unit) => r = nI 1) (fun _ t9 => kB D (va_A [] sz) [] t9) (va_A [] sz)) 0 0 (va_A [] sz) := by
  refine Met.ofW (cc := cX7_leastOf) (maxL := 1) (ret := (some .int)) (by decide) rfl ?_
  intro p e s m args below meth c s₁ B hml hv
  obtain ⟨rfl, hsz, hP, hK, hD0, hKN⟩ := hv
  have hx := B.exec
  have hb := B.bytes
  have hr := B.returns
  have hts := atoms_spec (ws := (Cond.code yX7_leastOf cX7_leastOf 1 (some .int) :: kBig)) B.pre
  have hown : s.vm.findClass RX7 = some m.cls := findClass_of_methodNamed B.named
  have hlocks := B.notSynchronized
  subst hsz
  have hD := hD0.self (sz := s.heap.size)
  generalize hAe : va_A [] s.heap.size = A at hD ⊢
  have hA : ∀ q : Nat, s.heap.size ≤ q → A q := fun q h => by rw [← hAe]; exact Or.inr h
  have hS : va_S A s.heap s.heap [] := va_S.rf
  have hl := lv_entry ([.int (nI 0)]) (n := 1) (Nat.le_of_ble_eq_true rfl)
  rw [lg_entry_eq]
  generalize (lg_sl ([.int (nI 0)]) ++ List.replicate (1 - (lg_sl ([.int (nI 0)])).length) Slot.unset).toArray = ls at hl ⊢
  have hl : lv_has ls 1 [(0, .int (nI 0))] := hl
  refine lv_iload_n hx hb dX7_leastOf_0 rfl (lv_at hl 0 rfl) ?_
  refine lv_bipush (v := nI 7) hx hb dX7_leastOf_1 (by decide) ?_
  refine k_icmp_ne (tgt := 10) hx hb dX7_leastOf_3 (by decide) (by omega) (by omega) (fun _ => ?_) (fun h9 => absurd h9 (by omega))
  refine lv_iconst (v := nI 1) hx hb dX7_leastOf_10 (by decide) ?_
  have hP9 := hP.sub (ws' := []) [] rfl
  have hD9 := hD.sub (ws' := []) [] rfl rfl
  exact W.iret (v := nI 1) hx hb hr (fun t9 ht9 hW9 => ⟨⟨nI 1, (), rfl, rfl, by rw [ht9]; exact hP9, hD9⟩, hS.F ht9⟩) hS.2.2 dX7_leastOf_11

set_option maxHeartbeats 4000000 in
set_option maxRecDepth 100000 in
theorem c_X7_mostOf0 (l : Launch) (D : va_G) (cI cJ cM cG : ClassId)  (sz : Nat)  : Met l yX7_mostOf (Cond.code yX7_mostOf cX7_mostOf 1 (some .int) :: kBig) ({ frames := 0, cells := 0, slots := 0, locals := 0 }) (va_Pc [.int (nI 0)] (kP D [(cI, .int), (cJ, .long), (cM, .object "MeshRouting$Message"), (cG, .array .int)] [] sz)) (va_Qi (fun (r : Int32) (_ : Unit) => r = nI 1000) (fun _ t9 => kB D (va_A [] sz) [] t9) (va_A [] sz)) 0 0 (va_A [] sz) := by
  refine Met.ofW (cc := cX7_mostOf) (maxL := 1) (ret := (some .int)) (by decide) rfl ?_
  intro p e s m args below meth c s₁ B hml hv
  obtain ⟨rfl, hsz, hP, hK, hD0, hKN⟩ := hv
  have hx := B.exec
  have hb := B.bytes
  have hr := B.returns
  have hts := atoms_spec (ws := (Cond.code yX7_mostOf cX7_mostOf 1 (some .int) :: kBig)) B.pre
  have hown : s.vm.findClass RX7 = some m.cls := findClass_of_methodNamed B.named
  have hlocks := B.notSynchronized
  subst hsz
  have hD := hD0.self (sz := s.heap.size)
  generalize hAe : va_A [] s.heap.size = A at hD ⊢
  have hA : ∀ q : Nat, s.heap.size ≤ q → A q := fun q h => by rw [← hAe]; exact Or.inr h
  have hS : va_S A s.heap s.heap [] := va_S.rf
  have hl := lv_entry ([.int (nI 0)]) (n := 1) (Nat.le_of_ble_eq_true rfl)
  rw [lg_entry_eq]
  generalize (lg_sl ([.int (nI 0)]) ++ List.replicate (1 - (lg_sl ([.int (nI 0)])).length) Slot.unset).toArray = ls at hl ⊢
  have hl : lv_has ls 1 [(0, .int (nI 0))] := hl
  refine lv_iload_n hx hb dX7_mostOf_0 rfl (lv_at hl 0 rfl) ?_
  refine lv_tableIn (tgt := 44) hx hb dX7_mostOf_1 (by decide) (by decide) rfl (by decide) ?_
  refine lv_sipush (v := nI 1000) hx hb dX7_mostOf_44 (by decide) ?_
  have hP9 := hP.sub (ws' := []) [] rfl
  have hD9 := hD.sub (ws' := []) [] rfl rfl
  exact W.iret (v := nI 1000) hx hb hr (fun t9 ht9 hW9 => ⟨⟨nI 1000, (), rfl, rfl, by rw [ht9]; exact hP9, hD9⟩, hS.F ht9⟩) hS.2.2 dX7_mostOf_47

set_option maxHeartbeats 4000000 in
set_option maxRecDepth 100000 in
theorem c_X7_leastOf1 (l : Launch) (D : va_G) (cI cJ cM cG : ClassId)  (sz : Nat)  : Met l yX7_leastOf (Cond.code yX7_leastOf cX7_leastOf 1 (some .int) :: kBig) ({ frames := 0, cells := 0, slots := 0, locals := 0 }) (va_Pc [.int (nI 1)] (kP D [(cI, .int), (cJ, .long), (cM, .object "MeshRouting$Message"), (cG, .array .int)] [] sz)) (va_Qi (fun (r : Int32) (_ : Unit) => r = nI 1) (fun _ t9 => kB D (va_A [] sz) [] t9) (va_A [] sz)) 0 0 (va_A [] sz) := by
  refine Met.ofW (cc := cX7_leastOf) (maxL := 1) (ret := (some .int)) (by decide) rfl ?_
  intro p e s m args below meth c s₁ B hml hv
  obtain ⟨rfl, hsz, hP, hK, hD0, hKN⟩ := hv
  have hx := B.exec
  have hb := B.bytes
  have hr := B.returns
  have hts := atoms_spec (ws := (Cond.code yX7_leastOf cX7_leastOf 1 (some .int) :: kBig)) B.pre
  have hown : s.vm.findClass RX7 = some m.cls := findClass_of_methodNamed B.named
  have hlocks := B.notSynchronized
  subst hsz
  have hD := hD0.self (sz := s.heap.size)
  generalize hAe : va_A [] s.heap.size = A at hD ⊢
  have hA : ∀ q : Nat, s.heap.size ≤ q → A q := fun q h => by rw [← hAe]; exact Or.inr h
  have hS : va_S A s.heap s.heap [] := va_S.rf
  have hl := lv_entry ([.int (nI 1)]) (n := 1) (Nat.le_of_ble_eq_true rfl)
  rw [lg_entry_eq]
  generalize (lg_sl ([.int (nI 1)]) ++ List.replicate (1 - (lg_sl ([.int (nI 1)])).length) Slot.unset).toArray = ls at hl ⊢
  have hl : lv_has ls 1 [(0, .int (nI 1))] := hl
  refine lv_iload_n hx hb dX7_leastOf_0 rfl (lv_at hl 0 rfl) ?_
  refine lv_bipush (v := nI 7) hx hb dX7_leastOf_1 (by decide) ?_
  refine k_icmp_ne (tgt := 10) hx hb dX7_leastOf_3 (by decide) (by omega) (by omega) (fun _ => ?_) (fun h9 => absurd h9 (by omega))
  refine lv_iconst (v := nI 1) hx hb dX7_leastOf_10 (by decide) ?_
  have hP9 := hP.sub (ws' := []) [] rfl
  have hD9 := hD.sub (ws' := []) [] rfl rfl
  exact W.iret (v := nI 1) hx hb hr (fun t9 ht9 hW9 => ⟨⟨nI 1, (), rfl, rfl, by rw [ht9]; exact hP9, hD9⟩, hS.F ht9⟩) hS.2.2 dX7_leastOf_11

set_option maxHeartbeats 4000000 in
set_option maxRecDepth 100000 in
theorem c_X7_mostOf1 (l : Launch) (D : va_G) (cI cJ cM cG : ClassId)  (sz : Nat)  : Met l yX7_mostOf (Cond.code yX7_mostOf cX7_mostOf 1 (some .int) :: kBig) ({ frames := 0, cells := 0, slots := 0, locals := 0 }) (va_Pc [.int (nI 1)] (kP D [(cI, .int), (cJ, .long), (cM, .object "MeshRouting$Message"), (cG, .array .int)] [] sz)) (va_Qi (fun (r : Int32) (_ : Unit) => r = nI 10) (fun _ t9 => kB D (va_A [] sz) [] t9) (va_A [] sz)) 0 0 (va_A [] sz) := by
  refine Met.ofW (cc := cX7_mostOf) (maxL := 1) (ret := (some .int)) (by decide) rfl ?_
  intro p e s m args below meth c s₁ B hml hv
  obtain ⟨rfl, hsz, hP, hK, hD0, hKN⟩ := hv
  have hx := B.exec
  have hb := B.bytes
  have hr := B.returns
  have hts := atoms_spec (ws := (Cond.code yX7_mostOf cX7_mostOf 1 (some .int) :: kBig)) B.pre
  have hown : s.vm.findClass RX7 = some m.cls := findClass_of_methodNamed B.named
  have hlocks := B.notSynchronized
  subst hsz
  have hD := hD0.self (sz := s.heap.size)
  generalize hAe : va_A [] s.heap.size = A at hD ⊢
  have hA : ∀ q : Nat, s.heap.size ≤ q → A q := fun q h => by rw [← hAe]; exact Or.inr h
  have hS : va_S A s.heap s.heap [] := va_S.rf
  have hl := lv_entry ([.int (nI 1)]) (n := 1) (Nat.le_of_ble_eq_true rfl)
  rw [lg_entry_eq]
  generalize (lg_sl ([.int (nI 1)]) ++ List.replicate (1 - (lg_sl ([.int (nI 1)])).length) Slot.unset).toArray = ls at hl ⊢
  have hl : lv_has ls 1 [(0, .int (nI 1))] := hl
  refine lv_iload_n hx hb dX7_mostOf_0 rfl (lv_at hl 0 rfl) ?_
  refine lv_tableIn (tgt := 56) hx hb dX7_mostOf_1 (by decide) (by decide) rfl (by decide) ?_
  refine lv_bipush (v := nI 10) hx hb dX7_mostOf_56 (by decide) ?_
  have hP9 := hP.sub (ws' := []) [] rfl
  have hD9 := hD.sub (ws' := []) [] rfl rfl
  exact W.iret (v := nI 10) hx hb hr (fun t9 ht9 hW9 => ⟨⟨nI 10, (), rfl, rfl, by rw [ht9]; exact hP9, hD9⟩, hS.F ht9⟩) hS.2.2 dX7_mostOf_58

set_option maxHeartbeats 4000000 in
set_option maxRecDepth 100000 in
theorem c_X7_leastOf2 (l : Launch) (D : va_G) (cI cJ cM cG : ClassId)  (sz : Nat)  : Met l yX7_leastOf (Cond.code yX7_leastOf cX7_leastOf 1 (some .int) :: kBig) ({ frames := 0, cells := 0, slots := 0, locals := 0 }) (va_Pc [.int (nI 2)] (kP D [(cI, .int), (cJ, .long), (cM, .object "MeshRouting$Message"), (cG, .array .int)] [] sz)) (va_Qi (fun (r : Int32) (_ : Unit) => r = nI 1) (fun _ t9 => kB D (va_A [] sz) [] t9) (va_A [] sz)) 0 0 (va_A [] sz) := by
  refine Met.ofW (cc := cX7_leastOf) (maxL := 1) (ret := (some .int)) (by decide) rfl ?_
  intro p e s m args below meth c s₁ B hml hv
  obtain ⟨rfl, hsz, hP, hK, hD0, hKN⟩ := hv
  have hx := B.exec
  have hb := B.bytes
  have hr := B.returns
  have hts := atoms_spec (ws := (Cond.code yX7_leastOf cX7_leastOf 1 (some .int) :: kBig)) B.pre
  have hown : s.vm.findClass RX7 = some m.cls := findClass_of_methodNamed B.named
  have hlocks := B.notSynchronized
  subst hsz
  have hD := hD0.self (sz := s.heap.size)
  generalize hAe : va_A [] s.heap.size = A at hD ⊢
  have hA : ∀ q : Nat, s.heap.size ≤ q → A q := fun q h => by rw [← hAe]; exact Or.inr h
  have hS : va_S A s.heap s.heap [] := va_S.rf
  have hl := lv_entry ([.int (nI 2)]) (n := 1) (Nat.le_of_ble_eq_true rfl)
  rw [lg_entry_eq]
  generalize (lg_sl ([.int (nI 2)]) ++ List.replicate (1 - (lg_sl ([.int (nI 2)])).length) Slot.unset).toArray = ls at hl ⊢
  have hl : lv_has ls 1 [(0, .int (nI 2))] := hl
  refine lv_iload_n hx hb dX7_leastOf_0 rfl (lv_at hl 0 rfl) ?_
  refine lv_bipush (v := nI 7) hx hb dX7_leastOf_1 (by decide) ?_
  refine k_icmp_ne (tgt := 10) hx hb dX7_leastOf_3 (by decide) (by omega) (by omega) (fun _ => ?_) (fun h9 => absurd h9 (by omega))
  refine lv_iconst (v := nI 1) hx hb dX7_leastOf_10 (by decide) ?_
  have hP9 := hP.sub (ws' := []) [] rfl
  have hD9 := hD.sub (ws' := []) [] rfl rfl
  exact W.iret (v := nI 1) hx hb hr (fun t9 ht9 hW9 => ⟨⟨nI 1, (), rfl, rfl, by rw [ht9]; exact hP9, hD9⟩, hS.F ht9⟩) hS.2.2 dX7_leastOf_11

set_option maxHeartbeats 4000000 in
set_option maxRecDepth 100000 in
theorem c_X7_mostOf2 (l : Launch) (D : va_G) (cI cJ cM cG : ClassId)  (sz : Nat)  : Met l yX7_mostOf (Cond.code yX7_mostOf cX7_mostOf 1 (some .int) :: kBig) ({ frames := 0, cells := 0, slots := 0, locals := 0 }) (va_Pc [.int (nI 2)] (kP D [(cI, .int), (cJ, .long), (cM, .object "MeshRouting$Message"), (cG, .array .int)] [] sz)) (va_Qi (fun (r : Int32) (_ : Unit) => r = nI 10) (fun _ t9 => kB D (va_A [] sz) [] t9) (va_A [] sz)) 0 0 (va_A [] sz) := by
  refine Met.ofW (cc := cX7_mostOf) (maxL := 1) (ret := (some .int)) (by decide) rfl ?_
  intro p e s m args below meth c s₁ B hml hv
  obtain ⟨rfl, hsz, hP, hK, hD0, hKN⟩ := hv
  have hx := B.exec
  have hb := B.bytes
  have hr := B.returns
  have hts := atoms_spec (ws := (Cond.code yX7_mostOf cX7_mostOf 1 (some .int) :: kBig)) B.pre
  have hown : s.vm.findClass RX7 = some m.cls := findClass_of_methodNamed B.named
  have hlocks := B.notSynchronized
  subst hsz
  have hD := hD0.self (sz := s.heap.size)
  generalize hAe : va_A [] s.heap.size = A at hD ⊢
  have hA : ∀ q : Nat, s.heap.size ≤ q → A q := fun q h => by rw [← hAe]; exact Or.inr h
  have hS : va_S A s.heap s.heap [] := va_S.rf
  have hl := lv_entry ([.int (nI 2)]) (n := 1) (Nat.le_of_ble_eq_true rfl)
  rw [lg_entry_eq]
  generalize (lg_sl ([.int (nI 2)]) ++ List.replicate (1 - (lg_sl ([.int (nI 2)])).length) Slot.unset).toArray = ls at hl ⊢
  have hl : lv_has ls 1 [(0, .int (nI 2))] := hl
  refine lv_iload_n hx hb dX7_mostOf_0 rfl (lv_at hl 0 rfl) ?_
  refine lv_tableIn (tgt := 56) hx hb dX7_mostOf_1 (by decide) (by decide) rfl (by decide) ?_
  refine lv_bipush (v := nI 10) hx hb dX7_mostOf_56 (by decide) ?_
  have hP9 := hP.sub (ws' := []) [] rfl
  have hD9 := hD.sub (ws' := []) [] rfl rfl
  exact W.iret (v := nI 10) hx hb hr (fun t9 ht9 hW9 => ⟨⟨nI 10, (), rfl, rfl, by rw [ht9]; exact hP9, hD9⟩, hS.F ht9⟩) hS.2.2 dX7_mostOf_58

set_option maxHeartbeats 4000000 in
set_option maxRecDepth 100000 in
theorem c_X7_leastOf3 (l : Launch) (D : va_G) (cI cJ cM cG : ClassId)  (sz : Nat)  : Met l yX7_leastOf (Cond.code yX7_leastOf cX7_leastOf 1 (some .int) :: kBig) ({ frames := 0, cells := 0, slots := 0, locals := 0 }) (va_Pc [.int (nI 3)] (kP D [(cI, .int), (cJ, .long), (cM, .object "MeshRouting$Message"), (cG, .array .int)] [] sz)) (va_Qi (fun (r : Int32) (_ : Unit) => r = nI 1) (fun _ t9 => kB D (va_A [] sz) [] t9) (va_A [] sz)) 0 0 (va_A [] sz) := by
  refine Met.ofW (cc := cX7_leastOf) (maxL := 1) (ret := (some .int)) (by decide) rfl ?_
  intro p e s m args below meth c s₁ B hml hv
  obtain ⟨rfl, hsz, hP, hK, hD0, hKN⟩ := hv
  have hx := B.exec
  have hb := B.bytes
  have hr := B.returns
  have hts := atoms_spec (ws := (Cond.code yX7_leastOf cX7_leastOf 1 (some .int) :: kBig)) B.pre
  have hown : s.vm.findClass RX7 = some m.cls := findClass_of_methodNamed B.named
  have hlocks := B.notSynchronized
  subst hsz
  have hD := hD0.self (sz := s.heap.size)
  generalize hAe : va_A [] s.heap.size = A at hD ⊢
  have hA : ∀ q : Nat, s.heap.size ≤ q → A q := fun q h => by rw [← hAe]; exact Or.inr h
  have hS : va_S A s.heap s.heap [] := va_S.rf
  have hl := lv_entry ([.int (nI 3)]) (n := 1) (Nat.le_of_ble_eq_true rfl)
  rw [lg_entry_eq]
  generalize (lg_sl ([.int (nI 3)]) ++ List.replicate (1 - (lg_sl ([.int (nI 3)])).length) Slot.unset).toArray = ls at hl ⊢
  have hl : lv_has ls 1 [(0, .int (nI 3))] := hl
  refine lv_iload_n hx hb dX7_leastOf_0 rfl (lv_at hl 0 rfl) ?_
  refine lv_bipush (v := nI 7) hx hb dX7_leastOf_1 (by decide) ?_
  refine k_icmp_ne (tgt := 10) hx hb dX7_leastOf_3 (by decide) (by omega) (by omega) (fun _ => ?_) (fun h9 => absurd h9 (by omega))
  refine lv_iconst (v := nI 1) hx hb dX7_leastOf_10 (by decide) ?_
  have hP9 := hP.sub (ws' := []) [] rfl
  have hD9 := hD.sub (ws' := []) [] rfl rfl
  exact W.iret (v := nI 1) hx hb hr (fun t9 ht9 hW9 => ⟨⟨nI 1, (), rfl, rfl, by rw [ht9]; exact hP9, hD9⟩, hS.F ht9⟩) hS.2.2 dX7_leastOf_11

set_option maxHeartbeats 4000000 in
set_option maxRecDepth 100000 in
theorem c_X7_mostOf3 (l : Launch) (D : va_G) (cI cJ cM cG : ClassId)  (sz : Nat)  : Met l yX7_mostOf (Cond.code yX7_mostOf cX7_mostOf 1 (some .int) :: kBig) ({ frames := 0, cells := 0, slots := 0, locals := 0 }) (va_Pc [.int (nI 3)] (kP D [(cI, .int), (cJ, .long), (cM, .object "MeshRouting$Message"), (cG, .array .int)] [] sz)) (va_Qi (fun (r : Int32) (_ : Unit) => r = nI 10) (fun _ t9 => kB D (va_A [] sz) [] t9) (va_A [] sz)) 0 0 (va_A [] sz) := by
  refine Met.ofW (cc := cX7_mostOf) (maxL := 1) (ret := (some .int)) (by decide) rfl ?_
  intro p e s m args below meth c s₁ B hml hv
  obtain ⟨rfl, hsz, hP, hK, hD0, hKN⟩ := hv
  have hx := B.exec
  have hb := B.bytes
  have hr := B.returns
  have hts := atoms_spec (ws := (Cond.code yX7_mostOf cX7_mostOf 1 (some .int) :: kBig)) B.pre
  have hown : s.vm.findClass RX7 = some m.cls := findClass_of_methodNamed B.named
  have hlocks := B.notSynchronized
  subst hsz
  have hD := hD0.self (sz := s.heap.size)
  generalize hAe : va_A [] s.heap.size = A at hD ⊢
  have hA : ∀ q : Nat, s.heap.size ≤ q → A q := fun q h => by rw [← hAe]; exact Or.inr h
  have hS : va_S A s.heap s.heap [] := va_S.rf
  have hl := lv_entry ([.int (nI 3)]) (n := 1) (Nat.le_of_ble_eq_true rfl)
  rw [lg_entry_eq]
  generalize (lg_sl ([.int (nI 3)]) ++ List.replicate (1 - (lg_sl ([.int (nI 3)])).length) Slot.unset).toArray = ls at hl ⊢
  have hl : lv_has ls 1 [(0, .int (nI 3))] := hl
  refine lv_iload_n hx hb dX7_mostOf_0 rfl (lv_at hl 0 rfl) ?_
  refine lv_tableIn (tgt := 56) hx hb dX7_mostOf_1 (by decide) (by decide) rfl (by decide) ?_
  refine lv_bipush (v := nI 10) hx hb dX7_mostOf_56 (by decide) ?_
  have hP9 := hP.sub (ws' := []) [] rfl
  have hD9 := hD.sub (ws' := []) [] rfl rfl
  exact W.iret (v := nI 10) hx hb hr (fun t9 ht9 hW9 => ⟨⟨nI 10, (), rfl, rfl, by rw [ht9]; exact hP9, hD9⟩, hS.F ht9⟩) hS.2.2 dX7_mostOf_58

set_option maxHeartbeats 4000000 in
set_option maxRecDepth 100000 in
theorem c_X7_leastOf4 (l : Launch) (D : va_G) (cI cJ cM cG : ClassId)  (sz : Nat)  : Met l yX7_leastOf (Cond.code yX7_leastOf cX7_leastOf 1 (some .int) :: kBig) ({ frames := 0, cells := 0, slots := 0, locals := 0 }) (va_Pc [.int (nI 4)] (kP D [(cI, .int), (cJ, .long), (cM, .object "MeshRouting$Message"), (cG, .array .int)] [] sz)) (va_Qi (fun (r : Int32) (_ : Unit) => r = nI 1) (fun _ t9 => kB D (va_A [] sz) [] t9) (va_A [] sz)) 0 0 (va_A [] sz) := by
  refine Met.ofW (cc := cX7_leastOf) (maxL := 1) (ret := (some .int)) (by decide) rfl ?_
  intro p e s m args below meth c s₁ B hml hv
  obtain ⟨rfl, hsz, hP, hK, hD0, hKN⟩ := hv
  have hx := B.exec
  have hb := B.bytes
  have hr := B.returns
  have hts := atoms_spec (ws := (Cond.code yX7_leastOf cX7_leastOf 1 (some .int) :: kBig)) B.pre
  have hown : s.vm.findClass RX7 = some m.cls := findClass_of_methodNamed B.named
  have hlocks := B.notSynchronized
  subst hsz
  have hD := hD0.self (sz := s.heap.size)
  generalize hAe : va_A [] s.heap.size = A at hD ⊢
  have hA : ∀ q : Nat, s.heap.size ≤ q → A q := fun q h => by rw [← hAe]; exact Or.inr h
  have hS : va_S A s.heap s.heap [] := va_S.rf
  have hl := lv_entry ([.int (nI 4)]) (n := 1) (Nat.le_of_ble_eq_true rfl)
  rw [lg_entry_eq]
  generalize (lg_sl ([.int (nI 4)]) ++ List.replicate (1 - (lg_sl ([.int (nI 4)])).length) Slot.unset).toArray = ls at hl ⊢
  have hl : lv_has ls 1 [(0, .int (nI 4))] := hl
  refine lv_iload_n hx hb dX7_leastOf_0 rfl (lv_at hl 0 rfl) ?_
  refine lv_bipush (v := nI 7) hx hb dX7_leastOf_1 (by decide) ?_
  refine k_icmp_ne (tgt := 10) hx hb dX7_leastOf_3 (by decide) (by omega) (by omega) (fun _ => ?_) (fun h9 => absurd h9 (by omega))
  refine lv_iconst (v := nI 1) hx hb dX7_leastOf_10 (by decide) ?_
  have hP9 := hP.sub (ws' := []) [] rfl
  have hD9 := hD.sub (ws' := []) [] rfl rfl
  exact W.iret (v := nI 1) hx hb hr (fun t9 ht9 hW9 => ⟨⟨nI 1, (), rfl, rfl, by rw [ht9]; exact hP9, hD9⟩, hS.F ht9⟩) hS.2.2 dX7_leastOf_11

set_option maxHeartbeats 4000000 in
set_option maxRecDepth 100000 in
theorem c_X7_mostOf4 (l : Launch) (D : va_G) (cI cJ cM cG : ClassId)  (sz : Nat)  : Met l yX7_mostOf (Cond.code yX7_mostOf cX7_mostOf 1 (some .int) :: kBig) ({ frames := 0, cells := 0, slots := 0, locals := 0 }) (va_Pc [.int (nI 4)] (kP D [(cI, .int), (cJ, .long), (cM, .object "MeshRouting$Message"), (cG, .array .int)] [] sz)) (va_Qi (fun (r : Int32) (_ : Unit) => r = nI 15) (fun _ t9 => kB D (va_A [] sz) [] t9) (va_A [] sz)) 0 0 (va_A [] sz) := by
  refine Met.ofW (cc := cX7_mostOf) (maxL := 1) (ret := (some .int)) (by decide) rfl ?_
  intro p e s m args below meth c s₁ B hml hv
  obtain ⟨rfl, hsz, hP, hK, hD0, hKN⟩ := hv
  have hx := B.exec
  have hb := B.bytes
  have hr := B.returns
  have hts := atoms_spec (ws := (Cond.code yX7_mostOf cX7_mostOf 1 (some .int) :: kBig)) B.pre
  have hown : s.vm.findClass RX7 = some m.cls := findClass_of_methodNamed B.named
  have hlocks := B.notSynchronized
  subst hsz
  have hD := hD0.self (sz := s.heap.size)
  generalize hAe : va_A [] s.heap.size = A at hD ⊢
  have hA : ∀ q : Nat, s.heap.size ≤ q → A q := fun q h => by rw [← hAe]; exact Or.inr h
  have hS : va_S A s.heap s.heap [] := va_S.rf
  have hl := lv_entry ([.int (nI 4)]) (n := 1) (Nat.le_of_ble_eq_true rfl)
  rw [lg_entry_eq]
  generalize (lg_sl ([.int (nI 4)]) ++ List.replicate (1 - (lg_sl ([.int (nI 4)])).length) Slot.unset).toArray = ls at hl ⊢
  have hl : lv_has ls 1 [(0, .int (nI 4))] := hl
  refine lv_iload_n hx hb dX7_mostOf_0 rfl (lv_at hl 0 rfl) ?_
  refine lv_tableIn (tgt := 48) hx hb dX7_mostOf_1 (by decide) (by decide) rfl (by decide) ?_
  refine lv_bipush (v := nI 15) hx hb dX7_mostOf_48 (by decide) ?_
  have hP9 := hP.sub (ws' := []) [] rfl
  have hD9 := hD.sub (ws' := []) [] rfl rfl
  exact W.iret (v := nI 15) hx hb hr (fun t9 ht9 hW9 => ⟨⟨nI 15, (), rfl, rfl, by rw [ht9]; exact hP9, hD9⟩, hS.F ht9⟩) hS.2.2 dX7_mostOf_50

set_option maxHeartbeats 4000000 in
set_option maxRecDepth 100000 in
theorem c_X7_leastOf5 (l : Launch) (D : va_G) (cI cJ cM cG : ClassId)  (sz : Nat)  : Met l yX7_leastOf (Cond.code yX7_leastOf cX7_leastOf 1 (some .int) :: kBig) ({ frames := 0, cells := 0, slots := 0, locals := 0 }) (va_Pc [.int (nI 5)] (kP D [(cI, .int), (cJ, .long), (cM, .object "MeshRouting$Message"), (cG, .array .int)] [] sz)) (va_Qi (fun (r : Int32) (_ : Unit) => r = nI 1) (fun _ t9 => kB D (va_A [] sz) [] t9) (va_A [] sz)) 0 0 (va_A [] sz) := by
  refine Met.ofW (cc := cX7_leastOf) (maxL := 1) (ret := (some .int)) (by decide) rfl ?_
  intro p e s m args below meth c s₁ B hml hv
  obtain ⟨rfl, hsz, hP, hK, hD0, hKN⟩ := hv
  have hx := B.exec
  have hb := B.bytes
  have hr := B.returns
  have hts := atoms_spec (ws := (Cond.code yX7_leastOf cX7_leastOf 1 (some .int) :: kBig)) B.pre
  have hown : s.vm.findClass RX7 = some m.cls := findClass_of_methodNamed B.named
  have hlocks := B.notSynchronized
  subst hsz
  have hD := hD0.self (sz := s.heap.size)
  generalize hAe : va_A [] s.heap.size = A at hD ⊢
  have hA : ∀ q : Nat, s.heap.size ≤ q → A q := fun q h => by rw [← hAe]; exact Or.inr h
  have hS : va_S A s.heap s.heap [] := va_S.rf
  have hl := lv_entry ([.int (nI 5)]) (n := 1) (Nat.le_of_ble_eq_true rfl)
  rw [lg_entry_eq]
  generalize (lg_sl ([.int (nI 5)]) ++ List.replicate (1 - (lg_sl ([.int (nI 5)])).length) Slot.unset).toArray = ls at hl ⊢
  have hl : lv_has ls 1 [(0, .int (nI 5))] := hl
  refine lv_iload_n hx hb dX7_leastOf_0 rfl (lv_at hl 0 rfl) ?_
  refine lv_bipush (v := nI 7) hx hb dX7_leastOf_1 (by decide) ?_
  refine k_icmp_ne (tgt := 10) hx hb dX7_leastOf_3 (by decide) (by omega) (by omega) (fun _ => ?_) (fun h9 => absurd h9 (by omega))
  refine lv_iconst (v := nI 1) hx hb dX7_leastOf_10 (by decide) ?_
  have hP9 := hP.sub (ws' := []) [] rfl
  have hD9 := hD.sub (ws' := []) [] rfl rfl
  exact W.iret (v := nI 1) hx hb hr (fun t9 ht9 hW9 => ⟨⟨nI 1, (), rfl, rfl, by rw [ht9]; exact hP9, hD9⟩, hS.F ht9⟩) hS.2.2 dX7_leastOf_11

set_option maxHeartbeats 4000000 in
set_option maxRecDepth 100000 in
theorem c_X7_mostOf5 (l : Launch) (D : va_G) (cI cJ cM cG : ClassId)  (sz : Nat)  : Met l yX7_mostOf (Cond.code yX7_mostOf cX7_mostOf 1 (some .int) :: kBig) ({ frames := 0, cells := 0, slots := 0, locals := 0 }) (va_Pc [.int (nI 5)] (kP D [(cI, .int), (cJ, .long), (cM, .object "MeshRouting$Message"), (cG, .array .int)] [] sz)) (va_Qi (fun (r : Int32) (_ : Unit) => r = nI 3) (fun _ t9 => kB D (va_A [] sz) [] t9) (va_A [] sz)) 0 0 (va_A [] sz) := by
  refine Met.ofW (cc := cX7_mostOf) (maxL := 1) (ret := (some .int)) (by decide) rfl ?_
  intro p e s m args below meth c s₁ B hml hv
  obtain ⟨rfl, hsz, hP, hK, hD0, hKN⟩ := hv
  have hx := B.exec
  have hb := B.bytes
  have hr := B.returns
  have hts := atoms_spec (ws := (Cond.code yX7_mostOf cX7_mostOf 1 (some .int) :: kBig)) B.pre
  have hown : s.vm.findClass RX7 = some m.cls := findClass_of_methodNamed B.named
  have hlocks := B.notSynchronized
  subst hsz
  have hD := hD0.self (sz := s.heap.size)
  generalize hAe : va_A [] s.heap.size = A at hD ⊢
  have hA : ∀ q : Nat, s.heap.size ≤ q → A q := fun q h => by rw [← hAe]; exact Or.inr h
  have hS : va_S A s.heap s.heap [] := va_S.rf
  have hl := lv_entry ([.int (nI 5)]) (n := 1) (Nat.le_of_ble_eq_true rfl)
  rw [lg_entry_eq]
  generalize (lg_sl ([.int (nI 5)]) ++ List.replicate (1 - (lg_sl ([.int (nI 5)])).length) Slot.unset).toArray = ls at hl ⊢
  have hl : lv_has ls 1 [(0, .int (nI 5))] := hl
  refine lv_iload_n hx hb dX7_mostOf_0 rfl (lv_at hl 0 rfl) ?_
  refine lv_tableIn (tgt := 51) hx hb dX7_mostOf_1 (by decide) (by decide) rfl (by decide) ?_
  refine lv_iconst (v := nI 3) hx hb dX7_mostOf_51 (by decide) ?_
  have hP9 := hP.sub (ws' := []) [] rfl
  have hD9 := hD.sub (ws' := []) [] rfl rfl
  exact W.iret (v := nI 3) hx hb hr (fun t9 ht9 hW9 => ⟨⟨nI 3, (), rfl, rfl, by rw [ht9]; exact hP9, hD9⟩, hS.F ht9⟩) hS.2.2 dX7_mostOf_52

set_option maxHeartbeats 4000000 in
set_option maxRecDepth 100000 in
theorem c_X7_leastOf6 (l : Launch) (D : va_G) (cI cJ cM cG : ClassId)  (sz : Nat)  : Met l yX7_leastOf (Cond.code yX7_leastOf cX7_leastOf 1 (some .int) :: kBig) ({ frames := 0, cells := 0, slots := 0, locals := 0 }) (va_Pc [.int (nI 6)] (kP D [(cI, .int), (cJ, .long), (cM, .object "MeshRouting$Message"), (cG, .array .int)] [] sz)) (va_Qi (fun (r : Int32) (_ : Unit) => r = nI 1) (fun _ t9 => kB D (va_A [] sz) [] t9) (va_A [] sz)) 0 0 (va_A [] sz) := by
  refine Met.ofW (cc := cX7_leastOf) (maxL := 1) (ret := (some .int)) (by decide) rfl ?_
  intro p e s m args below meth c s₁ B hml hv
  obtain ⟨rfl, hsz, hP, hK, hD0, hKN⟩ := hv
  have hx := B.exec
  have hb := B.bytes
  have hr := B.returns
  have hts := atoms_spec (ws := (Cond.code yX7_leastOf cX7_leastOf 1 (some .int) :: kBig)) B.pre
  have hown : s.vm.findClass RX7 = some m.cls := findClass_of_methodNamed B.named
  have hlocks := B.notSynchronized
  subst hsz
  have hD := hD0.self (sz := s.heap.size)
  generalize hAe : va_A [] s.heap.size = A at hD ⊢
  have hA : ∀ q : Nat, s.heap.size ≤ q → A q := fun q h => by rw [← hAe]; exact Or.inr h
  have hS : va_S A s.heap s.heap [] := va_S.rf
  have hl := lv_entry ([.int (nI 6)]) (n := 1) (Nat.le_of_ble_eq_true rfl)
  rw [lg_entry_eq]
  generalize (lg_sl ([.int (nI 6)]) ++ List.replicate (1 - (lg_sl ([.int (nI 6)])).length) Slot.unset).toArray = ls at hl ⊢
  have hl : lv_has ls 1 [(0, .int (nI 6))] := hl
  refine lv_iload_n hx hb dX7_leastOf_0 rfl (lv_at hl 0 rfl) ?_
  refine lv_bipush (v := nI 7) hx hb dX7_leastOf_1 (by decide) ?_
  refine k_icmp_ne (tgt := 10) hx hb dX7_leastOf_3 (by decide) (by omega) (by omega) (fun _ => ?_) (fun h9 => absurd h9 (by omega))
  refine lv_iconst (v := nI 1) hx hb dX7_leastOf_10 (by decide) ?_
  have hP9 := hP.sub (ws' := []) [] rfl
  have hD9 := hD.sub (ws' := []) [] rfl rfl
  exact W.iret (v := nI 1) hx hb hr (fun t9 ht9 hW9 => ⟨⟨nI 1, (), rfl, rfl, by rw [ht9]; exact hP9, hD9⟩, hS.F ht9⟩) hS.2.2 dX7_leastOf_11

set_option maxHeartbeats 4000000 in
set_option maxRecDepth 100000 in
theorem c_X7_mostOf6 (l : Launch) (D : va_G) (cI cJ cM cG : ClassId)  (sz : Nat)  : Met l yX7_mostOf (Cond.code yX7_mostOf cX7_mostOf 1 (some .int) :: kBig) ({ frames := 0, cells := 0, slots := 0, locals := 0 }) (va_Pc [.int (nI 6)] (kP D [(cI, .int), (cJ, .long), (cM, .object "MeshRouting$Message"), (cG, .array .int)] [] sz)) (va_Qi (fun (r : Int32) (_ : Unit) => r = nI 50) (fun _ t9 => kB D (va_A [] sz) [] t9) (va_A [] sz)) 0 0 (va_A [] sz) := by
  refine Met.ofW (cc := cX7_mostOf) (maxL := 1) (ret := (some .int)) (by decide) rfl ?_
  intro p e s m args below meth c s₁ B hml hv
  obtain ⟨rfl, hsz, hP, hK, hD0, hKN⟩ := hv
  have hx := B.exec
  have hb := B.bytes
  have hr := B.returns
  have hts := atoms_spec (ws := (Cond.code yX7_mostOf cX7_mostOf 1 (some .int) :: kBig)) B.pre
  have hown : s.vm.findClass RX7 = some m.cls := findClass_of_methodNamed B.named
  have hlocks := B.notSynchronized
  subst hsz
  have hD := hD0.self (sz := s.heap.size)
  generalize hAe : va_A [] s.heap.size = A at hD ⊢
  have hA : ∀ q : Nat, s.heap.size ≤ q → A q := fun q h => by rw [← hAe]; exact Or.inr h
  have hS : va_S A s.heap s.heap [] := va_S.rf
  have hl := lv_entry ([.int (nI 6)]) (n := 1) (Nat.le_of_ble_eq_true rfl)
  rw [lg_entry_eq]
  generalize (lg_sl ([.int (nI 6)]) ++ List.replicate (1 - (lg_sl ([.int (nI 6)])).length) Slot.unset).toArray = ls at hl ⊢
  have hl : lv_has ls 1 [(0, .int (nI 6))] := hl
  refine lv_iload_n hx hb dX7_mostOf_0 rfl (lv_at hl 0 rfl) ?_
  refine lv_tableIn (tgt := 53) hx hb dX7_mostOf_1 (by decide) (by decide) rfl (by decide) ?_
  refine lv_bipush (v := nI 50) hx hb dX7_mostOf_53 (by decide) ?_
  have hP9 := hP.sub (ws' := []) [] rfl
  have hD9 := hD.sub (ws' := []) [] rfl rfl
  exact W.iret (v := nI 50) hx hb hr (fun t9 ht9 hW9 => ⟨⟨nI 50, (), rfl, rfl, by rw [ht9]; exact hP9, hD9⟩, hS.F ht9⟩) hS.2.2 dX7_mostOf_55

set_option maxHeartbeats 4000000 in
set_option maxRecDepth 100000 in
theorem c_X7_leastOf7 (l : Launch) (D : va_G) (cI cJ cM cG : ClassId)  (sz : Nat)  : Met l yX7_leastOf (Cond.code yX7_leastOf cX7_leastOf 1 (some .int) :: kBig) ({ frames := 0, cells := 0, slots := 0, locals := 0 }) (va_Pc [.int (nI 7)] (kP D [(cI, .int), (cJ, .long), (cM, .object "MeshRouting$Message"), (cG, .array .int)] [] sz)) (va_Qi (fun (r : Int32) (_ : Unit) => r = nI 0) (fun _ t9 => kB D (va_A [] sz) [] t9) (va_A [] sz)) 0 0 (va_A [] sz) := by
  refine Met.ofW (cc := cX7_leastOf) (maxL := 1) (ret := (some .int)) (by decide) rfl ?_
  intro p e s m args below meth c s₁ B hml hv
  obtain ⟨rfl, hsz, hP, hK, hD0, hKN⟩ := hv
  have hx := B.exec
  have hb := B.bytes
  have hr := B.returns
  have hts := atoms_spec (ws := (Cond.code yX7_leastOf cX7_leastOf 1 (some .int) :: kBig)) B.pre
  have hown : s.vm.findClass RX7 = some m.cls := findClass_of_methodNamed B.named
  have hlocks := B.notSynchronized
  subst hsz
  have hD := hD0.self (sz := s.heap.size)
  generalize hAe : va_A [] s.heap.size = A at hD ⊢
  have hA : ∀ q : Nat, s.heap.size ≤ q → A q := fun q h => by rw [← hAe]; exact Or.inr h
  have hS : va_S A s.heap s.heap [] := va_S.rf
  have hl := lv_entry ([.int (nI 7)]) (n := 1) (Nat.le_of_ble_eq_true rfl)
  rw [lg_entry_eq]
  generalize (lg_sl ([.int (nI 7)]) ++ List.replicate (1 - (lg_sl ([.int (nI 7)])).length) Slot.unset).toArray = ls at hl ⊢
  have hl : lv_has ls 1 [(0, .int (nI 7))] := hl
  refine lv_iload_n hx hb dX7_leastOf_0 rfl (lv_at hl 0 rfl) ?_
  refine lv_bipush (v := nI 7) hx hb dX7_leastOf_1 (by decide) ?_
  refine k_icmp_ne (tgt := 10) hx hb dX7_leastOf_3 (by decide) (by omega) (by omega) (fun h9 => absurd h9 (by omega)) (fun _ => ?_)
  refine lv_iconst (v := nI 0) hx hb dX7_leastOf_6 (by decide) ?_
  refine lv_goto (tgt := 11) hx hb dX7_leastOf_7 (by decide) ?_
  have hP9 := hP.sub (ws' := []) [] rfl
  have hD9 := hD.sub (ws' := []) [] rfl rfl
  exact W.iret (v := nI 0) hx hb hr (fun t9 ht9 hW9 => ⟨⟨nI 0, (), rfl, rfl, by rw [ht9]; exact hP9, hD9⟩, hS.F ht9⟩) hS.2.2 dX7_leastOf_11

set_option maxHeartbeats 4000000 in
set_option maxRecDepth 100000 in
theorem c_X7_mostOf7 (l : Launch) (D : va_G) (cI cJ cM cG : ClassId)  (sz : Nat)  : Met l yX7_mostOf (Cond.code yX7_mostOf cX7_mostOf 1 (some .int) :: kBig) ({ frames := 0, cells := 0, slots := 0, locals := 0 }) (va_Pc [.int (nI 7)] (kP D [(cI, .int), (cJ, .long), (cM, .object "MeshRouting$Message"), (cG, .array .int)] [] sz)) (va_Qi (fun (r : Int32) (_ : Unit) => r = nI 10) (fun _ t9 => kB D (va_A [] sz) [] t9) (va_A [] sz)) 0 0 (va_A [] sz) := by
  refine Met.ofW (cc := cX7_mostOf) (maxL := 1) (ret := (some .int)) (by decide) rfl ?_
  intro p e s m args below meth c s₁ B hml hv
  obtain ⟨rfl, hsz, hP, hK, hD0, hKN⟩ := hv
  have hx := B.exec
  have hb := B.bytes
  have hr := B.returns
  have hts := atoms_spec (ws := (Cond.code yX7_mostOf cX7_mostOf 1 (some .int) :: kBig)) B.pre
  have hown : s.vm.findClass RX7 = some m.cls := findClass_of_methodNamed B.named
  have hlocks := B.notSynchronized
  subst hsz
  have hD := hD0.self (sz := s.heap.size)
  generalize hAe : va_A [] s.heap.size = A at hD ⊢
  have hA : ∀ q : Nat, s.heap.size ≤ q → A q := fun q h => by rw [← hAe]; exact Or.inr h
  have hS : va_S A s.heap s.heap [] := va_S.rf
  have hl := lv_entry ([.int (nI 7)]) (n := 1) (Nat.le_of_ble_eq_true rfl)
  rw [lg_entry_eq]
  generalize (lg_sl ([.int (nI 7)]) ++ List.replicate (1 - (lg_sl ([.int (nI 7)])).length) Slot.unset).toArray = ls at hl ⊢
  have hl : lv_has ls 1 [(0, .int (nI 7))] := hl
  refine lv_iload_n hx hb dX7_mostOf_0 rfl (lv_at hl 0 rfl) ?_
  refine lv_tableOut (tgt := 56) hx hb dX7_mostOf_1 (by decide) (by decide) ?_
  refine lv_bipush (v := nI 10) hx hb dX7_mostOf_56 (by decide) ?_
  have hP9 := hP.sub (ws' := []) [] rfl
  have hD9 := hD.sub (ws' := []) [] rfl rfl
  exact W.iret (v := nI 10) hx hb hr (fun t9 ht9 hW9 => ⟨⟨nI 10, (), rfl, rfl, by rw [ht9]; exact hP9, hD9⟩, hS.F ht9⟩) hS.2.2 dX7_mostOf_58

set_option maxHeartbeats 4000000 in
set_option maxRecDepth 100000 in
theorem c_M_setParameter1 (l : Launch) (D : va_G) (cI cJ cM cG : ClassId) (m0 : Nat) (v : Nat) (a1 : Nat) (a2 : Nat) (ik : Int32) (th : Int32) (en : Int32) (N : Nat) (j : Nat) (u : Nat) (sz : Nat) (hN : N ≤ 10) (hN0 : 0 < N) (hj : j < 8) (hlo : kLo j ≤ u) (hhi : u ≤ kHi j) (hu : u ≤ 1000) : Met l yX7_setParameter (Cond.code yX7_setParameter cX7_setParameter 4 (some .int) :: kBig) ({ frames := 1, cells := 0, slots := 0, locals := 25 }) (va_Pc [.ref m0, .int (nI j), .int (nI u)] (kP D [(cI, .int), (cJ, .long), (cM, .object "MeshRouting$Message"), (cG, .array .int)] [(m0, .inr (7, [.ref v, .ref a1, .ref a2, .int ik, .int th, .int en])), (v, .inl (cJ, 136800, .inr (.inl (mF N))))] sz)) (va_Qi (fun (r : Int32) (_ : Unit) => r = kPar j) (fun _ t9 => kB D (va_A [(m0, .inr (7, [.ref v, .ref a1, .ref a2, .int ik, .int th, .int en])), (v, .inl (cJ, 136800, .inr (.inl (mF N))))] sz) [(m0, .inr (7, [.ref v, .ref a1, .ref a2, .int ik, .int (nI 0), .int en]))] t9) (va_A [(m0, .inr (7, [.ref v, .ref a1, .ref a2, .int ik, .int th, .int en])), (v, .inl (cJ, 136800, .inr (.inl (mF N))))] sz)) 0 0 (va_A [(m0, .inr (7, [.ref v, .ref a1, .ref a2, .int ik, .int th, .int en])), (v, .inl (cJ, 136800, .inr (.inl (mF N))))] sz) := by
  refine Met.ofW (cc := cX7_setParameter) (maxL := 4) (ret := (some .int)) (by decide) rfl ?_
  intro p e s m args below meth c s₁ B hml hv
  obtain ⟨rfl, hsz, hP, hK, hD0, hKN⟩ := hv
  have hx := B.exec
  have hb := B.bytes
  have hr := B.returns
  have hts := atoms_spec (ws := (Cond.code yX7_setParameter cX7_setParameter 4 (some .int) :: kBig)) B.pre
  have hown : s.vm.findClass RX7 = some m.cls := findClass_of_methodNamed B.named
  have hlocks := B.notSynchronized
  have hin7 : ∀ w ∈ u_ws RX7 TX7 6, w ∈ (Cond.code yX7_setParameter cX7_setParameter 4 (some .int) :: kBig) := fun w h => List.mem_cons_of_mem _ (inb7 w h)
  subst hsz
  have hD := hD0.self (sz := s.heap.size)
  generalize hAe : va_A [(m0, .inr (7, [.ref v, .ref a1, .ref a2, .int ik, .int th, .int en])), (v, .inl (cJ, 136800, .inr (.inl (mF N))))] s.heap.size = A at hD ⊢
  have hA : ∀ q : Nat, s.heap.size ≤ q → A q := fun q h => by rw [← hAe]; exact Or.inr h
  have hS : va_S A s.heap s.heap [] := va_S.rf
  have hl := lv_entry ([.ref m0, .int (nI j), .int (nI u)]) (n := 4) (Nat.le_of_ble_eq_true rfl)
  rw [lg_entry_eq]
  generalize (lg_sl ([.ref m0, .int (nI j), .int (nI u)]) ++ List.replicate (4 - (lg_sl ([.ref m0, .int (nI j), .int (nI u)])).length) Slot.unset).toArray = ls at hl ⊢
  have hl : lv_has ls 4 [(0, .ref m0), (1, .int (nI j)), (2, .int (nI u))] := hl
  rcases (show j = 0 ∨ j = 1 ∨ j = 2 ∨ j = 3 ∨ j = 4 ∨ j = 5 ∨ j = 6 ∨ j = 7 by omega) with rfl | rfl | rfl | rfl | rfl | rfl | rfl | rfl
  · have hlo9 : 1 ≤ u := hlo
    have hhi9 : u ≤ 1000 := hhi
    refine lv_aload_n hx hb dX7_setParameter_0 rfl (lv_at hl 0 rfl) ?_
    refine lv_iconst (v := nI 0) hx hb dX7_setParameter_1 (by decide) ?_
    refine va_put (D := D) (ci := 7) (v := .int (nI 0)) (ty := .int) (C := RX7) (T := TX7) (N := 6) hx hb hts hin7 tyX7 tyX7_ok nmX7 hown hK hP hD hS 0 rfl rfl 4 (by decide) (hts (.fieldLink RX7 34 "MeshRoutingModel" "thrown" "I") (List.mem_cons_of_mem _ q_760)) (fun _ h9 => h9) rfl (by decide +kernel) rfl rfl (Nat.le_of_ble_eq_true rfl) dX7_setParameter_2 (fun H locs hP hD hS => ?_)
    replace hP : va_P D vwCl [(m0, .inr (7, [.ref v, .ref a1, .ref a2, .int ik, .int (nI 0), .int en])), (v, .inl (cJ, 136800, .inr (.inl (mF N))))] H := hP
    replace hD : va_D A [(m0, .inr (7, [.ref v, .ref a1, .ref a2, .int ik, .int (nI 0), .int en])), (v, .inl (cJ, 136800, .inr (.inl (mF N))))] := hD
    refine lv_iload_n hx hb dX7_setParameter_5 rfl (lv_at hl 1 rfl) ?_
    refine lv_i2l (v := lN 0) hx hb dX7_setParameter_6 (by decide) ?_
    refine lv_lconst (v := lN 0) hx hb dX7_setParameter_7 (by decide) ?_
    refine lv_ldc2 (v := 7) hx hb hown (by exact hts (.constantLong RX7 217 (7)) (List.mem_cons_of_mem _ q_942)) dX7_setParameter_8 ?_
    refine k_tl (show (7) = (lN 7) from by decide) ?_
    refine k_ci (wr := [(m0, .inr (7, [.ref v, .ref a1, .ref a2, .int ik, .int (nI 0), .int en])), (v, .inl (cJ, 136800, .inr (.inl (mF N))))]) (w1 := []) (va_runS (As := [.long (lN 0), .long (lN 0), .long (lN 7)]) (rest := []) ⟨hx, hb, hml, hown, hts⟩ (c_X7_in1 l D cI cJ cM cG (lN 0) (lN 0) (lN 7) H.size (k_in1 (by omega) (by omega) (by omega)) (k_in1 (by omega) (by omega) (by omega))) (va_cwS 3 hts (kB_S (fun _ => List.mem_cons_of_mem _) q_765 q_766 q_670 (kB_c q_767)) rfl rfl rfl (by decide +kernel) ⟨Nat.le_of_ble_eq_true rfl, Nat.le_of_ble_eq_true rfl⟩) (k_preS hP hD hK hKN [] rfl rfl) rfl rfl hl.1 rfl (lv_room (Nat.le_of_ble_eq_true rfl)) dX7_setParameter_11 ⟨Nat.le_of_ble_eq_true rfl, Nat.le_of_ble_eq_true rfl⟩) hP hD hS hA [] [0, 1] rfl rfl rfl (by decide) (fun r11 H locs hw11 hP hD hS => ?_)
    replace hP : va_P D vwCl [(m0, .inr (7, [.ref v, .ref a1, .ref a2, .int ik, .int (nI 0), .int en])), (v, .inl (cJ, 136800, .inr (.inl (mF N))))] H := hP
    replace hD : va_D A [(m0, .inr (7, [.ref v, .ref a1, .ref a2, .int ik, .int (nI 0), .int en])), (v, .inl (cJ, 136800, .inr (.inl (mF N))))] := hD
    replace hw11 : r11 = nI 1 := hw11
    refine k_ti hw11 ?_
    refine k_if_ne (tgt := 23) hx hb dX7_setParameter_14 (by decide) (by omega) (fun _ => ?_) (fun h9 => absurd h9 (by omega))
    refine lv_iload_n hx hb dX7_setParameter_23 rfl (lv_at hl 2 rfl) ?_
    refine lv_i2l (v := lN u) hx hb dX7_setParameter_24 (by exact nI_l (by omega)) ?_
    refine lv_iload_n hx hb dX7_setParameter_25 rfl (lv_at hl 1 rfl) ?_
    refine k_ci (wr := [(m0, .inr (7, [.ref v, .ref a1, .ref a2, .int ik, .int (nI 0), .int en])), (v, .inl (cJ, 136800, .inr (.inl (mF N))))]) (w1 := []) (va_runS (As := [.int (nI 0)]) (rest := [.long (lN u)]) ⟨hx, hb, hml, hown, hts⟩ (c_X7_leastOf0 l D cI cJ cM cG  H.size) (va_cwS 1 hts (kB_S (fun _ => List.mem_cons_of_mem _) q_943 q_944 q_670 (kB_c q_922)) rfl rfl rfl (by decide +kernel) ⟨Nat.le_of_ble_eq_true rfl, Nat.le_of_ble_eq_true rfl⟩) (k_preS hP hD hK hKN [] rfl rfl) rfl rfl hl.1 rfl (lv_room (Nat.le_of_ble_eq_true rfl)) dX7_setParameter_26 ⟨Nat.le_of_ble_eq_true rfl, Nat.le_of_ble_eq_true rfl⟩) hP hD hS hA [] [0, 1] rfl rfl rfl (by decide) (fun r26 H locs hw26 hP hD hS => ?_)
    replace hP : va_P D vwCl [(m0, .inr (7, [.ref v, .ref a1, .ref a2, .int ik, .int (nI 0), .int en])), (v, .inl (cJ, 136800, .inr (.inl (mF N))))] H := hP
    replace hD : va_D A [(m0, .inr (7, [.ref v, .ref a1, .ref a2, .int ik, .int (nI 0), .int en])), (v, .inl (cJ, 136800, .inr (.inl (mF N))))] := hD
    replace hw26 : r26 = nI 1 := hw26
    refine k_ti hw26 ?_
    refine lv_i2l (v := lN 1) hx hb dX7_setParameter_29 (by decide) ?_
    refine lv_iload_n hx hb dX7_setParameter_30 rfl (lv_at hl 1 rfl) ?_
    refine k_ci (wr := [(m0, .inr (7, [.ref v, .ref a1, .ref a2, .int ik, .int (nI 0), .int en])), (v, .inl (cJ, 136800, .inr (.inl (mF N))))]) (w1 := []) (va_runS (As := [.int (nI 0)]) (rest := [.long (lN 1), .long (lN u)]) ⟨hx, hb, hml, hown, hts⟩ (c_X7_mostOf0 l D cI cJ cM cG  H.size) (va_cwS 1 hts (kB_S (fun _ => List.mem_cons_of_mem _) q_945 q_946 q_670 (kB_c q_928)) rfl rfl rfl (by decide +kernel) ⟨Nat.le_of_ble_eq_true rfl, Nat.le_of_ble_eq_true rfl⟩) (k_preS hP hD hK hKN [] rfl rfl) rfl rfl hl.1 rfl (lv_room (Nat.le_of_ble_eq_true rfl)) dX7_setParameter_31 ⟨Nat.le_of_ble_eq_true rfl, Nat.le_of_ble_eq_true rfl⟩) hP hD hS hA [] [0, 1] rfl rfl rfl (by decide) (fun r31 H locs hw31 hP hD hS => ?_)
    replace hP : va_P D vwCl [(m0, .inr (7, [.ref v, .ref a1, .ref a2, .int ik, .int (nI 0), .int en])), (v, .inl (cJ, 136800, .inr (.inl (mF N))))] H := hP
    replace hD : va_D A [(m0, .inr (7, [.ref v, .ref a1, .ref a2, .int ik, .int (nI 0), .int en])), (v, .inl (cJ, 136800, .inr (.inl (mF N))))] := hD
    replace hw31 : r31 = nI 1000 := hw31
    refine k_ti hw31 ?_
    refine lv_i2l (v := lN 1000) hx hb dX7_setParameter_34 (by decide) ?_
    refine k_ci (wr := [(m0, .inr (7, [.ref v, .ref a1, .ref a2, .int ik, .int (nI 0), .int en])), (v, .inl (cJ, 136800, .inr (.inl (mF N))))]) (w1 := []) (va_runS (As := [.long (lN u), .long (lN 1), .long (lN 1000)]) (rest := []) ⟨hx, hb, hml, hown, hts⟩ (c_X7_in1 l D cI cJ cM cG (lN u) (lN 1) (lN 1000) H.size (k_in1 (by omega) (by omega) (by omega)) (k_in1 (by omega) (by omega) (by omega))) (va_cwS 3 hts (kB_S (fun _ => List.mem_cons_of_mem _) q_765 q_766 q_670 (kB_c q_767)) rfl rfl rfl (by decide +kernel) ⟨Nat.le_of_ble_eq_true rfl, Nat.le_of_ble_eq_true rfl⟩) (k_preS hP hD hK hKN [] rfl rfl) rfl rfl hl.1 rfl (lv_room (Nat.le_of_ble_eq_true rfl)) dX7_setParameter_35 ⟨Nat.le_of_ble_eq_true rfl, Nat.le_of_ble_eq_true rfl⟩) hP hD hS hA [] [0, 1] rfl rfl rfl (by decide) (fun r35 H locs hw35 hP hD hS => ?_)
    replace hP : va_P D vwCl [(m0, .inr (7, [.ref v, .ref a1, .ref a2, .int ik, .int (nI 0), .int en])), (v, .inl (cJ, 136800, .inr (.inl (mF N))))] H := hP
    replace hD : va_D A [(m0, .inr (7, [.ref v, .ref a1, .ref a2, .int ik, .int (nI 0), .int en])), (v, .inl (cJ, 136800, .inr (.inl (mF N))))] := hD
    replace hw35 : r35 = nI 1 := hw35
    refine k_ti hw35 ?_
    refine k_if_ne (tgt := 47) hx hb dX7_setParameter_38 (by decide) (by omega) (fun _ => ?_) (fun h9 => absurd h9 (by omega))
    refine lv_aload_n hx hb dX7_setParameter_47 rfl (lv_at hl 0 rfl) ?_
    refine va_get (D := D) (ci := 7) (v := .ref v) (C := RX7) (T := TX7) (N := 6) hx hb hts hin7 hown hK hP 0 rfl rfl 0 (by decide) (hts (.fieldLink RX7 8 "MeshRoutingModel" "v" "[J") (List.mem_cons_of_mem _ q_665)) (fun _ h9 => h9) rfl dX7_setParameter_48 ?_
    refine lv_bipush (v := nI 40) hx hb dX7_setParameter_51 (by decide) ?_
    refine lv_iload_n hx hb dX7_setParameter_53 rfl (lv_at hl 1 rfl) ?_
    refine lv_iadd hx hb dX7_setParameter_54 ?_
    refine k_ti (show ((nI 40) + (nI 0)) = (nI 40) from by decide) ?_
    refine k_lald (v := lN 60) hx hb hK hP 1 1 rfl rfl (by omega) (by omega) (rfl) dX7_setParameter_55 ?_
    refine lv_l2i (v := nI 60) hx hb dX7_setParameter_56 (by decide) ?_
    refine lv_istore_n (lv' := [(3, .int (nI 60)), (0, .ref m0), (1, .int (nI 0)), (2, .int (nI u))]) hx hb dX7_setParameter_57 rfl hl (by decide) rfl (fun ls hl => ?_)
    refine lv_aload_n hx hb dX7_setParameter_58 rfl (lv_at hl 1 rfl) ?_
    refine va_get (D := D) (ci := 7) (v := .ref v) (C := RX7) (T := TX7) (N := 6) hx hb hts hin7 hown hK hP 0 rfl rfl 0 (by decide) (hts (.fieldLink RX7 8 "MeshRoutingModel" "v" "[J") (List.mem_cons_of_mem _ q_665)) (fun _ h9 => h9) rfl dX7_setParameter_59 ?_
    refine lv_bipush (v := nI 40) hx hb dX7_setParameter_62 (by decide) ?_
    refine lv_iload_n hx hb dX7_setParameter_64 rfl (lv_at hl 2 rfl) ?_
    refine lv_iadd hx hb dX7_setParameter_65 ?_
    refine k_ti (show ((nI 40) + (nI 0)) = (nI 40) from by decide) ?_
    refine lv_iload_n hx hb dX7_setParameter_66 rfl (lv_at hl 3 rfl) ?_
    refine lv_i2l (v := lN u) hx hb dX7_setParameter_67 (by exact nI_l (by omega)) ?_
    refine k_last (f' := vp_updL (mF N) 40 (lN u)) hx hb hK hP hD hS 1 1 rfl rfl (by omega) (by omega) (rfl) dX7_setParameter_68 (fun H locs hP hD hS => ?_)
    replace hP : va_P D vwCl [(m0, .inr (7, [.ref v, .ref a1, .ref a2, .int ik, .int (nI 0), .int en])), (v, .inl (cJ, 136800, .inr (.inl (vp_updL (mF N) 40 (lN u)))))] H := hP
    replace hD : va_D A [(m0, .inr (7, [.ref v, .ref a1, .ref a2, .int ik, .int (nI 0), .int en])), (v, .inl (cJ, 136800, .inr (.inl (vp_updL (mF N) 40 (lN u)))))] := hD
    refine lv_iload_n hx hb dX7_setParameter_69 rfl (lv_at hl 0 rfl) ?_
    have hP9 := hP.sub (ws' := [(m0, .inr (7, [.ref v, .ref a1, .ref a2, .int ik, .int (nI 0), .int en]))]) [0] rfl
    have hD9 := hD.sub (ws' := [(m0, .inr (7, [.ref v, .ref a1, .ref a2, .int ik, .int (nI 0), .int en]))]) [0] rfl rfl
    exact W.iret (v := nI 60) hx hb hr (fun t9 ht9 hW9 => ⟨⟨nI 60, (), rfl, rfl, by rw [ht9]; exact hP9, hD9⟩, hS.F ht9⟩) hS.2.2 dX7_setParameter_70
  · have hlo9 : 1 ≤ u := hlo
    have hhi9 : u ≤ 10 := hhi
    refine lv_aload_n hx hb dX7_setParameter_0 rfl (lv_at hl 0 rfl) ?_
    refine lv_iconst (v := nI 0) hx hb dX7_setParameter_1 (by decide) ?_
    refine va_put (D := D) (ci := 7) (v := .int (nI 0)) (ty := .int) (C := RX7) (T := TX7) (N := 6) hx hb hts hin7 tyX7 tyX7_ok nmX7 hown hK hP hD hS 0 rfl rfl 4 (by decide) (hts (.fieldLink RX7 34 "MeshRoutingModel" "thrown" "I") (List.mem_cons_of_mem _ q_760)) (fun _ h9 => h9) rfl (by decide +kernel) rfl rfl (Nat.le_of_ble_eq_true rfl) dX7_setParameter_2 (fun H locs hP hD hS => ?_)
    replace hP : va_P D vwCl [(m0, .inr (7, [.ref v, .ref a1, .ref a2, .int ik, .int (nI 0), .int en])), (v, .inl (cJ, 136800, .inr (.inl (mF N))))] H := hP
    replace hD : va_D A [(m0, .inr (7, [.ref v, .ref a1, .ref a2, .int ik, .int (nI 0), .int en])), (v, .inl (cJ, 136800, .inr (.inl (mF N))))] := hD
    refine lv_iload_n hx hb dX7_setParameter_5 rfl (lv_at hl 1 rfl) ?_
    refine lv_i2l (v := lN 1) hx hb dX7_setParameter_6 (by decide) ?_
    refine lv_lconst (v := lN 0) hx hb dX7_setParameter_7 (by decide) ?_
    refine lv_ldc2 (v := 7) hx hb hown (by exact hts (.constantLong RX7 217 (7)) (List.mem_cons_of_mem _ q_942)) dX7_setParameter_8 ?_
    refine k_tl (show (7) = (lN 7) from by decide) ?_
    refine k_ci (wr := [(m0, .inr (7, [.ref v, .ref a1, .ref a2, .int ik, .int (nI 0), .int en])), (v, .inl (cJ, 136800, .inr (.inl (mF N))))]) (w1 := []) (va_runS (As := [.long (lN 1), .long (lN 0), .long (lN 7)]) (rest := []) ⟨hx, hb, hml, hown, hts⟩ (c_X7_in1 l D cI cJ cM cG (lN 1) (lN 0) (lN 7) H.size (k_in1 (by omega) (by omega) (by omega)) (k_in1 (by omega) (by omega) (by omega))) (va_cwS 3 hts (kB_S (fun _ => List.mem_cons_of_mem _) q_765 q_766 q_670 (kB_c q_767)) rfl rfl rfl (by decide +kernel) ⟨Nat.le_of_ble_eq_true rfl, Nat.le_of_ble_eq_true rfl⟩) (k_preS hP hD hK hKN [] rfl rfl) rfl rfl hl.1 rfl (lv_room (Nat.le_of_ble_eq_true rfl)) dX7_setParameter_11 ⟨Nat.le_of_ble_eq_true rfl, Nat.le_of_ble_eq_true rfl⟩) hP hD hS hA [] [0, 1] rfl rfl rfl (by decide) (fun r11 H locs hw11 hP hD hS => ?_)
    replace hP : va_P D vwCl [(m0, .inr (7, [.ref v, .ref a1, .ref a2, .int ik, .int (nI 0), .int en])), (v, .inl (cJ, 136800, .inr (.inl (mF N))))] H := hP
    replace hD : va_D A [(m0, .inr (7, [.ref v, .ref a1, .ref a2, .int ik, .int (nI 0), .int en])), (v, .inl (cJ, 136800, .inr (.inl (mF N))))] := hD
    replace hw11 : r11 = nI 1 := hw11
    refine k_ti hw11 ?_
    refine k_if_ne (tgt := 23) hx hb dX7_setParameter_14 (by decide) (by omega) (fun _ => ?_) (fun h9 => absurd h9 (by omega))
    refine lv_iload_n hx hb dX7_setParameter_23 rfl (lv_at hl 2 rfl) ?_
    refine lv_i2l (v := lN u) hx hb dX7_setParameter_24 (by exact nI_l (by omega)) ?_
    refine lv_iload_n hx hb dX7_setParameter_25 rfl (lv_at hl 1 rfl) ?_
    refine k_ci (wr := [(m0, .inr (7, [.ref v, .ref a1, .ref a2, .int ik, .int (nI 0), .int en])), (v, .inl (cJ, 136800, .inr (.inl (mF N))))]) (w1 := []) (va_runS (As := [.int (nI 1)]) (rest := [.long (lN u)]) ⟨hx, hb, hml, hown, hts⟩ (c_X7_leastOf1 l D cI cJ cM cG  H.size) (va_cwS 1 hts (kB_S (fun _ => List.mem_cons_of_mem _) q_943 q_944 q_670 (kB_c q_922)) rfl rfl rfl (by decide +kernel) ⟨Nat.le_of_ble_eq_true rfl, Nat.le_of_ble_eq_true rfl⟩) (k_preS hP hD hK hKN [] rfl rfl) rfl rfl hl.1 rfl (lv_room (Nat.le_of_ble_eq_true rfl)) dX7_setParameter_26 ⟨Nat.le_of_ble_eq_true rfl, Nat.le_of_ble_eq_true rfl⟩) hP hD hS hA [] [0, 1] rfl rfl rfl (by decide) (fun r26 H locs hw26 hP hD hS => ?_)
    replace hP : va_P D vwCl [(m0, .inr (7, [.ref v, .ref a1, .ref a2, .int ik, .int (nI 0), .int en])), (v, .inl (cJ, 136800, .inr (.inl (mF N))))] H := hP
    replace hD : va_D A [(m0, .inr (7, [.ref v, .ref a1, .ref a2, .int ik, .int (nI 0), .int en])), (v, .inl (cJ, 136800, .inr (.inl (mF N))))] := hD
    replace hw26 : r26 = nI 1 := hw26
    refine k_ti hw26 ?_
    refine lv_i2l (v := lN 1) hx hb dX7_setParameter_29 (by decide) ?_
    refine lv_iload_n hx hb dX7_setParameter_30 rfl (lv_at hl 1 rfl) ?_
    refine k_ci (wr := [(m0, .inr (7, [.ref v, .ref a1, .ref a2, .int ik, .int (nI 0), .int en])), (v, .inl (cJ, 136800, .inr (.inl (mF N))))]) (w1 := []) (va_runS (As := [.int (nI 1)]) (rest := [.long (lN 1), .long (lN u)]) ⟨hx, hb, hml, hown, hts⟩ (c_X7_mostOf1 l D cI cJ cM cG  H.size) (va_cwS 1 hts (kB_S (fun _ => List.mem_cons_of_mem _) q_945 q_946 q_670 (kB_c q_928)) rfl rfl rfl (by decide +kernel) ⟨Nat.le_of_ble_eq_true rfl, Nat.le_of_ble_eq_true rfl⟩) (k_preS hP hD hK hKN [] rfl rfl) rfl rfl hl.1 rfl (lv_room (Nat.le_of_ble_eq_true rfl)) dX7_setParameter_31 ⟨Nat.le_of_ble_eq_true rfl, Nat.le_of_ble_eq_true rfl⟩) hP hD hS hA [] [0, 1] rfl rfl rfl (by decide) (fun r31 H locs hw31 hP hD hS => ?_)
    replace hP : va_P D vwCl [(m0, .inr (7, [.ref v, .ref a1, .ref a2, .int ik, .int (nI 0), .int en])), (v, .inl (cJ, 136800, .inr (.inl (mF N))))] H := hP
    replace hD : va_D A [(m0, .inr (7, [.ref v, .ref a1, .ref a2, .int ik, .int (nI 0), .int en])), (v, .inl (cJ, 136800, .inr (.inl (mF N))))] := hD
    replace hw31 : r31 = nI 10 := hw31
    refine k_ti hw31 ?_
    refine lv_i2l (v := lN 10) hx hb dX7_setParameter_34 (by decide) ?_
    refine k_ci (wr := [(m0, .inr (7, [.ref v, .ref a1, .ref a2, .int ik, .int (nI 0), .int en])), (v, .inl (cJ, 136800, .inr (.inl (mF N))))]) (w1 := []) (va_runS (As := [.long (lN u), .long (lN 1), .long (lN 10)]) (rest := []) ⟨hx, hb, hml, hown, hts⟩ (c_X7_in1 l D cI cJ cM cG (lN u) (lN 1) (lN 10) H.size (k_in1 (by omega) (by omega) (by omega)) (k_in1 (by omega) (by omega) (by omega))) (va_cwS 3 hts (kB_S (fun _ => List.mem_cons_of_mem _) q_765 q_766 q_670 (kB_c q_767)) rfl rfl rfl (by decide +kernel) ⟨Nat.le_of_ble_eq_true rfl, Nat.le_of_ble_eq_true rfl⟩) (k_preS hP hD hK hKN [] rfl rfl) rfl rfl hl.1 rfl (lv_room (Nat.le_of_ble_eq_true rfl)) dX7_setParameter_35 ⟨Nat.le_of_ble_eq_true rfl, Nat.le_of_ble_eq_true rfl⟩) hP hD hS hA [] [0, 1] rfl rfl rfl (by decide) (fun r35 H locs hw35 hP hD hS => ?_)
    replace hP : va_P D vwCl [(m0, .inr (7, [.ref v, .ref a1, .ref a2, .int ik, .int (nI 0), .int en])), (v, .inl (cJ, 136800, .inr (.inl (mF N))))] H := hP
    replace hD : va_D A [(m0, .inr (7, [.ref v, .ref a1, .ref a2, .int ik, .int (nI 0), .int en])), (v, .inl (cJ, 136800, .inr (.inl (mF N))))] := hD
    replace hw35 : r35 = nI 1 := hw35
    refine k_ti hw35 ?_
    refine k_if_ne (tgt := 47) hx hb dX7_setParameter_38 (by decide) (by omega) (fun _ => ?_) (fun h9 => absurd h9 (by omega))
    refine lv_aload_n hx hb dX7_setParameter_47 rfl (lv_at hl 0 rfl) ?_
    refine va_get (D := D) (ci := 7) (v := .ref v) (C := RX7) (T := TX7) (N := 6) hx hb hts hin7 hown hK hP 0 rfl rfl 0 (by decide) (hts (.fieldLink RX7 8 "MeshRoutingModel" "v" "[J") (List.mem_cons_of_mem _ q_665)) (fun _ h9 => h9) rfl dX7_setParameter_48 ?_
    refine lv_bipush (v := nI 40) hx hb dX7_setParameter_51 (by decide) ?_
    refine lv_iload_n hx hb dX7_setParameter_53 rfl (lv_at hl 1 rfl) ?_
    refine lv_iadd hx hb dX7_setParameter_54 ?_
    refine k_ti (show ((nI 40) + (nI 1)) = (nI 41) from by decide) ?_
    refine k_lald (v := lN 1) hx hb hK hP 1 1 rfl rfl (by omega) (by omega) (rfl) dX7_setParameter_55 ?_
    refine lv_l2i (v := nI 1) hx hb dX7_setParameter_56 (by decide) ?_
    refine lv_istore_n (lv' := [(3, .int (nI 1)), (0, .ref m0), (1, .int (nI 1)), (2, .int (nI u))]) hx hb dX7_setParameter_57 rfl hl (by decide) rfl (fun ls hl => ?_)
    refine lv_aload_n hx hb dX7_setParameter_58 rfl (lv_at hl 1 rfl) ?_
    refine va_get (D := D) (ci := 7) (v := .ref v) (C := RX7) (T := TX7) (N := 6) hx hb hts hin7 hown hK hP 0 rfl rfl 0 (by decide) (hts (.fieldLink RX7 8 "MeshRoutingModel" "v" "[J") (List.mem_cons_of_mem _ q_665)) (fun _ h9 => h9) rfl dX7_setParameter_59 ?_
    refine lv_bipush (v := nI 40) hx hb dX7_setParameter_62 (by decide) ?_
    refine lv_iload_n hx hb dX7_setParameter_64 rfl (lv_at hl 2 rfl) ?_
    refine lv_iadd hx hb dX7_setParameter_65 ?_
    refine k_ti (show ((nI 40) + (nI 1)) = (nI 41) from by decide) ?_
    refine lv_iload_n hx hb dX7_setParameter_66 rfl (lv_at hl 3 rfl) ?_
    refine lv_i2l (v := lN u) hx hb dX7_setParameter_67 (by exact nI_l (by omega)) ?_
    refine k_last (f' := vp_updL (mF N) 41 (lN u)) hx hb hK hP hD hS 1 1 rfl rfl (by omega) (by omega) (rfl) dX7_setParameter_68 (fun H locs hP hD hS => ?_)
    replace hP : va_P D vwCl [(m0, .inr (7, [.ref v, .ref a1, .ref a2, .int ik, .int (nI 0), .int en])), (v, .inl (cJ, 136800, .inr (.inl (vp_updL (mF N) 41 (lN u)))))] H := hP
    replace hD : va_D A [(m0, .inr (7, [.ref v, .ref a1, .ref a2, .int ik, .int (nI 0), .int en])), (v, .inl (cJ, 136800, .inr (.inl (vp_updL (mF N) 41 (lN u)))))] := hD
    refine lv_iload_n hx hb dX7_setParameter_69 rfl (lv_at hl 0 rfl) ?_
    have hP9 := hP.sub (ws' := [(m0, .inr (7, [.ref v, .ref a1, .ref a2, .int ik, .int (nI 0), .int en]))]) [0] rfl
    have hD9 := hD.sub (ws' := [(m0, .inr (7, [.ref v, .ref a1, .ref a2, .int ik, .int (nI 0), .int en]))]) [0] rfl rfl
    exact W.iret (v := nI 1) hx hb hr (fun t9 ht9 hW9 => ⟨⟨nI 1, (), rfl, rfl, by rw [ht9]; exact hP9, hD9⟩, hS.F ht9⟩) hS.2.2 dX7_setParameter_70
  · have hlo9 : 1 ≤ u := hlo
    have hhi9 : u ≤ 10 := hhi
    refine lv_aload_n hx hb dX7_setParameter_0 rfl (lv_at hl 0 rfl) ?_
    refine lv_iconst (v := nI 0) hx hb dX7_setParameter_1 (by decide) ?_
    refine va_put (D := D) (ci := 7) (v := .int (nI 0)) (ty := .int) (C := RX7) (T := TX7) (N := 6) hx hb hts hin7 tyX7 tyX7_ok nmX7 hown hK hP hD hS 0 rfl rfl 4 (by decide) (hts (.fieldLink RX7 34 "MeshRoutingModel" "thrown" "I") (List.mem_cons_of_mem _ q_760)) (fun _ h9 => h9) rfl (by decide +kernel) rfl rfl (Nat.le_of_ble_eq_true rfl) dX7_setParameter_2 (fun H locs hP hD hS => ?_)
    replace hP : va_P D vwCl [(m0, .inr (7, [.ref v, .ref a1, .ref a2, .int ik, .int (nI 0), .int en])), (v, .inl (cJ, 136800, .inr (.inl (mF N))))] H := hP
    replace hD : va_D A [(m0, .inr (7, [.ref v, .ref a1, .ref a2, .int ik, .int (nI 0), .int en])), (v, .inl (cJ, 136800, .inr (.inl (mF N))))] := hD
    refine lv_iload_n hx hb dX7_setParameter_5 rfl (lv_at hl 1 rfl) ?_
    refine lv_i2l (v := lN 2) hx hb dX7_setParameter_6 (by decide) ?_
    refine lv_lconst (v := lN 0) hx hb dX7_setParameter_7 (by decide) ?_
    refine lv_ldc2 (v := 7) hx hb hown (by exact hts (.constantLong RX7 217 (7)) (List.mem_cons_of_mem _ q_942)) dX7_setParameter_8 ?_
    refine k_tl (show (7) = (lN 7) from by decide) ?_
    refine k_ci (wr := [(m0, .inr (7, [.ref v, .ref a1, .ref a2, .int ik, .int (nI 0), .int en])), (v, .inl (cJ, 136800, .inr (.inl (mF N))))]) (w1 := []) (va_runS (As := [.long (lN 2), .long (lN 0), .long (lN 7)]) (rest := []) ⟨hx, hb, hml, hown, hts⟩ (c_X7_in1 l D cI cJ cM cG (lN 2) (lN 0) (lN 7) H.size (k_in1 (by omega) (by omega) (by omega)) (k_in1 (by omega) (by omega) (by omega))) (va_cwS 3 hts (kB_S (fun _ => List.mem_cons_of_mem _) q_765 q_766 q_670 (kB_c q_767)) rfl rfl rfl (by decide +kernel) ⟨Nat.le_of_ble_eq_true rfl, Nat.le_of_ble_eq_true rfl⟩) (k_preS hP hD hK hKN [] rfl rfl) rfl rfl hl.1 rfl (lv_room (Nat.le_of_ble_eq_true rfl)) dX7_setParameter_11 ⟨Nat.le_of_ble_eq_true rfl, Nat.le_of_ble_eq_true rfl⟩) hP hD hS hA [] [0, 1] rfl rfl rfl (by decide) (fun r11 H locs hw11 hP hD hS => ?_)
    replace hP : va_P D vwCl [(m0, .inr (7, [.ref v, .ref a1, .ref a2, .int ik, .int (nI 0), .int en])), (v, .inl (cJ, 136800, .inr (.inl (mF N))))] H := hP
    replace hD : va_D A [(m0, .inr (7, [.ref v, .ref a1, .ref a2, .int ik, .int (nI 0), .int en])), (v, .inl (cJ, 136800, .inr (.inl (mF N))))] := hD
    replace hw11 : r11 = nI 1 := hw11
    refine k_ti hw11 ?_
    refine k_if_ne (tgt := 23) hx hb dX7_setParameter_14 (by decide) (by omega) (fun _ => ?_) (fun h9 => absurd h9 (by omega))
    refine lv_iload_n hx hb dX7_setParameter_23 rfl (lv_at hl 2 rfl) ?_
    refine lv_i2l (v := lN u) hx hb dX7_setParameter_24 (by exact nI_l (by omega)) ?_
    refine lv_iload_n hx hb dX7_setParameter_25 rfl (lv_at hl 1 rfl) ?_
    refine k_ci (wr := [(m0, .inr (7, [.ref v, .ref a1, .ref a2, .int ik, .int (nI 0), .int en])), (v, .inl (cJ, 136800, .inr (.inl (mF N))))]) (w1 := []) (va_runS (As := [.int (nI 2)]) (rest := [.long (lN u)]) ⟨hx, hb, hml, hown, hts⟩ (c_X7_leastOf2 l D cI cJ cM cG  H.size) (va_cwS 1 hts (kB_S (fun _ => List.mem_cons_of_mem _) q_943 q_944 q_670 (kB_c q_922)) rfl rfl rfl (by decide +kernel) ⟨Nat.le_of_ble_eq_true rfl, Nat.le_of_ble_eq_true rfl⟩) (k_preS hP hD hK hKN [] rfl rfl) rfl rfl hl.1 rfl (lv_room (Nat.le_of_ble_eq_true rfl)) dX7_setParameter_26 ⟨Nat.le_of_ble_eq_true rfl, Nat.le_of_ble_eq_true rfl⟩) hP hD hS hA [] [0, 1] rfl rfl rfl (by decide) (fun r26 H locs hw26 hP hD hS => ?_)
    replace hP : va_P D vwCl [(m0, .inr (7, [.ref v, .ref a1, .ref a2, .int ik, .int (nI 0), .int en])), (v, .inl (cJ, 136800, .inr (.inl (mF N))))] H := hP
    replace hD : va_D A [(m0, .inr (7, [.ref v, .ref a1, .ref a2, .int ik, .int (nI 0), .int en])), (v, .inl (cJ, 136800, .inr (.inl (mF N))))] := hD
    replace hw26 : r26 = nI 1 := hw26
    refine k_ti hw26 ?_
    refine lv_i2l (v := lN 1) hx hb dX7_setParameter_29 (by decide) ?_
    refine lv_iload_n hx hb dX7_setParameter_30 rfl (lv_at hl 1 rfl) ?_
    refine k_ci (wr := [(m0, .inr (7, [.ref v, .ref a1, .ref a2, .int ik, .int (nI 0), .int en])), (v, .inl (cJ, 136800, .inr (.inl (mF N))))]) (w1 := []) (va_runS (As := [.int (nI 2)]) (rest := [.long (lN 1), .long (lN u)]) ⟨hx, hb, hml, hown, hts⟩ (c_X7_mostOf2 l D cI cJ cM cG  H.size) (va_cwS 1 hts (kB_S (fun _ => List.mem_cons_of_mem _) q_945 q_946 q_670 (kB_c q_928)) rfl rfl rfl (by decide +kernel) ⟨Nat.le_of_ble_eq_true rfl, Nat.le_of_ble_eq_true rfl⟩) (k_preS hP hD hK hKN [] rfl rfl) rfl rfl hl.1 rfl (lv_room (Nat.le_of_ble_eq_true rfl)) dX7_setParameter_31 ⟨Nat.le_of_ble_eq_true rfl, Nat.le_of_ble_eq_true rfl⟩) hP hD hS hA [] [0, 1] rfl rfl rfl (by decide) (fun r31 H locs hw31 hP hD hS => ?_)
    replace hP : va_P D vwCl [(m0, .inr (7, [.ref v, .ref a1, .ref a2, .int ik, .int (nI 0), .int en])), (v, .inl (cJ, 136800, .inr (.inl (mF N))))] H := hP
    replace hD : va_D A [(m0, .inr (7, [.ref v, .ref a1, .ref a2, .int ik, .int (nI 0), .int en])), (v, .inl (cJ, 136800, .inr (.inl (mF N))))] := hD
    replace hw31 : r31 = nI 10 := hw31
    refine k_ti hw31 ?_
    refine lv_i2l (v := lN 10) hx hb dX7_setParameter_34 (by decide) ?_
    refine k_ci (wr := [(m0, .inr (7, [.ref v, .ref a1, .ref a2, .int ik, .int (nI 0), .int en])), (v, .inl (cJ, 136800, .inr (.inl (mF N))))]) (w1 := []) (va_runS (As := [.long (lN u), .long (lN 1), .long (lN 10)]) (rest := []) ⟨hx, hb, hml, hown, hts⟩ (c_X7_in1 l D cI cJ cM cG (lN u) (lN 1) (lN 10) H.size (k_in1 (by omega) (by omega) (by omega)) (k_in1 (by omega) (by omega) (by omega))) (va_cwS 3 hts (kB_S (fun _ => List.mem_cons_of_mem _) q_765 q_766 q_670 (kB_c q_767)) rfl rfl rfl (by decide +kernel) ⟨Nat.le_of_ble_eq_true rfl, Nat.le_of_ble_eq_true rfl⟩) (k_preS hP hD hK hKN [] rfl rfl) rfl rfl hl.1 rfl (lv_room (Nat.le_of_ble_eq_true rfl)) dX7_setParameter_35 ⟨Nat.le_of_ble_eq_true rfl, Nat.le_of_ble_eq_true rfl⟩) hP hD hS hA [] [0, 1] rfl rfl rfl (by decide) (fun r35 H locs hw35 hP hD hS => ?_)
    replace hP : va_P D vwCl [(m0, .inr (7, [.ref v, .ref a1, .ref a2, .int ik, .int (nI 0), .int en])), (v, .inl (cJ, 136800, .inr (.inl (mF N))))] H := hP
    replace hD : va_D A [(m0, .inr (7, [.ref v, .ref a1, .ref a2, .int ik, .int (nI 0), .int en])), (v, .inl (cJ, 136800, .inr (.inl (mF N))))] := hD
    replace hw35 : r35 = nI 1 := hw35
    refine k_ti hw35 ?_
    refine k_if_ne (tgt := 47) hx hb dX7_setParameter_38 (by decide) (by omega) (fun _ => ?_) (fun h9 => absurd h9 (by omega))
    refine lv_aload_n hx hb dX7_setParameter_47 rfl (lv_at hl 0 rfl) ?_
    refine va_get (D := D) (ci := 7) (v := .ref v) (C := RX7) (T := TX7) (N := 6) hx hb hts hin7 hown hK hP 0 rfl rfl 0 (by decide) (hts (.fieldLink RX7 8 "MeshRoutingModel" "v" "[J") (List.mem_cons_of_mem _ q_665)) (fun _ h9 => h9) rfl dX7_setParameter_48 ?_
    refine lv_bipush (v := nI 40) hx hb dX7_setParameter_51 (by decide) ?_
    refine lv_iload_n hx hb dX7_setParameter_53 rfl (lv_at hl 1 rfl) ?_
    refine lv_iadd hx hb dX7_setParameter_54 ?_
    refine k_ti (show ((nI 40) + (nI 2)) = (nI 42) from by decide) ?_
    refine k_lald (v := lN 2) hx hb hK hP 1 1 rfl rfl (by omega) (by omega) (rfl) dX7_setParameter_55 ?_
    refine lv_l2i (v := nI 2) hx hb dX7_setParameter_56 (by decide) ?_
    refine lv_istore_n (lv' := [(3, .int (nI 2)), (0, .ref m0), (1, .int (nI 2)), (2, .int (nI u))]) hx hb dX7_setParameter_57 rfl hl (by decide) rfl (fun ls hl => ?_)
    refine lv_aload_n hx hb dX7_setParameter_58 rfl (lv_at hl 1 rfl) ?_
    refine va_get (D := D) (ci := 7) (v := .ref v) (C := RX7) (T := TX7) (N := 6) hx hb hts hin7 hown hK hP 0 rfl rfl 0 (by decide) (hts (.fieldLink RX7 8 "MeshRoutingModel" "v" "[J") (List.mem_cons_of_mem _ q_665)) (fun _ h9 => h9) rfl dX7_setParameter_59 ?_
    refine lv_bipush (v := nI 40) hx hb dX7_setParameter_62 (by decide) ?_
    refine lv_iload_n hx hb dX7_setParameter_64 rfl (lv_at hl 2 rfl) ?_
    refine lv_iadd hx hb dX7_setParameter_65 ?_
    refine k_ti (show ((nI 40) + (nI 2)) = (nI 42) from by decide) ?_
    refine lv_iload_n hx hb dX7_setParameter_66 rfl (lv_at hl 3 rfl) ?_
    refine lv_i2l (v := lN u) hx hb dX7_setParameter_67 (by exact nI_l (by omega)) ?_
    refine k_last (f' := vp_updL (mF N) 42 (lN u)) hx hb hK hP hD hS 1 1 rfl rfl (by omega) (by omega) (rfl) dX7_setParameter_68 (fun H locs hP hD hS => ?_)
    replace hP : va_P D vwCl [(m0, .inr (7, [.ref v, .ref a1, .ref a2, .int ik, .int (nI 0), .int en])), (v, .inl (cJ, 136800, .inr (.inl (vp_updL (mF N) 42 (lN u)))))] H := hP
    replace hD : va_D A [(m0, .inr (7, [.ref v, .ref a1, .ref a2, .int ik, .int (nI 0), .int en])), (v, .inl (cJ, 136800, .inr (.inl (vp_updL (mF N) 42 (lN u)))))] := hD
    refine lv_iload_n hx hb dX7_setParameter_69 rfl (lv_at hl 0 rfl) ?_
    have hP9 := hP.sub (ws' := [(m0, .inr (7, [.ref v, .ref a1, .ref a2, .int ik, .int (nI 0), .int en]))]) [0] rfl
    have hD9 := hD.sub (ws' := [(m0, .inr (7, [.ref v, .ref a1, .ref a2, .int ik, .int (nI 0), .int en]))]) [0] rfl rfl
    exact W.iret (v := nI 2) hx hb hr (fun t9 ht9 hW9 => ⟨⟨nI 2, (), rfl, rfl, by rw [ht9]; exact hP9, hD9⟩, hS.F ht9⟩) hS.2.2 dX7_setParameter_70
  · have hlo9 : 1 ≤ u := hlo
    have hhi9 : u ≤ 10 := hhi
    refine lv_aload_n hx hb dX7_setParameter_0 rfl (lv_at hl 0 rfl) ?_
    refine lv_iconst (v := nI 0) hx hb dX7_setParameter_1 (by decide) ?_
    refine va_put (D := D) (ci := 7) (v := .int (nI 0)) (ty := .int) (C := RX7) (T := TX7) (N := 6) hx hb hts hin7 tyX7 tyX7_ok nmX7 hown hK hP hD hS 0 rfl rfl 4 (by decide) (hts (.fieldLink RX7 34 "MeshRoutingModel" "thrown" "I") (List.mem_cons_of_mem _ q_760)) (fun _ h9 => h9) rfl (by decide +kernel) rfl rfl (Nat.le_of_ble_eq_true rfl) dX7_setParameter_2 (fun H locs hP hD hS => ?_)
    replace hP : va_P D vwCl [(m0, .inr (7, [.ref v, .ref a1, .ref a2, .int ik, .int (nI 0), .int en])), (v, .inl (cJ, 136800, .inr (.inl (mF N))))] H := hP
    replace hD : va_D A [(m0, .inr (7, [.ref v, .ref a1, .ref a2, .int ik, .int (nI 0), .int en])), (v, .inl (cJ, 136800, .inr (.inl (mF N))))] := hD
    refine lv_iload_n hx hb dX7_setParameter_5 rfl (lv_at hl 1 rfl) ?_
    refine lv_i2l (v := lN 3) hx hb dX7_setParameter_6 (by decide) ?_
    refine lv_lconst (v := lN 0) hx hb dX7_setParameter_7 (by decide) ?_
    refine lv_ldc2 (v := 7) hx hb hown (by exact hts (.constantLong RX7 217 (7)) (List.mem_cons_of_mem _ q_942)) dX7_setParameter_8 ?_
    refine k_tl (show (7) = (lN 7) from by decide) ?_
    refine k_ci (wr := [(m0, .inr (7, [.ref v, .ref a1, .ref a2, .int ik, .int (nI 0), .int en])), (v, .inl (cJ, 136800, .inr (.inl (mF N))))]) (w1 := []) (va_runS (As := [.long (lN 3), .long (lN 0), .long (lN 7)]) (rest := []) ⟨hx, hb, hml, hown, hts⟩ (c_X7_in1 l D cI cJ cM cG (lN 3) (lN 0) (lN 7) H.size (k_in1 (by omega) (by omega) (by omega)) (k_in1 (by omega) (by omega) (by omega))) (va_cwS 3 hts (kB_S (fun _ => List.mem_cons_of_mem _) q_765 q_766 q_670 (kB_c q_767)) rfl rfl rfl (by decide +kernel) ⟨Nat.le_of_ble_eq_true rfl, Nat.le_of_ble_eq_true rfl⟩) (k_preS hP hD hK hKN [] rfl rfl) rfl rfl hl.1 rfl (lv_room (Nat.le_of_ble_eq_true rfl)) dX7_setParameter_11 ⟨Nat.le_of_ble_eq_true rfl, Nat.le_of_ble_eq_true rfl⟩) hP hD hS hA [] [0, 1] rfl rfl rfl (by decide) (fun r11 H locs hw11 hP hD hS => ?_)
    replace hP : va_P D vwCl [(m0, .inr (7, [.ref v, .ref a1, .ref a2, .int ik, .int (nI 0), .int en])), (v, .inl (cJ, 136800, .inr (.inl (mF N))))] H := hP
    replace hD : va_D A [(m0, .inr (7, [.ref v, .ref a1, .ref a2, .int ik, .int (nI 0), .int en])), (v, .inl (cJ, 136800, .inr (.inl (mF N))))] := hD
    replace hw11 : r11 = nI 1 := hw11
    refine k_ti hw11 ?_
    refine k_if_ne (tgt := 23) hx hb dX7_setParameter_14 (by decide) (by omega) (fun _ => ?_) (fun h9 => absurd h9 (by omega))
    refine lv_iload_n hx hb dX7_setParameter_23 rfl (lv_at hl 2 rfl) ?_
    refine lv_i2l (v := lN u) hx hb dX7_setParameter_24 (by exact nI_l (by omega)) ?_
    refine lv_iload_n hx hb dX7_setParameter_25 rfl (lv_at hl 1 rfl) ?_
    refine k_ci (wr := [(m0, .inr (7, [.ref v, .ref a1, .ref a2, .int ik, .int (nI 0), .int en])), (v, .inl (cJ, 136800, .inr (.inl (mF N))))]) (w1 := []) (va_runS (As := [.int (nI 3)]) (rest := [.long (lN u)]) ⟨hx, hb, hml, hown, hts⟩ (c_X7_leastOf3 l D cI cJ cM cG  H.size) (va_cwS 1 hts (kB_S (fun _ => List.mem_cons_of_mem _) q_943 q_944 q_670 (kB_c q_922)) rfl rfl rfl (by decide +kernel) ⟨Nat.le_of_ble_eq_true rfl, Nat.le_of_ble_eq_true rfl⟩) (k_preS hP hD hK hKN [] rfl rfl) rfl rfl hl.1 rfl (lv_room (Nat.le_of_ble_eq_true rfl)) dX7_setParameter_26 ⟨Nat.le_of_ble_eq_true rfl, Nat.le_of_ble_eq_true rfl⟩) hP hD hS hA [] [0, 1] rfl rfl rfl (by decide) (fun r26 H locs hw26 hP hD hS => ?_)
    replace hP : va_P D vwCl [(m0, .inr (7, [.ref v, .ref a1, .ref a2, .int ik, .int (nI 0), .int en])), (v, .inl (cJ, 136800, .inr (.inl (mF N))))] H := hP
    replace hD : va_D A [(m0, .inr (7, [.ref v, .ref a1, .ref a2, .int ik, .int (nI 0), .int en])), (v, .inl (cJ, 136800, .inr (.inl (mF N))))] := hD
    replace hw26 : r26 = nI 1 := hw26
    refine k_ti hw26 ?_
    refine lv_i2l (v := lN 1) hx hb dX7_setParameter_29 (by decide) ?_
    refine lv_iload_n hx hb dX7_setParameter_30 rfl (lv_at hl 1 rfl) ?_
    refine k_ci (wr := [(m0, .inr (7, [.ref v, .ref a1, .ref a2, .int ik, .int (nI 0), .int en])), (v, .inl (cJ, 136800, .inr (.inl (mF N))))]) (w1 := []) (va_runS (As := [.int (nI 3)]) (rest := [.long (lN 1), .long (lN u)]) ⟨hx, hb, hml, hown, hts⟩ (c_X7_mostOf3 l D cI cJ cM cG  H.size) (va_cwS 1 hts (kB_S (fun _ => List.mem_cons_of_mem _) q_945 q_946 q_670 (kB_c q_928)) rfl rfl rfl (by decide +kernel) ⟨Nat.le_of_ble_eq_true rfl, Nat.le_of_ble_eq_true rfl⟩) (k_preS hP hD hK hKN [] rfl rfl) rfl rfl hl.1 rfl (lv_room (Nat.le_of_ble_eq_true rfl)) dX7_setParameter_31 ⟨Nat.le_of_ble_eq_true rfl, Nat.le_of_ble_eq_true rfl⟩) hP hD hS hA [] [0, 1] rfl rfl rfl (by decide) (fun r31 H locs hw31 hP hD hS => ?_)
    replace hP : va_P D vwCl [(m0, .inr (7, [.ref v, .ref a1, .ref a2, .int ik, .int (nI 0), .int en])), (v, .inl (cJ, 136800, .inr (.inl (mF N))))] H := hP
    replace hD : va_D A [(m0, .inr (7, [.ref v, .ref a1, .ref a2, .int ik, .int (nI 0), .int en])), (v, .inl (cJ, 136800, .inr (.inl (mF N))))] := hD
    replace hw31 : r31 = nI 10 := hw31
    refine k_ti hw31 ?_
    refine lv_i2l (v := lN 10) hx hb dX7_setParameter_34 (by decide) ?_
    refine k_ci (wr := [(m0, .inr (7, [.ref v, .ref a1, .ref a2, .int ik, .int (nI 0), .int en])), (v, .inl (cJ, 136800, .inr (.inl (mF N))))]) (w1 := []) (va_runS (As := [.long (lN u), .long (lN 1), .long (lN 10)]) (rest := []) ⟨hx, hb, hml, hown, hts⟩ (c_X7_in1 l D cI cJ cM cG (lN u) (lN 1) (lN 10) H.size (k_in1 (by omega) (by omega) (by omega)) (k_in1 (by omega) (by omega) (by omega))) (va_cwS 3 hts (kB_S (fun _ => List.mem_cons_of_mem _) q_765 q_766 q_670 (kB_c q_767)) rfl rfl rfl (by decide +kernel) ⟨Nat.le_of_ble_eq_true rfl, Nat.le_of_ble_eq_true rfl⟩) (k_preS hP hD hK hKN [] rfl rfl) rfl rfl hl.1 rfl (lv_room (Nat.le_of_ble_eq_true rfl)) dX7_setParameter_35 ⟨Nat.le_of_ble_eq_true rfl, Nat.le_of_ble_eq_true rfl⟩) hP hD hS hA [] [0, 1] rfl rfl rfl (by decide) (fun r35 H locs hw35 hP hD hS => ?_)
    replace hP : va_P D vwCl [(m0, .inr (7, [.ref v, .ref a1, .ref a2, .int ik, .int (nI 0), .int en])), (v, .inl (cJ, 136800, .inr (.inl (mF N))))] H := hP
    replace hD : va_D A [(m0, .inr (7, [.ref v, .ref a1, .ref a2, .int ik, .int (nI 0), .int en])), (v, .inl (cJ, 136800, .inr (.inl (mF N))))] := hD
    replace hw35 : r35 = nI 1 := hw35
    refine k_ti hw35 ?_
    refine k_if_ne (tgt := 47) hx hb dX7_setParameter_38 (by decide) (by omega) (fun _ => ?_) (fun h9 => absurd h9 (by omega))
    refine lv_aload_n hx hb dX7_setParameter_47 rfl (lv_at hl 0 rfl) ?_
    refine va_get (D := D) (ci := 7) (v := .ref v) (C := RX7) (T := TX7) (N := 6) hx hb hts hin7 hown hK hP 0 rfl rfl 0 (by decide) (hts (.fieldLink RX7 8 "MeshRoutingModel" "v" "[J") (List.mem_cons_of_mem _ q_665)) (fun _ h9 => h9) rfl dX7_setParameter_48 ?_
    refine lv_bipush (v := nI 40) hx hb dX7_setParameter_51 (by decide) ?_
    refine lv_iload_n hx hb dX7_setParameter_53 rfl (lv_at hl 1 rfl) ?_
    refine lv_iadd hx hb dX7_setParameter_54 ?_
    refine k_ti (show ((nI 40) + (nI 3)) = (nI 43) from by decide) ?_
    refine k_lald (v := lN 5) hx hb hK hP 1 1 rfl rfl (by omega) (by omega) (rfl) dX7_setParameter_55 ?_
    refine lv_l2i (v := nI 5) hx hb dX7_setParameter_56 (by decide) ?_
    refine lv_istore_n (lv' := [(3, .int (nI 5)), (0, .ref m0), (1, .int (nI 3)), (2, .int (nI u))]) hx hb dX7_setParameter_57 rfl hl (by decide) rfl (fun ls hl => ?_)
    refine lv_aload_n hx hb dX7_setParameter_58 rfl (lv_at hl 1 rfl) ?_
    refine va_get (D := D) (ci := 7) (v := .ref v) (C := RX7) (T := TX7) (N := 6) hx hb hts hin7 hown hK hP 0 rfl rfl 0 (by decide) (hts (.fieldLink RX7 8 "MeshRoutingModel" "v" "[J") (List.mem_cons_of_mem _ q_665)) (fun _ h9 => h9) rfl dX7_setParameter_59 ?_
    refine lv_bipush (v := nI 40) hx hb dX7_setParameter_62 (by decide) ?_
    refine lv_iload_n hx hb dX7_setParameter_64 rfl (lv_at hl 2 rfl) ?_
    refine lv_iadd hx hb dX7_setParameter_65 ?_
    refine k_ti (show ((nI 40) + (nI 3)) = (nI 43) from by decide) ?_
    refine lv_iload_n hx hb dX7_setParameter_66 rfl (lv_at hl 3 rfl) ?_
    refine lv_i2l (v := lN u) hx hb dX7_setParameter_67 (by exact nI_l (by omega)) ?_
    refine k_last (f' := vp_updL (mF N) 43 (lN u)) hx hb hK hP hD hS 1 1 rfl rfl (by omega) (by omega) (rfl) dX7_setParameter_68 (fun H locs hP hD hS => ?_)
    replace hP : va_P D vwCl [(m0, .inr (7, [.ref v, .ref a1, .ref a2, .int ik, .int (nI 0), .int en])), (v, .inl (cJ, 136800, .inr (.inl (vp_updL (mF N) 43 (lN u)))))] H := hP
    replace hD : va_D A [(m0, .inr (7, [.ref v, .ref a1, .ref a2, .int ik, .int (nI 0), .int en])), (v, .inl (cJ, 136800, .inr (.inl (vp_updL (mF N) 43 (lN u)))))] := hD
    refine lv_iload_n hx hb dX7_setParameter_69 rfl (lv_at hl 0 rfl) ?_
    have hP9 := hP.sub (ws' := [(m0, .inr (7, [.ref v, .ref a1, .ref a2, .int ik, .int (nI 0), .int en]))]) [0] rfl
    have hD9 := hD.sub (ws' := [(m0, .inr (7, [.ref v, .ref a1, .ref a2, .int ik, .int (nI 0), .int en]))]) [0] rfl rfl
    exact W.iret (v := nI 5) hx hb hr (fun t9 ht9 hW9 => ⟨⟨nI 5, (), rfl, rfl, by rw [ht9]; exact hP9, hD9⟩, hS.F ht9⟩) hS.2.2 dX7_setParameter_70
  · have hlo9 : 1 ≤ u := hlo
    have hhi9 : u ≤ 15 := hhi
    refine lv_aload_n hx hb dX7_setParameter_0 rfl (lv_at hl 0 rfl) ?_
    refine lv_iconst (v := nI 0) hx hb dX7_setParameter_1 (by decide) ?_
    refine va_put (D := D) (ci := 7) (v := .int (nI 0)) (ty := .int) (C := RX7) (T := TX7) (N := 6) hx hb hts hin7 tyX7 tyX7_ok nmX7 hown hK hP hD hS 0 rfl rfl 4 (by decide) (hts (.fieldLink RX7 34 "MeshRoutingModel" "thrown" "I") (List.mem_cons_of_mem _ q_760)) (fun _ h9 => h9) rfl (by decide +kernel) rfl rfl (Nat.le_of_ble_eq_true rfl) dX7_setParameter_2 (fun H locs hP hD hS => ?_)
    replace hP : va_P D vwCl [(m0, .inr (7, [.ref v, .ref a1, .ref a2, .int ik, .int (nI 0), .int en])), (v, .inl (cJ, 136800, .inr (.inl (mF N))))] H := hP
    replace hD : va_D A [(m0, .inr (7, [.ref v, .ref a1, .ref a2, .int ik, .int (nI 0), .int en])), (v, .inl (cJ, 136800, .inr (.inl (mF N))))] := hD
    refine lv_iload_n hx hb dX7_setParameter_5 rfl (lv_at hl 1 rfl) ?_
    refine lv_i2l (v := lN 4) hx hb dX7_setParameter_6 (by decide) ?_
    refine lv_lconst (v := lN 0) hx hb dX7_setParameter_7 (by decide) ?_
    refine lv_ldc2 (v := 7) hx hb hown (by exact hts (.constantLong RX7 217 (7)) (List.mem_cons_of_mem _ q_942)) dX7_setParameter_8 ?_
    refine k_tl (show (7) = (lN 7) from by decide) ?_
    refine k_ci (wr := [(m0, .inr (7, [.ref v, .ref a1, .ref a2, .int ik, .int (nI 0), .int en])), (v, .inl (cJ, 136800, .inr (.inl (mF N))))]) (w1 := []) (va_runS (As := [.long (lN 4), .long (lN 0), .long (lN 7)]) (rest := []) ⟨hx, hb, hml, hown, hts⟩ (c_X7_in1 l D cI cJ cM cG (lN 4) (lN 0) (lN 7) H.size (k_in1 (by omega) (by omega) (by omega)) (k_in1 (by omega) (by omega) (by omega))) (va_cwS 3 hts (kB_S (fun _ => List.mem_cons_of_mem _) q_765 q_766 q_670 (kB_c q_767)) rfl rfl rfl (by decide +kernel) ⟨Nat.le_of_ble_eq_true rfl, Nat.le_of_ble_eq_true rfl⟩) (k_preS hP hD hK hKN [] rfl rfl) rfl rfl hl.1 rfl (lv_room (Nat.le_of_ble_eq_true rfl)) dX7_setParameter_11 ⟨Nat.le_of_ble_eq_true rfl, Nat.le_of_ble_eq_true rfl⟩) hP hD hS hA [] [0, 1] rfl rfl rfl (by decide) (fun r11 H locs hw11 hP hD hS => ?_)
    replace hP : va_P D vwCl [(m0, .inr (7, [.ref v, .ref a1, .ref a2, .int ik, .int (nI 0), .int en])), (v, .inl (cJ, 136800, .inr (.inl (mF N))))] H := hP
    replace hD : va_D A [(m0, .inr (7, [.ref v, .ref a1, .ref a2, .int ik, .int (nI 0), .int en])), (v, .inl (cJ, 136800, .inr (.inl (mF N))))] := hD
    replace hw11 : r11 = nI 1 := hw11
    refine k_ti hw11 ?_
    refine k_if_ne (tgt := 23) hx hb dX7_setParameter_14 (by decide) (by omega) (fun _ => ?_) (fun h9 => absurd h9 (by omega))
    refine lv_iload_n hx hb dX7_setParameter_23 rfl (lv_at hl 2 rfl) ?_
    refine lv_i2l (v := lN u) hx hb dX7_setParameter_24 (by exact nI_l (by omega)) ?_
    refine lv_iload_n hx hb dX7_setParameter_25 rfl (lv_at hl 1 rfl) ?_
    refine k_ci (wr := [(m0, .inr (7, [.ref v, .ref a1, .ref a2, .int ik, .int (nI 0), .int en])), (v, .inl (cJ, 136800, .inr (.inl (mF N))))]) (w1 := []) (va_runS (As := [.int (nI 4)]) (rest := [.long (lN u)]) ⟨hx, hb, hml, hown, hts⟩ (c_X7_leastOf4 l D cI cJ cM cG  H.size) (va_cwS 1 hts (kB_S (fun _ => List.mem_cons_of_mem _) q_943 q_944 q_670 (kB_c q_922)) rfl rfl rfl (by decide +kernel) ⟨Nat.le_of_ble_eq_true rfl, Nat.le_of_ble_eq_true rfl⟩) (k_preS hP hD hK hKN [] rfl rfl) rfl rfl hl.1 rfl (lv_room (Nat.le_of_ble_eq_true rfl)) dX7_setParameter_26 ⟨Nat.le_of_ble_eq_true rfl, Nat.le_of_ble_eq_true rfl⟩) hP hD hS hA [] [0, 1] rfl rfl rfl (by decide) (fun r26 H locs hw26 hP hD hS => ?_)
    replace hP : va_P D vwCl [(m0, .inr (7, [.ref v, .ref a1, .ref a2, .int ik, .int (nI 0), .int en])), (v, .inl (cJ, 136800, .inr (.inl (mF N))))] H := hP
    replace hD : va_D A [(m0, .inr (7, [.ref v, .ref a1, .ref a2, .int ik, .int (nI 0), .int en])), (v, .inl (cJ, 136800, .inr (.inl (mF N))))] := hD
    replace hw26 : r26 = nI 1 := hw26
    refine k_ti hw26 ?_
    refine lv_i2l (v := lN 1) hx hb dX7_setParameter_29 (by decide) ?_
    refine lv_iload_n hx hb dX7_setParameter_30 rfl (lv_at hl 1 rfl) ?_
    refine k_ci (wr := [(m0, .inr (7, [.ref v, .ref a1, .ref a2, .int ik, .int (nI 0), .int en])), (v, .inl (cJ, 136800, .inr (.inl (mF N))))]) (w1 := []) (va_runS (As := [.int (nI 4)]) (rest := [.long (lN 1), .long (lN u)]) ⟨hx, hb, hml, hown, hts⟩ (c_X7_mostOf4 l D cI cJ cM cG  H.size) (va_cwS 1 hts (kB_S (fun _ => List.mem_cons_of_mem _) q_945 q_946 q_670 (kB_c q_928)) rfl rfl rfl (by decide +kernel) ⟨Nat.le_of_ble_eq_true rfl, Nat.le_of_ble_eq_true rfl⟩) (k_preS hP hD hK hKN [] rfl rfl) rfl rfl hl.1 rfl (lv_room (Nat.le_of_ble_eq_true rfl)) dX7_setParameter_31 ⟨Nat.le_of_ble_eq_true rfl, Nat.le_of_ble_eq_true rfl⟩) hP hD hS hA [] [0, 1] rfl rfl rfl (by decide) (fun r31 H locs hw31 hP hD hS => ?_)
    replace hP : va_P D vwCl [(m0, .inr (7, [.ref v, .ref a1, .ref a2, .int ik, .int (nI 0), .int en])), (v, .inl (cJ, 136800, .inr (.inl (mF N))))] H := hP
    replace hD : va_D A [(m0, .inr (7, [.ref v, .ref a1, .ref a2, .int ik, .int (nI 0), .int en])), (v, .inl (cJ, 136800, .inr (.inl (mF N))))] := hD
    replace hw31 : r31 = nI 15 := hw31
    refine k_ti hw31 ?_
    refine lv_i2l (v := lN 15) hx hb dX7_setParameter_34 (by decide) ?_
    refine k_ci (wr := [(m0, .inr (7, [.ref v, .ref a1, .ref a2, .int ik, .int (nI 0), .int en])), (v, .inl (cJ, 136800, .inr (.inl (mF N))))]) (w1 := []) (va_runS (As := [.long (lN u), .long (lN 1), .long (lN 15)]) (rest := []) ⟨hx, hb, hml, hown, hts⟩ (c_X7_in1 l D cI cJ cM cG (lN u) (lN 1) (lN 15) H.size (k_in1 (by omega) (by omega) (by omega)) (k_in1 (by omega) (by omega) (by omega))) (va_cwS 3 hts (kB_S (fun _ => List.mem_cons_of_mem _) q_765 q_766 q_670 (kB_c q_767)) rfl rfl rfl (by decide +kernel) ⟨Nat.le_of_ble_eq_true rfl, Nat.le_of_ble_eq_true rfl⟩) (k_preS hP hD hK hKN [] rfl rfl) rfl rfl hl.1 rfl (lv_room (Nat.le_of_ble_eq_true rfl)) dX7_setParameter_35 ⟨Nat.le_of_ble_eq_true rfl, Nat.le_of_ble_eq_true rfl⟩) hP hD hS hA [] [0, 1] rfl rfl rfl (by decide) (fun r35 H locs hw35 hP hD hS => ?_)
    replace hP : va_P D vwCl [(m0, .inr (7, [.ref v, .ref a1, .ref a2, .int ik, .int (nI 0), .int en])), (v, .inl (cJ, 136800, .inr (.inl (mF N))))] H := hP
    replace hD : va_D A [(m0, .inr (7, [.ref v, .ref a1, .ref a2, .int ik, .int (nI 0), .int en])), (v, .inl (cJ, 136800, .inr (.inl (mF N))))] := hD
    replace hw35 : r35 = nI 1 := hw35
    refine k_ti hw35 ?_
    refine k_if_ne (tgt := 47) hx hb dX7_setParameter_38 (by decide) (by omega) (fun _ => ?_) (fun h9 => absurd h9 (by omega))
    refine lv_aload_n hx hb dX7_setParameter_47 rfl (lv_at hl 0 rfl) ?_
    refine va_get (D := D) (ci := 7) (v := .ref v) (C := RX7) (T := TX7) (N := 6) hx hb hts hin7 hown hK hP 0 rfl rfl 0 (by decide) (hts (.fieldLink RX7 8 "MeshRoutingModel" "v" "[J") (List.mem_cons_of_mem _ q_665)) (fun _ h9 => h9) rfl dX7_setParameter_48 ?_
    refine lv_bipush (v := nI 40) hx hb dX7_setParameter_51 (by decide) ?_
    refine lv_iload_n hx hb dX7_setParameter_53 rfl (lv_at hl 1 rfl) ?_
    refine lv_iadd hx hb dX7_setParameter_54 ?_
    refine k_ti (show ((nI 40) + (nI 4)) = (nI 44) from by decide) ?_
    refine k_lald (v := lN 10) hx hb hK hP 1 1 rfl rfl (by omega) (by omega) (rfl) dX7_setParameter_55 ?_
    refine lv_l2i (v := nI 10) hx hb dX7_setParameter_56 (by decide) ?_
    refine lv_istore_n (lv' := [(3, .int (nI 10)), (0, .ref m0), (1, .int (nI 4)), (2, .int (nI u))]) hx hb dX7_setParameter_57 rfl hl (by decide) rfl (fun ls hl => ?_)
    refine lv_aload_n hx hb dX7_setParameter_58 rfl (lv_at hl 1 rfl) ?_
    refine va_get (D := D) (ci := 7) (v := .ref v) (C := RX7) (T := TX7) (N := 6) hx hb hts hin7 hown hK hP 0 rfl rfl 0 (by decide) (hts (.fieldLink RX7 8 "MeshRoutingModel" "v" "[J") (List.mem_cons_of_mem _ q_665)) (fun _ h9 => h9) rfl dX7_setParameter_59 ?_
    refine lv_bipush (v := nI 40) hx hb dX7_setParameter_62 (by decide) ?_
    refine lv_iload_n hx hb dX7_setParameter_64 rfl (lv_at hl 2 rfl) ?_
    refine lv_iadd hx hb dX7_setParameter_65 ?_
    refine k_ti (show ((nI 40) + (nI 4)) = (nI 44) from by decide) ?_
    refine lv_iload_n hx hb dX7_setParameter_66 rfl (lv_at hl 3 rfl) ?_
    refine lv_i2l (v := lN u) hx hb dX7_setParameter_67 (by exact nI_l (by omega)) ?_
    refine k_last (f' := vp_updL (mF N) 44 (lN u)) hx hb hK hP hD hS 1 1 rfl rfl (by omega) (by omega) (rfl) dX7_setParameter_68 (fun H locs hP hD hS => ?_)
    replace hP : va_P D vwCl [(m0, .inr (7, [.ref v, .ref a1, .ref a2, .int ik, .int (nI 0), .int en])), (v, .inl (cJ, 136800, .inr (.inl (vp_updL (mF N) 44 (lN u)))))] H := hP
    replace hD : va_D A [(m0, .inr (7, [.ref v, .ref a1, .ref a2, .int ik, .int (nI 0), .int en])), (v, .inl (cJ, 136800, .inr (.inl (vp_updL (mF N) 44 (lN u)))))] := hD
    refine lv_iload_n hx hb dX7_setParameter_69 rfl (lv_at hl 0 rfl) ?_
    have hP9 := hP.sub (ws' := [(m0, .inr (7, [.ref v, .ref a1, .ref a2, .int ik, .int (nI 0), .int en]))]) [0] rfl
    have hD9 := hD.sub (ws' := [(m0, .inr (7, [.ref v, .ref a1, .ref a2, .int ik, .int (nI 0), .int en]))]) [0] rfl rfl
    exact W.iret (v := nI 10) hx hb hr (fun t9 ht9 hW9 => ⟨⟨nI 10, (), rfl, rfl, by rw [ht9]; exact hP9, hD9⟩, hS.F ht9⟩) hS.2.2 dX7_setParameter_70
  · have hlo9 : 1 ≤ u := hlo
    have hhi9 : u ≤ 3 := hhi
    refine lv_aload_n hx hb dX7_setParameter_0 rfl (lv_at hl 0 rfl) ?_
    refine lv_iconst (v := nI 0) hx hb dX7_setParameter_1 (by decide) ?_
    refine va_put (D := D) (ci := 7) (v := .int (nI 0)) (ty := .int) (C := RX7) (T := TX7) (N := 6) hx hb hts hin7 tyX7 tyX7_ok nmX7 hown hK hP hD hS 0 rfl rfl 4 (by decide) (hts (.fieldLink RX7 34 "MeshRoutingModel" "thrown" "I") (List.mem_cons_of_mem _ q_760)) (fun _ h9 => h9) rfl (by decide +kernel) rfl rfl (Nat.le_of_ble_eq_true rfl) dX7_setParameter_2 (fun H locs hP hD hS => ?_)
    replace hP : va_P D vwCl [(m0, .inr (7, [.ref v, .ref a1, .ref a2, .int ik, .int (nI 0), .int en])), (v, .inl (cJ, 136800, .inr (.inl (mF N))))] H := hP
    replace hD : va_D A [(m0, .inr (7, [.ref v, .ref a1, .ref a2, .int ik, .int (nI 0), .int en])), (v, .inl (cJ, 136800, .inr (.inl (mF N))))] := hD
    refine lv_iload_n hx hb dX7_setParameter_5 rfl (lv_at hl 1 rfl) ?_
    refine lv_i2l (v := lN 5) hx hb dX7_setParameter_6 (by decide) ?_
    refine lv_lconst (v := lN 0) hx hb dX7_setParameter_7 (by decide) ?_
    refine lv_ldc2 (v := 7) hx hb hown (by exact hts (.constantLong RX7 217 (7)) (List.mem_cons_of_mem _ q_942)) dX7_setParameter_8 ?_
    refine k_tl (show (7) = (lN 7) from by decide) ?_
    refine k_ci (wr := [(m0, .inr (7, [.ref v, .ref a1, .ref a2, .int ik, .int (nI 0), .int en])), (v, .inl (cJ, 136800, .inr (.inl (mF N))))]) (w1 := []) (va_runS (As := [.long (lN 5), .long (lN 0), .long (lN 7)]) (rest := []) ⟨hx, hb, hml, hown, hts⟩ (c_X7_in1 l D cI cJ cM cG (lN 5) (lN 0) (lN 7) H.size (k_in1 (by omega) (by omega) (by omega)) (k_in1 (by omega) (by omega) (by omega))) (va_cwS 3 hts (kB_S (fun _ => List.mem_cons_of_mem _) q_765 q_766 q_670 (kB_c q_767)) rfl rfl rfl (by decide +kernel) ⟨Nat.le_of_ble_eq_true rfl, Nat.le_of_ble_eq_true rfl⟩) (k_preS hP hD hK hKN [] rfl rfl) rfl rfl hl.1 rfl (lv_room (Nat.le_of_ble_eq_true rfl)) dX7_setParameter_11 ⟨Nat.le_of_ble_eq_true rfl, Nat.le_of_ble_eq_true rfl⟩) hP hD hS hA [] [0, 1] rfl rfl rfl (by decide) (fun r11 H locs hw11 hP hD hS => ?_)
    replace hP : va_P D vwCl [(m0, .inr (7, [.ref v, .ref a1, .ref a2, .int ik, .int (nI 0), .int en])), (v, .inl (cJ, 136800, .inr (.inl (mF N))))] H := hP
    replace hD : va_D A [(m0, .inr (7, [.ref v, .ref a1, .ref a2, .int ik, .int (nI 0), .int en])), (v, .inl (cJ, 136800, .inr (.inl (mF N))))] := hD
    replace hw11 : r11 = nI 1 := hw11
    refine k_ti hw11 ?_
    refine k_if_ne (tgt := 23) hx hb dX7_setParameter_14 (by decide) (by omega) (fun _ => ?_) (fun h9 => absurd h9 (by omega))
    refine lv_iload_n hx hb dX7_setParameter_23 rfl (lv_at hl 2 rfl) ?_
    refine lv_i2l (v := lN u) hx hb dX7_setParameter_24 (by exact nI_l (by omega)) ?_
    refine lv_iload_n hx hb dX7_setParameter_25 rfl (lv_at hl 1 rfl) ?_
    refine k_ci (wr := [(m0, .inr (7, [.ref v, .ref a1, .ref a2, .int ik, .int (nI 0), .int en])), (v, .inl (cJ, 136800, .inr (.inl (mF N))))]) (w1 := []) (va_runS (As := [.int (nI 5)]) (rest := [.long (lN u)]) ⟨hx, hb, hml, hown, hts⟩ (c_X7_leastOf5 l D cI cJ cM cG  H.size) (va_cwS 1 hts (kB_S (fun _ => List.mem_cons_of_mem _) q_943 q_944 q_670 (kB_c q_922)) rfl rfl rfl (by decide +kernel) ⟨Nat.le_of_ble_eq_true rfl, Nat.le_of_ble_eq_true rfl⟩) (k_preS hP hD hK hKN [] rfl rfl) rfl rfl hl.1 rfl (lv_room (Nat.le_of_ble_eq_true rfl)) dX7_setParameter_26 ⟨Nat.le_of_ble_eq_true rfl, Nat.le_of_ble_eq_true rfl⟩) hP hD hS hA [] [0, 1] rfl rfl rfl (by decide) (fun r26 H locs hw26 hP hD hS => ?_)
    replace hP : va_P D vwCl [(m0, .inr (7, [.ref v, .ref a1, .ref a2, .int ik, .int (nI 0), .int en])), (v, .inl (cJ, 136800, .inr (.inl (mF N))))] H := hP
    replace hD : va_D A [(m0, .inr (7, [.ref v, .ref a1, .ref a2, .int ik, .int (nI 0), .int en])), (v, .inl (cJ, 136800, .inr (.inl (mF N))))] := hD
    replace hw26 : r26 = nI 1 := hw26
    refine k_ti hw26 ?_
    refine lv_i2l (v := lN 1) hx hb dX7_setParameter_29 (by decide) ?_
    refine lv_iload_n hx hb dX7_setParameter_30 rfl (lv_at hl 1 rfl) ?_
    refine k_ci (wr := [(m0, .inr (7, [.ref v, .ref a1, .ref a2, .int ik, .int (nI 0), .int en])), (v, .inl (cJ, 136800, .inr (.inl (mF N))))]) (w1 := []) (va_runS (As := [.int (nI 5)]) (rest := [.long (lN 1), .long (lN u)]) ⟨hx, hb, hml, hown, hts⟩ (c_X7_mostOf5 l D cI cJ cM cG  H.size) (va_cwS 1 hts (kB_S (fun _ => List.mem_cons_of_mem _) q_945 q_946 q_670 (kB_c q_928)) rfl rfl rfl (by decide +kernel) ⟨Nat.le_of_ble_eq_true rfl, Nat.le_of_ble_eq_true rfl⟩) (k_preS hP hD hK hKN [] rfl rfl) rfl rfl hl.1 rfl (lv_room (Nat.le_of_ble_eq_true rfl)) dX7_setParameter_31 ⟨Nat.le_of_ble_eq_true rfl, Nat.le_of_ble_eq_true rfl⟩) hP hD hS hA [] [0, 1] rfl rfl rfl (by decide) (fun r31 H locs hw31 hP hD hS => ?_)
    replace hP : va_P D vwCl [(m0, .inr (7, [.ref v, .ref a1, .ref a2, .int ik, .int (nI 0), .int en])), (v, .inl (cJ, 136800, .inr (.inl (mF N))))] H := hP
    replace hD : va_D A [(m0, .inr (7, [.ref v, .ref a1, .ref a2, .int ik, .int (nI 0), .int en])), (v, .inl (cJ, 136800, .inr (.inl (mF N))))] := hD
    replace hw31 : r31 = nI 3 := hw31
    refine k_ti hw31 ?_
    refine lv_i2l (v := lN 3) hx hb dX7_setParameter_34 (by decide) ?_
    refine k_ci (wr := [(m0, .inr (7, [.ref v, .ref a1, .ref a2, .int ik, .int (nI 0), .int en])), (v, .inl (cJ, 136800, .inr (.inl (mF N))))]) (w1 := []) (va_runS (As := [.long (lN u), .long (lN 1), .long (lN 3)]) (rest := []) ⟨hx, hb, hml, hown, hts⟩ (c_X7_in1 l D cI cJ cM cG (lN u) (lN 1) (lN 3) H.size (k_in1 (by omega) (by omega) (by omega)) (k_in1 (by omega) (by omega) (by omega))) (va_cwS 3 hts (kB_S (fun _ => List.mem_cons_of_mem _) q_765 q_766 q_670 (kB_c q_767)) rfl rfl rfl (by decide +kernel) ⟨Nat.le_of_ble_eq_true rfl, Nat.le_of_ble_eq_true rfl⟩) (k_preS hP hD hK hKN [] rfl rfl) rfl rfl hl.1 rfl (lv_room (Nat.le_of_ble_eq_true rfl)) dX7_setParameter_35 ⟨Nat.le_of_ble_eq_true rfl, Nat.le_of_ble_eq_true rfl⟩) hP hD hS hA [] [0, 1] rfl rfl rfl (by decide) (fun r35 H locs hw35 hP hD hS => ?_)
    replace hP : va_P D vwCl [(m0, .inr (7, [.ref v, .ref a1, .ref a2, .int ik, .int (nI 0), .int en])), (v, .inl (cJ, 136800, .inr (.inl (mF N))))] H := hP
    replace hD : va_D A [(m0, .inr (7, [.ref v, .ref a1, .ref a2, .int ik, .int (nI 0), .int en])), (v, .inl (cJ, 136800, .inr (.inl (mF N))))] := hD
    replace hw35 : r35 = nI 1 := hw35
    refine k_ti hw35 ?_
    refine k_if_ne (tgt := 47) hx hb dX7_setParameter_38 (by decide) (by omega) (fun _ => ?_) (fun h9 => absurd h9 (by omega))
    refine lv_aload_n hx hb dX7_setParameter_47 rfl (lv_at hl 0 rfl) ?_
    refine va_get (D := D) (ci := 7) (v := .ref v) (C := RX7) (T := TX7) (N := 6) hx hb hts hin7 hown hK hP 0 rfl rfl 0 (by decide) (hts (.fieldLink RX7 8 "MeshRoutingModel" "v" "[J") (List.mem_cons_of_mem _ q_665)) (fun _ h9 => h9) rfl dX7_setParameter_48 ?_
    refine lv_bipush (v := nI 40) hx hb dX7_setParameter_51 (by decide) ?_
    refine lv_iload_n hx hb dX7_setParameter_53 rfl (lv_at hl 1 rfl) ?_
    refine lv_iadd hx hb dX7_setParameter_54 ?_
    refine k_ti (show ((nI 40) + (nI 5)) = (nI 45) from by decide) ?_
    refine k_lald (v := lN 2) hx hb hK hP 1 1 rfl rfl (by omega) (by omega) (rfl) dX7_setParameter_55 ?_
    refine lv_l2i (v := nI 2) hx hb dX7_setParameter_56 (by decide) ?_
    refine lv_istore_n (lv' := [(3, .int (nI 2)), (0, .ref m0), (1, .int (nI 5)), (2, .int (nI u))]) hx hb dX7_setParameter_57 rfl hl (by decide) rfl (fun ls hl => ?_)
    refine lv_aload_n hx hb dX7_setParameter_58 rfl (lv_at hl 1 rfl) ?_
    refine va_get (D := D) (ci := 7) (v := .ref v) (C := RX7) (T := TX7) (N := 6) hx hb hts hin7 hown hK hP 0 rfl rfl 0 (by decide) (hts (.fieldLink RX7 8 "MeshRoutingModel" "v" "[J") (List.mem_cons_of_mem _ q_665)) (fun _ h9 => h9) rfl dX7_setParameter_59 ?_
    refine lv_bipush (v := nI 40) hx hb dX7_setParameter_62 (by decide) ?_
    refine lv_iload_n hx hb dX7_setParameter_64 rfl (lv_at hl 2 rfl) ?_
    refine lv_iadd hx hb dX7_setParameter_65 ?_
    refine k_ti (show ((nI 40) + (nI 5)) = (nI 45) from by decide) ?_
    refine lv_iload_n hx hb dX7_setParameter_66 rfl (lv_at hl 3 rfl) ?_
    refine lv_i2l (v := lN u) hx hb dX7_setParameter_67 (by exact nI_l (by omega)) ?_
    refine k_last (f' := vp_updL (mF N) 45 (lN u)) hx hb hK hP hD hS 1 1 rfl rfl (by omega) (by omega) (rfl) dX7_setParameter_68 (fun H locs hP hD hS => ?_)
    replace hP : va_P D vwCl [(m0, .inr (7, [.ref v, .ref a1, .ref a2, .int ik, .int (nI 0), .int en])), (v, .inl (cJ, 136800, .inr (.inl (vp_updL (mF N) 45 (lN u)))))] H := hP
    replace hD : va_D A [(m0, .inr (7, [.ref v, .ref a1, .ref a2, .int ik, .int (nI 0), .int en])), (v, .inl (cJ, 136800, .inr (.inl (vp_updL (mF N) 45 (lN u)))))] := hD
    refine lv_iload_n hx hb dX7_setParameter_69 rfl (lv_at hl 0 rfl) ?_
    have hP9 := hP.sub (ws' := [(m0, .inr (7, [.ref v, .ref a1, .ref a2, .int ik, .int (nI 0), .int en]))]) [0] rfl
    have hD9 := hD.sub (ws' := [(m0, .inr (7, [.ref v, .ref a1, .ref a2, .int ik, .int (nI 0), .int en]))]) [0] rfl rfl
    exact W.iret (v := nI 2) hx hb hr (fun t9 ht9 hW9 => ⟨⟨nI 2, (), rfl, rfl, by rw [ht9]; exact hP9, hD9⟩, hS.F ht9⟩) hS.2.2 dX7_setParameter_70
  · have hlo9 : 1 ≤ u := hlo
    have hhi9 : u ≤ 50 := hhi
    refine lv_aload_n hx hb dX7_setParameter_0 rfl (lv_at hl 0 rfl) ?_
    refine lv_iconst (v := nI 0) hx hb dX7_setParameter_1 (by decide) ?_
    refine va_put (D := D) (ci := 7) (v := .int (nI 0)) (ty := .int) (C := RX7) (T := TX7) (N := 6) hx hb hts hin7 tyX7 tyX7_ok nmX7 hown hK hP hD hS 0 rfl rfl 4 (by decide) (hts (.fieldLink RX7 34 "MeshRoutingModel" "thrown" "I") (List.mem_cons_of_mem _ q_760)) (fun _ h9 => h9) rfl (by decide +kernel) rfl rfl (Nat.le_of_ble_eq_true rfl) dX7_setParameter_2 (fun H locs hP hD hS => ?_)
    replace hP : va_P D vwCl [(m0, .inr (7, [.ref v, .ref a1, .ref a2, .int ik, .int (nI 0), .int en])), (v, .inl (cJ, 136800, .inr (.inl (mF N))))] H := hP
    replace hD : va_D A [(m0, .inr (7, [.ref v, .ref a1, .ref a2, .int ik, .int (nI 0), .int en])), (v, .inl (cJ, 136800, .inr (.inl (mF N))))] := hD
    refine lv_iload_n hx hb dX7_setParameter_5 rfl (lv_at hl 1 rfl) ?_
    refine lv_i2l (v := lN 6) hx hb dX7_setParameter_6 (by decide) ?_
    refine lv_lconst (v := lN 0) hx hb dX7_setParameter_7 (by decide) ?_
    refine lv_ldc2 (v := 7) hx hb hown (by exact hts (.constantLong RX7 217 (7)) (List.mem_cons_of_mem _ q_942)) dX7_setParameter_8 ?_
    refine k_tl (show (7) = (lN 7) from by decide) ?_
    refine k_ci (wr := [(m0, .inr (7, [.ref v, .ref a1, .ref a2, .int ik, .int (nI 0), .int en])), (v, .inl (cJ, 136800, .inr (.inl (mF N))))]) (w1 := []) (va_runS (As := [.long (lN 6), .long (lN 0), .long (lN 7)]) (rest := []) ⟨hx, hb, hml, hown, hts⟩ (c_X7_in1 l D cI cJ cM cG (lN 6) (lN 0) (lN 7) H.size (k_in1 (by omega) (by omega) (by omega)) (k_in1 (by omega) (by omega) (by omega))) (va_cwS 3 hts (kB_S (fun _ => List.mem_cons_of_mem _) q_765 q_766 q_670 (kB_c q_767)) rfl rfl rfl (by decide +kernel) ⟨Nat.le_of_ble_eq_true rfl, Nat.le_of_ble_eq_true rfl⟩) (k_preS hP hD hK hKN [] rfl rfl) rfl rfl hl.1 rfl (lv_room (Nat.le_of_ble_eq_true rfl)) dX7_setParameter_11 ⟨Nat.le_of_ble_eq_true rfl, Nat.le_of_ble_eq_true rfl⟩) hP hD hS hA [] [0, 1] rfl rfl rfl (by decide) (fun r11 H locs hw11 hP hD hS => ?_)
    replace hP : va_P D vwCl [(m0, .inr (7, [.ref v, .ref a1, .ref a2, .int ik, .int (nI 0), .int en])), (v, .inl (cJ, 136800, .inr (.inl (mF N))))] H := hP
    replace hD : va_D A [(m0, .inr (7, [.ref v, .ref a1, .ref a2, .int ik, .int (nI 0), .int en])), (v, .inl (cJ, 136800, .inr (.inl (mF N))))] := hD
    replace hw11 : r11 = nI 1 := hw11
    refine k_ti hw11 ?_
    refine k_if_ne (tgt := 23) hx hb dX7_setParameter_14 (by decide) (by omega) (fun _ => ?_) (fun h9 => absurd h9 (by omega))
    refine lv_iload_n hx hb dX7_setParameter_23 rfl (lv_at hl 2 rfl) ?_
    refine lv_i2l (v := lN u) hx hb dX7_setParameter_24 (by exact nI_l (by omega)) ?_
    refine lv_iload_n hx hb dX7_setParameter_25 rfl (lv_at hl 1 rfl) ?_
    refine k_ci (wr := [(m0, .inr (7, [.ref v, .ref a1, .ref a2, .int ik, .int (nI 0), .int en])), (v, .inl (cJ, 136800, .inr (.inl (mF N))))]) (w1 := []) (va_runS (As := [.int (nI 6)]) (rest := [.long (lN u)]) ⟨hx, hb, hml, hown, hts⟩ (c_X7_leastOf6 l D cI cJ cM cG  H.size) (va_cwS 1 hts (kB_S (fun _ => List.mem_cons_of_mem _) q_943 q_944 q_670 (kB_c q_922)) rfl rfl rfl (by decide +kernel) ⟨Nat.le_of_ble_eq_true rfl, Nat.le_of_ble_eq_true rfl⟩) (k_preS hP hD hK hKN [] rfl rfl) rfl rfl hl.1 rfl (lv_room (Nat.le_of_ble_eq_true rfl)) dX7_setParameter_26 ⟨Nat.le_of_ble_eq_true rfl, Nat.le_of_ble_eq_true rfl⟩) hP hD hS hA [] [0, 1] rfl rfl rfl (by decide) (fun r26 H locs hw26 hP hD hS => ?_)
    replace hP : va_P D vwCl [(m0, .inr (7, [.ref v, .ref a1, .ref a2, .int ik, .int (nI 0), .int en])), (v, .inl (cJ, 136800, .inr (.inl (mF N))))] H := hP
    replace hD : va_D A [(m0, .inr (7, [.ref v, .ref a1, .ref a2, .int ik, .int (nI 0), .int en])), (v, .inl (cJ, 136800, .inr (.inl (mF N))))] := hD
    replace hw26 : r26 = nI 1 := hw26
    refine k_ti hw26 ?_
    refine lv_i2l (v := lN 1) hx hb dX7_setParameter_29 (by decide) ?_
    refine lv_iload_n hx hb dX7_setParameter_30 rfl (lv_at hl 1 rfl) ?_
    refine k_ci (wr := [(m0, .inr (7, [.ref v, .ref a1, .ref a2, .int ik, .int (nI 0), .int en])), (v, .inl (cJ, 136800, .inr (.inl (mF N))))]) (w1 := []) (va_runS (As := [.int (nI 6)]) (rest := [.long (lN 1), .long (lN u)]) ⟨hx, hb, hml, hown, hts⟩ (c_X7_mostOf6 l D cI cJ cM cG  H.size) (va_cwS 1 hts (kB_S (fun _ => List.mem_cons_of_mem _) q_945 q_946 q_670 (kB_c q_928)) rfl rfl rfl (by decide +kernel) ⟨Nat.le_of_ble_eq_true rfl, Nat.le_of_ble_eq_true rfl⟩) (k_preS hP hD hK hKN [] rfl rfl) rfl rfl hl.1 rfl (lv_room (Nat.le_of_ble_eq_true rfl)) dX7_setParameter_31 ⟨Nat.le_of_ble_eq_true rfl, Nat.le_of_ble_eq_true rfl⟩) hP hD hS hA [] [0, 1] rfl rfl rfl (by decide) (fun r31 H locs hw31 hP hD hS => ?_)
    replace hP : va_P D vwCl [(m0, .inr (7, [.ref v, .ref a1, .ref a2, .int ik, .int (nI 0), .int en])), (v, .inl (cJ, 136800, .inr (.inl (mF N))))] H := hP
    replace hD : va_D A [(m0, .inr (7, [.ref v, .ref a1, .ref a2, .int ik, .int (nI 0), .int en])), (v, .inl (cJ, 136800, .inr (.inl (mF N))))] := hD
    replace hw31 : r31 = nI 50 := hw31
    refine k_ti hw31 ?_
    refine lv_i2l (v := lN 50) hx hb dX7_setParameter_34 (by decide) ?_
    refine k_ci (wr := [(m0, .inr (7, [.ref v, .ref a1, .ref a2, .int ik, .int (nI 0), .int en])), (v, .inl (cJ, 136800, .inr (.inl (mF N))))]) (w1 := []) (va_runS (As := [.long (lN u), .long (lN 1), .long (lN 50)]) (rest := []) ⟨hx, hb, hml, hown, hts⟩ (c_X7_in1 l D cI cJ cM cG (lN u) (lN 1) (lN 50) H.size (k_in1 (by omega) (by omega) (by omega)) (k_in1 (by omega) (by omega) (by omega))) (va_cwS 3 hts (kB_S (fun _ => List.mem_cons_of_mem _) q_765 q_766 q_670 (kB_c q_767)) rfl rfl rfl (by decide +kernel) ⟨Nat.le_of_ble_eq_true rfl, Nat.le_of_ble_eq_true rfl⟩) (k_preS hP hD hK hKN [] rfl rfl) rfl rfl hl.1 rfl (lv_room (Nat.le_of_ble_eq_true rfl)) dX7_setParameter_35 ⟨Nat.le_of_ble_eq_true rfl, Nat.le_of_ble_eq_true rfl⟩) hP hD hS hA [] [0, 1] rfl rfl rfl (by decide) (fun r35 H locs hw35 hP hD hS => ?_)
    replace hP : va_P D vwCl [(m0, .inr (7, [.ref v, .ref a1, .ref a2, .int ik, .int (nI 0), .int en])), (v, .inl (cJ, 136800, .inr (.inl (mF N))))] H := hP
    replace hD : va_D A [(m0, .inr (7, [.ref v, .ref a1, .ref a2, .int ik, .int (nI 0), .int en])), (v, .inl (cJ, 136800, .inr (.inl (mF N))))] := hD
    replace hw35 : r35 = nI 1 := hw35
    refine k_ti hw35 ?_
    refine k_if_ne (tgt := 47) hx hb dX7_setParameter_38 (by decide) (by omega) (fun _ => ?_) (fun h9 => absurd h9 (by omega))
    refine lv_aload_n hx hb dX7_setParameter_47 rfl (lv_at hl 0 rfl) ?_
    refine va_get (D := D) (ci := 7) (v := .ref v) (C := RX7) (T := TX7) (N := 6) hx hb hts hin7 hown hK hP 0 rfl rfl 0 (by decide) (hts (.fieldLink RX7 8 "MeshRoutingModel" "v" "[J") (List.mem_cons_of_mem _ q_665)) (fun _ h9 => h9) rfl dX7_setParameter_48 ?_
    refine lv_bipush (v := nI 40) hx hb dX7_setParameter_51 (by decide) ?_
    refine lv_iload_n hx hb dX7_setParameter_53 rfl (lv_at hl 1 rfl) ?_
    refine lv_iadd hx hb dX7_setParameter_54 ?_
    refine k_ti (show ((nI 40) + (nI 6)) = (nI 46) from by decide) ?_
    refine k_lald (v := lN 20) hx hb hK hP 1 1 rfl rfl (by omega) (by omega) (rfl) dX7_setParameter_55 ?_
    refine lv_l2i (v := nI 20) hx hb dX7_setParameter_56 (by decide) ?_
    refine lv_istore_n (lv' := [(3, .int (nI 20)), (0, .ref m0), (1, .int (nI 6)), (2, .int (nI u))]) hx hb dX7_setParameter_57 rfl hl (by decide) rfl (fun ls hl => ?_)
    refine lv_aload_n hx hb dX7_setParameter_58 rfl (lv_at hl 1 rfl) ?_
    refine va_get (D := D) (ci := 7) (v := .ref v) (C := RX7) (T := TX7) (N := 6) hx hb hts hin7 hown hK hP 0 rfl rfl 0 (by decide) (hts (.fieldLink RX7 8 "MeshRoutingModel" "v" "[J") (List.mem_cons_of_mem _ q_665)) (fun _ h9 => h9) rfl dX7_setParameter_59 ?_
    refine lv_bipush (v := nI 40) hx hb dX7_setParameter_62 (by decide) ?_
    refine lv_iload_n hx hb dX7_setParameter_64 rfl (lv_at hl 2 rfl) ?_
    refine lv_iadd hx hb dX7_setParameter_65 ?_
    refine k_ti (show ((nI 40) + (nI 6)) = (nI 46) from by decide) ?_
    refine lv_iload_n hx hb dX7_setParameter_66 rfl (lv_at hl 3 rfl) ?_
    refine lv_i2l (v := lN u) hx hb dX7_setParameter_67 (by exact nI_l (by omega)) ?_
    refine k_last (f' := vp_updL (mF N) 46 (lN u)) hx hb hK hP hD hS 1 1 rfl rfl (by omega) (by omega) (rfl) dX7_setParameter_68 (fun H locs hP hD hS => ?_)
    replace hP : va_P D vwCl [(m0, .inr (7, [.ref v, .ref a1, .ref a2, .int ik, .int (nI 0), .int en])), (v, .inl (cJ, 136800, .inr (.inl (vp_updL (mF N) 46 (lN u)))))] H := hP
    replace hD : va_D A [(m0, .inr (7, [.ref v, .ref a1, .ref a2, .int ik, .int (nI 0), .int en])), (v, .inl (cJ, 136800, .inr (.inl (vp_updL (mF N) 46 (lN u)))))] := hD
    refine lv_iload_n hx hb dX7_setParameter_69 rfl (lv_at hl 0 rfl) ?_
    have hP9 := hP.sub (ws' := [(m0, .inr (7, [.ref v, .ref a1, .ref a2, .int ik, .int (nI 0), .int en]))]) [0] rfl
    have hD9 := hD.sub (ws' := [(m0, .inr (7, [.ref v, .ref a1, .ref a2, .int ik, .int (nI 0), .int en]))]) [0] rfl rfl
    exact W.iret (v := nI 20) hx hb hr (fun t9 ht9 hW9 => ⟨⟨nI 20, (), rfl, rfl, by rw [ht9]; exact hP9, hD9⟩, hS.F ht9⟩) hS.2.2 dX7_setParameter_70
  · have hlo9 : 0 ≤ u := hlo
    have hhi9 : u ≤ 10 := hhi
    refine lv_aload_n hx hb dX7_setParameter_0 rfl (lv_at hl 0 rfl) ?_
    refine lv_iconst (v := nI 0) hx hb dX7_setParameter_1 (by decide) ?_
    refine va_put (D := D) (ci := 7) (v := .int (nI 0)) (ty := .int) (C := RX7) (T := TX7) (N := 6) hx hb hts hin7 tyX7 tyX7_ok nmX7 hown hK hP hD hS 0 rfl rfl 4 (by decide) (hts (.fieldLink RX7 34 "MeshRoutingModel" "thrown" "I") (List.mem_cons_of_mem _ q_760)) (fun _ h9 => h9) rfl (by decide +kernel) rfl rfl (Nat.le_of_ble_eq_true rfl) dX7_setParameter_2 (fun H locs hP hD hS => ?_)
    replace hP : va_P D vwCl [(m0, .inr (7, [.ref v, .ref a1, .ref a2, .int ik, .int (nI 0), .int en])), (v, .inl (cJ, 136800, .inr (.inl (mF N))))] H := hP
    replace hD : va_D A [(m0, .inr (7, [.ref v, .ref a1, .ref a2, .int ik, .int (nI 0), .int en])), (v, .inl (cJ, 136800, .inr (.inl (mF N))))] := hD
    refine lv_iload_n hx hb dX7_setParameter_5 rfl (lv_at hl 1 rfl) ?_
    refine lv_i2l (v := lN 7) hx hb dX7_setParameter_6 (by decide) ?_
    refine lv_lconst (v := lN 0) hx hb dX7_setParameter_7 (by decide) ?_
    refine lv_ldc2 (v := 7) hx hb hown (by exact hts (.constantLong RX7 217 (7)) (List.mem_cons_of_mem _ q_942)) dX7_setParameter_8 ?_
    refine k_tl (show (7) = (lN 7) from by decide) ?_
    refine k_ci (wr := [(m0, .inr (7, [.ref v, .ref a1, .ref a2, .int ik, .int (nI 0), .int en])), (v, .inl (cJ, 136800, .inr (.inl (mF N))))]) (w1 := []) (va_runS (As := [.long (lN 7), .long (lN 0), .long (lN 7)]) (rest := []) ⟨hx, hb, hml, hown, hts⟩ (c_X7_in1 l D cI cJ cM cG (lN 7) (lN 0) (lN 7) H.size (k_in1 (by omega) (by omega) (by omega)) (k_in1 (by omega) (by omega) (by omega))) (va_cwS 3 hts (kB_S (fun _ => List.mem_cons_of_mem _) q_765 q_766 q_670 (kB_c q_767)) rfl rfl rfl (by decide +kernel) ⟨Nat.le_of_ble_eq_true rfl, Nat.le_of_ble_eq_true rfl⟩) (k_preS hP hD hK hKN [] rfl rfl) rfl rfl hl.1 rfl (lv_room (Nat.le_of_ble_eq_true rfl)) dX7_setParameter_11 ⟨Nat.le_of_ble_eq_true rfl, Nat.le_of_ble_eq_true rfl⟩) hP hD hS hA [] [0, 1] rfl rfl rfl (by decide) (fun r11 H locs hw11 hP hD hS => ?_)
    replace hP : va_P D vwCl [(m0, .inr (7, [.ref v, .ref a1, .ref a2, .int ik, .int (nI 0), .int en])), (v, .inl (cJ, 136800, .inr (.inl (mF N))))] H := hP
    replace hD : va_D A [(m0, .inr (7, [.ref v, .ref a1, .ref a2, .int ik, .int (nI 0), .int en])), (v, .inl (cJ, 136800, .inr (.inl (mF N))))] := hD
    replace hw11 : r11 = nI 1 := hw11
    refine k_ti hw11 ?_
    refine k_if_ne (tgt := 23) hx hb dX7_setParameter_14 (by decide) (by omega) (fun _ => ?_) (fun h9 => absurd h9 (by omega))
    refine lv_iload_n hx hb dX7_setParameter_23 rfl (lv_at hl 2 rfl) ?_
    refine lv_i2l (v := lN u) hx hb dX7_setParameter_24 (by exact nI_l (by omega)) ?_
    refine lv_iload_n hx hb dX7_setParameter_25 rfl (lv_at hl 1 rfl) ?_
    refine k_ci (wr := [(m0, .inr (7, [.ref v, .ref a1, .ref a2, .int ik, .int (nI 0), .int en])), (v, .inl (cJ, 136800, .inr (.inl (mF N))))]) (w1 := []) (va_runS (As := [.int (nI 7)]) (rest := [.long (lN u)]) ⟨hx, hb, hml, hown, hts⟩ (c_X7_leastOf7 l D cI cJ cM cG  H.size) (va_cwS 1 hts (kB_S (fun _ => List.mem_cons_of_mem _) q_943 q_944 q_670 (kB_c q_922)) rfl rfl rfl (by decide +kernel) ⟨Nat.le_of_ble_eq_true rfl, Nat.le_of_ble_eq_true rfl⟩) (k_preS hP hD hK hKN [] rfl rfl) rfl rfl hl.1 rfl (lv_room (Nat.le_of_ble_eq_true rfl)) dX7_setParameter_26 ⟨Nat.le_of_ble_eq_true rfl, Nat.le_of_ble_eq_true rfl⟩) hP hD hS hA [] [0, 1] rfl rfl rfl (by decide) (fun r26 H locs hw26 hP hD hS => ?_)
    replace hP : va_P D vwCl [(m0, .inr (7, [.ref v, .ref a1, .ref a2, .int ik, .int (nI 0), .int en])), (v, .inl (cJ, 136800, .inr (.inl (mF N))))] H := hP
    replace hD : va_D A [(m0, .inr (7, [.ref v, .ref a1, .ref a2, .int ik, .int (nI 0), .int en])), (v, .inl (cJ, 136800, .inr (.inl (mF N))))] := hD
    replace hw26 : r26 = nI 0 := hw26
    refine k_ti hw26 ?_
    refine lv_i2l (v := lN 0) hx hb dX7_setParameter_29 (by decide) ?_
    refine lv_iload_n hx hb dX7_setParameter_30 rfl (lv_at hl 1 rfl) ?_
    refine k_ci (wr := [(m0, .inr (7, [.ref v, .ref a1, .ref a2, .int ik, .int (nI 0), .int en])), (v, .inl (cJ, 136800, .inr (.inl (mF N))))]) (w1 := []) (va_runS (As := [.int (nI 7)]) (rest := [.long (lN 0), .long (lN u)]) ⟨hx, hb, hml, hown, hts⟩ (c_X7_mostOf7 l D cI cJ cM cG  H.size) (va_cwS 1 hts (kB_S (fun _ => List.mem_cons_of_mem _) q_945 q_946 q_670 (kB_c q_928)) rfl rfl rfl (by decide +kernel) ⟨Nat.le_of_ble_eq_true rfl, Nat.le_of_ble_eq_true rfl⟩) (k_preS hP hD hK hKN [] rfl rfl) rfl rfl hl.1 rfl (lv_room (Nat.le_of_ble_eq_true rfl)) dX7_setParameter_31 ⟨Nat.le_of_ble_eq_true rfl, Nat.le_of_ble_eq_true rfl⟩) hP hD hS hA [] [0, 1] rfl rfl rfl (by decide) (fun r31 H locs hw31 hP hD hS => ?_)
    replace hP : va_P D vwCl [(m0, .inr (7, [.ref v, .ref a1, .ref a2, .int ik, .int (nI 0), .int en])), (v, .inl (cJ, 136800, .inr (.inl (mF N))))] H := hP
    replace hD : va_D A [(m0, .inr (7, [.ref v, .ref a1, .ref a2, .int ik, .int (nI 0), .int en])), (v, .inl (cJ, 136800, .inr (.inl (mF N))))] := hD
    replace hw31 : r31 = nI 10 := hw31
    refine k_ti hw31 ?_
    refine lv_i2l (v := lN 10) hx hb dX7_setParameter_34 (by decide) ?_
    refine k_ci (wr := [(m0, .inr (7, [.ref v, .ref a1, .ref a2, .int ik, .int (nI 0), .int en])), (v, .inl (cJ, 136800, .inr (.inl (mF N))))]) (w1 := []) (va_runS (As := [.long (lN u), .long (lN 0), .long (lN 10)]) (rest := []) ⟨hx, hb, hml, hown, hts⟩ (c_X7_in1 l D cI cJ cM cG (lN u) (lN 0) (lN 10) H.size (k_in1 (by omega) (by omega) (by omega)) (k_in1 (by omega) (by omega) (by omega))) (va_cwS 3 hts (kB_S (fun _ => List.mem_cons_of_mem _) q_765 q_766 q_670 (kB_c q_767)) rfl rfl rfl (by decide +kernel) ⟨Nat.le_of_ble_eq_true rfl, Nat.le_of_ble_eq_true rfl⟩) (k_preS hP hD hK hKN [] rfl rfl) rfl rfl hl.1 rfl (lv_room (Nat.le_of_ble_eq_true rfl)) dX7_setParameter_35 ⟨Nat.le_of_ble_eq_true rfl, Nat.le_of_ble_eq_true rfl⟩) hP hD hS hA [] [0, 1] rfl rfl rfl (by decide) (fun r35 H locs hw35 hP hD hS => ?_)
    replace hP : va_P D vwCl [(m0, .inr (7, [.ref v, .ref a1, .ref a2, .int ik, .int (nI 0), .int en])), (v, .inl (cJ, 136800, .inr (.inl (mF N))))] H := hP
    replace hD : va_D A [(m0, .inr (7, [.ref v, .ref a1, .ref a2, .int ik, .int (nI 0), .int en])), (v, .inl (cJ, 136800, .inr (.inl (mF N))))] := hD
    replace hw35 : r35 = nI 1 := hw35
    refine k_ti hw35 ?_
    refine k_if_ne (tgt := 47) hx hb dX7_setParameter_38 (by decide) (by omega) (fun _ => ?_) (fun h9 => absurd h9 (by omega))
    refine lv_aload_n hx hb dX7_setParameter_47 rfl (lv_at hl 0 rfl) ?_
    refine va_get (D := D) (ci := 7) (v := .ref v) (C := RX7) (T := TX7) (N := 6) hx hb hts hin7 hown hK hP 0 rfl rfl 0 (by decide) (hts (.fieldLink RX7 8 "MeshRoutingModel" "v" "[J") (List.mem_cons_of_mem _ q_665)) (fun _ h9 => h9) rfl dX7_setParameter_48 ?_
    refine lv_bipush (v := nI 40) hx hb dX7_setParameter_51 (by decide) ?_
    refine lv_iload_n hx hb dX7_setParameter_53 rfl (lv_at hl 1 rfl) ?_
    refine lv_iadd hx hb dX7_setParameter_54 ?_
    refine k_ti (show ((nI 40) + (nI 7)) = (nI 47) from by decide) ?_
    refine k_lald (v := lN 3) hx hb hK hP 1 1 rfl rfl (by omega) (by omega) (rfl) dX7_setParameter_55 ?_
    refine lv_l2i (v := nI 3) hx hb dX7_setParameter_56 (by decide) ?_
    refine lv_istore_n (lv' := [(3, .int (nI 3)), (0, .ref m0), (1, .int (nI 7)), (2, .int (nI u))]) hx hb dX7_setParameter_57 rfl hl (by decide) rfl (fun ls hl => ?_)
    refine lv_aload_n hx hb dX7_setParameter_58 rfl (lv_at hl 1 rfl) ?_
    refine va_get (D := D) (ci := 7) (v := .ref v) (C := RX7) (T := TX7) (N := 6) hx hb hts hin7 hown hK hP 0 rfl rfl 0 (by decide) (hts (.fieldLink RX7 8 "MeshRoutingModel" "v" "[J") (List.mem_cons_of_mem _ q_665)) (fun _ h9 => h9) rfl dX7_setParameter_59 ?_
    refine lv_bipush (v := nI 40) hx hb dX7_setParameter_62 (by decide) ?_
    refine lv_iload_n hx hb dX7_setParameter_64 rfl (lv_at hl 2 rfl) ?_
    refine lv_iadd hx hb dX7_setParameter_65 ?_
    refine k_ti (show ((nI 40) + (nI 7)) = (nI 47) from by decide) ?_
    refine lv_iload_n hx hb dX7_setParameter_66 rfl (lv_at hl 3 rfl) ?_
    refine lv_i2l (v := lN u) hx hb dX7_setParameter_67 (by exact nI_l (by omega)) ?_
    refine k_last (f' := vp_updL (mF N) 47 (lN u)) hx hb hK hP hD hS 1 1 rfl rfl (by omega) (by omega) (rfl) dX7_setParameter_68 (fun H locs hP hD hS => ?_)
    replace hP : va_P D vwCl [(m0, .inr (7, [.ref v, .ref a1, .ref a2, .int ik, .int (nI 0), .int en])), (v, .inl (cJ, 136800, .inr (.inl (vp_updL (mF N) 47 (lN u)))))] H := hP
    replace hD : va_D A [(m0, .inr (7, [.ref v, .ref a1, .ref a2, .int ik, .int (nI 0), .int en])), (v, .inl (cJ, 136800, .inr (.inl (vp_updL (mF N) 47 (lN u)))))] := hD
    refine lv_iload_n hx hb dX7_setParameter_69 rfl (lv_at hl 0 rfl) ?_
    have hP9 := hP.sub (ws' := [(m0, .inr (7, [.ref v, .ref a1, .ref a2, .int ik, .int (nI 0), .int en]))]) [0] rfl
    have hD9 := hD.sub (ws' := [(m0, .inr (7, [.ref v, .ref a1, .ref a2, .int ik, .int (nI 0), .int en]))]) [0] rfl rfl
    exact W.iret (v := nI 3) hx hb hr (fun t9 ht9 hW9 => ⟨⟨nI 3, (), rfl, rfl, by rw [ht9]; exact hP9, hD9⟩, hS.F ht9⟩) hS.2.2 dX7_setParameter_70

set_option maxHeartbeats 4000000 in
set_option maxRecDepth 100000 in
theorem c_M_setParameter0 (l : Launch) (D : va_G) (cI cJ cM cG : ClassId) (m0 : Nat) (v : Nat) (a1 : Nat) (a2 : Nat) (ik : Int32) (th : Int32) (en : Int32) (N : Nat) (z3 : Int32) (z4 : Int32) (sz : Nat) (hN : N ≤ 10) (hN0 : 0 < N) (hz3 : z3 < 0 ∨ nI (7 + 1) ≤ z3) : Met l yX7_setParameter (Cond.code yX7_setParameter cX7_setParameter 4 (some .int) :: kBig) ({ frames := 1, cells := 0, slots := 0, locals := 25 }) (va_Pc [.ref m0, .int z3, .int z4] (kP D [(cI, .int), (cJ, .long), (cM, .object "MeshRouting$Message"), (cG, .array .int)] [(m0, .inr (7, [.ref v, .ref a1, .ref a2, .int ik, .int th, .int en])), (v, .inl (cJ, 136800, .inr (.inl (mF N))))] sz)) (va_Qi (fun (r : Int32) (_ : Unit) => r = nI 0) (fun _ t9 => kB D (va_A [(m0, .inr (7, [.ref v, .ref a1, .ref a2, .int ik, .int th, .int en])), (v, .inl (cJ, 136800, .inr (.inl (mF N))))] sz) [(m0, .inr (7, [.ref v, .ref a1, .ref a2, .int ik, .int (nI 1), .int en]))] t9) (va_A [(m0, .inr (7, [.ref v, .ref a1, .ref a2, .int ik, .int th, .int en])), (v, .inl (cJ, 136800, .inr (.inl (mF N))))] sz)) 0 0 (va_A [(m0, .inr (7, [.ref v, .ref a1, .ref a2, .int ik, .int th, .int en])), (v, .inl (cJ, 136800, .inr (.inl (mF N))))] sz) := by
  refine Met.ofW (cc := cX7_setParameter) (maxL := 4) (ret := (some .int)) (by decide) rfl ?_
  intro p e s m args below meth c s₁ B hml hv
  obtain ⟨rfl, hsz, hP, hK, hD0, hKN⟩ := hv
  have hx := B.exec
  have hb := B.bytes
  have hr := B.returns
  have hts := atoms_spec (ws := (Cond.code yX7_setParameter cX7_setParameter 4 (some .int) :: kBig)) B.pre
  have hown : s.vm.findClass RX7 = some m.cls := findClass_of_methodNamed B.named
  have hlocks := B.notSynchronized
  have hin7 : ∀ w ∈ u_ws RX7 TX7 6, w ∈ (Cond.code yX7_setParameter cX7_setParameter 4 (some .int) :: kBig) := fun w h => List.mem_cons_of_mem _ (inb7 w h)
  subst hsz
  have hD := hD0.self (sz := s.heap.size)
  generalize hAe : va_A [(m0, .inr (7, [.ref v, .ref a1, .ref a2, .int ik, .int th, .int en])), (v, .inl (cJ, 136800, .inr (.inl (mF N))))] s.heap.size = A at hD ⊢
  have hA : ∀ q : Nat, s.heap.size ≤ q → A q := fun q h => by rw [← hAe]; exact Or.inr h
  have hS : va_S A s.heap s.heap [] := va_S.rf
  have hl := lv_entry ([.ref m0, .int z3, .int z4]) (n := 4) (Nat.le_of_ble_eq_true rfl)
  rw [lg_entry_eq]
  generalize (lg_sl ([.ref m0, .int z3, .int z4]) ++ List.replicate (4 - (lg_sl ([.ref m0, .int z3, .int z4])).length) Slot.unset).toArray = ls at hl ⊢
  have hl : lv_has ls 4 [(0, .ref m0), (1, .int z3), (2, .int z4)] := hl
  refine lv_aload_n hx hb dX7_setParameter_0 rfl (lv_at hl 0 rfl) ?_
  refine lv_iconst (v := nI 0) hx hb dX7_setParameter_1 (by decide) ?_
  refine va_put (D := D) (ci := 7) (v := .int (nI 0)) (ty := .int) (C := RX7) (T := TX7) (N := 6) hx hb hts hin7 tyX7 tyX7_ok nmX7 hown hK hP hD hS 0 rfl rfl 4 (by decide) (hts (.fieldLink RX7 34 "MeshRoutingModel" "thrown" "I") (List.mem_cons_of_mem _ q_760)) (fun _ h9 => h9) rfl (by decide +kernel) rfl rfl (Nat.le_of_ble_eq_true rfl) dX7_setParameter_2 (fun H locs hP hD hS => ?_)
  replace hP : va_P D vwCl [(m0, .inr (7, [.ref v, .ref a1, .ref a2, .int ik, .int (nI 0), .int en])), (v, .inl (cJ, 136800, .inr (.inl (mF N))))] H := hP
  replace hD : va_D A [(m0, .inr (7, [.ref v, .ref a1, .ref a2, .int ik, .int (nI 0), .int en])), (v, .inl (cJ, 136800, .inr (.inl (mF N))))] := hD
  refine lv_iload_n hx hb dX7_setParameter_5 rfl (lv_at hl 1 rfl) ?_
  refine lv_i2l (v := z3.toInt64) hx hb dX7_setParameter_6 (rfl) ?_
  refine lv_lconst (v := lN 0) hx hb dX7_setParameter_7 (by decide) ?_
  refine lv_ldc2 (v := 7) hx hb hown (by exact hts (.constantLong RX7 217 (7)) (List.mem_cons_of_mem _ q_942)) dX7_setParameter_8 ?_
  refine k_tl (show (7) = (lN 7) from by decide) ?_
  refine k_ci (wr := [(m0, .inr (7, [.ref v, .ref a1, .ref a2, .int ik, .int (nI 0), .int en])), (v, .inl (cJ, 136800, .inr (.inl (mF N))))]) (w1 := []) (va_runS (As := [.long z3.toInt64, .long (lN 0), .long (lN 7)]) (rest := []) ⟨hx, hb, hml, hown, hts⟩ (c_X7_in0 l D cI cJ cM cG z3.toInt64 (lN 0) (lN 7) H.size (k_over (n := 7) (by omega) hz3)) (va_cwS 3 hts (kB_S (fun _ => List.mem_cons_of_mem _) q_765 q_766 q_670 (kB_c q_767)) rfl rfl rfl (by decide +kernel) ⟨Nat.le_of_ble_eq_true rfl, Nat.le_of_ble_eq_true rfl⟩) (k_preS hP hD hK hKN [] rfl rfl) rfl rfl hl.1 rfl (lv_room (Nat.le_of_ble_eq_true rfl)) dX7_setParameter_11 ⟨Nat.le_of_ble_eq_true rfl, Nat.le_of_ble_eq_true rfl⟩) hP hD hS hA [] [0, 1] rfl rfl rfl (by decide) (fun r11 H locs hw11 hP hD hS => ?_)
  replace hP : va_P D vwCl [(m0, .inr (7, [.ref v, .ref a1, .ref a2, .int ik, .int (nI 0), .int en])), (v, .inl (cJ, 136800, .inr (.inl (mF N))))] H := hP
  replace hD : va_D A [(m0, .inr (7, [.ref v, .ref a1, .ref a2, .int ik, .int (nI 0), .int en])), (v, .inl (cJ, 136800, .inr (.inl (mF N))))] := hD
  replace hw11 : r11 = nI 0 := hw11
  refine k_ti hw11 ?_
  refine k_if_ne (tgt := 23) hx hb dX7_setParameter_14 (by decide) (by omega) (fun h9 => absurd h9 (by omega)) (fun _ => ?_)
  refine lv_aload_n hx hb dX7_setParameter_17 rfl (lv_at hl 0 rfl) ?_
  refine lv_iconst (v := nI 1) hx hb dX7_setParameter_18 (by decide) ?_
  refine k_ci (wr := []) (w1 := [(m0, .inr (7, [.ref v, .ref a1, .ref a2, .int ik, .int (nI 1), .int en])), (v, .inl (cJ, 136800, .inr (.inl (mF N))))]) (va_runV (As := [.int (nI 1)]) (rest := []) ⟨hx, hb, hml, hown, hts⟩ (c_X7_fails l D cI cJ cM cG m0 v a1 a2 ik (nI 0) en (mF N) (nI 1) H.size) (cwV 1 hts (kB_V (fun _ => List.mem_cons_of_mem _) q_924 q_925 q_926 q_670 (kB_c q_883)) rfl rfl rfl (by decide +kernel) ⟨Nat.le_of_ble_eq_true rfl, Nat.le_of_ble_eq_true rfl⟩) (k_preV (T := TX7) hP hD hK hKN [0, 1] rfl rfl (ci := 7) rfl (q0 := 0) rfl) rfl rfl hl.1 rfl (lv_room (Nat.le_of_ble_eq_true rfl)) dX7_setParameter_19 ⟨Nat.le_of_ble_eq_true rfl, Nat.le_of_ble_eq_true rfl⟩) hP hD hS hA [0, 1] [] rfl rfl rfl (by decide) (fun r19 H locs hw19 hP hD hS => ?_)
  replace hP : va_P D vwCl [(m0, .inr (7, [.ref v, .ref a1, .ref a2, .int ik, .int (nI 1), .int en])), (v, .inl (cJ, 136800, .inr (.inl (mF N))))] H := hP
  replace hD : va_D A [(m0, .inr (7, [.ref v, .ref a1, .ref a2, .int ik, .int (nI 1), .int en])), (v, .inl (cJ, 136800, .inr (.inl (mF N))))] := hD
  replace hw19 : r19 = nI 0 := hw19
  refine k_ti hw19 ?_
  have hP9 := hP.sub (ws' := [(m0, .inr (7, [.ref v, .ref a1, .ref a2, .int ik, .int (nI 1), .int en]))]) [0] rfl
  have hD9 := hD.sub (ws' := [(m0, .inr (7, [.ref v, .ref a1, .ref a2, .int ik, .int (nI 1), .int en]))]) [0] rfl rfl
  exact W.iret (v := nI 0) hx hb hr (fun t9 ht9 hW9 => ⟨⟨nI 0, (), rfl, rfl, by rw [ht9]; exact hP9, hD9⟩, hS.F ht9⟩) hS.2.2 dX7_setParameter_22

set_option maxHeartbeats 4000000 in
set_option maxRecDepth 100000 in
theorem c_M_setParameter2 (l : Launch) (D : va_G) (cI cJ cM cG : ClassId) (m0 : Nat) (v : Nat) (a1 : Nat) (a2 : Nat) (ik : Int32) (th : Int32) (en : Int32) (N : Nat) (j : Nat) (z3 : Int32) (sz : Nat) (hN : N ≤ 10) (hN0 : 0 < N) (hj : j < 8) (hz3 : z3 < nI (kLo j) ∨ nI (kHi j + 1) ≤ z3) : Met l yX7_setParameter (Cond.code yX7_setParameter cX7_setParameter 4 (some .int) :: kBig) ({ frames := 1, cells := 0, slots := 0, locals := 25 }) (va_Pc [.ref m0, .int (nI j), .int z3] (kP D [(cI, .int), (cJ, .long), (cM, .object "MeshRouting$Message"), (cG, .array .int)] [(m0, .inr (7, [.ref v, .ref a1, .ref a2, .int ik, .int th, .int en])), (v, .inl (cJ, 136800, .inr (.inl (mF N))))] sz)) (va_Qi (fun (r : Int32) (_ : Unit) => r = nI 0) (fun _ t9 => kB D (va_A [(m0, .inr (7, [.ref v, .ref a1, .ref a2, .int ik, .int th, .int en])), (v, .inl (cJ, 136800, .inr (.inl (mF N))))] sz) [(m0, .inr (7, [.ref v, .ref a1, .ref a2, .int ik, .int (nI 2), .int en]))] t9) (va_A [(m0, .inr (7, [.ref v, .ref a1, .ref a2, .int ik, .int th, .int en])), (v, .inl (cJ, 136800, .inr (.inl (mF N))))] sz)) 0 0 (va_A [(m0, .inr (7, [.ref v, .ref a1, .ref a2, .int ik, .int th, .int en])), (v, .inl (cJ, 136800, .inr (.inl (mF N))))] sz) := by
  refine Met.ofW (cc := cX7_setParameter) (maxL := 4) (ret := (some .int)) (by decide) rfl ?_
  intro p e s m args below meth c s₁ B hml hv
  obtain ⟨rfl, hsz, hP, hK, hD0, hKN⟩ := hv
  have hx := B.exec
  have hb := B.bytes
  have hr := B.returns
  have hts := atoms_spec (ws := (Cond.code yX7_setParameter cX7_setParameter 4 (some .int) :: kBig)) B.pre
  have hown : s.vm.findClass RX7 = some m.cls := findClass_of_methodNamed B.named
  have hlocks := B.notSynchronized
  have hin7 : ∀ w ∈ u_ws RX7 TX7 6, w ∈ (Cond.code yX7_setParameter cX7_setParameter 4 (some .int) :: kBig) := fun w h => List.mem_cons_of_mem _ (inb7 w h)
  subst hsz
  have hD := hD0.self (sz := s.heap.size)
  generalize hAe : va_A [(m0, .inr (7, [.ref v, .ref a1, .ref a2, .int ik, .int th, .int en])), (v, .inl (cJ, 136800, .inr (.inl (mF N))))] s.heap.size = A at hD ⊢
  have hA : ∀ q : Nat, s.heap.size ≤ q → A q := fun q h => by rw [← hAe]; exact Or.inr h
  have hS : va_S A s.heap s.heap [] := va_S.rf
  have hl := lv_entry ([.ref m0, .int (nI j), .int z3]) (n := 4) (Nat.le_of_ble_eq_true rfl)
  rw [lg_entry_eq]
  generalize (lg_sl ([.ref m0, .int (nI j), .int z3]) ++ List.replicate (4 - (lg_sl ([.ref m0, .int (nI j), .int z3])).length) Slot.unset).toArray = ls at hl ⊢
  have hl : lv_has ls 4 [(0, .ref m0), (1, .int (nI j)), (2, .int z3)] := hl
  rcases (show j = 0 ∨ j = 1 ∨ j = 2 ∨ j = 3 ∨ j = 4 ∨ j = 5 ∨ j = 6 ∨ j = 7 by omega) with rfl | rfl | rfl | rfl | rfl | rfl | rfl | rfl
  · have hz9 : z3 < nI 1 ∨ nI (1000 + 1) ≤ z3 := hz3
    refine lv_aload_n hx hb dX7_setParameter_0 rfl (lv_at hl 0 rfl) ?_
    refine lv_iconst (v := nI 0) hx hb dX7_setParameter_1 (by decide) ?_
    refine va_put (D := D) (ci := 7) (v := .int (nI 0)) (ty := .int) (C := RX7) (T := TX7) (N := 6) hx hb hts hin7 tyX7 tyX7_ok nmX7 hown hK hP hD hS 0 rfl rfl 4 (by decide) (hts (.fieldLink RX7 34 "MeshRoutingModel" "thrown" "I") (List.mem_cons_of_mem _ q_760)) (fun _ h9 => h9) rfl (by decide +kernel) rfl rfl (Nat.le_of_ble_eq_true rfl) dX7_setParameter_2 (fun H locs hP hD hS => ?_)
    replace hP : va_P D vwCl [(m0, .inr (7, [.ref v, .ref a1, .ref a2, .int ik, .int (nI 0), .int en])), (v, .inl (cJ, 136800, .inr (.inl (mF N))))] H := hP
    replace hD : va_D A [(m0, .inr (7, [.ref v, .ref a1, .ref a2, .int ik, .int (nI 0), .int en])), (v, .inl (cJ, 136800, .inr (.inl (mF N))))] := hD
    refine lv_iload_n hx hb dX7_setParameter_5 rfl (lv_at hl 1 rfl) ?_
    refine lv_i2l (v := lN 0) hx hb dX7_setParameter_6 (by decide) ?_
    refine lv_lconst (v := lN 0) hx hb dX7_setParameter_7 (by decide) ?_
    refine lv_ldc2 (v := 7) hx hb hown (by exact hts (.constantLong RX7 217 (7)) (List.mem_cons_of_mem _ q_942)) dX7_setParameter_8 ?_
    refine k_tl (show (7) = (lN 7) from by decide) ?_
    refine k_ci (wr := [(m0, .inr (7, [.ref v, .ref a1, .ref a2, .int ik, .int (nI 0), .int en])), (v, .inl (cJ, 136800, .inr (.inl (mF N))))]) (w1 := []) (va_runS (As := [.long (lN 0), .long (lN 0), .long (lN 7)]) (rest := []) ⟨hx, hb, hml, hown, hts⟩ (c_X7_in1 l D cI cJ cM cG (lN 0) (lN 0) (lN 7) H.size (k_in1 (by omega) (by omega) (by omega)) (k_in1 (by omega) (by omega) (by omega))) (va_cwS 3 hts (kB_S (fun _ => List.mem_cons_of_mem _) q_765 q_766 q_670 (kB_c q_767)) rfl rfl rfl (by decide +kernel) ⟨Nat.le_of_ble_eq_true rfl, Nat.le_of_ble_eq_true rfl⟩) (k_preS hP hD hK hKN [] rfl rfl) rfl rfl hl.1 rfl (lv_room (Nat.le_of_ble_eq_true rfl)) dX7_setParameter_11 ⟨Nat.le_of_ble_eq_true rfl, Nat.le_of_ble_eq_true rfl⟩) hP hD hS hA [] [0, 1] rfl rfl rfl (by decide) (fun r11 H locs hw11 hP hD hS => ?_)
    replace hP : va_P D vwCl [(m0, .inr (7, [.ref v, .ref a1, .ref a2, .int ik, .int (nI 0), .int en])), (v, .inl (cJ, 136800, .inr (.inl (mF N))))] H := hP
    replace hD : va_D A [(m0, .inr (7, [.ref v, .ref a1, .ref a2, .int ik, .int (nI 0), .int en])), (v, .inl (cJ, 136800, .inr (.inl (mF N))))] := hD
    replace hw11 : r11 = nI 1 := hw11
    refine k_ti hw11 ?_
    refine k_if_ne (tgt := 23) hx hb dX7_setParameter_14 (by decide) (by omega) (fun _ => ?_) (fun h9 => absurd h9 (by omega))
    refine lv_iload_n hx hb dX7_setParameter_23 rfl (lv_at hl 2 rfl) ?_
    refine lv_i2l (v := z3.toInt64) hx hb dX7_setParameter_24 (rfl) ?_
    refine lv_iload_n hx hb dX7_setParameter_25 rfl (lv_at hl 1 rfl) ?_
    refine k_ci (wr := [(m0, .inr (7, [.ref v, .ref a1, .ref a2, .int ik, .int (nI 0), .int en])), (v, .inl (cJ, 136800, .inr (.inl (mF N))))]) (w1 := []) (va_runS (As := [.int (nI 0)]) (rest := [.long z3.toInt64]) ⟨hx, hb, hml, hown, hts⟩ (c_X7_leastOf0 l D cI cJ cM cG  H.size) (va_cwS 1 hts (kB_S (fun _ => List.mem_cons_of_mem _) q_943 q_944 q_670 (kB_c q_922)) rfl rfl rfl (by decide +kernel) ⟨Nat.le_of_ble_eq_true rfl, Nat.le_of_ble_eq_true rfl⟩) (k_preS hP hD hK hKN [] rfl rfl) rfl rfl hl.1 rfl (lv_room (Nat.le_of_ble_eq_true rfl)) dX7_setParameter_26 ⟨Nat.le_of_ble_eq_true rfl, Nat.le_of_ble_eq_true rfl⟩) hP hD hS hA [] [0, 1] rfl rfl rfl (by decide) (fun r26 H locs hw26 hP hD hS => ?_)
    replace hP : va_P D vwCl [(m0, .inr (7, [.ref v, .ref a1, .ref a2, .int ik, .int (nI 0), .int en])), (v, .inl (cJ, 136800, .inr (.inl (mF N))))] H := hP
    replace hD : va_D A [(m0, .inr (7, [.ref v, .ref a1, .ref a2, .int ik, .int (nI 0), .int en])), (v, .inl (cJ, 136800, .inr (.inl (mF N))))] := hD
    replace hw26 : r26 = nI 1 := hw26
    refine k_ti hw26 ?_
    refine lv_i2l (v := lN 1) hx hb dX7_setParameter_29 (by decide) ?_
    refine lv_iload_n hx hb dX7_setParameter_30 rfl (lv_at hl 1 rfl) ?_
    refine k_ci (wr := [(m0, .inr (7, [.ref v, .ref a1, .ref a2, .int ik, .int (nI 0), .int en])), (v, .inl (cJ, 136800, .inr (.inl (mF N))))]) (w1 := []) (va_runS (As := [.int (nI 0)]) (rest := [.long (lN 1), .long z3.toInt64]) ⟨hx, hb, hml, hown, hts⟩ (c_X7_mostOf0 l D cI cJ cM cG  H.size) (va_cwS 1 hts (kB_S (fun _ => List.mem_cons_of_mem _) q_945 q_946 q_670 (kB_c q_928)) rfl rfl rfl (by decide +kernel) ⟨Nat.le_of_ble_eq_true rfl, Nat.le_of_ble_eq_true rfl⟩) (k_preS hP hD hK hKN [] rfl rfl) rfl rfl hl.1 rfl (lv_room (Nat.le_of_ble_eq_true rfl)) dX7_setParameter_31 ⟨Nat.le_of_ble_eq_true rfl, Nat.le_of_ble_eq_true rfl⟩) hP hD hS hA [] [0, 1] rfl rfl rfl (by decide) (fun r31 H locs hw31 hP hD hS => ?_)
    replace hP : va_P D vwCl [(m0, .inr (7, [.ref v, .ref a1, .ref a2, .int ik, .int (nI 0), .int en])), (v, .inl (cJ, 136800, .inr (.inl (mF N))))] H := hP
    replace hD : va_D A [(m0, .inr (7, [.ref v, .ref a1, .ref a2, .int ik, .int (nI 0), .int en])), (v, .inl (cJ, 136800, .inr (.inl (mF N))))] := hD
    replace hw31 : r31 = nI 1000 := hw31
    refine k_ti hw31 ?_
    refine lv_i2l (v := lN 1000) hx hb dX7_setParameter_34 (by decide) ?_
    refine k_ci (wr := [(m0, .inr (7, [.ref v, .ref a1, .ref a2, .int ik, .int (nI 0), .int en])), (v, .inl (cJ, 136800, .inr (.inl (mF N))))]) (w1 := []) (va_runS (As := [.long z3.toInt64, .long (lN 1), .long (lN 1000)]) (rest := []) ⟨hx, hb, hml, hown, hts⟩ (c_X7_in0 l D cI cJ cM cG z3.toInt64 (lN 1) (lN 1000) H.size (k_overL (lo := 1) (n := 1000) (by omega) (by omega) hz9)) (va_cwS 3 hts (kB_S (fun _ => List.mem_cons_of_mem _) q_765 q_766 q_670 (kB_c q_767)) rfl rfl rfl (by decide +kernel) ⟨Nat.le_of_ble_eq_true rfl, Nat.le_of_ble_eq_true rfl⟩) (k_preS hP hD hK hKN [] rfl rfl) rfl rfl hl.1 rfl (lv_room (Nat.le_of_ble_eq_true rfl)) dX7_setParameter_35 ⟨Nat.le_of_ble_eq_true rfl, Nat.le_of_ble_eq_true rfl⟩) hP hD hS hA [] [0, 1] rfl rfl rfl (by decide) (fun r35 H locs hw35 hP hD hS => ?_)
    replace hP : va_P D vwCl [(m0, .inr (7, [.ref v, .ref a1, .ref a2, .int ik, .int (nI 0), .int en])), (v, .inl (cJ, 136800, .inr (.inl (mF N))))] H := hP
    replace hD : va_D A [(m0, .inr (7, [.ref v, .ref a1, .ref a2, .int ik, .int (nI 0), .int en])), (v, .inl (cJ, 136800, .inr (.inl (mF N))))] := hD
    replace hw35 : r35 = nI 0 := hw35
    refine k_ti hw35 ?_
    refine k_if_ne (tgt := 47) hx hb dX7_setParameter_38 (by decide) (by omega) (fun h9 => absurd h9 (by omega)) (fun _ => ?_)
    refine lv_aload_n hx hb dX7_setParameter_41 rfl (lv_at hl 0 rfl) ?_
    refine lv_iconst (v := nI 2) hx hb dX7_setParameter_42 (by decide) ?_
    refine k_ci (wr := []) (w1 := [(m0, .inr (7, [.ref v, .ref a1, .ref a2, .int ik, .int (nI 2), .int en])), (v, .inl (cJ, 136800, .inr (.inl (mF N))))]) (va_runV (As := [.int (nI 2)]) (rest := []) ⟨hx, hb, hml, hown, hts⟩ (c_X7_fails l D cI cJ cM cG m0 v a1 a2 ik (nI 0) en (mF N) (nI 2) H.size) (cwV 1 hts (kB_V (fun _ => List.mem_cons_of_mem _) q_924 q_925 q_926 q_670 (kB_c q_883)) rfl rfl rfl (by decide +kernel) ⟨Nat.le_of_ble_eq_true rfl, Nat.le_of_ble_eq_true rfl⟩) (k_preV (T := TX7) hP hD hK hKN [0, 1] rfl rfl (ci := 7) rfl (q0 := 0) rfl) rfl rfl hl.1 rfl (lv_room (Nat.le_of_ble_eq_true rfl)) dX7_setParameter_43 ⟨Nat.le_of_ble_eq_true rfl, Nat.le_of_ble_eq_true rfl⟩) hP hD hS hA [0, 1] [] rfl rfl rfl (by decide) (fun r43 H locs hw43 hP hD hS => ?_)
    replace hP : va_P D vwCl [(m0, .inr (7, [.ref v, .ref a1, .ref a2, .int ik, .int (nI 2), .int en])), (v, .inl (cJ, 136800, .inr (.inl (mF N))))] H := hP
    replace hD : va_D A [(m0, .inr (7, [.ref v, .ref a1, .ref a2, .int ik, .int (nI 2), .int en])), (v, .inl (cJ, 136800, .inr (.inl (mF N))))] := hD
    replace hw43 : r43 = nI 0 := hw43
    refine k_ti hw43 ?_
    have hP9 := hP.sub (ws' := [(m0, .inr (7, [.ref v, .ref a1, .ref a2, .int ik, .int (nI 2), .int en]))]) [0] rfl
    have hD9 := hD.sub (ws' := [(m0, .inr (7, [.ref v, .ref a1, .ref a2, .int ik, .int (nI 2), .int en]))]) [0] rfl rfl
    exact W.iret (v := nI 0) hx hb hr (fun t9 ht9 hW9 => ⟨⟨nI 0, (), rfl, rfl, by rw [ht9]; exact hP9, hD9⟩, hS.F ht9⟩) hS.2.2 dX7_setParameter_46
  · have hz9 : z3 < nI 1 ∨ nI (10 + 1) ≤ z3 := hz3
    refine lv_aload_n hx hb dX7_setParameter_0 rfl (lv_at hl 0 rfl) ?_
    refine lv_iconst (v := nI 0) hx hb dX7_setParameter_1 (by decide) ?_
    refine va_put (D := D) (ci := 7) (v := .int (nI 0)) (ty := .int) (C := RX7) (T := TX7) (N := 6) hx hb hts hin7 tyX7 tyX7_ok nmX7 hown hK hP hD hS 0 rfl rfl 4 (by decide) (hts (.fieldLink RX7 34 "MeshRoutingModel" "thrown" "I") (List.mem_cons_of_mem _ q_760)) (fun _ h9 => h9) rfl (by decide +kernel) rfl rfl (Nat.le_of_ble_eq_true rfl) dX7_setParameter_2 (fun H locs hP hD hS => ?_)
    replace hP : va_P D vwCl [(m0, .inr (7, [.ref v, .ref a1, .ref a2, .int ik, .int (nI 0), .int en])), (v, .inl (cJ, 136800, .inr (.inl (mF N))))] H := hP
    replace hD : va_D A [(m0, .inr (7, [.ref v, .ref a1, .ref a2, .int ik, .int (nI 0), .int en])), (v, .inl (cJ, 136800, .inr (.inl (mF N))))] := hD
    refine lv_iload_n hx hb dX7_setParameter_5 rfl (lv_at hl 1 rfl) ?_
    refine lv_i2l (v := lN 1) hx hb dX7_setParameter_6 (by decide) ?_
    refine lv_lconst (v := lN 0) hx hb dX7_setParameter_7 (by decide) ?_
    refine lv_ldc2 (v := 7) hx hb hown (by exact hts (.constantLong RX7 217 (7)) (List.mem_cons_of_mem _ q_942)) dX7_setParameter_8 ?_
    refine k_tl (show (7) = (lN 7) from by decide) ?_
    refine k_ci (wr := [(m0, .inr (7, [.ref v, .ref a1, .ref a2, .int ik, .int (nI 0), .int en])), (v, .inl (cJ, 136800, .inr (.inl (mF N))))]) (w1 := []) (va_runS (As := [.long (lN 1), .long (lN 0), .long (lN 7)]) (rest := []) ⟨hx, hb, hml, hown, hts⟩ (c_X7_in1 l D cI cJ cM cG (lN 1) (lN 0) (lN 7) H.size (k_in1 (by omega) (by omega) (by omega)) (k_in1 (by omega) (by omega) (by omega))) (va_cwS 3 hts (kB_S (fun _ => List.mem_cons_of_mem _) q_765 q_766 q_670 (kB_c q_767)) rfl rfl rfl (by decide +kernel) ⟨Nat.le_of_ble_eq_true rfl, Nat.le_of_ble_eq_true rfl⟩) (k_preS hP hD hK hKN [] rfl rfl) rfl rfl hl.1 rfl (lv_room (Nat.le_of_ble_eq_true rfl)) dX7_setParameter_11 ⟨Nat.le_of_ble_eq_true rfl, Nat.le_of_ble_eq_true rfl⟩) hP hD hS hA [] [0, 1] rfl rfl rfl (by decide) (fun r11 H locs hw11 hP hD hS => ?_)
    replace hP : va_P D vwCl [(m0, .inr (7, [.ref v, .ref a1, .ref a2, .int ik, .int (nI 0), .int en])), (v, .inl (cJ, 136800, .inr (.inl (mF N))))] H := hP
    replace hD : va_D A [(m0, .inr (7, [.ref v, .ref a1, .ref a2, .int ik, .int (nI 0), .int en])), (v, .inl (cJ, 136800, .inr (.inl (mF N))))] := hD
    replace hw11 : r11 = nI 1 := hw11
    refine k_ti hw11 ?_
    refine k_if_ne (tgt := 23) hx hb dX7_setParameter_14 (by decide) (by omega) (fun _ => ?_) (fun h9 => absurd h9 (by omega))
    refine lv_iload_n hx hb dX7_setParameter_23 rfl (lv_at hl 2 rfl) ?_
    refine lv_i2l (v := z3.toInt64) hx hb dX7_setParameter_24 (rfl) ?_
    refine lv_iload_n hx hb dX7_setParameter_25 rfl (lv_at hl 1 rfl) ?_
    refine k_ci (wr := [(m0, .inr (7, [.ref v, .ref a1, .ref a2, .int ik, .int (nI 0), .int en])), (v, .inl (cJ, 136800, .inr (.inl (mF N))))]) (w1 := []) (va_runS (As := [.int (nI 1)]) (rest := [.long z3.toInt64]) ⟨hx, hb, hml, hown, hts⟩ (c_X7_leastOf1 l D cI cJ cM cG  H.size) (va_cwS 1 hts (kB_S (fun _ => List.mem_cons_of_mem _) q_943 q_944 q_670 (kB_c q_922)) rfl rfl rfl (by decide +kernel) ⟨Nat.le_of_ble_eq_true rfl, Nat.le_of_ble_eq_true rfl⟩) (k_preS hP hD hK hKN [] rfl rfl) rfl rfl hl.1 rfl (lv_room (Nat.le_of_ble_eq_true rfl)) dX7_setParameter_26 ⟨Nat.le_of_ble_eq_true rfl, Nat.le_of_ble_eq_true rfl⟩) hP hD hS hA [] [0, 1] rfl rfl rfl (by decide) (fun r26 H locs hw26 hP hD hS => ?_)
    replace hP : va_P D vwCl [(m0, .inr (7, [.ref v, .ref a1, .ref a2, .int ik, .int (nI 0), .int en])), (v, .inl (cJ, 136800, .inr (.inl (mF N))))] H := hP
    replace hD : va_D A [(m0, .inr (7, [.ref v, .ref a1, .ref a2, .int ik, .int (nI 0), .int en])), (v, .inl (cJ, 136800, .inr (.inl (mF N))))] := hD
    replace hw26 : r26 = nI 1 := hw26
    refine k_ti hw26 ?_
    refine lv_i2l (v := lN 1) hx hb dX7_setParameter_29 (by decide) ?_
    refine lv_iload_n hx hb dX7_setParameter_30 rfl (lv_at hl 1 rfl) ?_
    refine k_ci (wr := [(m0, .inr (7, [.ref v, .ref a1, .ref a2, .int ik, .int (nI 0), .int en])), (v, .inl (cJ, 136800, .inr (.inl (mF N))))]) (w1 := []) (va_runS (As := [.int (nI 1)]) (rest := [.long (lN 1), .long z3.toInt64]) ⟨hx, hb, hml, hown, hts⟩ (c_X7_mostOf1 l D cI cJ cM cG  H.size) (va_cwS 1 hts (kB_S (fun _ => List.mem_cons_of_mem _) q_945 q_946 q_670 (kB_c q_928)) rfl rfl rfl (by decide +kernel) ⟨Nat.le_of_ble_eq_true rfl, Nat.le_of_ble_eq_true rfl⟩) (k_preS hP hD hK hKN [] rfl rfl) rfl rfl hl.1 rfl (lv_room (Nat.le_of_ble_eq_true rfl)) dX7_setParameter_31 ⟨Nat.le_of_ble_eq_true rfl, Nat.le_of_ble_eq_true rfl⟩) hP hD hS hA [] [0, 1] rfl rfl rfl (by decide) (fun r31 H locs hw31 hP hD hS => ?_)
    replace hP : va_P D vwCl [(m0, .inr (7, [.ref v, .ref a1, .ref a2, .int ik, .int (nI 0), .int en])), (v, .inl (cJ, 136800, .inr (.inl (mF N))))] H := hP
    replace hD : va_D A [(m0, .inr (7, [.ref v, .ref a1, .ref a2, .int ik, .int (nI 0), .int en])), (v, .inl (cJ, 136800, .inr (.inl (mF N))))] := hD
    replace hw31 : r31 = nI 10 := hw31
    refine k_ti hw31 ?_
    refine lv_i2l (v := lN 10) hx hb dX7_setParameter_34 (by decide) ?_
    refine k_ci (wr := [(m0, .inr (7, [.ref v, .ref a1, .ref a2, .int ik, .int (nI 0), .int en])), (v, .inl (cJ, 136800, .inr (.inl (mF N))))]) (w1 := []) (va_runS (As := [.long z3.toInt64, .long (lN 1), .long (lN 10)]) (rest := []) ⟨hx, hb, hml, hown, hts⟩ (c_X7_in0 l D cI cJ cM cG z3.toInt64 (lN 1) (lN 10) H.size (k_overL (lo := 1) (n := 10) (by omega) (by omega) hz9)) (va_cwS 3 hts (kB_S (fun _ => List.mem_cons_of_mem _) q_765 q_766 q_670 (kB_c q_767)) rfl rfl rfl (by decide +kernel) ⟨Nat.le_of_ble_eq_true rfl, Nat.le_of_ble_eq_true rfl⟩) (k_preS hP hD hK hKN [] rfl rfl) rfl rfl hl.1 rfl (lv_room (Nat.le_of_ble_eq_true rfl)) dX7_setParameter_35 ⟨Nat.le_of_ble_eq_true rfl, Nat.le_of_ble_eq_true rfl⟩) hP hD hS hA [] [0, 1] rfl rfl rfl (by decide) (fun r35 H locs hw35 hP hD hS => ?_)
    replace hP : va_P D vwCl [(m0, .inr (7, [.ref v, .ref a1, .ref a2, .int ik, .int (nI 0), .int en])), (v, .inl (cJ, 136800, .inr (.inl (mF N))))] H := hP
    replace hD : va_D A [(m0, .inr (7, [.ref v, .ref a1, .ref a2, .int ik, .int (nI 0), .int en])), (v, .inl (cJ, 136800, .inr (.inl (mF N))))] := hD
    replace hw35 : r35 = nI 0 := hw35
    refine k_ti hw35 ?_
    refine k_if_ne (tgt := 47) hx hb dX7_setParameter_38 (by decide) (by omega) (fun h9 => absurd h9 (by omega)) (fun _ => ?_)
    refine lv_aload_n hx hb dX7_setParameter_41 rfl (lv_at hl 0 rfl) ?_
    refine lv_iconst (v := nI 2) hx hb dX7_setParameter_42 (by decide) ?_
    refine k_ci (wr := []) (w1 := [(m0, .inr (7, [.ref v, .ref a1, .ref a2, .int ik, .int (nI 2), .int en])), (v, .inl (cJ, 136800, .inr (.inl (mF N))))]) (va_runV (As := [.int (nI 2)]) (rest := []) ⟨hx, hb, hml, hown, hts⟩ (c_X7_fails l D cI cJ cM cG m0 v a1 a2 ik (nI 0) en (mF N) (nI 2) H.size) (cwV 1 hts (kB_V (fun _ => List.mem_cons_of_mem _) q_924 q_925 q_926 q_670 (kB_c q_883)) rfl rfl rfl (by decide +kernel) ⟨Nat.le_of_ble_eq_true rfl, Nat.le_of_ble_eq_true rfl⟩) (k_preV (T := TX7) hP hD hK hKN [0, 1] rfl rfl (ci := 7) rfl (q0 := 0) rfl) rfl rfl hl.1 rfl (lv_room (Nat.le_of_ble_eq_true rfl)) dX7_setParameter_43 ⟨Nat.le_of_ble_eq_true rfl, Nat.le_of_ble_eq_true rfl⟩) hP hD hS hA [0, 1] [] rfl rfl rfl (by decide) (fun r43 H locs hw43 hP hD hS => ?_)
    replace hP : va_P D vwCl [(m0, .inr (7, [.ref v, .ref a1, .ref a2, .int ik, .int (nI 2), .int en])), (v, .inl (cJ, 136800, .inr (.inl (mF N))))] H := hP
    replace hD : va_D A [(m0, .inr (7, [.ref v, .ref a1, .ref a2, .int ik, .int (nI 2), .int en])), (v, .inl (cJ, 136800, .inr (.inl (mF N))))] := hD
    replace hw43 : r43 = nI 0 := hw43
    refine k_ti hw43 ?_
    have hP9 := hP.sub (ws' := [(m0, .inr (7, [.ref v, .ref a1, .ref a2, .int ik, .int (nI 2), .int en]))]) [0] rfl
    have hD9 := hD.sub (ws' := [(m0, .inr (7, [.ref v, .ref a1, .ref a2, .int ik, .int (nI 2), .int en]))]) [0] rfl rfl
    exact W.iret (v := nI 0) hx hb hr (fun t9 ht9 hW9 => ⟨⟨nI 0, (), rfl, rfl, by rw [ht9]; exact hP9, hD9⟩, hS.F ht9⟩) hS.2.2 dX7_setParameter_46
  · have hz9 : z3 < nI 1 ∨ nI (10 + 1) ≤ z3 := hz3
    refine lv_aload_n hx hb dX7_setParameter_0 rfl (lv_at hl 0 rfl) ?_
    refine lv_iconst (v := nI 0) hx hb dX7_setParameter_1 (by decide) ?_
    refine va_put (D := D) (ci := 7) (v := .int (nI 0)) (ty := .int) (C := RX7) (T := TX7) (N := 6) hx hb hts hin7 tyX7 tyX7_ok nmX7 hown hK hP hD hS 0 rfl rfl 4 (by decide) (hts (.fieldLink RX7 34 "MeshRoutingModel" "thrown" "I") (List.mem_cons_of_mem _ q_760)) (fun _ h9 => h9) rfl (by decide +kernel) rfl rfl (Nat.le_of_ble_eq_true rfl) dX7_setParameter_2 (fun H locs hP hD hS => ?_)
    replace hP : va_P D vwCl [(m0, .inr (7, [.ref v, .ref a1, .ref a2, .int ik, .int (nI 0), .int en])), (v, .inl (cJ, 136800, .inr (.inl (mF N))))] H := hP
    replace hD : va_D A [(m0, .inr (7, [.ref v, .ref a1, .ref a2, .int ik, .int (nI 0), .int en])), (v, .inl (cJ, 136800, .inr (.inl (mF N))))] := hD
    refine lv_iload_n hx hb dX7_setParameter_5 rfl (lv_at hl 1 rfl) ?_
    refine lv_i2l (v := lN 2) hx hb dX7_setParameter_6 (by decide) ?_
    refine lv_lconst (v := lN 0) hx hb dX7_setParameter_7 (by decide) ?_
    refine lv_ldc2 (v := 7) hx hb hown (by exact hts (.constantLong RX7 217 (7)) (List.mem_cons_of_mem _ q_942)) dX7_setParameter_8 ?_
    refine k_tl (show (7) = (lN 7) from by decide) ?_
    refine k_ci (wr := [(m0, .inr (7, [.ref v, .ref a1, .ref a2, .int ik, .int (nI 0), .int en])), (v, .inl (cJ, 136800, .inr (.inl (mF N))))]) (w1 := []) (va_runS (As := [.long (lN 2), .long (lN 0), .long (lN 7)]) (rest := []) ⟨hx, hb, hml, hown, hts⟩ (c_X7_in1 l D cI cJ cM cG (lN 2) (lN 0) (lN 7) H.size (k_in1 (by omega) (by omega) (by omega)) (k_in1 (by omega) (by omega) (by omega))) (va_cwS 3 hts (kB_S (fun _ => List.mem_cons_of_mem _) q_765 q_766 q_670 (kB_c q_767)) rfl rfl rfl (by decide +kernel) ⟨Nat.le_of_ble_eq_true rfl, Nat.le_of_ble_eq_true rfl⟩) (k_preS hP hD hK hKN [] rfl rfl) rfl rfl hl.1 rfl (lv_room (Nat.le_of_ble_eq_true rfl)) dX7_setParameter_11 ⟨Nat.le_of_ble_eq_true rfl, Nat.le_of_ble_eq_true rfl⟩) hP hD hS hA [] [0, 1] rfl rfl rfl (by decide) (fun r11 H locs hw11 hP hD hS => ?_)
    replace hP : va_P D vwCl [(m0, .inr (7, [.ref v, .ref a1, .ref a2, .int ik, .int (nI 0), .int en])), (v, .inl (cJ, 136800, .inr (.inl (mF N))))] H := hP
    replace hD : va_D A [(m0, .inr (7, [.ref v, .ref a1, .ref a2, .int ik, .int (nI 0), .int en])), (v, .inl (cJ, 136800, .inr (.inl (mF N))))] := hD
    replace hw11 : r11 = nI 1 := hw11
    refine k_ti hw11 ?_
    refine k_if_ne (tgt := 23) hx hb dX7_setParameter_14 (by decide) (by omega) (fun _ => ?_) (fun h9 => absurd h9 (by omega))
    refine lv_iload_n hx hb dX7_setParameter_23 rfl (lv_at hl 2 rfl) ?_
    refine lv_i2l (v := z3.toInt64) hx hb dX7_setParameter_24 (rfl) ?_
    refine lv_iload_n hx hb dX7_setParameter_25 rfl (lv_at hl 1 rfl) ?_
    refine k_ci (wr := [(m0, .inr (7, [.ref v, .ref a1, .ref a2, .int ik, .int (nI 0), .int en])), (v, .inl (cJ, 136800, .inr (.inl (mF N))))]) (w1 := []) (va_runS (As := [.int (nI 2)]) (rest := [.long z3.toInt64]) ⟨hx, hb, hml, hown, hts⟩ (c_X7_leastOf2 l D cI cJ cM cG  H.size) (va_cwS 1 hts (kB_S (fun _ => List.mem_cons_of_mem _) q_943 q_944 q_670 (kB_c q_922)) rfl rfl rfl (by decide +kernel) ⟨Nat.le_of_ble_eq_true rfl, Nat.le_of_ble_eq_true rfl⟩) (k_preS hP hD hK hKN [] rfl rfl) rfl rfl hl.1 rfl (lv_room (Nat.le_of_ble_eq_true rfl)) dX7_setParameter_26 ⟨Nat.le_of_ble_eq_true rfl, Nat.le_of_ble_eq_true rfl⟩) hP hD hS hA [] [0, 1] rfl rfl rfl (by decide) (fun r26 H locs hw26 hP hD hS => ?_)
    replace hP : va_P D vwCl [(m0, .inr (7, [.ref v, .ref a1, .ref a2, .int ik, .int (nI 0), .int en])), (v, .inl (cJ, 136800, .inr (.inl (mF N))))] H := hP
    replace hD : va_D A [(m0, .inr (7, [.ref v, .ref a1, .ref a2, .int ik, .int (nI 0), .int en])), (v, .inl (cJ, 136800, .inr (.inl (mF N))))] := hD
    replace hw26 : r26 = nI 1 := hw26
    refine k_ti hw26 ?_
    refine lv_i2l (v := lN 1) hx hb dX7_setParameter_29 (by decide) ?_
    refine lv_iload_n hx hb dX7_setParameter_30 rfl (lv_at hl 1 rfl) ?_
    refine k_ci (wr := [(m0, .inr (7, [.ref v, .ref a1, .ref a2, .int ik, .int (nI 0), .int en])), (v, .inl (cJ, 136800, .inr (.inl (mF N))))]) (w1 := []) (va_runS (As := [.int (nI 2)]) (rest := [.long (lN 1), .long z3.toInt64]) ⟨hx, hb, hml, hown, hts⟩ (c_X7_mostOf2 l D cI cJ cM cG  H.size) (va_cwS 1 hts (kB_S (fun _ => List.mem_cons_of_mem _) q_945 q_946 q_670 (kB_c q_928)) rfl rfl rfl (by decide +kernel) ⟨Nat.le_of_ble_eq_true rfl, Nat.le_of_ble_eq_true rfl⟩) (k_preS hP hD hK hKN [] rfl rfl) rfl rfl hl.1 rfl (lv_room (Nat.le_of_ble_eq_true rfl)) dX7_setParameter_31 ⟨Nat.le_of_ble_eq_true rfl, Nat.le_of_ble_eq_true rfl⟩) hP hD hS hA [] [0, 1] rfl rfl rfl (by decide) (fun r31 H locs hw31 hP hD hS => ?_)
    replace hP : va_P D vwCl [(m0, .inr (7, [.ref v, .ref a1, .ref a2, .int ik, .int (nI 0), .int en])), (v, .inl (cJ, 136800, .inr (.inl (mF N))))] H := hP
    replace hD : va_D A [(m0, .inr (7, [.ref v, .ref a1, .ref a2, .int ik, .int (nI 0), .int en])), (v, .inl (cJ, 136800, .inr (.inl (mF N))))] := hD
    replace hw31 : r31 = nI 10 := hw31
    refine k_ti hw31 ?_
    refine lv_i2l (v := lN 10) hx hb dX7_setParameter_34 (by decide) ?_
    refine k_ci (wr := [(m0, .inr (7, [.ref v, .ref a1, .ref a2, .int ik, .int (nI 0), .int en])), (v, .inl (cJ, 136800, .inr (.inl (mF N))))]) (w1 := []) (va_runS (As := [.long z3.toInt64, .long (lN 1), .long (lN 10)]) (rest := []) ⟨hx, hb, hml, hown, hts⟩ (c_X7_in0 l D cI cJ cM cG z3.toInt64 (lN 1) (lN 10) H.size (k_overL (lo := 1) (n := 10) (by omega) (by omega) hz9)) (va_cwS 3 hts (kB_S (fun _ => List.mem_cons_of_mem _) q_765 q_766 q_670 (kB_c q_767)) rfl rfl rfl (by decide +kernel) ⟨Nat.le_of_ble_eq_true rfl, Nat.le_of_ble_eq_true rfl⟩) (k_preS hP hD hK hKN [] rfl rfl) rfl rfl hl.1 rfl (lv_room (Nat.le_of_ble_eq_true rfl)) dX7_setParameter_35 ⟨Nat.le_of_ble_eq_true rfl, Nat.le_of_ble_eq_true rfl⟩) hP hD hS hA [] [0, 1] rfl rfl rfl (by decide) (fun r35 H locs hw35 hP hD hS => ?_)
    replace hP : va_P D vwCl [(m0, .inr (7, [.ref v, .ref a1, .ref a2, .int ik, .int (nI 0), .int en])), (v, .inl (cJ, 136800, .inr (.inl (mF N))))] H := hP
    replace hD : va_D A [(m0, .inr (7, [.ref v, .ref a1, .ref a2, .int ik, .int (nI 0), .int en])), (v, .inl (cJ, 136800, .inr (.inl (mF N))))] := hD
    replace hw35 : r35 = nI 0 := hw35
    refine k_ti hw35 ?_
    refine k_if_ne (tgt := 47) hx hb dX7_setParameter_38 (by decide) (by omega) (fun h9 => absurd h9 (by omega)) (fun _ => ?_)
    refine lv_aload_n hx hb dX7_setParameter_41 rfl (lv_at hl 0 rfl) ?_
    refine lv_iconst (v := nI 2) hx hb dX7_setParameter_42 (by decide) ?_
    refine k_ci (wr := []) (w1 := [(m0, .inr (7, [.ref v, .ref a1, .ref a2, .int ik, .int (nI 2), .int en])), (v, .inl (cJ, 136800, .inr (.inl (mF N))))]) (va_runV (As := [.int (nI 2)]) (rest := []) ⟨hx, hb, hml, hown, hts⟩ (c_X7_fails l D cI cJ cM cG m0 v a1 a2 ik (nI 0) en (mF N) (nI 2) H.size) (cwV 1 hts (kB_V (fun _ => List.mem_cons_of_mem _) q_924 q_925 q_926 q_670 (kB_c q_883)) rfl rfl rfl (by decide +kernel) ⟨Nat.le_of_ble_eq_true rfl, Nat.le_of_ble_eq_true rfl⟩) (k_preV (T := TX7) hP hD hK hKN [0, 1] rfl rfl (ci := 7) rfl (q0 := 0) rfl) rfl rfl hl.1 rfl (lv_room (Nat.le_of_ble_eq_true rfl)) dX7_setParameter_43 ⟨Nat.le_of_ble_eq_true rfl, Nat.le_of_ble_eq_true rfl⟩) hP hD hS hA [0, 1] [] rfl rfl rfl (by decide) (fun r43 H locs hw43 hP hD hS => ?_)
    replace hP : va_P D vwCl [(m0, .inr (7, [.ref v, .ref a1, .ref a2, .int ik, .int (nI 2), .int en])), (v, .inl (cJ, 136800, .inr (.inl (mF N))))] H := hP
    replace hD : va_D A [(m0, .inr (7, [.ref v, .ref a1, .ref a2, .int ik, .int (nI 2), .int en])), (v, .inl (cJ, 136800, .inr (.inl (mF N))))] := hD
    replace hw43 : r43 = nI 0 := hw43
    refine k_ti hw43 ?_
    have hP9 := hP.sub (ws' := [(m0, .inr (7, [.ref v, .ref a1, .ref a2, .int ik, .int (nI 2), .int en]))]) [0] rfl
    have hD9 := hD.sub (ws' := [(m0, .inr (7, [.ref v, .ref a1, .ref a2, .int ik, .int (nI 2), .int en]))]) [0] rfl rfl
    exact W.iret (v := nI 0) hx hb hr (fun t9 ht9 hW9 => ⟨⟨nI 0, (), rfl, rfl, by rw [ht9]; exact hP9, hD9⟩, hS.F ht9⟩) hS.2.2 dX7_setParameter_46
  · have hz9 : z3 < nI 1 ∨ nI (10 + 1) ≤ z3 := hz3
    refine lv_aload_n hx hb dX7_setParameter_0 rfl (lv_at hl 0 rfl) ?_
    refine lv_iconst (v := nI 0) hx hb dX7_setParameter_1 (by decide) ?_
    refine va_put (D := D) (ci := 7) (v := .int (nI 0)) (ty := .int) (C := RX7) (T := TX7) (N := 6) hx hb hts hin7 tyX7 tyX7_ok nmX7 hown hK hP hD hS 0 rfl rfl 4 (by decide) (hts (.fieldLink RX7 34 "MeshRoutingModel" "thrown" "I") (List.mem_cons_of_mem _ q_760)) (fun _ h9 => h9) rfl (by decide +kernel) rfl rfl (Nat.le_of_ble_eq_true rfl) dX7_setParameter_2 (fun H locs hP hD hS => ?_)
    replace hP : va_P D vwCl [(m0, .inr (7, [.ref v, .ref a1, .ref a2, .int ik, .int (nI 0), .int en])), (v, .inl (cJ, 136800, .inr (.inl (mF N))))] H := hP
    replace hD : va_D A [(m0, .inr (7, [.ref v, .ref a1, .ref a2, .int ik, .int (nI 0), .int en])), (v, .inl (cJ, 136800, .inr (.inl (mF N))))] := hD
    refine lv_iload_n hx hb dX7_setParameter_5 rfl (lv_at hl 1 rfl) ?_
    refine lv_i2l (v := lN 3) hx hb dX7_setParameter_6 (by decide) ?_
    refine lv_lconst (v := lN 0) hx hb dX7_setParameter_7 (by decide) ?_
    refine lv_ldc2 (v := 7) hx hb hown (by exact hts (.constantLong RX7 217 (7)) (List.mem_cons_of_mem _ q_942)) dX7_setParameter_8 ?_
    refine k_tl (show (7) = (lN 7) from by decide) ?_
    refine k_ci (wr := [(m0, .inr (7, [.ref v, .ref a1, .ref a2, .int ik, .int (nI 0), .int en])), (v, .inl (cJ, 136800, .inr (.inl (mF N))))]) (w1 := []) (va_runS (As := [.long (lN 3), .long (lN 0), .long (lN 7)]) (rest := []) ⟨hx, hb, hml, hown, hts⟩ (c_X7_in1 l D cI cJ cM cG (lN 3) (lN 0) (lN 7) H.size (k_in1 (by omega) (by omega) (by omega)) (k_in1 (by omega) (by omega) (by omega))) (va_cwS 3 hts (kB_S (fun _ => List.mem_cons_of_mem _) q_765 q_766 q_670 (kB_c q_767)) rfl rfl rfl (by decide +kernel) ⟨Nat.le_of_ble_eq_true rfl, Nat.le_of_ble_eq_true rfl⟩) (k_preS hP hD hK hKN [] rfl rfl) rfl rfl hl.1 rfl (lv_room (Nat.le_of_ble_eq_true rfl)) dX7_setParameter_11 ⟨Nat.le_of_ble_eq_true rfl, Nat.le_of_ble_eq_true rfl⟩) hP hD hS hA [] [0, 1] rfl rfl rfl (by decide) (fun r11 H locs hw11 hP hD hS => ?_)
    replace hP : va_P D vwCl [(m0, .inr (7, [.ref v, .ref a1, .ref a2, .int ik, .int (nI 0), .int en])), (v, .inl (cJ, 136800, .inr (.inl (mF N))))] H := hP
    replace hD : va_D A [(m0, .inr (7, [.ref v, .ref a1, .ref a2, .int ik, .int (nI 0), .int en])), (v, .inl (cJ, 136800, .inr (.inl (mF N))))] := hD
    replace hw11 : r11 = nI 1 := hw11
    refine k_ti hw11 ?_
    refine k_if_ne (tgt := 23) hx hb dX7_setParameter_14 (by decide) (by omega) (fun _ => ?_) (fun h9 => absurd h9 (by omega))
    refine lv_iload_n hx hb dX7_setParameter_23 rfl (lv_at hl 2 rfl) ?_
    refine lv_i2l (v := z3.toInt64) hx hb dX7_setParameter_24 (rfl) ?_
    refine lv_iload_n hx hb dX7_setParameter_25 rfl (lv_at hl 1 rfl) ?_
    refine k_ci (wr := [(m0, .inr (7, [.ref v, .ref a1, .ref a2, .int ik, .int (nI 0), .int en])), (v, .inl (cJ, 136800, .inr (.inl (mF N))))]) (w1 := []) (va_runS (As := [.int (nI 3)]) (rest := [.long z3.toInt64]) ⟨hx, hb, hml, hown, hts⟩ (c_X7_leastOf3 l D cI cJ cM cG  H.size) (va_cwS 1 hts (kB_S (fun _ => List.mem_cons_of_mem _) q_943 q_944 q_670 (kB_c q_922)) rfl rfl rfl (by decide +kernel) ⟨Nat.le_of_ble_eq_true rfl, Nat.le_of_ble_eq_true rfl⟩) (k_preS hP hD hK hKN [] rfl rfl) rfl rfl hl.1 rfl (lv_room (Nat.le_of_ble_eq_true rfl)) dX7_setParameter_26 ⟨Nat.le_of_ble_eq_true rfl, Nat.le_of_ble_eq_true rfl⟩) hP hD hS hA [] [0, 1] rfl rfl rfl (by decide) (fun r26 H locs hw26 hP hD hS => ?_)
    replace hP : va_P D vwCl [(m0, .inr (7, [.ref v, .ref a1, .ref a2, .int ik, .int (nI 0), .int en])), (v, .inl (cJ, 136800, .inr (.inl (mF N))))] H := hP
    replace hD : va_D A [(m0, .inr (7, [.ref v, .ref a1, .ref a2, .int ik, .int (nI 0), .int en])), (v, .inl (cJ, 136800, .inr (.inl (mF N))))] := hD
    replace hw26 : r26 = nI 1 := hw26
    refine k_ti hw26 ?_
    refine lv_i2l (v := lN 1) hx hb dX7_setParameter_29 (by decide) ?_
    refine lv_iload_n hx hb dX7_setParameter_30 rfl (lv_at hl 1 rfl) ?_
    refine k_ci (wr := [(m0, .inr (7, [.ref v, .ref a1, .ref a2, .int ik, .int (nI 0), .int en])), (v, .inl (cJ, 136800, .inr (.inl (mF N))))]) (w1 := []) (va_runS (As := [.int (nI 3)]) (rest := [.long (lN 1), .long z3.toInt64]) ⟨hx, hb, hml, hown, hts⟩ (c_X7_mostOf3 l D cI cJ cM cG  H.size) (va_cwS 1 hts (kB_S (fun _ => List.mem_cons_of_mem _) q_945 q_946 q_670 (kB_c q_928)) rfl rfl rfl (by decide +kernel) ⟨Nat.le_of_ble_eq_true rfl, Nat.le_of_ble_eq_true rfl⟩) (k_preS hP hD hK hKN [] rfl rfl) rfl rfl hl.1 rfl (lv_room (Nat.le_of_ble_eq_true rfl)) dX7_setParameter_31 ⟨Nat.le_of_ble_eq_true rfl, Nat.le_of_ble_eq_true rfl⟩) hP hD hS hA [] [0, 1] rfl rfl rfl (by decide) (fun r31 H locs hw31 hP hD hS => ?_)
    replace hP : va_P D vwCl [(m0, .inr (7, [.ref v, .ref a1, .ref a2, .int ik, .int (nI 0), .int en])), (v, .inl (cJ, 136800, .inr (.inl (mF N))))] H := hP
    replace hD : va_D A [(m0, .inr (7, [.ref v, .ref a1, .ref a2, .int ik, .int (nI 0), .int en])), (v, .inl (cJ, 136800, .inr (.inl (mF N))))] := hD
    replace hw31 : r31 = nI 10 := hw31
    refine k_ti hw31 ?_
    refine lv_i2l (v := lN 10) hx hb dX7_setParameter_34 (by decide) ?_
    refine k_ci (wr := [(m0, .inr (7, [.ref v, .ref a1, .ref a2, .int ik, .int (nI 0), .int en])), (v, .inl (cJ, 136800, .inr (.inl (mF N))))]) (w1 := []) (va_runS (As := [.long z3.toInt64, .long (lN 1), .long (lN 10)]) (rest := []) ⟨hx, hb, hml, hown, hts⟩ (c_X7_in0 l D cI cJ cM cG z3.toInt64 (lN 1) (lN 10) H.size (k_overL (lo := 1) (n := 10) (by omega) (by omega) hz9)) (va_cwS 3 hts (kB_S (fun _ => List.mem_cons_of_mem _) q_765 q_766 q_670 (kB_c q_767)) rfl rfl rfl (by decide +kernel) ⟨Nat.le_of_ble_eq_true rfl, Nat.le_of_ble_eq_true rfl⟩) (k_preS hP hD hK hKN [] rfl rfl) rfl rfl hl.1 rfl (lv_room (Nat.le_of_ble_eq_true rfl)) dX7_setParameter_35 ⟨Nat.le_of_ble_eq_true rfl, Nat.le_of_ble_eq_true rfl⟩) hP hD hS hA [] [0, 1] rfl rfl rfl (by decide) (fun r35 H locs hw35 hP hD hS => ?_)
    replace hP : va_P D vwCl [(m0, .inr (7, [.ref v, .ref a1, .ref a2, .int ik, .int (nI 0), .int en])), (v, .inl (cJ, 136800, .inr (.inl (mF N))))] H := hP
    replace hD : va_D A [(m0, .inr (7, [.ref v, .ref a1, .ref a2, .int ik, .int (nI 0), .int en])), (v, .inl (cJ, 136800, .inr (.inl (mF N))))] := hD
    replace hw35 : r35 = nI 0 := hw35
    refine k_ti hw35 ?_
    refine k_if_ne (tgt := 47) hx hb dX7_setParameter_38 (by decide) (by omega) (fun h9 => absurd h9 (by omega)) (fun _ => ?_)
    refine lv_aload_n hx hb dX7_setParameter_41 rfl (lv_at hl 0 rfl) ?_
    refine lv_iconst (v := nI 2) hx hb dX7_setParameter_42 (by decide) ?_
    refine k_ci (wr := []) (w1 := [(m0, .inr (7, [.ref v, .ref a1, .ref a2, .int ik, .int (nI 2), .int en])), (v, .inl (cJ, 136800, .inr (.inl (mF N))))]) (va_runV (As := [.int (nI 2)]) (rest := []) ⟨hx, hb, hml, hown, hts⟩ (c_X7_fails l D cI cJ cM cG m0 v a1 a2 ik (nI 0) en (mF N) (nI 2) H.size) (cwV 1 hts (kB_V (fun _ => List.mem_cons_of_mem _) q_924 q_925 q_926 q_670 (kB_c q_883)) rfl rfl rfl (by decide +kernel) ⟨Nat.le_of_ble_eq_true rfl, Nat.le_of_ble_eq_true rfl⟩) (k_preV (T := TX7) hP hD hK hKN [0, 1] rfl rfl (ci := 7) rfl (q0 := 0) rfl) rfl rfl hl.1 rfl (lv_room (Nat.le_of_ble_eq_true rfl)) dX7_setParameter_43 ⟨Nat.le_of_ble_eq_true rfl, Nat.le_of_ble_eq_true rfl⟩) hP hD hS hA [0, 1] [] rfl rfl rfl (by decide) (fun r43 H locs hw43 hP hD hS => ?_)
    replace hP : va_P D vwCl [(m0, .inr (7, [.ref v, .ref a1, .ref a2, .int ik, .int (nI 2), .int en])), (v, .inl (cJ, 136800, .inr (.inl (mF N))))] H := hP
    replace hD : va_D A [(m0, .inr (7, [.ref v, .ref a1, .ref a2, .int ik, .int (nI 2), .int en])), (v, .inl (cJ, 136800, .inr (.inl (mF N))))] := hD
    replace hw43 : r43 = nI 0 := hw43
    refine k_ti hw43 ?_
    have hP9 := hP.sub (ws' := [(m0, .inr (7, [.ref v, .ref a1, .ref a2, .int ik, .int (nI 2), .int en]))]) [0] rfl
    have hD9 := hD.sub (ws' := [(m0, .inr (7, [.ref v, .ref a1, .ref a2, .int ik, .int (nI 2), .int en]))]) [0] rfl rfl
    exact W.iret (v := nI 0) hx hb hr (fun t9 ht9 hW9 => ⟨⟨nI 0, (), rfl, rfl, by rw [ht9]; exact hP9, hD9⟩, hS.F ht9⟩) hS.2.2 dX7_setParameter_46
  · have hz9 : z3 < nI 1 ∨ nI (15 + 1) ≤ z3 := hz3
    refine lv_aload_n hx hb dX7_setParameter_0 rfl (lv_at hl 0 rfl) ?_
    refine lv_iconst (v := nI 0) hx hb dX7_setParameter_1 (by decide) ?_
    refine va_put (D := D) (ci := 7) (v := .int (nI 0)) (ty := .int) (C := RX7) (T := TX7) (N := 6) hx hb hts hin7 tyX7 tyX7_ok nmX7 hown hK hP hD hS 0 rfl rfl 4 (by decide) (hts (.fieldLink RX7 34 "MeshRoutingModel" "thrown" "I") (List.mem_cons_of_mem _ q_760)) (fun _ h9 => h9) rfl (by decide +kernel) rfl rfl (Nat.le_of_ble_eq_true rfl) dX7_setParameter_2 (fun H locs hP hD hS => ?_)
    replace hP : va_P D vwCl [(m0, .inr (7, [.ref v, .ref a1, .ref a2, .int ik, .int (nI 0), .int en])), (v, .inl (cJ, 136800, .inr (.inl (mF N))))] H := hP
    replace hD : va_D A [(m0, .inr (7, [.ref v, .ref a1, .ref a2, .int ik, .int (nI 0), .int en])), (v, .inl (cJ, 136800, .inr (.inl (mF N))))] := hD
    refine lv_iload_n hx hb dX7_setParameter_5 rfl (lv_at hl 1 rfl) ?_
    refine lv_i2l (v := lN 4) hx hb dX7_setParameter_6 (by decide) ?_
    refine lv_lconst (v := lN 0) hx hb dX7_setParameter_7 (by decide) ?_
    refine lv_ldc2 (v := 7) hx hb hown (by exact hts (.constantLong RX7 217 (7)) (List.mem_cons_of_mem _ q_942)) dX7_setParameter_8 ?_
    refine k_tl (show (7) = (lN 7) from by decide) ?_
    refine k_ci (wr := [(m0, .inr (7, [.ref v, .ref a1, .ref a2, .int ik, .int (nI 0), .int en])), (v, .inl (cJ, 136800, .inr (.inl (mF N))))]) (w1 := []) (va_runS (As := [.long (lN 4), .long (lN 0), .long (lN 7)]) (rest := []) ⟨hx, hb, hml, hown, hts⟩ (c_X7_in1 l D cI cJ cM cG (lN 4) (lN 0) (lN 7) H.size (k_in1 (by omega) (by omega) (by omega)) (k_in1 (by omega) (by omega) (by omega))) (va_cwS 3 hts (kB_S (fun _ => List.mem_cons_of_mem _) q_765 q_766 q_670 (kB_c q_767)) rfl rfl rfl (by decide +kernel) ⟨Nat.le_of_ble_eq_true rfl, Nat.le_of_ble_eq_true rfl⟩) (k_preS hP hD hK hKN [] rfl rfl) rfl rfl hl.1 rfl (lv_room (Nat.le_of_ble_eq_true rfl)) dX7_setParameter_11 ⟨Nat.le_of_ble_eq_true rfl, Nat.le_of_ble_eq_true rfl⟩) hP hD hS hA [] [0, 1] rfl rfl rfl (by decide) (fun r11 H locs hw11 hP hD hS => ?_)
    replace hP : va_P D vwCl [(m0, .inr (7, [.ref v, .ref a1, .ref a2, .int ik, .int (nI 0), .int en])), (v, .inl (cJ, 136800, .inr (.inl (mF N))))] H := hP
    replace hD : va_D A [(m0, .inr (7, [.ref v, .ref a1, .ref a2, .int ik, .int (nI 0), .int en])), (v, .inl (cJ, 136800, .inr (.inl (mF N))))] := hD
    replace hw11 : r11 = nI 1 := hw11
    refine k_ti hw11 ?_
    refine k_if_ne (tgt := 23) hx hb dX7_setParameter_14 (by decide) (by omega) (fun _ => ?_) (fun h9 => absurd h9 (by omega))
    refine lv_iload_n hx hb dX7_setParameter_23 rfl (lv_at hl 2 rfl) ?_
    refine lv_i2l (v := z3.toInt64) hx hb dX7_setParameter_24 (rfl) ?_
    refine lv_iload_n hx hb dX7_setParameter_25 rfl (lv_at hl 1 rfl) ?_
    refine k_ci (wr := [(m0, .inr (7, [.ref v, .ref a1, .ref a2, .int ik, .int (nI 0), .int en])), (v, .inl (cJ, 136800, .inr (.inl (mF N))))]) (w1 := []) (va_runS (As := [.int (nI 4)]) (rest := [.long z3.toInt64]) ⟨hx, hb, hml, hown, hts⟩ (c_X7_leastOf4 l D cI cJ cM cG  H.size) (va_cwS 1 hts (kB_S (fun _ => List.mem_cons_of_mem _) q_943 q_944 q_670 (kB_c q_922)) rfl rfl rfl (by decide +kernel) ⟨Nat.le_of_ble_eq_true rfl, Nat.le_of_ble_eq_true rfl⟩) (k_preS hP hD hK hKN [] rfl rfl) rfl rfl hl.1 rfl (lv_room (Nat.le_of_ble_eq_true rfl)) dX7_setParameter_26 ⟨Nat.le_of_ble_eq_true rfl, Nat.le_of_ble_eq_true rfl⟩) hP hD hS hA [] [0, 1] rfl rfl rfl (by decide) (fun r26 H locs hw26 hP hD hS => ?_)
    replace hP : va_P D vwCl [(m0, .inr (7, [.ref v, .ref a1, .ref a2, .int ik, .int (nI 0), .int en])), (v, .inl (cJ, 136800, .inr (.inl (mF N))))] H := hP
    replace hD : va_D A [(m0, .inr (7, [.ref v, .ref a1, .ref a2, .int ik, .int (nI 0), .int en])), (v, .inl (cJ, 136800, .inr (.inl (mF N))))] := hD
    replace hw26 : r26 = nI 1 := hw26
    refine k_ti hw26 ?_
    refine lv_i2l (v := lN 1) hx hb dX7_setParameter_29 (by decide) ?_
    refine lv_iload_n hx hb dX7_setParameter_30 rfl (lv_at hl 1 rfl) ?_
    refine k_ci (wr := [(m0, .inr (7, [.ref v, .ref a1, .ref a2, .int ik, .int (nI 0), .int en])), (v, .inl (cJ, 136800, .inr (.inl (mF N))))]) (w1 := []) (va_runS (As := [.int (nI 4)]) (rest := [.long (lN 1), .long z3.toInt64]) ⟨hx, hb, hml, hown, hts⟩ (c_X7_mostOf4 l D cI cJ cM cG  H.size) (va_cwS 1 hts (kB_S (fun _ => List.mem_cons_of_mem _) q_945 q_946 q_670 (kB_c q_928)) rfl rfl rfl (by decide +kernel) ⟨Nat.le_of_ble_eq_true rfl, Nat.le_of_ble_eq_true rfl⟩) (k_preS hP hD hK hKN [] rfl rfl) rfl rfl hl.1 rfl (lv_room (Nat.le_of_ble_eq_true rfl)) dX7_setParameter_31 ⟨Nat.le_of_ble_eq_true rfl, Nat.le_of_ble_eq_true rfl⟩) hP hD hS hA [] [0, 1] rfl rfl rfl (by decide) (fun r31 H locs hw31 hP hD hS => ?_)
    replace hP : va_P D vwCl [(m0, .inr (7, [.ref v, .ref a1, .ref a2, .int ik, .int (nI 0), .int en])), (v, .inl (cJ, 136800, .inr (.inl (mF N))))] H := hP
    replace hD : va_D A [(m0, .inr (7, [.ref v, .ref a1, .ref a2, .int ik, .int (nI 0), .int en])), (v, .inl (cJ, 136800, .inr (.inl (mF N))))] := hD
    replace hw31 : r31 = nI 15 := hw31
    refine k_ti hw31 ?_
    refine lv_i2l (v := lN 15) hx hb dX7_setParameter_34 (by decide) ?_
    refine k_ci (wr := [(m0, .inr (7, [.ref v, .ref a1, .ref a2, .int ik, .int (nI 0), .int en])), (v, .inl (cJ, 136800, .inr (.inl (mF N))))]) (w1 := []) (va_runS (As := [.long z3.toInt64, .long (lN 1), .long (lN 15)]) (rest := []) ⟨hx, hb, hml, hown, hts⟩ (c_X7_in0 l D cI cJ cM cG z3.toInt64 (lN 1) (lN 15) H.size (k_overL (lo := 1) (n := 15) (by omega) (by omega) hz9)) (va_cwS 3 hts (kB_S (fun _ => List.mem_cons_of_mem _) q_765 q_766 q_670 (kB_c q_767)) rfl rfl rfl (by decide +kernel) ⟨Nat.le_of_ble_eq_true rfl, Nat.le_of_ble_eq_true rfl⟩) (k_preS hP hD hK hKN [] rfl rfl) rfl rfl hl.1 rfl (lv_room (Nat.le_of_ble_eq_true rfl)) dX7_setParameter_35 ⟨Nat.le_of_ble_eq_true rfl, Nat.le_of_ble_eq_true rfl⟩) hP hD hS hA [] [0, 1] rfl rfl rfl (by decide) (fun r35 H locs hw35 hP hD hS => ?_)
    replace hP : va_P D vwCl [(m0, .inr (7, [.ref v, .ref a1, .ref a2, .int ik, .int (nI 0), .int en])), (v, .inl (cJ, 136800, .inr (.inl (mF N))))] H := hP
    replace hD : va_D A [(m0, .inr (7, [.ref v, .ref a1, .ref a2, .int ik, .int (nI 0), .int en])), (v, .inl (cJ, 136800, .inr (.inl (mF N))))] := hD
    replace hw35 : r35 = nI 0 := hw35
    refine k_ti hw35 ?_
    refine k_if_ne (tgt := 47) hx hb dX7_setParameter_38 (by decide) (by omega) (fun h9 => absurd h9 (by omega)) (fun _ => ?_)
    refine lv_aload_n hx hb dX7_setParameter_41 rfl (lv_at hl 0 rfl) ?_
    refine lv_iconst (v := nI 2) hx hb dX7_setParameter_42 (by decide) ?_
    refine k_ci (wr := []) (w1 := [(m0, .inr (7, [.ref v, .ref a1, .ref a2, .int ik, .int (nI 2), .int en])), (v, .inl (cJ, 136800, .inr (.inl (mF N))))]) (va_runV (As := [.int (nI 2)]) (rest := []) ⟨hx, hb, hml, hown, hts⟩ (c_X7_fails l D cI cJ cM cG m0 v a1 a2 ik (nI 0) en (mF N) (nI 2) H.size) (cwV 1 hts (kB_V (fun _ => List.mem_cons_of_mem _) q_924 q_925 q_926 q_670 (kB_c q_883)) rfl rfl rfl (by decide +kernel) ⟨Nat.le_of_ble_eq_true rfl, Nat.le_of_ble_eq_true rfl⟩) (k_preV (T := TX7) hP hD hK hKN [0, 1] rfl rfl (ci := 7) rfl (q0 := 0) rfl) rfl rfl hl.1 rfl (lv_room (Nat.le_of_ble_eq_true rfl)) dX7_setParameter_43 ⟨Nat.le_of_ble_eq_true rfl, Nat.le_of_ble_eq_true rfl⟩) hP hD hS hA [0, 1] [] rfl rfl rfl (by decide) (fun r43 H locs hw43 hP hD hS => ?_)
    replace hP : va_P D vwCl [(m0, .inr (7, [.ref v, .ref a1, .ref a2, .int ik, .int (nI 2), .int en])), (v, .inl (cJ, 136800, .inr (.inl (mF N))))] H := hP
    replace hD : va_D A [(m0, .inr (7, [.ref v, .ref a1, .ref a2, .int ik, .int (nI 2), .int en])), (v, .inl (cJ, 136800, .inr (.inl (mF N))))] := hD
    replace hw43 : r43 = nI 0 := hw43
    refine k_ti hw43 ?_
    have hP9 := hP.sub (ws' := [(m0, .inr (7, [.ref v, .ref a1, .ref a2, .int ik, .int (nI 2), .int en]))]) [0] rfl
    have hD9 := hD.sub (ws' := [(m0, .inr (7, [.ref v, .ref a1, .ref a2, .int ik, .int (nI 2), .int en]))]) [0] rfl rfl
    exact W.iret (v := nI 0) hx hb hr (fun t9 ht9 hW9 => ⟨⟨nI 0, (), rfl, rfl, by rw [ht9]; exact hP9, hD9⟩, hS.F ht9⟩) hS.2.2 dX7_setParameter_46
  · have hz9 : z3 < nI 1 ∨ nI (3 + 1) ≤ z3 := hz3
    refine lv_aload_n hx hb dX7_setParameter_0 rfl (lv_at hl 0 rfl) ?_
    refine lv_iconst (v := nI 0) hx hb dX7_setParameter_1 (by decide) ?_
    refine va_put (D := D) (ci := 7) (v := .int (nI 0)) (ty := .int) (C := RX7) (T := TX7) (N := 6) hx hb hts hin7 tyX7 tyX7_ok nmX7 hown hK hP hD hS 0 rfl rfl 4 (by decide) (hts (.fieldLink RX7 34 "MeshRoutingModel" "thrown" "I") (List.mem_cons_of_mem _ q_760)) (fun _ h9 => h9) rfl (by decide +kernel) rfl rfl (Nat.le_of_ble_eq_true rfl) dX7_setParameter_2 (fun H locs hP hD hS => ?_)
    replace hP : va_P D vwCl [(m0, .inr (7, [.ref v, .ref a1, .ref a2, .int ik, .int (nI 0), .int en])), (v, .inl (cJ, 136800, .inr (.inl (mF N))))] H := hP
    replace hD : va_D A [(m0, .inr (7, [.ref v, .ref a1, .ref a2, .int ik, .int (nI 0), .int en])), (v, .inl (cJ, 136800, .inr (.inl (mF N))))] := hD
    refine lv_iload_n hx hb dX7_setParameter_5 rfl (lv_at hl 1 rfl) ?_
    refine lv_i2l (v := lN 5) hx hb dX7_setParameter_6 (by decide) ?_
    refine lv_lconst (v := lN 0) hx hb dX7_setParameter_7 (by decide) ?_
    refine lv_ldc2 (v := 7) hx hb hown (by exact hts (.constantLong RX7 217 (7)) (List.mem_cons_of_mem _ q_942)) dX7_setParameter_8 ?_
    refine k_tl (show (7) = (lN 7) from by decide) ?_
    refine k_ci (wr := [(m0, .inr (7, [.ref v, .ref a1, .ref a2, .int ik, .int (nI 0), .int en])), (v, .inl (cJ, 136800, .inr (.inl (mF N))))]) (w1 := []) (va_runS (As := [.long (lN 5), .long (lN 0), .long (lN 7)]) (rest := []) ⟨hx, hb, hml, hown, hts⟩ (c_X7_in1 l D cI cJ cM cG (lN 5) (lN 0) (lN 7) H.size (k_in1 (by omega) (by omega) (by omega)) (k_in1 (by omega) (by omega) (by omega))) (va_cwS 3 hts (kB_S (fun _ => List.mem_cons_of_mem _) q_765 q_766 q_670 (kB_c q_767)) rfl rfl rfl (by decide +kernel) ⟨Nat.le_of_ble_eq_true rfl, Nat.le_of_ble_eq_true rfl⟩) (k_preS hP hD hK hKN [] rfl rfl) rfl rfl hl.1 rfl (lv_room (Nat.le_of_ble_eq_true rfl)) dX7_setParameter_11 ⟨Nat.le_of_ble_eq_true rfl, Nat.le_of_ble_eq_true rfl⟩) hP hD hS hA [] [0, 1] rfl rfl rfl (by decide) (fun r11 H locs hw11 hP hD hS => ?_)
    replace hP : va_P D vwCl [(m0, .inr (7, [.ref v, .ref a1, .ref a2, .int ik, .int (nI 0), .int en])), (v, .inl (cJ, 136800, .inr (.inl (mF N))))] H := hP
    replace hD : va_D A [(m0, .inr (7, [.ref v, .ref a1, .ref a2, .int ik, .int (nI 0), .int en])), (v, .inl (cJ, 136800, .inr (.inl (mF N))))] := hD
    replace hw11 : r11 = nI 1 := hw11
    refine k_ti hw11 ?_
    refine k_if_ne (tgt := 23) hx hb dX7_setParameter_14 (by decide) (by omega) (fun _ => ?_) (fun h9 => absurd h9 (by omega))
    refine lv_iload_n hx hb dX7_setParameter_23 rfl (lv_at hl 2 rfl) ?_
    refine lv_i2l (v := z3.toInt64) hx hb dX7_setParameter_24 (rfl) ?_
    refine lv_iload_n hx hb dX7_setParameter_25 rfl (lv_at hl 1 rfl) ?_
    refine k_ci (wr := [(m0, .inr (7, [.ref v, .ref a1, .ref a2, .int ik, .int (nI 0), .int en])), (v, .inl (cJ, 136800, .inr (.inl (mF N))))]) (w1 := []) (va_runS (As := [.int (nI 5)]) (rest := [.long z3.toInt64]) ⟨hx, hb, hml, hown, hts⟩ (c_X7_leastOf5 l D cI cJ cM cG  H.size) (va_cwS 1 hts (kB_S (fun _ => List.mem_cons_of_mem _) q_943 q_944 q_670 (kB_c q_922)) rfl rfl rfl (by decide +kernel) ⟨Nat.le_of_ble_eq_true rfl, Nat.le_of_ble_eq_true rfl⟩) (k_preS hP hD hK hKN [] rfl rfl) rfl rfl hl.1 rfl (lv_room (Nat.le_of_ble_eq_true rfl)) dX7_setParameter_26 ⟨Nat.le_of_ble_eq_true rfl, Nat.le_of_ble_eq_true rfl⟩) hP hD hS hA [] [0, 1] rfl rfl rfl (by decide) (fun r26 H locs hw26 hP hD hS => ?_)
    replace hP : va_P D vwCl [(m0, .inr (7, [.ref v, .ref a1, .ref a2, .int ik, .int (nI 0), .int en])), (v, .inl (cJ, 136800, .inr (.inl (mF N))))] H := hP
    replace hD : va_D A [(m0, .inr (7, [.ref v, .ref a1, .ref a2, .int ik, .int (nI 0), .int en])), (v, .inl (cJ, 136800, .inr (.inl (mF N))))] := hD
    replace hw26 : r26 = nI 1 := hw26
    refine k_ti hw26 ?_
    refine lv_i2l (v := lN 1) hx hb dX7_setParameter_29 (by decide) ?_
    refine lv_iload_n hx hb dX7_setParameter_30 rfl (lv_at hl 1 rfl) ?_
    refine k_ci (wr := [(m0, .inr (7, [.ref v, .ref a1, .ref a2, .int ik, .int (nI 0), .int en])), (v, .inl (cJ, 136800, .inr (.inl (mF N))))]) (w1 := []) (va_runS (As := [.int (nI 5)]) (rest := [.long (lN 1), .long z3.toInt64]) ⟨hx, hb, hml, hown, hts⟩ (c_X7_mostOf5 l D cI cJ cM cG  H.size) (va_cwS 1 hts (kB_S (fun _ => List.mem_cons_of_mem _) q_945 q_946 q_670 (kB_c q_928)) rfl rfl rfl (by decide +kernel) ⟨Nat.le_of_ble_eq_true rfl, Nat.le_of_ble_eq_true rfl⟩) (k_preS hP hD hK hKN [] rfl rfl) rfl rfl hl.1 rfl (lv_room (Nat.le_of_ble_eq_true rfl)) dX7_setParameter_31 ⟨Nat.le_of_ble_eq_true rfl, Nat.le_of_ble_eq_true rfl⟩) hP hD hS hA [] [0, 1] rfl rfl rfl (by decide) (fun r31 H locs hw31 hP hD hS => ?_)
    replace hP : va_P D vwCl [(m0, .inr (7, [.ref v, .ref a1, .ref a2, .int ik, .int (nI 0), .int en])), (v, .inl (cJ, 136800, .inr (.inl (mF N))))] H := hP
    replace hD : va_D A [(m0, .inr (7, [.ref v, .ref a1, .ref a2, .int ik, .int (nI 0), .int en])), (v, .inl (cJ, 136800, .inr (.inl (mF N))))] := hD
    replace hw31 : r31 = nI 3 := hw31
    refine k_ti hw31 ?_
    refine lv_i2l (v := lN 3) hx hb dX7_setParameter_34 (by decide) ?_
    refine k_ci (wr := [(m0, .inr (7, [.ref v, .ref a1, .ref a2, .int ik, .int (nI 0), .int en])), (v, .inl (cJ, 136800, .inr (.inl (mF N))))]) (w1 := []) (va_runS (As := [.long z3.toInt64, .long (lN 1), .long (lN 3)]) (rest := []) ⟨hx, hb, hml, hown, hts⟩ (c_X7_in0 l D cI cJ cM cG z3.toInt64 (lN 1) (lN 3) H.size (k_overL (lo := 1) (n := 3) (by omega) (by omega) hz9)) (va_cwS 3 hts (kB_S (fun _ => List.mem_cons_of_mem _) q_765 q_766 q_670 (kB_c q_767)) rfl rfl rfl (by decide +kernel) ⟨Nat.le_of_ble_eq_true rfl, Nat.le_of_ble_eq_true rfl⟩) (k_preS hP hD hK hKN [] rfl rfl) rfl rfl hl.1 rfl (lv_room (Nat.le_of_ble_eq_true rfl)) dX7_setParameter_35 ⟨Nat.le_of_ble_eq_true rfl, Nat.le_of_ble_eq_true rfl⟩) hP hD hS hA [] [0, 1] rfl rfl rfl (by decide) (fun r35 H locs hw35 hP hD hS => ?_)
    replace hP : va_P D vwCl [(m0, .inr (7, [.ref v, .ref a1, .ref a2, .int ik, .int (nI 0), .int en])), (v, .inl (cJ, 136800, .inr (.inl (mF N))))] H := hP
    replace hD : va_D A [(m0, .inr (7, [.ref v, .ref a1, .ref a2, .int ik, .int (nI 0), .int en])), (v, .inl (cJ, 136800, .inr (.inl (mF N))))] := hD
    replace hw35 : r35 = nI 0 := hw35
    refine k_ti hw35 ?_
    refine k_if_ne (tgt := 47) hx hb dX7_setParameter_38 (by decide) (by omega) (fun h9 => absurd h9 (by omega)) (fun _ => ?_)
    refine lv_aload_n hx hb dX7_setParameter_41 rfl (lv_at hl 0 rfl) ?_
    refine lv_iconst (v := nI 2) hx hb dX7_setParameter_42 (by decide) ?_
    refine k_ci (wr := []) (w1 := [(m0, .inr (7, [.ref v, .ref a1, .ref a2, .int ik, .int (nI 2), .int en])), (v, .inl (cJ, 136800, .inr (.inl (mF N))))]) (va_runV (As := [.int (nI 2)]) (rest := []) ⟨hx, hb, hml, hown, hts⟩ (c_X7_fails l D cI cJ cM cG m0 v a1 a2 ik (nI 0) en (mF N) (nI 2) H.size) (cwV 1 hts (kB_V (fun _ => List.mem_cons_of_mem _) q_924 q_925 q_926 q_670 (kB_c q_883)) rfl rfl rfl (by decide +kernel) ⟨Nat.le_of_ble_eq_true rfl, Nat.le_of_ble_eq_true rfl⟩) (k_preV (T := TX7) hP hD hK hKN [0, 1] rfl rfl (ci := 7) rfl (q0 := 0) rfl) rfl rfl hl.1 rfl (lv_room (Nat.le_of_ble_eq_true rfl)) dX7_setParameter_43 ⟨Nat.le_of_ble_eq_true rfl, Nat.le_of_ble_eq_true rfl⟩) hP hD hS hA [0, 1] [] rfl rfl rfl (by decide) (fun r43 H locs hw43 hP hD hS => ?_)
    replace hP : va_P D vwCl [(m0, .inr (7, [.ref v, .ref a1, .ref a2, .int ik, .int (nI 2), .int en])), (v, .inl (cJ, 136800, .inr (.inl (mF N))))] H := hP
    replace hD : va_D A [(m0, .inr (7, [.ref v, .ref a1, .ref a2, .int ik, .int (nI 2), .int en])), (v, .inl (cJ, 136800, .inr (.inl (mF N))))] := hD
    replace hw43 : r43 = nI 0 := hw43
    refine k_ti hw43 ?_
    have hP9 := hP.sub (ws' := [(m0, .inr (7, [.ref v, .ref a1, .ref a2, .int ik, .int (nI 2), .int en]))]) [0] rfl
    have hD9 := hD.sub (ws' := [(m0, .inr (7, [.ref v, .ref a1, .ref a2, .int ik, .int (nI 2), .int en]))]) [0] rfl rfl
    exact W.iret (v := nI 0) hx hb hr (fun t9 ht9 hW9 => ⟨⟨nI 0, (), rfl, rfl, by rw [ht9]; exact hP9, hD9⟩, hS.F ht9⟩) hS.2.2 dX7_setParameter_46
  · have hz9 : z3 < nI 1 ∨ nI (50 + 1) ≤ z3 := hz3
    refine lv_aload_n hx hb dX7_setParameter_0 rfl (lv_at hl 0 rfl) ?_
    refine lv_iconst (v := nI 0) hx hb dX7_setParameter_1 (by decide) ?_
    refine va_put (D := D) (ci := 7) (v := .int (nI 0)) (ty := .int) (C := RX7) (T := TX7) (N := 6) hx hb hts hin7 tyX7 tyX7_ok nmX7 hown hK hP hD hS 0 rfl rfl 4 (by decide) (hts (.fieldLink RX7 34 "MeshRoutingModel" "thrown" "I") (List.mem_cons_of_mem _ q_760)) (fun _ h9 => h9) rfl (by decide +kernel) rfl rfl (Nat.le_of_ble_eq_true rfl) dX7_setParameter_2 (fun H locs hP hD hS => ?_)
    replace hP : va_P D vwCl [(m0, .inr (7, [.ref v, .ref a1, .ref a2, .int ik, .int (nI 0), .int en])), (v, .inl (cJ, 136800, .inr (.inl (mF N))))] H := hP
    replace hD : va_D A [(m0, .inr (7, [.ref v, .ref a1, .ref a2, .int ik, .int (nI 0), .int en])), (v, .inl (cJ, 136800, .inr (.inl (mF N))))] := hD
    refine lv_iload_n hx hb dX7_setParameter_5 rfl (lv_at hl 1 rfl) ?_
    refine lv_i2l (v := lN 6) hx hb dX7_setParameter_6 (by decide) ?_
    refine lv_lconst (v := lN 0) hx hb dX7_setParameter_7 (by decide) ?_
    refine lv_ldc2 (v := 7) hx hb hown (by exact hts (.constantLong RX7 217 (7)) (List.mem_cons_of_mem _ q_942)) dX7_setParameter_8 ?_
    refine k_tl (show (7) = (lN 7) from by decide) ?_
    refine k_ci (wr := [(m0, .inr (7, [.ref v, .ref a1, .ref a2, .int ik, .int (nI 0), .int en])), (v, .inl (cJ, 136800, .inr (.inl (mF N))))]) (w1 := []) (va_runS (As := [.long (lN 6), .long (lN 0), .long (lN 7)]) (rest := []) ⟨hx, hb, hml, hown, hts⟩ (c_X7_in1 l D cI cJ cM cG (lN 6) (lN 0) (lN 7) H.size (k_in1 (by omega) (by omega) (by omega)) (k_in1 (by omega) (by omega) (by omega))) (va_cwS 3 hts (kB_S (fun _ => List.mem_cons_of_mem _) q_765 q_766 q_670 (kB_c q_767)) rfl rfl rfl (by decide +kernel) ⟨Nat.le_of_ble_eq_true rfl, Nat.le_of_ble_eq_true rfl⟩) (k_preS hP hD hK hKN [] rfl rfl) rfl rfl hl.1 rfl (lv_room (Nat.le_of_ble_eq_true rfl)) dX7_setParameter_11 ⟨Nat.le_of_ble_eq_true rfl, Nat.le_of_ble_eq_true rfl⟩) hP hD hS hA [] [0, 1] rfl rfl rfl (by decide) (fun r11 H locs hw11 hP hD hS => ?_)
    replace hP : va_P D vwCl [(m0, .inr (7, [.ref v, .ref a1, .ref a2, .int ik, .int (nI 0), .int en])), (v, .inl (cJ, 136800, .inr (.inl (mF N))))] H := hP
    replace hD : va_D A [(m0, .inr (7, [.ref v, .ref a1, .ref a2, .int ik, .int (nI 0), .int en])), (v, .inl (cJ, 136800, .inr (.inl (mF N))))] := hD
    replace hw11 : r11 = nI 1 := hw11
    refine k_ti hw11 ?_
    refine k_if_ne (tgt := 23) hx hb dX7_setParameter_14 (by decide) (by omega) (fun _ => ?_) (fun h9 => absurd h9 (by omega))
    refine lv_iload_n hx hb dX7_setParameter_23 rfl (lv_at hl 2 rfl) ?_
    refine lv_i2l (v := z3.toInt64) hx hb dX7_setParameter_24 (rfl) ?_
    refine lv_iload_n hx hb dX7_setParameter_25 rfl (lv_at hl 1 rfl) ?_
    refine k_ci (wr := [(m0, .inr (7, [.ref v, .ref a1, .ref a2, .int ik, .int (nI 0), .int en])), (v, .inl (cJ, 136800, .inr (.inl (mF N))))]) (w1 := []) (va_runS (As := [.int (nI 6)]) (rest := [.long z3.toInt64]) ⟨hx, hb, hml, hown, hts⟩ (c_X7_leastOf6 l D cI cJ cM cG  H.size) (va_cwS 1 hts (kB_S (fun _ => List.mem_cons_of_mem _) q_943 q_944 q_670 (kB_c q_922)) rfl rfl rfl (by decide +kernel) ⟨Nat.le_of_ble_eq_true rfl, Nat.le_of_ble_eq_true rfl⟩) (k_preS hP hD hK hKN [] rfl rfl) rfl rfl hl.1 rfl (lv_room (Nat.le_of_ble_eq_true rfl)) dX7_setParameter_26 ⟨Nat.le_of_ble_eq_true rfl, Nat.le_of_ble_eq_true rfl⟩) hP hD hS hA [] [0, 1] rfl rfl rfl (by decide) (fun r26 H locs hw26 hP hD hS => ?_)
    replace hP : va_P D vwCl [(m0, .inr (7, [.ref v, .ref a1, .ref a2, .int ik, .int (nI 0), .int en])), (v, .inl (cJ, 136800, .inr (.inl (mF N))))] H := hP
    replace hD : va_D A [(m0, .inr (7, [.ref v, .ref a1, .ref a2, .int ik, .int (nI 0), .int en])), (v, .inl (cJ, 136800, .inr (.inl (mF N))))] := hD
    replace hw26 : r26 = nI 1 := hw26
    refine k_ti hw26 ?_
    refine lv_i2l (v := lN 1) hx hb dX7_setParameter_29 (by decide) ?_
    refine lv_iload_n hx hb dX7_setParameter_30 rfl (lv_at hl 1 rfl) ?_
    refine k_ci (wr := [(m0, .inr (7, [.ref v, .ref a1, .ref a2, .int ik, .int (nI 0), .int en])), (v, .inl (cJ, 136800, .inr (.inl (mF N))))]) (w1 := []) (va_runS (As := [.int (nI 6)]) (rest := [.long (lN 1), .long z3.toInt64]) ⟨hx, hb, hml, hown, hts⟩ (c_X7_mostOf6 l D cI cJ cM cG  H.size) (va_cwS 1 hts (kB_S (fun _ => List.mem_cons_of_mem _) q_945 q_946 q_670 (kB_c q_928)) rfl rfl rfl (by decide +kernel) ⟨Nat.le_of_ble_eq_true rfl, Nat.le_of_ble_eq_true rfl⟩) (k_preS hP hD hK hKN [] rfl rfl) rfl rfl hl.1 rfl (lv_room (Nat.le_of_ble_eq_true rfl)) dX7_setParameter_31 ⟨Nat.le_of_ble_eq_true rfl, Nat.le_of_ble_eq_true rfl⟩) hP hD hS hA [] [0, 1] rfl rfl rfl (by decide) (fun r31 H locs hw31 hP hD hS => ?_)
    replace hP : va_P D vwCl [(m0, .inr (7, [.ref v, .ref a1, .ref a2, .int ik, .int (nI 0), .int en])), (v, .inl (cJ, 136800, .inr (.inl (mF N))))] H := hP
    replace hD : va_D A [(m0, .inr (7, [.ref v, .ref a1, .ref a2, .int ik, .int (nI 0), .int en])), (v, .inl (cJ, 136800, .inr (.inl (mF N))))] := hD
    replace hw31 : r31 = nI 50 := hw31
    refine k_ti hw31 ?_
    refine lv_i2l (v := lN 50) hx hb dX7_setParameter_34 (by decide) ?_
    refine k_ci (wr := [(m0, .inr (7, [.ref v, .ref a1, .ref a2, .int ik, .int (nI 0), .int en])), (v, .inl (cJ, 136800, .inr (.inl (mF N))))]) (w1 := []) (va_runS (As := [.long z3.toInt64, .long (lN 1), .long (lN 50)]) (rest := []) ⟨hx, hb, hml, hown, hts⟩ (c_X7_in0 l D cI cJ cM cG z3.toInt64 (lN 1) (lN 50) H.size (k_overL (lo := 1) (n := 50) (by omega) (by omega) hz9)) (va_cwS 3 hts (kB_S (fun _ => List.mem_cons_of_mem _) q_765 q_766 q_670 (kB_c q_767)) rfl rfl rfl (by decide +kernel) ⟨Nat.le_of_ble_eq_true rfl, Nat.le_of_ble_eq_true rfl⟩) (k_preS hP hD hK hKN [] rfl rfl) rfl rfl hl.1 rfl (lv_room (Nat.le_of_ble_eq_true rfl)) dX7_setParameter_35 ⟨Nat.le_of_ble_eq_true rfl, Nat.le_of_ble_eq_true rfl⟩) hP hD hS hA [] [0, 1] rfl rfl rfl (by decide) (fun r35 H locs hw35 hP hD hS => ?_)
    replace hP : va_P D vwCl [(m0, .inr (7, [.ref v, .ref a1, .ref a2, .int ik, .int (nI 0), .int en])), (v, .inl (cJ, 136800, .inr (.inl (mF N))))] H := hP
    replace hD : va_D A [(m0, .inr (7, [.ref v, .ref a1, .ref a2, .int ik, .int (nI 0), .int en])), (v, .inl (cJ, 136800, .inr (.inl (mF N))))] := hD
    replace hw35 : r35 = nI 0 := hw35
    refine k_ti hw35 ?_
    refine k_if_ne (tgt := 47) hx hb dX7_setParameter_38 (by decide) (by omega) (fun h9 => absurd h9 (by omega)) (fun _ => ?_)
    refine lv_aload_n hx hb dX7_setParameter_41 rfl (lv_at hl 0 rfl) ?_
    refine lv_iconst (v := nI 2) hx hb dX7_setParameter_42 (by decide) ?_
    refine k_ci (wr := []) (w1 := [(m0, .inr (7, [.ref v, .ref a1, .ref a2, .int ik, .int (nI 2), .int en])), (v, .inl (cJ, 136800, .inr (.inl (mF N))))]) (va_runV (As := [.int (nI 2)]) (rest := []) ⟨hx, hb, hml, hown, hts⟩ (c_X7_fails l D cI cJ cM cG m0 v a1 a2 ik (nI 0) en (mF N) (nI 2) H.size) (cwV 1 hts (kB_V (fun _ => List.mem_cons_of_mem _) q_924 q_925 q_926 q_670 (kB_c q_883)) rfl rfl rfl (by decide +kernel) ⟨Nat.le_of_ble_eq_true rfl, Nat.le_of_ble_eq_true rfl⟩) (k_preV (T := TX7) hP hD hK hKN [0, 1] rfl rfl (ci := 7) rfl (q0 := 0) rfl) rfl rfl hl.1 rfl (lv_room (Nat.le_of_ble_eq_true rfl)) dX7_setParameter_43 ⟨Nat.le_of_ble_eq_true rfl, Nat.le_of_ble_eq_true rfl⟩) hP hD hS hA [0, 1] [] rfl rfl rfl (by decide) (fun r43 H locs hw43 hP hD hS => ?_)
    replace hP : va_P D vwCl [(m0, .inr (7, [.ref v, .ref a1, .ref a2, .int ik, .int (nI 2), .int en])), (v, .inl (cJ, 136800, .inr (.inl (mF N))))] H := hP
    replace hD : va_D A [(m0, .inr (7, [.ref v, .ref a1, .ref a2, .int ik, .int (nI 2), .int en])), (v, .inl (cJ, 136800, .inr (.inl (mF N))))] := hD
    replace hw43 : r43 = nI 0 := hw43
    refine k_ti hw43 ?_
    have hP9 := hP.sub (ws' := [(m0, .inr (7, [.ref v, .ref a1, .ref a2, .int ik, .int (nI 2), .int en]))]) [0] rfl
    have hD9 := hD.sub (ws' := [(m0, .inr (7, [.ref v, .ref a1, .ref a2, .int ik, .int (nI 2), .int en]))]) [0] rfl rfl
    exact W.iret (v := nI 0) hx hb hr (fun t9 ht9 hW9 => ⟨⟨nI 0, (), rfl, rfl, by rw [ht9]; exact hP9, hD9⟩, hS.F ht9⟩) hS.2.2 dX7_setParameter_46
  · have hz9 : z3 < nI 0 ∨ nI (10 + 1) ≤ z3 := hz3
    refine lv_aload_n hx hb dX7_setParameter_0 rfl (lv_at hl 0 rfl) ?_
    refine lv_iconst (v := nI 0) hx hb dX7_setParameter_1 (by decide) ?_
    refine va_put (D := D) (ci := 7) (v := .int (nI 0)) (ty := .int) (C := RX7) (T := TX7) (N := 6) hx hb hts hin7 tyX7 tyX7_ok nmX7 hown hK hP hD hS 0 rfl rfl 4 (by decide) (hts (.fieldLink RX7 34 "MeshRoutingModel" "thrown" "I") (List.mem_cons_of_mem _ q_760)) (fun _ h9 => h9) rfl (by decide +kernel) rfl rfl (Nat.le_of_ble_eq_true rfl) dX7_setParameter_2 (fun H locs hP hD hS => ?_)
    replace hP : va_P D vwCl [(m0, .inr (7, [.ref v, .ref a1, .ref a2, .int ik, .int (nI 0), .int en])), (v, .inl (cJ, 136800, .inr (.inl (mF N))))] H := hP
    replace hD : va_D A [(m0, .inr (7, [.ref v, .ref a1, .ref a2, .int ik, .int (nI 0), .int en])), (v, .inl (cJ, 136800, .inr (.inl (mF N))))] := hD
    refine lv_iload_n hx hb dX7_setParameter_5 rfl (lv_at hl 1 rfl) ?_
    refine lv_i2l (v := lN 7) hx hb dX7_setParameter_6 (by decide) ?_
    refine lv_lconst (v := lN 0) hx hb dX7_setParameter_7 (by decide) ?_
    refine lv_ldc2 (v := 7) hx hb hown (by exact hts (.constantLong RX7 217 (7)) (List.mem_cons_of_mem _ q_942)) dX7_setParameter_8 ?_
    refine k_tl (show (7) = (lN 7) from by decide) ?_
    refine k_ci (wr := [(m0, .inr (7, [.ref v, .ref a1, .ref a2, .int ik, .int (nI 0), .int en])), (v, .inl (cJ, 136800, .inr (.inl (mF N))))]) (w1 := []) (va_runS (As := [.long (lN 7), .long (lN 0), .long (lN 7)]) (rest := []) ⟨hx, hb, hml, hown, hts⟩ (c_X7_in1 l D cI cJ cM cG (lN 7) (lN 0) (lN 7) H.size (k_in1 (by omega) (by omega) (by omega)) (k_in1 (by omega) (by omega) (by omega))) (va_cwS 3 hts (kB_S (fun _ => List.mem_cons_of_mem _) q_765 q_766 q_670 (kB_c q_767)) rfl rfl rfl (by decide +kernel) ⟨Nat.le_of_ble_eq_true rfl, Nat.le_of_ble_eq_true rfl⟩) (k_preS hP hD hK hKN [] rfl rfl) rfl rfl hl.1 rfl (lv_room (Nat.le_of_ble_eq_true rfl)) dX7_setParameter_11 ⟨Nat.le_of_ble_eq_true rfl, Nat.le_of_ble_eq_true rfl⟩) hP hD hS hA [] [0, 1] rfl rfl rfl (by decide) (fun r11 H locs hw11 hP hD hS => ?_)
    replace hP : va_P D vwCl [(m0, .inr (7, [.ref v, .ref a1, .ref a2, .int ik, .int (nI 0), .int en])), (v, .inl (cJ, 136800, .inr (.inl (mF N))))] H := hP
    replace hD : va_D A [(m0, .inr (7, [.ref v, .ref a1, .ref a2, .int ik, .int (nI 0), .int en])), (v, .inl (cJ, 136800, .inr (.inl (mF N))))] := hD
    replace hw11 : r11 = nI 1 := hw11
    refine k_ti hw11 ?_
    refine k_if_ne (tgt := 23) hx hb dX7_setParameter_14 (by decide) (by omega) (fun _ => ?_) (fun h9 => absurd h9 (by omega))
    refine lv_iload_n hx hb dX7_setParameter_23 rfl (lv_at hl 2 rfl) ?_
    refine lv_i2l (v := z3.toInt64) hx hb dX7_setParameter_24 (rfl) ?_
    refine lv_iload_n hx hb dX7_setParameter_25 rfl (lv_at hl 1 rfl) ?_
    refine k_ci (wr := [(m0, .inr (7, [.ref v, .ref a1, .ref a2, .int ik, .int (nI 0), .int en])), (v, .inl (cJ, 136800, .inr (.inl (mF N))))]) (w1 := []) (va_runS (As := [.int (nI 7)]) (rest := [.long z3.toInt64]) ⟨hx, hb, hml, hown, hts⟩ (c_X7_leastOf7 l D cI cJ cM cG  H.size) (va_cwS 1 hts (kB_S (fun _ => List.mem_cons_of_mem _) q_943 q_944 q_670 (kB_c q_922)) rfl rfl rfl (by decide +kernel) ⟨Nat.le_of_ble_eq_true rfl, Nat.le_of_ble_eq_true rfl⟩) (k_preS hP hD hK hKN [] rfl rfl) rfl rfl hl.1 rfl (lv_room (Nat.le_of_ble_eq_true rfl)) dX7_setParameter_26 ⟨Nat.le_of_ble_eq_true rfl, Nat.le_of_ble_eq_true rfl⟩) hP hD hS hA [] [0, 1] rfl rfl rfl (by decide) (fun r26 H locs hw26 hP hD hS => ?_)
    replace hP : va_P D vwCl [(m0, .inr (7, [.ref v, .ref a1, .ref a2, .int ik, .int (nI 0), .int en])), (v, .inl (cJ, 136800, .inr (.inl (mF N))))] H := hP
    replace hD : va_D A [(m0, .inr (7, [.ref v, .ref a1, .ref a2, .int ik, .int (nI 0), .int en])), (v, .inl (cJ, 136800, .inr (.inl (mF N))))] := hD
    replace hw26 : r26 = nI 0 := hw26
    refine k_ti hw26 ?_
    refine lv_i2l (v := lN 0) hx hb dX7_setParameter_29 (by decide) ?_
    refine lv_iload_n hx hb dX7_setParameter_30 rfl (lv_at hl 1 rfl) ?_
    refine k_ci (wr := [(m0, .inr (7, [.ref v, .ref a1, .ref a2, .int ik, .int (nI 0), .int en])), (v, .inl (cJ, 136800, .inr (.inl (mF N))))]) (w1 := []) (va_runS (As := [.int (nI 7)]) (rest := [.long (lN 0), .long z3.toInt64]) ⟨hx, hb, hml, hown, hts⟩ (c_X7_mostOf7 l D cI cJ cM cG  H.size) (va_cwS 1 hts (kB_S (fun _ => List.mem_cons_of_mem _) q_945 q_946 q_670 (kB_c q_928)) rfl rfl rfl (by decide +kernel) ⟨Nat.le_of_ble_eq_true rfl, Nat.le_of_ble_eq_true rfl⟩) (k_preS hP hD hK hKN [] rfl rfl) rfl rfl hl.1 rfl (lv_room (Nat.le_of_ble_eq_true rfl)) dX7_setParameter_31 ⟨Nat.le_of_ble_eq_true rfl, Nat.le_of_ble_eq_true rfl⟩) hP hD hS hA [] [0, 1] rfl rfl rfl (by decide) (fun r31 H locs hw31 hP hD hS => ?_)
    replace hP : va_P D vwCl [(m0, .inr (7, [.ref v, .ref a1, .ref a2, .int ik, .int (nI 0), .int en])), (v, .inl (cJ, 136800, .inr (.inl (mF N))))] H := hP
    replace hD : va_D A [(m0, .inr (7, [.ref v, .ref a1, .ref a2, .int ik, .int (nI 0), .int en])), (v, .inl (cJ, 136800, .inr (.inl (mF N))))] := hD
    replace hw31 : r31 = nI 10 := hw31
    refine k_ti hw31 ?_
    refine lv_i2l (v := lN 10) hx hb dX7_setParameter_34 (by decide) ?_
    refine k_ci (wr := [(m0, .inr (7, [.ref v, .ref a1, .ref a2, .int ik, .int (nI 0), .int en])), (v, .inl (cJ, 136800, .inr (.inl (mF N))))]) (w1 := []) (va_runS (As := [.long z3.toInt64, .long (lN 0), .long (lN 10)]) (rest := []) ⟨hx, hb, hml, hown, hts⟩ (c_X7_in0 l D cI cJ cM cG z3.toInt64 (lN 0) (lN 10) H.size (k_overL (lo := 0) (n := 10) (by omega) (by omega) hz9)) (va_cwS 3 hts (kB_S (fun _ => List.mem_cons_of_mem _) q_765 q_766 q_670 (kB_c q_767)) rfl rfl rfl (by decide +kernel) ⟨Nat.le_of_ble_eq_true rfl, Nat.le_of_ble_eq_true rfl⟩) (k_preS hP hD hK hKN [] rfl rfl) rfl rfl hl.1 rfl (lv_room (Nat.le_of_ble_eq_true rfl)) dX7_setParameter_35 ⟨Nat.le_of_ble_eq_true rfl, Nat.le_of_ble_eq_true rfl⟩) hP hD hS hA [] [0, 1] rfl rfl rfl (by decide) (fun r35 H locs hw35 hP hD hS => ?_)
    replace hP : va_P D vwCl [(m0, .inr (7, [.ref v, .ref a1, .ref a2, .int ik, .int (nI 0), .int en])), (v, .inl (cJ, 136800, .inr (.inl (mF N))))] H := hP
    replace hD : va_D A [(m0, .inr (7, [.ref v, .ref a1, .ref a2, .int ik, .int (nI 0), .int en])), (v, .inl (cJ, 136800, .inr (.inl (mF N))))] := hD
    replace hw35 : r35 = nI 0 := hw35
    refine k_ti hw35 ?_
    refine k_if_ne (tgt := 47) hx hb dX7_setParameter_38 (by decide) (by omega) (fun h9 => absurd h9 (by omega)) (fun _ => ?_)
    refine lv_aload_n hx hb dX7_setParameter_41 rfl (lv_at hl 0 rfl) ?_
    refine lv_iconst (v := nI 2) hx hb dX7_setParameter_42 (by decide) ?_
    refine k_ci (wr := []) (w1 := [(m0, .inr (7, [.ref v, .ref a1, .ref a2, .int ik, .int (nI 2), .int en])), (v, .inl (cJ, 136800, .inr (.inl (mF N))))]) (va_runV (As := [.int (nI 2)]) (rest := []) ⟨hx, hb, hml, hown, hts⟩ (c_X7_fails l D cI cJ cM cG m0 v a1 a2 ik (nI 0) en (mF N) (nI 2) H.size) (cwV 1 hts (kB_V (fun _ => List.mem_cons_of_mem _) q_924 q_925 q_926 q_670 (kB_c q_883)) rfl rfl rfl (by decide +kernel) ⟨Nat.le_of_ble_eq_true rfl, Nat.le_of_ble_eq_true rfl⟩) (k_preV (T := TX7) hP hD hK hKN [0, 1] rfl rfl (ci := 7) rfl (q0 := 0) rfl) rfl rfl hl.1 rfl (lv_room (Nat.le_of_ble_eq_true rfl)) dX7_setParameter_43 ⟨Nat.le_of_ble_eq_true rfl, Nat.le_of_ble_eq_true rfl⟩) hP hD hS hA [0, 1] [] rfl rfl rfl (by decide) (fun r43 H locs hw43 hP hD hS => ?_)
    replace hP : va_P D vwCl [(m0, .inr (7, [.ref v, .ref a1, .ref a2, .int ik, .int (nI 2), .int en])), (v, .inl (cJ, 136800, .inr (.inl (mF N))))] H := hP
    replace hD : va_D A [(m0, .inr (7, [.ref v, .ref a1, .ref a2, .int ik, .int (nI 2), .int en])), (v, .inl (cJ, 136800, .inr (.inl (mF N))))] := hD
    replace hw43 : r43 = nI 0 := hw43
    refine k_ti hw43 ?_
    have hP9 := hP.sub (ws' := [(m0, .inr (7, [.ref v, .ref a1, .ref a2, .int ik, .int (nI 2), .int en]))]) [0] rfl
    have hD9 := hD.sub (ws' := [(m0, .inr (7, [.ref v, .ref a1, .ref a2, .int ik, .int (nI 2), .int en]))]) [0] rfl rfl
    exact W.iret (v := nI 0) hx hb hr (fun t9 ht9 hW9 => ⟨⟨nI 0, (), rfl, rfl, by rw [ht9]; exact hP9, hD9⟩, hS.F ht9⟩) hS.2.2 dX7_setParameter_46

set_option maxHeartbeats 4000000 in
set_option maxRecDepth 100000 in
theorem c_X7_lays (l : Launch) (D : va_G) (cI cJ cM cG : ClassId) (a : Nat) (b : Nat) (f : Nat → Int64) (g : Nat → Int64) (sz : Nat)  : Met l yX7_lays (Cond.code yX7_lays cX7_lays 3 none :: kBig) ({ frames := 0, cells := 0, slots := 0, locals := 0 }) (va_Pc [.ref a, .ref b] (kP D [(cI, .int), (cJ, .long), (cM, .object "MeshRouting$Message"), (cG, .array .int)] [(a, .inl (cJ, 136800, .inr (.inl f))), (b, .inl (cJ, 136800, .inr (.inl g)))] sz)) (va_Qv (fun _ : Unit => True) (fun _ t9 => kB D (va_A [(a, .inl (cJ, 136800, .inr (.inl f))), (b, .inl (cJ, 136800, .inr (.inl g)))] sz) [(a, .inl (cJ, 136800, .inr (.inl f))), (b, .inl (cJ, 136800, .inr (.inl f)))] t9) (va_A [(a, .inl (cJ, 136800, .inr (.inl f))), (b, .inl (cJ, 136800, .inr (.inl g)))] sz)) 0 0 (va_A [(a, .inl (cJ, 136800, .inr (.inl f))), (b, .inl (cJ, 136800, .inr (.inl g)))] sz) := by
  refine Met.ofW (cc := cX7_lays) (maxL := 3) (ret := none) (by decide) rfl ?_
  intro p e s m args below meth c s₁ B hml hv
  obtain ⟨rfl, hsz, hP, hK, hD0, hKN⟩ := hv
  have hx := B.exec
  have hb := B.bytes
  have hr := B.returns
  have hts := atoms_spec (ws := (Cond.code yX7_lays cX7_lays 3 none :: kBig)) B.pre
  have hown : s.vm.findClass RX7 = some m.cls := findClass_of_methodNamed B.named
  have hlocks := B.notSynchronized
  subst hsz
  have hD := hD0.self (sz := s.heap.size)
  generalize hAe : va_A [(a, .inl (cJ, 136800, .inr (.inl f))), (b, .inl (cJ, 136800, .inr (.inl g)))] s.heap.size = A at hD ⊢
  have hA : ∀ q : Nat, s.heap.size ≤ q → A q := fun q h => by rw [← hAe]; exact Or.inr h
  have hS : va_S A s.heap s.heap [] := va_S.rf
  have hl := lv_entry ([.ref a, .ref b]) (n := 3) (Nat.le_of_ble_eq_true rfl)
  rw [lg_entry_eq]
  generalize (lg_sl ([.ref a, .ref b]) ++ List.replicate (3 - (lg_sl ([.ref a, .ref b])).length) Slot.unset).toArray = ls at hl ⊢
  have hl : lv_has ls 3 [(0, .ref a), (1, .ref b)] := hl
  refine lv_iconst (v := nI 0) hx hb dX7_lays_0 (by decide) ?_
  refine lv_istore_n (lv' := [(2, .int (nI 0)), (0, .ref a), (1, .ref b)]) hx hb dX7_lays_1 rfl hl (by decide) rfl (fun ls hl => ?_)
  replace hD := k_reD (q := 1) (e2 := .inl (cJ, 136800, .inr (.inl (fun j => if j < 0 then f j else g j)))) hD rfl
  replace hP := k_reJ (q := 1) (g := (fun j => if j < 0 then f j else g j)) hP rfl (fun j _ => congrFun kfL_0 j)
  replace hP : va_P D vwCl [(a, .inl (cJ, 136800, .inr (.inl f))), (b, .inl (cJ, 136800, .inr (.inl (fun j => if j < 0 then f j else g j))))] _ := hP
  replace hD : va_D A [(a, .inl (cJ, 136800, .inr (.inl f))), (b, .inl (cJ, 136800, .inr (.inl (fun j => if j < 0 then f j else g j))))] := hD
  refine k_loop (nL := 3) (wf := fun k => [(a, .inl (cJ, 136800, .inr (.inl f))), (b, .inl (cJ, 136800, .inr (.inl (fun j => if j < k then f j else g j))))]) (lvf := fun k => [(0, .ref a), (1, .ref b), (2, .int (nI k))]) (B := 136800) 0 (Nat.zero_le _) hP hD hS (lv_sub hl [1, 2, 0] rfl) (fun H locs ls hP hD hS hl => ?_) (fun k hk9 hk ih H locs ls hP hD hS hl => ?_)
  · replace hP : va_P D vwCl [(a, .inl (cJ, 136800, .inr (.inl f))), (b, .inl (cJ, 136800, .inr (.inl (fun j => if j < 136800 then f j else g j))))] H := hP
    replace hD : va_D A [(a, .inl (cJ, 136800, .inr (.inl f))), (b, .inl (cJ, 136800, .inr (.inl (fun j => if j < 136800 then f j else g j))))] := hD
    replace hl : lv_has ls 3 [(0, .ref a), (1, .ref b), (2, .int (nI 136800))] := hl
    refine lv_iload_n hx hb dX7_lays_2 rfl (lv_at hl 2 rfl) ?_
    refine lv_ldc (v := 136800) hx hb hown (by exact hts (.constant RX7 7 (136800)) (List.mem_cons_of_mem _ q_778)) dX7_lays_3 ?_
    refine k_ti (show (136800) = (nI 136800) from by decide) ?_
    refine k_icmp_ge (tgt := 20) hx hb dX7_lays_5 (by decide) (by omega) (by omega) (fun _ => ?_) (fun h9 => absurd h9 (by omega))
    replace hD := k_reD (q := 1) (e2 := .inl (cJ, 136800, .inr (.inl f))) hD rfl
    replace hP := k_reJ (q := 1) (g := f) hP rfl (fun j hj => if_pos hj)
    replace hP : va_P D vwCl [(a, .inl (cJ, 136800, .inr (.inl f))), (b, .inl (cJ, 136800, .inr (.inl f)))] _ := hP
    replace hD : va_D A [(a, .inl (cJ, 136800, .inr (.inl f))), (b, .inl (cJ, 136800, .inr (.inl f)))] := hD
    have hP9 := hP.sub (ws' := [(a, .inl (cJ, 136800, .inr (.inl f))), (b, .inl (cJ, 136800, .inr (.inl f)))]) [0, 1] rfl
    have hD9 := hD.sub (ws' := [(a, .inl (cJ, 136800, .inr (.inl f))), (b, .inl (cJ, 136800, .inr (.inl f)))]) [0, 1] rfl rfl
    exact W.vret hx hb hr (fun t9 ht9 hW9 => ⟨⟨(), rfl, trivial, by rw [ht9]; exact hP9, hD9⟩, hS.F ht9⟩) hS.2.2 dX7_lays_20
  · replace hP : va_P D vwCl [(a, .inl (cJ, 136800, .inr (.inl f))), (b, .inl (cJ, 136800, .inr (.inl (fun j => if j < k then f j else g j))))] H := hP
    replace hD : va_D A [(a, .inl (cJ, 136800, .inr (.inl f))), (b, .inl (cJ, 136800, .inr (.inl (fun j => if j < k then f j else g j))))] := hD
    replace hl : lv_has ls 3 [(0, .ref a), (1, .ref b), (2, .int (nI k))] := hl
    refine lv_iload_n hx hb dX7_lays_2 rfl (lv_at hl 2 rfl) ?_
    refine lv_ldc (v := 136800) hx hb hown (by exact hts (.constant RX7 7 (136800)) (List.mem_cons_of_mem _ q_778)) dX7_lays_3 ?_
    refine k_ti (show (136800) = (nI 136800) from by decide) ?_
    refine k_icmp_ge (tgt := 20) hx hb dX7_lays_5 (by decide) (by omega) (by omega) (fun h9 => absurd h9 (by omega)) (fun _ => ?_)
    refine lv_aload_n hx hb dX7_lays_8 rfl (lv_at hl 1 rfl) ?_
    refine lv_iload_n hx hb dX7_lays_9 rfl (lv_at hl 2 rfl) ?_
    refine lv_aload_n hx hb dX7_lays_10 rfl (lv_at hl 0 rfl) ?_
    refine lv_iload_n hx hb dX7_lays_11 rfl (lv_at hl 2 rfl) ?_
    refine k_lald (v := f k) hx hb hK hP 0 1 rfl rfl (by omega) (by omega) (rfl) dX7_lays_12 ?_
    refine k_last (f' := (fun j => if j < k + 1 then f j else g j)) hx hb hK hP hD hS 1 1 rfl rfl (by omega) (by omega) (kfL_s) dX7_lays_13 (fun H locs hP hD hS => ?_)
    replace hP : va_P D vwCl [(a, .inl (cJ, 136800, .inr (.inl f))), (b, .inl (cJ, 136800, .inr (.inl (fun j => if j < k + 1 then f j else g j))))] H := hP
    replace hD : va_D A [(a, .inl (cJ, 136800, .inr (.inl f))), (b, .inl (cJ, 136800, .inr (.inl (fun j => if j < k + 1 then f j else g j))))] := hD
    refine lv_iinc (v := nI (k + 1)) (lv' := [(2, .int (nI (k + 1))), (0, .ref a), (1, .ref b)]) hx hb dX7_lays_14 hl (k := 2) rfl (by exact nI_add k 1) (by decide) rfl (fun ls hl => ?_)
    refine lv_goto (tgt := 2) hx hb dX7_lays_17 (by decide) ?_
    exact ih _ _ _ hP hD hS (lv_sub hl [1, 2, 0] rfl)

set_option maxHeartbeats 4000000 in
set_option maxRecDepth 100000 in
theorem c_M_isWrong1 (l : Launch) (D : va_G) (cI cJ cM cG : ClassId) (m0 : Nat) (v : Nat) (a1 : Nat) (a2 : Nat) (ik : Int32) (th : Int32) (en : Int32) (N : Nat) (a : Nat) (b : Nat) (u : Nat) (sz : Nat) (hN : N ≤ 10) (hN0 : 0 < N) (ha : a < N) (hb9 : b < N) (hab : a ≠ b) (hu : u ≤ 100000) : Met l yX7_isWrong (Cond.code yX7_isWrong cX7_isWrong 4 (some .boolean) :: kBig) ({ frames := 2, cells := 0, slots := 0, locals := 46 }) (va_Pc [.ref m0, .int (nI a), .int (nI b), .int (nI u)] (kP D [(cI, .int), (cJ, .long), (cM, .object "MeshRouting$Message"), (cG, .array .int)] [(m0, .inr (7, [.ref v, .ref a1, .ref a2, .int ik, .int th, .int en])), (v, .inl (cJ, 136800, .inr (.inl (mF N))))] sz)) (va_Qi (fun (r : Int32) (_ : Unit) => r = nI 0) (fun _ t9 => kB D (va_A [(m0, .inr (7, [.ref v, .ref a1, .ref a2, .int ik, .int th, .int en])), (v, .inl (cJ, 136800, .inr (.inl (mF N))))] sz) [(m0, .inr (7, [.ref v, .ref a1, .ref a2, .int ik, .int (nI 0), .int en])), (v, .inl (cJ, 136800, .inr (.inl (mF N))))] t9) (va_A [(m0, .inr (7, [.ref v, .ref a1, .ref a2, .int ik, .int th, .int en])), (v, .inl (cJ, 136800, .inr (.inl (mF N))))] sz)) 0 0 (va_A [(m0, .inr (7, [.ref v, .ref a1, .ref a2, .int ik, .int th, .int en])), (v, .inl (cJ, 136800, .inr (.inl (mF N))))] sz) := by
  refine Met.ofW (cc := cX7_isWrong) (maxL := 4) (ret := (some .boolean)) (by decide) rfl ?_
  intro p e s m args below meth c s₁ B hml hv
  obtain ⟨rfl, hsz, hP, hK, hD0, hKN⟩ := hv
  have hx := B.exec
  have hb := B.bytes
  have hr := B.returns
  have hts := atoms_spec (ws := (Cond.code yX7_isWrong cX7_isWrong 4 (some .boolean) :: kBig)) B.pre
  have hown : s.vm.findClass RX7 = some m.cls := findClass_of_methodNamed B.named
  have hlocks := B.notSynchronized
  have hin7 : ∀ w ∈ u_ws RX7 TX7 6, w ∈ (Cond.code yX7_isWrong cX7_isWrong 4 (some .boolean) :: kBig) := fun w h => List.mem_cons_of_mem _ (inb7 w h)
  subst hsz
  have hD := hD0.self (sz := s.heap.size)
  generalize hAe : va_A [(m0, .inr (7, [.ref v, .ref a1, .ref a2, .int ik, .int th, .int en])), (v, .inl (cJ, 136800, .inr (.inl (mF N))))] s.heap.size = A at hD ⊢
  have hA : ∀ q : Nat, s.heap.size ≤ q → A q := fun q h => by rw [← hAe]; exact Or.inr h
  have hS : va_S A s.heap s.heap [] := va_S.rf
  have hl := lv_entry ([.ref m0, .int (nI a), .int (nI b), .int (nI u)]) (n := 4) (Nat.le_of_ble_eq_true rfl)
  rw [lg_entry_eq]
  generalize (lg_sl ([.ref m0, .int (nI a), .int (nI b), .int (nI u)]) ++ List.replicate (4 - (lg_sl ([.ref m0, .int (nI a), .int (nI b), .int (nI u)])).length) Slot.unset).toArray = ls at hl ⊢
  have hl : lv_has ls 4 [(0, .ref m0), (1, .int (nI a)), (2, .int (nI b)), (3, .int (nI u))] := hl
  refine lv_aload_n hx hb dX7_isWrong_0 rfl (lv_at hl 0 rfl) ?_
  refine lv_aload_n hx hb dX7_isWrong_1 rfl (lv_at hl 0 rfl) ?_
  refine lv_iload_n hx hb dX7_isWrong_2 rfl (lv_at hl 1 rfl) ?_
  refine k_ci (wr := []) (w1 := [(m0, .inr (7, [.ref v, .ref a1, .ref a2, .int ik, .int th, .int en])), (v, .inl (cJ, 136800, .inr (.inl (mF N))))]) (va_runV (As := [.int (nI a)]) (rest := [.ref m0]) ⟨hx, hb, hml, hown, hts⟩ (c_X7_isNode1 l D cI cJ cM cG m0 v a1 a2 ik th en (mF N) N a s.heap.size (mF_1) (ha) (hN) (hN0)) (cwV 1 hts (kB_V (fun _ => List.mem_cons_of_mem _) q_761 q_762 q_763 q_670 (kB_c q_764)) rfl rfl rfl (by decide +kernel) ⟨Nat.le_of_ble_eq_true rfl, Nat.le_of_ble_eq_true rfl⟩) (k_preV (T := TX7) hP hD hK hKN [0, 1] rfl rfl (ci := 7) rfl (q0 := 0) rfl) rfl rfl hl.1 rfl (lv_room (Nat.le_of_ble_eq_true rfl)) dX7_isWrong_3 ⟨Nat.le_of_ble_eq_true rfl, Nat.le_of_ble_eq_true rfl⟩) hP hD hS hA [0, 1] [] rfl rfl rfl (by decide) (fun r3 H locs hw3 hP hD hS => ?_)
  replace hP : va_P D vwCl [(m0, .inr (7, [.ref v, .ref a1, .ref a2, .int ik, .int th, .int en])), (v, .inl (cJ, 136800, .inr (.inl (mF N))))] H := hP
  replace hD : va_D A [(m0, .inr (7, [.ref v, .ref a1, .ref a2, .int ik, .int th, .int en])), (v, .inl (cJ, 136800, .inr (.inl (mF N))))] := hD
  replace hw3 : r3 = nI 1 := hw3
  refine k_ti hw3 ?_
  refine k_if_eq (tgt := 17) hx hb dX7_isWrong_6 (by decide) (by omega) (fun h9 => absurd h9 (by omega)) (fun _ => ?_)
  refine lv_aload_n hx hb dX7_isWrong_9 rfl (lv_at hl 0 rfl) ?_
  refine lv_iload_n hx hb dX7_isWrong_10 rfl (lv_at hl 2 rfl) ?_
  refine k_ci (wr := []) (w1 := [(m0, .inr (7, [.ref v, .ref a1, .ref a2, .int ik, .int th, .int en])), (v, .inl (cJ, 136800, .inr (.inl (mF N))))]) (va_runV (As := [.int (nI b)]) (rest := [.ref m0]) ⟨hx, hb, hml, hown, hts⟩ (c_X7_isNode1 l D cI cJ cM cG m0 v a1 a2 ik th en (mF N) N b H.size (mF_1) (hb9) (hN) (hN0)) (cwV 1 hts (kB_V (fun _ => List.mem_cons_of_mem _) q_761 q_762 q_763 q_670 (kB_c q_764)) rfl rfl rfl (by decide +kernel) ⟨Nat.le_of_ble_eq_true rfl, Nat.le_of_ble_eq_true rfl⟩) (k_preV (T := TX7) hP hD hK hKN [0, 1] rfl rfl (ci := 7) rfl (q0 := 0) rfl) rfl rfl hl.1 rfl (lv_room (Nat.le_of_ble_eq_true rfl)) dX7_isWrong_11 ⟨Nat.le_of_ble_eq_true rfl, Nat.le_of_ble_eq_true rfl⟩) hP hD hS hA [0, 1] [] rfl rfl rfl (by decide) (fun r11 H locs hw11 hP hD hS => ?_)
  replace hP : va_P D vwCl [(m0, .inr (7, [.ref v, .ref a1, .ref a2, .int ik, .int th, .int en])), (v, .inl (cJ, 136800, .inr (.inl (mF N))))] H := hP
  replace hD : va_D A [(m0, .inr (7, [.ref v, .ref a1, .ref a2, .int ik, .int th, .int en])), (v, .inl (cJ, 136800, .inr (.inl (mF N))))] := hD
  replace hw11 : r11 = nI 1 := hw11
  refine k_ti hw11 ?_
  refine k_if_ne (tgt := 21) hx hb dX7_isWrong_14 (by decide) (by omega) (fun _ => ?_) (fun h9 => absurd h9 (by omega))
  refine lv_iload_n hx hb dX7_isWrong_21 rfl (lv_at hl 1 rfl) ?_
  refine lv_iload_n hx hb dX7_isWrong_22 rfl (lv_at hl 2 rfl) ?_
  refine k_icmp_eq (tgt := 38) hx hb dX7_isWrong_23 (by decide) (by omega) (by omega) (fun h9 => absurd h9 (by omega)) (fun _ => ?_)
  refine lv_iload_n hx hb dX7_isWrong_26 rfl (lv_at hl 3 rfl) ?_
  refine lv_i2l (v := lN u) hx hb dX7_isWrong_27 (by exact nI_l (by omega)) ?_
  refine lv_lconst (v := lN 0) hx hb dX7_isWrong_28 (by decide) ?_
  refine lv_ldc2 (v := 100000) hx hb hown (by exact hts (.constantLong RX7 232 (100000)) (List.mem_cons_of_mem _ q_774)) dX7_isWrong_29 ?_
  refine k_tl (show (100000) = (lN 100000) from by decide) ?_
  refine k_ci (wr := [(m0, .inr (7, [.ref v, .ref a1, .ref a2, .int ik, .int th, .int en])), (v, .inl (cJ, 136800, .inr (.inl (mF N))))]) (w1 := []) (va_runS (As := [.long (lN u), .long (lN 0), .long (lN 100000)]) (rest := [.ref m0]) ⟨hx, hb, hml, hown, hts⟩ (c_X7_in1 l D cI cJ cM cG (lN u) (lN 0) (lN 100000) H.size (k_in1 (by omega) (by omega) (by omega)) (k_in1 (by omega) (by omega) (by omega))) (va_cwS 3 hts (kB_S (fun _ => List.mem_cons_of_mem _) q_765 q_766 q_670 (kB_c q_767)) rfl rfl rfl (by decide +kernel) ⟨Nat.le_of_ble_eq_true rfl, Nat.le_of_ble_eq_true rfl⟩) (k_preS hP hD hK hKN [] rfl rfl) rfl rfl hl.1 rfl (lv_room (Nat.le_of_ble_eq_true rfl)) dX7_isWrong_32 ⟨Nat.le_of_ble_eq_true rfl, Nat.le_of_ble_eq_true rfl⟩) hP hD hS hA [] [0, 1] rfl rfl rfl (by decide) (fun r32 H locs hw32 hP hD hS => ?_)
  replace hP : va_P D vwCl [(m0, .inr (7, [.ref v, .ref a1, .ref a2, .int ik, .int th, .int en])), (v, .inl (cJ, 136800, .inr (.inl (mF N))))] H := hP
  replace hD : va_D A [(m0, .inr (7, [.ref v, .ref a1, .ref a2, .int ik, .int th, .int en])), (v, .inl (cJ, 136800, .inr (.inl (mF N))))] := hD
  replace hw32 : r32 = nI 1 := hw32
  refine k_ti hw32 ?_
  refine k_if_ne (tgt := 42) hx hb dX7_isWrong_35 (by decide) (by omega) (fun _ => ?_) (fun h9 => absurd h9 (by omega))
  refine lv_iconst (v := nI 0) hx hb dX7_isWrong_42 (by decide) ?_
  refine va_put (D := D) (ci := 7) (v := .int (nI 0)) (ty := .int) (C := RX7) (T := TX7) (N := 6) hx hb hts hin7 tyX7 tyX7_ok nmX7 hown hK hP hD hS 0 rfl rfl 4 (by decide) (hts (.fieldLink RX7 34 "MeshRoutingModel" "thrown" "I") (List.mem_cons_of_mem _ q_760)) (fun _ h9 => h9) rfl (by decide +kernel) rfl rfl (Nat.le_of_ble_eq_true rfl) dX7_isWrong_43 (fun H locs hP hD hS => ?_)
  replace hP : va_P D vwCl [(m0, .inr (7, [.ref v, .ref a1, .ref a2, .int ik, .int (nI 0), .int en])), (v, .inl (cJ, 136800, .inr (.inl (mF N))))] H := hP
  replace hD : va_D A [(m0, .inr (7, [.ref v, .ref a1, .ref a2, .int ik, .int (nI 0), .int en])), (v, .inl (cJ, 136800, .inr (.inl (mF N))))] := hD
  refine lv_aload_n hx hb dX7_isWrong_46 rfl (lv_at hl 0 rfl) ?_
  refine va_get (D := D) (ci := 7) (v := .int (nI 0)) (C := RX7) (T := TX7) (N := 6) hx hb hts hin7 hown hK hP 0 rfl rfl 4 (by decide) (hts (.fieldLink RX7 34 "MeshRoutingModel" "thrown" "I") (List.mem_cons_of_mem _ q_760)) (fun _ h9 => h9) rfl dX7_isWrong_47 ?_
  refine k_if_eq (tgt := 57) hx hb dX7_isWrong_50 (by decide) (by omega) (fun _ => ?_) (fun h9 => absurd h9 (by omega))
  refine lv_iconst (v := nI 0) hx hb dX7_isWrong_57 (by decide) ?_
  have hP9 := hP.sub (ws' := [(m0, .inr (7, [.ref v, .ref a1, .ref a2, .int ik, .int (nI 0), .int en])), (v, .inl (cJ, 136800, .inr (.inl (mF N))))]) [0, 1] rfl
  have hD9 := hD.sub (ws' := [(m0, .inr (7, [.ref v, .ref a1, .ref a2, .int ik, .int (nI 0), .int en])), (v, .inl (cJ, 136800, .inr (.inl (mF N))))]) [0, 1] rfl rfl
  exact W.zret (v := nI 0) hx hb hr (by decide) (fun t9 ht9 hW9 => ⟨⟨nI 0, (), rfl, rfl, by rw [ht9]; exact hP9, hD9⟩, hS.F ht9⟩) hS.2.2 dX7_isWrong_58

set_option maxHeartbeats 4000000 in
set_option maxRecDepth 100000 in
theorem c_M_isWrong0 (l : Launch) (D : va_G) (cI cJ cM cG : ClassId) (m0 : Nat) (v : Nat) (a1 : Nat) (a2 : Nat) (ik : Int32) (th : Int32) (en : Int32) (N : Nat) (x : Int32) (y : Int32) (z3 : Int32) (sz : Nat) (hN : N ≤ 10) (hN0 : 0 < N) (hb2 : kBad2 N x y) : Met l yX7_isWrong (Cond.code yX7_isWrong cX7_isWrong 4 (some .boolean) :: kBig) ({ frames := 2, cells := 0, slots := 0, locals := 46 }) (va_Pc [.ref m0, .int x, .int y, .int z3] (kP D [(cI, .int), (cJ, .long), (cM, .object "MeshRouting$Message"), (cG, .array .int)] [(m0, .inr (7, [.ref v, .ref a1, .ref a2, .int ik, .int th, .int en])), (v, .inl (cJ, 136800, .inr (.inl (mF N))))] sz)) (va_Qi (fun (r : Int32) (_ : Unit) => r = nI 1) (fun _ t9 => kB D (va_A [(m0, .inr (7, [.ref v, .ref a1, .ref a2, .int ik, .int th, .int en])), (v, .inl (cJ, 136800, .inr (.inl (mF N))))] sz) [(m0, .inr (7, [.ref v, .ref a1, .ref a2, .int ik, .int (nI 1), .int en])), (v, .inl (cJ, 136800, .inr (.inl (mF N))))] t9) (va_A [(m0, .inr (7, [.ref v, .ref a1, .ref a2, .int ik, .int th, .int en])), (v, .inl (cJ, 136800, .inr (.inl (mF N))))] sz)) 0 0 (va_A [(m0, .inr (7, [.ref v, .ref a1, .ref a2, .int ik, .int th, .int en])), (v, .inl (cJ, 136800, .inr (.inl (mF N))))] sz) := by
  refine Met.ofW (cc := cX7_isWrong) (maxL := 4) (ret := (some .boolean)) (by decide) rfl ?_
  intro p e s m args below meth c s₁ B hml hv
  obtain ⟨rfl, hsz, hP, hK, hD0, hKN⟩ := hv
  have hx := B.exec
  have hb := B.bytes
  have hr := B.returns
  have hts := atoms_spec (ws := (Cond.code yX7_isWrong cX7_isWrong 4 (some .boolean) :: kBig)) B.pre
  have hown : s.vm.findClass RX7 = some m.cls := findClass_of_methodNamed B.named
  have hlocks := B.notSynchronized
  have hin7 : ∀ w ∈ u_ws RX7 TX7 6, w ∈ (Cond.code yX7_isWrong cX7_isWrong 4 (some .boolean) :: kBig) := fun w h => List.mem_cons_of_mem _ (inb7 w h)
  subst hsz
  have hD := hD0.self (sz := s.heap.size)
  generalize hAe : va_A [(m0, .inr (7, [.ref v, .ref a1, .ref a2, .int ik, .int th, .int en])), (v, .inl (cJ, 136800, .inr (.inl (mF N))))] s.heap.size = A at hD ⊢
  have hA : ∀ q : Nat, s.heap.size ≤ q → A q := fun q h => by rw [← hAe]; exact Or.inr h
  have hS : va_S A s.heap s.heap [] := va_S.rf
  have hl := lv_entry ([.ref m0, .int x, .int y, .int z3]) (n := 4) (Nat.le_of_ble_eq_true rfl)
  rw [lg_entry_eq]
  generalize (lg_sl ([.ref m0, .int x, .int y, .int z3]) ++ List.replicate (4 - (lg_sl ([.ref m0, .int x, .int y, .int z3])).length) Slot.unset).toArray = ls at hl ⊢
  have hl : lv_has ls 4 [(0, .ref m0), (1, .int x), (2, .int y), (3, .int z3)] := hl
  rcases hb2 with hb1 | ⟨⟨j1, hj1, rfl⟩, hb1⟩
  · refine lv_aload_n hx hb dX7_isWrong_0 rfl (lv_at hl 0 rfl) ?_
    refine lv_aload_n hx hb dX7_isWrong_1 rfl (lv_at hl 0 rfl) ?_
    refine lv_iload_n hx hb dX7_isWrong_2 rfl (lv_at hl 1 rfl) ?_
    refine k_ci (wr := []) (w1 := [(m0, .inr (7, [.ref v, .ref a1, .ref a2, .int ik, .int th, .int en])), (v, .inl (cJ, 136800, .inr (.inl (mF N))))]) (va_runV (As := [.int x]) (rest := [.ref m0]) ⟨hx, hb, hml, hown, hts⟩ (c_X7_isNode0 l D cI cJ cM cG m0 v a1 a2 ik th en (mF N) N x s.heap.size (mF_1) (hb1) (hN) (hN0)) (cwV 1 hts (kB_V (fun _ => List.mem_cons_of_mem _) q_761 q_762 q_763 q_670 (kB_c q_764)) rfl rfl rfl (by decide +kernel) ⟨Nat.le_of_ble_eq_true rfl, Nat.le_of_ble_eq_true rfl⟩) (k_preV (T := TX7) hP hD hK hKN [0, 1] rfl rfl (ci := 7) rfl (q0 := 0) rfl) rfl rfl hl.1 rfl (lv_room (Nat.le_of_ble_eq_true rfl)) dX7_isWrong_3 ⟨Nat.le_of_ble_eq_true rfl, Nat.le_of_ble_eq_true rfl⟩) hP hD hS hA [0, 1] [] rfl rfl rfl (by decide) (fun r3 H locs hw3 hP hD hS => ?_)
    replace hP : va_P D vwCl [(m0, .inr (7, [.ref v, .ref a1, .ref a2, .int ik, .int th, .int en])), (v, .inl (cJ, 136800, .inr (.inl (mF N))))] H := hP
    replace hD : va_D A [(m0, .inr (7, [.ref v, .ref a1, .ref a2, .int ik, .int th, .int en])), (v, .inl (cJ, 136800, .inr (.inl (mF N))))] := hD
    replace hw3 : r3 = nI 0 := hw3
    refine k_ti hw3 ?_
    refine k_if_eq (tgt := 17) hx hb dX7_isWrong_6 (by decide) (by omega) (fun _ => ?_) (fun h9 => absurd h9 (by omega))
    refine lv_iconst (v := nI 1) hx hb dX7_isWrong_17 (by decide) ?_
    refine lv_goto (tgt := 43) hx hb dX7_isWrong_18 (by decide) ?_
    refine va_put (D := D) (ci := 7) (v := .int (nI 1)) (ty := .int) (C := RX7) (T := TX7) (N := 6) hx hb hts hin7 tyX7 tyX7_ok nmX7 hown hK hP hD hS 0 rfl rfl 4 (by decide) (hts (.fieldLink RX7 34 "MeshRoutingModel" "thrown" "I") (List.mem_cons_of_mem _ q_760)) (fun _ h9 => h9) rfl (by decide +kernel) rfl rfl (Nat.le_of_ble_eq_true rfl) dX7_isWrong_43 (fun H locs hP hD hS => ?_)
    replace hP : va_P D vwCl [(m0, .inr (7, [.ref v, .ref a1, .ref a2, .int ik, .int (nI 1), .int en])), (v, .inl (cJ, 136800, .inr (.inl (mF N))))] H := hP
    replace hD : va_D A [(m0, .inr (7, [.ref v, .ref a1, .ref a2, .int ik, .int (nI 1), .int en])), (v, .inl (cJ, 136800, .inr (.inl (mF N))))] := hD
    refine lv_aload_n hx hb dX7_isWrong_46 rfl (lv_at hl 0 rfl) ?_
    refine va_get (D := D) (ci := 7) (v := .int (nI 1)) (C := RX7) (T := TX7) (N := 6) hx hb hts hin7 hown hK hP 0 rfl rfl 4 (by decide) (hts (.fieldLink RX7 34 "MeshRoutingModel" "thrown" "I") (List.mem_cons_of_mem _ q_760)) (fun _ h9 => h9) rfl dX7_isWrong_47 ?_
    refine k_if_eq (tgt := 57) hx hb dX7_isWrong_50 (by decide) (by omega) (fun h9 => absurd h9 (by omega)) (fun _ => ?_)
    refine lv_iconst (v := nI 1) hx hb dX7_isWrong_53 (by decide) ?_
    refine lv_goto (tgt := 58) hx hb dX7_isWrong_54 (by decide) ?_
    have hP9 := hP.sub (ws' := [(m0, .inr (7, [.ref v, .ref a1, .ref a2, .int ik, .int (nI 1), .int en])), (v, .inl (cJ, 136800, .inr (.inl (mF N))))]) [0, 1] rfl
    have hD9 := hD.sub (ws' := [(m0, .inr (7, [.ref v, .ref a1, .ref a2, .int ik, .int (nI 1), .int en])), (v, .inl (cJ, 136800, .inr (.inl (mF N))))]) [0, 1] rfl rfl
    exact W.zret (v := nI 1) hx hb hr (by decide) (fun t9 ht9 hW9 => ⟨⟨nI 1, (), rfl, rfl, by rw [ht9]; exact hP9, hD9⟩, hS.F ht9⟩) hS.2.2 dX7_isWrong_58
  · refine lv_aload_n hx hb dX7_isWrong_0 rfl (lv_at hl 0 rfl) ?_
    refine lv_aload_n hx hb dX7_isWrong_1 rfl (lv_at hl 0 rfl) ?_
    refine lv_iload_n hx hb dX7_isWrong_2 rfl (lv_at hl 1 rfl) ?_
    refine k_ci (wr := []) (w1 := [(m0, .inr (7, [.ref v, .ref a1, .ref a2, .int ik, .int th, .int en])), (v, .inl (cJ, 136800, .inr (.inl (mF N))))]) (va_runV (As := [.int (nI j1)]) (rest := [.ref m0]) ⟨hx, hb, hml, hown, hts⟩ (c_X7_isNode1 l D cI cJ cM cG m0 v a1 a2 ik th en (mF N) N j1 s.heap.size (mF_1) (hj1) (hN) (hN0)) (cwV 1 hts (kB_V (fun _ => List.mem_cons_of_mem _) q_761 q_762 q_763 q_670 (kB_c q_764)) rfl rfl rfl (by decide +kernel) ⟨Nat.le_of_ble_eq_true rfl, Nat.le_of_ble_eq_true rfl⟩) (k_preV (T := TX7) hP hD hK hKN [0, 1] rfl rfl (ci := 7) rfl (q0 := 0) rfl) rfl rfl hl.1 rfl (lv_room (Nat.le_of_ble_eq_true rfl)) dX7_isWrong_3 ⟨Nat.le_of_ble_eq_true rfl, Nat.le_of_ble_eq_true rfl⟩) hP hD hS hA [0, 1] [] rfl rfl rfl (by decide) (fun r3 H locs hw3 hP hD hS => ?_)
    replace hP : va_P D vwCl [(m0, .inr (7, [.ref v, .ref a1, .ref a2, .int ik, .int th, .int en])), (v, .inl (cJ, 136800, .inr (.inl (mF N))))] H := hP
    replace hD : va_D A [(m0, .inr (7, [.ref v, .ref a1, .ref a2, .int ik, .int th, .int en])), (v, .inl (cJ, 136800, .inr (.inl (mF N))))] := hD
    replace hw3 : r3 = nI 1 := hw3
    refine k_ti hw3 ?_
    refine k_if_eq (tgt := 17) hx hb dX7_isWrong_6 (by decide) (by omega) (fun h9 => absurd h9 (by omega)) (fun _ => ?_)
    refine lv_aload_n hx hb dX7_isWrong_9 rfl (lv_at hl 0 rfl) ?_
    refine lv_iload_n hx hb dX7_isWrong_10 rfl (lv_at hl 2 rfl) ?_
    refine k_ci (wr := []) (w1 := [(m0, .inr (7, [.ref v, .ref a1, .ref a2, .int ik, .int th, .int en])), (v, .inl (cJ, 136800, .inr (.inl (mF N))))]) (va_runV (As := [.int y]) (rest := [.ref m0]) ⟨hx, hb, hml, hown, hts⟩ (c_X7_isNode0 l D cI cJ cM cG m0 v a1 a2 ik th en (mF N) N y H.size (mF_1) (hb1) (hN) (hN0)) (cwV 1 hts (kB_V (fun _ => List.mem_cons_of_mem _) q_761 q_762 q_763 q_670 (kB_c q_764)) rfl rfl rfl (by decide +kernel) ⟨Nat.le_of_ble_eq_true rfl, Nat.le_of_ble_eq_true rfl⟩) (k_preV (T := TX7) hP hD hK hKN [0, 1] rfl rfl (ci := 7) rfl (q0 := 0) rfl) rfl rfl hl.1 rfl (lv_room (Nat.le_of_ble_eq_true rfl)) dX7_isWrong_11 ⟨Nat.le_of_ble_eq_true rfl, Nat.le_of_ble_eq_true rfl⟩) hP hD hS hA [0, 1] [] rfl rfl rfl (by decide) (fun r11 H locs hw11 hP hD hS => ?_)
    replace hP : va_P D vwCl [(m0, .inr (7, [.ref v, .ref a1, .ref a2, .int ik, .int th, .int en])), (v, .inl (cJ, 136800, .inr (.inl (mF N))))] H := hP
    replace hD : va_D A [(m0, .inr (7, [.ref v, .ref a1, .ref a2, .int ik, .int th, .int en])), (v, .inl (cJ, 136800, .inr (.inl (mF N))))] := hD
    replace hw11 : r11 = nI 0 := hw11
    refine k_ti hw11 ?_
    refine k_if_ne (tgt := 21) hx hb dX7_isWrong_14 (by decide) (by omega) (fun h9 => absurd h9 (by omega)) (fun _ => ?_)
    refine lv_iconst (v := nI 1) hx hb dX7_isWrong_17 (by decide) ?_
    refine lv_goto (tgt := 43) hx hb dX7_isWrong_18 (by decide) ?_
    refine va_put (D := D) (ci := 7) (v := .int (nI 1)) (ty := .int) (C := RX7) (T := TX7) (N := 6) hx hb hts hin7 tyX7 tyX7_ok nmX7 hown hK hP hD hS 0 rfl rfl 4 (by decide) (hts (.fieldLink RX7 34 "MeshRoutingModel" "thrown" "I") (List.mem_cons_of_mem _ q_760)) (fun _ h9 => h9) rfl (by decide +kernel) rfl rfl (Nat.le_of_ble_eq_true rfl) dX7_isWrong_43 (fun H locs hP hD hS => ?_)
    replace hP : va_P D vwCl [(m0, .inr (7, [.ref v, .ref a1, .ref a2, .int ik, .int (nI 1), .int en])), (v, .inl (cJ, 136800, .inr (.inl (mF N))))] H := hP
    replace hD : va_D A [(m0, .inr (7, [.ref v, .ref a1, .ref a2, .int ik, .int (nI 1), .int en])), (v, .inl (cJ, 136800, .inr (.inl (mF N))))] := hD
    refine lv_aload_n hx hb dX7_isWrong_46 rfl (lv_at hl 0 rfl) ?_
    refine va_get (D := D) (ci := 7) (v := .int (nI 1)) (C := RX7) (T := TX7) (N := 6) hx hb hts hin7 hown hK hP 0 rfl rfl 4 (by decide) (hts (.fieldLink RX7 34 "MeshRoutingModel" "thrown" "I") (List.mem_cons_of_mem _ q_760)) (fun _ h9 => h9) rfl dX7_isWrong_47 ?_
    refine k_if_eq (tgt := 57) hx hb dX7_isWrong_50 (by decide) (by omega) (fun h9 => absurd h9 (by omega)) (fun _ => ?_)
    refine lv_iconst (v := nI 1) hx hb dX7_isWrong_53 (by decide) ?_
    refine lv_goto (tgt := 58) hx hb dX7_isWrong_54 (by decide) ?_
    have hP9 := hP.sub (ws' := [(m0, .inr (7, [.ref v, .ref a1, .ref a2, .int ik, .int (nI 1), .int en])), (v, .inl (cJ, 136800, .inr (.inl (mF N))))]) [0, 1] rfl
    have hD9 := hD.sub (ws' := [(m0, .inr (7, [.ref v, .ref a1, .ref a2, .int ik, .int (nI 1), .int en])), (v, .inl (cJ, 136800, .inr (.inl (mF N))))]) [0, 1] rfl rfl
    exact W.zret (v := nI 1) hx hb hr (by decide) (fun t9 ht9 hW9 => ⟨⟨nI 1, (), rfl, rfl, by rw [ht9]; exact hP9, hD9⟩, hS.F ht9⟩) hS.2.2 dX7_isWrong_58

set_option maxHeartbeats 4000000 in
set_option maxRecDepth 100000 in
theorem c_M_isWrong2 (l : Launch) (D : va_G) (cI cJ cM cG : ClassId) (m0 : Nat) (v : Nat) (a1 : Nat) (a2 : Nat) (ik : Int32) (th : Int32) (en : Int32) (N : Nat) (a : Nat) (b : Nat) (z3 : Int32) (sz : Nat) (hN : N ≤ 10) (hN0 : 0 < N) (ha : a < N) (hb9 : b < N) (hz3 : a = b ∨ (z3 < 0 ∨ nI (100000 + 1) ≤ z3)) : Met l yX7_isWrong (Cond.code yX7_isWrong cX7_isWrong 4 (some .boolean) :: kBig) ({ frames := 2, cells := 0, slots := 0, locals := 46 }) (va_Pc [.ref m0, .int (nI a), .int (nI b), .int z3] (kP D [(cI, .int), (cJ, .long), (cM, .object "MeshRouting$Message"), (cG, .array .int)] [(m0, .inr (7, [.ref v, .ref a1, .ref a2, .int ik, .int th, .int en])), (v, .inl (cJ, 136800, .inr (.inl (mF N))))] sz)) (va_Qi (fun (r : Int32) (_ : Unit) => r = nI 1) (fun _ t9 => kB D (va_A [(m0, .inr (7, [.ref v, .ref a1, .ref a2, .int ik, .int th, .int en])), (v, .inl (cJ, 136800, .inr (.inl (mF N))))] sz) [(m0, .inr (7, [.ref v, .ref a1, .ref a2, .int ik, .int (nI 2), .int en])), (v, .inl (cJ, 136800, .inr (.inl (mF N))))] t9) (va_A [(m0, .inr (7, [.ref v, .ref a1, .ref a2, .int ik, .int th, .int en])), (v, .inl (cJ, 136800, .inr (.inl (mF N))))] sz)) 0 0 (va_A [(m0, .inr (7, [.ref v, .ref a1, .ref a2, .int ik, .int th, .int en])), (v, .inl (cJ, 136800, .inr (.inl (mF N))))] sz) := by
  refine Met.ofW (cc := cX7_isWrong) (maxL := 4) (ret := (some .boolean)) (by decide) rfl ?_
  intro p e s m args below meth c s₁ B hml hv
  obtain ⟨rfl, hsz, hP, hK, hD0, hKN⟩ := hv
  have hx := B.exec
  have hb := B.bytes
  have hr := B.returns
  have hts := atoms_spec (ws := (Cond.code yX7_isWrong cX7_isWrong 4 (some .boolean) :: kBig)) B.pre
  have hown : s.vm.findClass RX7 = some m.cls := findClass_of_methodNamed B.named
  have hlocks := B.notSynchronized
  have hin7 : ∀ w ∈ u_ws RX7 TX7 6, w ∈ (Cond.code yX7_isWrong cX7_isWrong 4 (some .boolean) :: kBig) := fun w h => List.mem_cons_of_mem _ (inb7 w h)
  subst hsz
  have hD := hD0.self (sz := s.heap.size)
  generalize hAe : va_A [(m0, .inr (7, [.ref v, .ref a1, .ref a2, .int ik, .int th, .int en])), (v, .inl (cJ, 136800, .inr (.inl (mF N))))] s.heap.size = A at hD ⊢
  have hA : ∀ q : Nat, s.heap.size ≤ q → A q := fun q h => by rw [← hAe]; exact Or.inr h
  have hS : va_S A s.heap s.heap [] := va_S.rf
  have hl := lv_entry ([.ref m0, .int (nI a), .int (nI b), .int z3]) (n := 4) (Nat.le_of_ble_eq_true rfl)
  rw [lg_entry_eq]
  generalize (lg_sl ([.ref m0, .int (nI a), .int (nI b), .int z3]) ++ List.replicate (4 - (lg_sl ([.ref m0, .int (nI a), .int (nI b), .int z3])).length) Slot.unset).toArray = ls at hl ⊢
  have hl : lv_has ls 4 [(0, .ref m0), (1, .int (nI a)), (2, .int (nI b)), (3, .int z3)] := hl
  refine lv_aload_n hx hb dX7_isWrong_0 rfl (lv_at hl 0 rfl) ?_
  refine lv_aload_n hx hb dX7_isWrong_1 rfl (lv_at hl 0 rfl) ?_
  refine lv_iload_n hx hb dX7_isWrong_2 rfl (lv_at hl 1 rfl) ?_
  refine k_ci (wr := []) (w1 := [(m0, .inr (7, [.ref v, .ref a1, .ref a2, .int ik, .int th, .int en])), (v, .inl (cJ, 136800, .inr (.inl (mF N))))]) (va_runV (As := [.int (nI a)]) (rest := [.ref m0]) ⟨hx, hb, hml, hown, hts⟩ (c_X7_isNode1 l D cI cJ cM cG m0 v a1 a2 ik th en (mF N) N a s.heap.size (mF_1) (ha) (hN) (hN0)) (cwV 1 hts (kB_V (fun _ => List.mem_cons_of_mem _) q_761 q_762 q_763 q_670 (kB_c q_764)) rfl rfl rfl (by decide +kernel) ⟨Nat.le_of_ble_eq_true rfl, Nat.le_of_ble_eq_true rfl⟩) (k_preV (T := TX7) hP hD hK hKN [0, 1] rfl rfl (ci := 7) rfl (q0 := 0) rfl) rfl rfl hl.1 rfl (lv_room (Nat.le_of_ble_eq_true rfl)) dX7_isWrong_3 ⟨Nat.le_of_ble_eq_true rfl, Nat.le_of_ble_eq_true rfl⟩) hP hD hS hA [0, 1] [] rfl rfl rfl (by decide) (fun r3 H locs hw3 hP hD hS => ?_)
  replace hP : va_P D vwCl [(m0, .inr (7, [.ref v, .ref a1, .ref a2, .int ik, .int th, .int en])), (v, .inl (cJ, 136800, .inr (.inl (mF N))))] H := hP
  replace hD : va_D A [(m0, .inr (7, [.ref v, .ref a1, .ref a2, .int ik, .int th, .int en])), (v, .inl (cJ, 136800, .inr (.inl (mF N))))] := hD
  replace hw3 : r3 = nI 1 := hw3
  refine k_ti hw3 ?_
  refine k_if_eq (tgt := 17) hx hb dX7_isWrong_6 (by decide) (by omega) (fun h9 => absurd h9 (by omega)) (fun _ => ?_)
  refine lv_aload_n hx hb dX7_isWrong_9 rfl (lv_at hl 0 rfl) ?_
  refine lv_iload_n hx hb dX7_isWrong_10 rfl (lv_at hl 2 rfl) ?_
  refine k_ci (wr := []) (w1 := [(m0, .inr (7, [.ref v, .ref a1, .ref a2, .int ik, .int th, .int en])), (v, .inl (cJ, 136800, .inr (.inl (mF N))))]) (va_runV (As := [.int (nI b)]) (rest := [.ref m0]) ⟨hx, hb, hml, hown, hts⟩ (c_X7_isNode1 l D cI cJ cM cG m0 v a1 a2 ik th en (mF N) N b H.size (mF_1) (hb9) (hN) (hN0)) (cwV 1 hts (kB_V (fun _ => List.mem_cons_of_mem _) q_761 q_762 q_763 q_670 (kB_c q_764)) rfl rfl rfl (by decide +kernel) ⟨Nat.le_of_ble_eq_true rfl, Nat.le_of_ble_eq_true rfl⟩) (k_preV (T := TX7) hP hD hK hKN [0, 1] rfl rfl (ci := 7) rfl (q0 := 0) rfl) rfl rfl hl.1 rfl (lv_room (Nat.le_of_ble_eq_true rfl)) dX7_isWrong_11 ⟨Nat.le_of_ble_eq_true rfl, Nat.le_of_ble_eq_true rfl⟩) hP hD hS hA [0, 1] [] rfl rfl rfl (by decide) (fun r11 H locs hw11 hP hD hS => ?_)
  replace hP : va_P D vwCl [(m0, .inr (7, [.ref v, .ref a1, .ref a2, .int ik, .int th, .int en])), (v, .inl (cJ, 136800, .inr (.inl (mF N))))] H := hP
  replace hD : va_D A [(m0, .inr (7, [.ref v, .ref a1, .ref a2, .int ik, .int th, .int en])), (v, .inl (cJ, 136800, .inr (.inl (mF N))))] := hD
  replace hw11 : r11 = nI 1 := hw11
  refine k_ti hw11 ?_
  refine k_if_ne (tgt := 21) hx hb dX7_isWrong_14 (by decide) (by omega) (fun _ => ?_) (fun h9 => absurd h9 (by omega))
  refine lv_iload_n hx hb dX7_isWrong_21 rfl (lv_at hl 1 rfl) ?_
  refine lv_iload_n hx hb dX7_isWrong_22 rfl (lv_at hl 2 rfl) ?_
  refine k_icmp_eq (tgt := 38) hx hb dX7_isWrong_23 (by decide) (by omega) (by omega) (fun hc => ?_) (fun hc => ?_)
  · refine lv_iconst (v := nI 2) hx hb dX7_isWrong_38 (by decide) ?_
    refine lv_goto (tgt := 43) hx hb dX7_isWrong_39 (by decide) ?_
    refine va_put (D := D) (ci := 7) (v := .int (nI 2)) (ty := .int) (C := RX7) (T := TX7) (N := 6) hx hb hts hin7 tyX7 tyX7_ok nmX7 hown hK hP hD hS 0 rfl rfl 4 (by decide) (hts (.fieldLink RX7 34 "MeshRoutingModel" "thrown" "I") (List.mem_cons_of_mem _ q_760)) (fun _ h9 => h9) rfl (by decide +kernel) rfl rfl (Nat.le_of_ble_eq_true rfl) dX7_isWrong_43 (fun H locs hP hD hS => ?_)
    replace hP : va_P D vwCl [(m0, .inr (7, [.ref v, .ref a1, .ref a2, .int ik, .int (nI 2), .int en])), (v, .inl (cJ, 136800, .inr (.inl (mF N))))] H := hP
    replace hD : va_D A [(m0, .inr (7, [.ref v, .ref a1, .ref a2, .int ik, .int (nI 2), .int en])), (v, .inl (cJ, 136800, .inr (.inl (mF N))))] := hD
    refine lv_aload_n hx hb dX7_isWrong_46 rfl (lv_at hl 0 rfl) ?_
    refine va_get (D := D) (ci := 7) (v := .int (nI 2)) (C := RX7) (T := TX7) (N := 6) hx hb hts hin7 hown hK hP 0 rfl rfl 4 (by decide) (hts (.fieldLink RX7 34 "MeshRoutingModel" "thrown" "I") (List.mem_cons_of_mem _ q_760)) (fun _ h9 => h9) rfl dX7_isWrong_47 ?_
    refine k_if_eq (tgt := 57) hx hb dX7_isWrong_50 (by decide) (by omega) (fun h9 => absurd h9 (by omega)) (fun _ => ?_)
    refine lv_iconst (v := nI 1) hx hb dX7_isWrong_53 (by decide) ?_
    refine lv_goto (tgt := 58) hx hb dX7_isWrong_54 (by decide) ?_
    have hP9 := hP.sub (ws' := [(m0, .inr (7, [.ref v, .ref a1, .ref a2, .int ik, .int (nI 2), .int en])), (v, .inl (cJ, 136800, .inr (.inl (mF N))))]) [0, 1] rfl
    have hD9 := hD.sub (ws' := [(m0, .inr (7, [.ref v, .ref a1, .ref a2, .int ik, .int (nI 2), .int en])), (v, .inl (cJ, 136800, .inr (.inl (mF N))))]) [0, 1] rfl rfl
    exact W.zret (v := nI 1) hx hb hr (by decide) (fun t9 ht9 hW9 => ⟨⟨nI 1, (), rfl, rfl, by rw [ht9]; exact hP9, hD9⟩, hS.F ht9⟩) hS.2.2 dX7_isWrong_58
  · refine lv_iload_n hx hb dX7_isWrong_26 rfl (lv_at hl 3 rfl) ?_
    refine lv_i2l (v := z3.toInt64) hx hb dX7_isWrong_27 (rfl) ?_
    refine lv_lconst (v := lN 0) hx hb dX7_isWrong_28 (by decide) ?_
    refine lv_ldc2 (v := 100000) hx hb hown (by exact hts (.constantLong RX7 232 (100000)) (List.mem_cons_of_mem _ q_774)) dX7_isWrong_29 ?_
    refine k_tl (show (100000) = (lN 100000) from by decide) ?_
    refine k_ci (wr := [(m0, .inr (7, [.ref v, .ref a1, .ref a2, .int ik, .int th, .int en])), (v, .inl (cJ, 136800, .inr (.inl (mF N))))]) (w1 := []) (va_runS (As := [.long z3.toInt64, .long (lN 0), .long (lN 100000)]) (rest := [.ref m0]) ⟨hx, hb, hml, hown, hts⟩ (c_X7_in0 l D cI cJ cM cG z3.toInt64 (lN 0) (lN 100000) H.size (k_over (n := 100000) (by omega) (hz3.resolve_left hc))) (va_cwS 3 hts (kB_S (fun _ => List.mem_cons_of_mem _) q_765 q_766 q_670 (kB_c q_767)) rfl rfl rfl (by decide +kernel) ⟨Nat.le_of_ble_eq_true rfl, Nat.le_of_ble_eq_true rfl⟩) (k_preS hP hD hK hKN [] rfl rfl) rfl rfl hl.1 rfl (lv_room (Nat.le_of_ble_eq_true rfl)) dX7_isWrong_32 ⟨Nat.le_of_ble_eq_true rfl, Nat.le_of_ble_eq_true rfl⟩) hP hD hS hA [] [0, 1] rfl rfl rfl (by decide) (fun r32 H locs hw32 hP hD hS => ?_)
    replace hP : va_P D vwCl [(m0, .inr (7, [.ref v, .ref a1, .ref a2, .int ik, .int th, .int en])), (v, .inl (cJ, 136800, .inr (.inl (mF N))))] H := hP
    replace hD : va_D A [(m0, .inr (7, [.ref v, .ref a1, .ref a2, .int ik, .int th, .int en])), (v, .inl (cJ, 136800, .inr (.inl (mF N))))] := hD
    replace hw32 : r32 = nI 0 := hw32
    refine k_ti hw32 ?_
    refine k_if_ne (tgt := 42) hx hb dX7_isWrong_35 (by decide) (by omega) (fun h9 => absurd h9 (by omega)) (fun _ => ?_)
    refine lv_iconst (v := nI 2) hx hb dX7_isWrong_38 (by decide) ?_
    refine lv_goto (tgt := 43) hx hb dX7_isWrong_39 (by decide) ?_
    refine va_put (D := D) (ci := 7) (v := .int (nI 2)) (ty := .int) (C := RX7) (T := TX7) (N := 6) hx hb hts hin7 tyX7 tyX7_ok nmX7 hown hK hP hD hS 0 rfl rfl 4 (by decide) (hts (.fieldLink RX7 34 "MeshRoutingModel" "thrown" "I") (List.mem_cons_of_mem _ q_760)) (fun _ h9 => h9) rfl (by decide +kernel) rfl rfl (Nat.le_of_ble_eq_true rfl) dX7_isWrong_43 (fun H locs hP hD hS => ?_)
    replace hP : va_P D vwCl [(m0, .inr (7, [.ref v, .ref a1, .ref a2, .int ik, .int (nI 2), .int en])), (v, .inl (cJ, 136800, .inr (.inl (mF N))))] H := hP
    replace hD : va_D A [(m0, .inr (7, [.ref v, .ref a1, .ref a2, .int ik, .int (nI 2), .int en])), (v, .inl (cJ, 136800, .inr (.inl (mF N))))] := hD
    refine lv_aload_n hx hb dX7_isWrong_46 rfl (lv_at hl 0 rfl) ?_
    refine va_get (D := D) (ci := 7) (v := .int (nI 2)) (C := RX7) (T := TX7) (N := 6) hx hb hts hin7 hown hK hP 0 rfl rfl 4 (by decide) (hts (.fieldLink RX7 34 "MeshRoutingModel" "thrown" "I") (List.mem_cons_of_mem _ q_760)) (fun _ h9 => h9) rfl dX7_isWrong_47 ?_
    refine k_if_eq (tgt := 57) hx hb dX7_isWrong_50 (by decide) (by omega) (fun h9 => absurd h9 (by omega)) (fun _ => ?_)
    refine lv_iconst (v := nI 1) hx hb dX7_isWrong_53 (by decide) ?_
    refine lv_goto (tgt := 58) hx hb dX7_isWrong_54 (by decide) ?_
    have hP9 := hP.sub (ws' := [(m0, .inr (7, [.ref v, .ref a1, .ref a2, .int ik, .int (nI 2), .int en])), (v, .inl (cJ, 136800, .inr (.inl (mF N))))]) [0, 1] rfl
    have hD9 := hD.sub (ws' := [(m0, .inr (7, [.ref v, .ref a1, .ref a2, .int ik, .int (nI 2), .int en])), (v, .inl (cJ, 136800, .inr (.inl (mF N))))]) [0, 1] rfl rfl
    exact W.zret (v := nI 1) hx hb hr (by decide) (fun t9 ht9 hW9 => ⟨⟨nI 1, (), rfl, rfl, by rw [ht9]; exact hP9, hD9⟩, hS.F ht9⟩) hS.2.2 dX7_isWrong_58

set_option maxHeartbeats 4000000 in
set_option maxRecDepth 100000 in
theorem c_M_forecast0 (l : Launch) (D : va_G) (cI cJ cM cG : ClassId) (m0 : Nat) (v : Nat) (a1 : Nat) (a2 : Nat) (ik : Int32) (th : Int32) (en : Int32) (N : Nat) (x : Int32) (y : Int32) (z3 : Int32) (sz : Nat) (hN : N ≤ 10) (hN0 : 0 < N) (hb2 : kBad2 N x y) : Met l yX7_forecast (Cond.code yX7_forecast cX7_forecast 7 (some .int) :: kBig) ({ frames := 3, cells := 0, slots := 0, locals := 69 }) (va_Pc [.ref m0, .int x, .int y, .int z3] (kP D [(cI, .int), (cJ, .long), (cM, .object "MeshRouting$Message"), (cG, .array .int)] [(m0, .inr (7, [.ref v, .ref a1, .ref a2, .int ik, .int th, .int en])), (v, .inl (cJ, 136800, .inr (.inl (mF N))))] sz)) (va_Qi (fun (r : Int32) (_ : Unit) => r = nI 0) (fun _ t9 => kB D (va_A [(m0, .inr (7, [.ref v, .ref a1, .ref a2, .int ik, .int th, .int en])), (v, .inl (cJ, 136800, .inr (.inl (mF N))))] sz) [(m0, .inr (7, [.ref v, .ref a1, .ref a2, .int ik, .int (nI 1), .int en]))] t9) (va_A [(m0, .inr (7, [.ref v, .ref a1, .ref a2, .int ik, .int th, .int en])), (v, .inl (cJ, 136800, .inr (.inl (mF N))))] sz)) 0 0 (va_A [(m0, .inr (7, [.ref v, .ref a1, .ref a2, .int ik, .int th, .int en])), (v, .inl (cJ, 136800, .inr (.inl (mF N))))] sz) := by
  refine Met.ofW (cc := cX7_forecast) (maxL := 7) (ret := (some .int)) (by decide) rfl ?_
  intro p e s m args below meth c s₁ B hml hv
  obtain ⟨rfl, hsz, hP, hK, hD0, hKN⟩ := hv
  have hx := B.exec
  have hb := B.bytes
  have hr := B.returns
  have hts := atoms_spec (ws := (Cond.code yX7_forecast cX7_forecast 7 (some .int) :: kBig)) B.pre
  have hown : s.vm.findClass RX7 = some m.cls := findClass_of_methodNamed B.named
  have hlocks := B.notSynchronized
  subst hsz
  have hD := hD0.self (sz := s.heap.size)
  generalize hAe : va_A [(m0, .inr (7, [.ref v, .ref a1, .ref a2, .int ik, .int th, .int en])), (v, .inl (cJ, 136800, .inr (.inl (mF N))))] s.heap.size = A at hD ⊢
  have hA : ∀ q : Nat, s.heap.size ≤ q → A q := fun q h => by rw [← hAe]; exact Or.inr h
  have hS : va_S A s.heap s.heap [] := va_S.rf
  have hl := lv_entry ([.ref m0, .int x, .int y, .int z3]) (n := 7) (Nat.le_of_ble_eq_true rfl)
  rw [lg_entry_eq]
  generalize (lg_sl ([.ref m0, .int x, .int y, .int z3]) ++ List.replicate (7 - (lg_sl ([.ref m0, .int x, .int y, .int z3])).length) Slot.unset).toArray = ls at hl ⊢
  have hl : lv_has ls 7 [(0, .ref m0), (1, .int x), (2, .int y), (3, .int z3)] := hl
  refine lv_aload_n hx hb dX7_forecast_0 rfl (lv_at hl 0 rfl) ?_
  refine lv_iload_n hx hb dX7_forecast_1 rfl (lv_at hl 1 rfl) ?_
  refine lv_iload_n hx hb dX7_forecast_2 rfl (lv_at hl 2 rfl) ?_
  refine lv_iload_n hx hb dX7_forecast_3 rfl (lv_at hl 3 rfl) ?_
  refine k_ci (wr := []) (w1 := [(m0, .inr (7, [.ref v, .ref a1, .ref a2, .int ik, .int (nI 1), .int en])), (v, .inl (cJ, 136800, .inr (.inl (mF N))))]) (va_runV (As := [.int x, .int y, .int z3]) (rest := []) ⟨hx, hb, hml, hown, hts⟩ (c_M_isWrong0 l D cI cJ cM cG m0 v a1 a2 ik th en N x y z3 s.heap.size (hN) (hN0) (hb2)) (cwV 3 hts (kB_V (fun _ => List.mem_cons_of_mem _) q_770 q_771 q_772 q_670 (kB_c q_773)) rfl rfl rfl (by decide +kernel) ⟨Nat.le_of_ble_eq_true rfl, Nat.le_of_ble_eq_true rfl⟩) (k_preV (T := TX7) hP hD hK hKN [0, 1] rfl rfl (ci := 7) rfl (q0 := 0) rfl) rfl rfl hl.1 rfl (lv_room (Nat.le_of_ble_eq_true rfl)) dX7_forecast_4 ⟨Nat.le_of_ble_eq_true rfl, Nat.le_of_ble_eq_true rfl⟩) hP hD hS hA [0, 1] [] rfl rfl rfl (by decide) (fun r4 H locs hw4 hP hD hS => ?_)
  replace hP : va_P D vwCl [(m0, .inr (7, [.ref v, .ref a1, .ref a2, .int ik, .int (nI 1), .int en])), (v, .inl (cJ, 136800, .inr (.inl (mF N))))] H := hP
  replace hD : va_D A [(m0, .inr (7, [.ref v, .ref a1, .ref a2, .int ik, .int (nI 1), .int en])), (v, .inl (cJ, 136800, .inr (.inl (mF N))))] := hD
  replace hw4 : r4 = nI 1 := hw4
  refine k_ti hw4 ?_
  refine k_if_eq (tgt := 12) hx hb dX7_forecast_7 (by decide) (by omega) (fun h9 => absurd h9 (by omega)) (fun _ => ?_)
  refine lv_iconst (v := nI 0) hx hb dX7_forecast_10 (by decide) ?_
  have hP9 := hP.sub (ws' := [(m0, .inr (7, [.ref v, .ref a1, .ref a2, .int ik, .int (nI 1), .int en]))]) [0] rfl
  have hD9 := hD.sub (ws' := [(m0, .inr (7, [.ref v, .ref a1, .ref a2, .int ik, .int (nI 1), .int en]))]) [0] rfl rfl
  exact W.iret (v := nI 0) hx hb hr (fun t9 ht9 hW9 => ⟨⟨nI 0, (), rfl, rfl, by rw [ht9]; exact hP9, hD9⟩, hS.F ht9⟩) hS.2.2 dX7_forecast_11

set_option maxHeartbeats 4000000 in
set_option maxRecDepth 100000 in
theorem c_M_forecast2 (l : Launch) (D : va_G) (cI cJ cM cG : ClassId) (m0 : Nat) (v : Nat) (a1 : Nat) (a2 : Nat) (ik : Int32) (th : Int32) (en : Int32) (N : Nat) (a : Nat) (b : Nat) (z3 : Int32) (sz : Nat) (hN : N ≤ 10) (hN0 : 0 < N) (ha : a < N) (hb9 : b < N) (hz3 : a = b ∨ (z3 < 0 ∨ nI (100000 + 1) ≤ z3)) : Met l yX7_forecast (Cond.code yX7_forecast cX7_forecast 7 (some .int) :: kBig) ({ frames := 3, cells := 0, slots := 0, locals := 69 }) (va_Pc [.ref m0, .int (nI a), .int (nI b), .int z3] (kP D [(cI, .int), (cJ, .long), (cM, .object "MeshRouting$Message"), (cG, .array .int)] [(m0, .inr (7, [.ref v, .ref a1, .ref a2, .int ik, .int th, .int en])), (v, .inl (cJ, 136800, .inr (.inl (mF N))))] sz)) (va_Qi (fun (r : Int32) (_ : Unit) => r = nI 0) (fun _ t9 => kB D (va_A [(m0, .inr (7, [.ref v, .ref a1, .ref a2, .int ik, .int th, .int en])), (v, .inl (cJ, 136800, .inr (.inl (mF N))))] sz) [(m0, .inr (7, [.ref v, .ref a1, .ref a2, .int ik, .int (nI 2), .int en]))] t9) (va_A [(m0, .inr (7, [.ref v, .ref a1, .ref a2, .int ik, .int th, .int en])), (v, .inl (cJ, 136800, .inr (.inl (mF N))))] sz)) 0 0 (va_A [(m0, .inr (7, [.ref v, .ref a1, .ref a2, .int ik, .int th, .int en])), (v, .inl (cJ, 136800, .inr (.inl (mF N))))] sz) := by
  refine Met.ofW (cc := cX7_forecast) (maxL := 7) (ret := (some .int)) (by decide) rfl ?_
  intro p e s m args below meth c s₁ B hml hv
  obtain ⟨rfl, hsz, hP, hK, hD0, hKN⟩ := hv
  have hx := B.exec
  have hb := B.bytes
  have hr := B.returns
  have hts := atoms_spec (ws := (Cond.code yX7_forecast cX7_forecast 7 (some .int) :: kBig)) B.pre
  have hown : s.vm.findClass RX7 = some m.cls := findClass_of_methodNamed B.named
  have hlocks := B.notSynchronized
  subst hsz
  have hD := hD0.self (sz := s.heap.size)
  generalize hAe : va_A [(m0, .inr (7, [.ref v, .ref a1, .ref a2, .int ik, .int th, .int en])), (v, .inl (cJ, 136800, .inr (.inl (mF N))))] s.heap.size = A at hD ⊢
  have hA : ∀ q : Nat, s.heap.size ≤ q → A q := fun q h => by rw [← hAe]; exact Or.inr h
  have hS : va_S A s.heap s.heap [] := va_S.rf
  have hl := lv_entry ([.ref m0, .int (nI a), .int (nI b), .int z3]) (n := 7) (Nat.le_of_ble_eq_true rfl)
  rw [lg_entry_eq]
  generalize (lg_sl ([.ref m0, .int (nI a), .int (nI b), .int z3]) ++ List.replicate (7 - (lg_sl ([.ref m0, .int (nI a), .int (nI b), .int z3])).length) Slot.unset).toArray = ls at hl ⊢
  have hl : lv_has ls 7 [(0, .ref m0), (1, .int (nI a)), (2, .int (nI b)), (3, .int z3)] := hl
  refine lv_aload_n hx hb dX7_forecast_0 rfl (lv_at hl 0 rfl) ?_
  refine lv_iload_n hx hb dX7_forecast_1 rfl (lv_at hl 1 rfl) ?_
  refine lv_iload_n hx hb dX7_forecast_2 rfl (lv_at hl 2 rfl) ?_
  refine lv_iload_n hx hb dX7_forecast_3 rfl (lv_at hl 3 rfl) ?_
  refine k_ci (wr := []) (w1 := [(m0, .inr (7, [.ref v, .ref a1, .ref a2, .int ik, .int (nI 2), .int en])), (v, .inl (cJ, 136800, .inr (.inl (mF N))))]) (va_runV (As := [.int (nI a), .int (nI b), .int z3]) (rest := []) ⟨hx, hb, hml, hown, hts⟩ (c_M_isWrong2 l D cI cJ cM cG m0 v a1 a2 ik th en N a b z3 s.heap.size (hN) (hN0) (ha) (hb9) (hz3)) (cwV 3 hts (kB_V (fun _ => List.mem_cons_of_mem _) q_770 q_771 q_772 q_670 (kB_c q_773)) rfl rfl rfl (by decide +kernel) ⟨Nat.le_of_ble_eq_true rfl, Nat.le_of_ble_eq_true rfl⟩) (k_preV (T := TX7) hP hD hK hKN [0, 1] rfl rfl (ci := 7) rfl (q0 := 0) rfl) rfl rfl hl.1 rfl (lv_room (Nat.le_of_ble_eq_true rfl)) dX7_forecast_4 ⟨Nat.le_of_ble_eq_true rfl, Nat.le_of_ble_eq_true rfl⟩) hP hD hS hA [0, 1] [] rfl rfl rfl (by decide) (fun r4 H locs hw4 hP hD hS => ?_)
  replace hP : va_P D vwCl [(m0, .inr (7, [.ref v, .ref a1, .ref a2, .int ik, .int (nI 2), .int en])), (v, .inl (cJ, 136800, .inr (.inl (mF N))))] H := hP
  replace hD : va_D A [(m0, .inr (7, [.ref v, .ref a1, .ref a2, .int ik, .int (nI 2), .int en])), (v, .inl (cJ, 136800, .inr (.inl (mF N))))] := hD
  replace hw4 : r4 = nI 1 := hw4
  refine k_ti hw4 ?_
  refine k_if_eq (tgt := 12) hx hb dX7_forecast_7 (by decide) (by omega) (fun h9 => absurd h9 (by omega)) (fun _ => ?_)
  refine lv_iconst (v := nI 0) hx hb dX7_forecast_10 (by decide) ?_
  have hP9 := hP.sub (ws' := [(m0, .inr (7, [.ref v, .ref a1, .ref a2, .int ik, .int (nI 2), .int en]))]) [0] rfl
  have hD9 := hD.sub (ws' := [(m0, .inr (7, [.ref v, .ref a1, .ref a2, .int ik, .int (nI 2), .int en]))]) [0] rfl rfl
  exact W.iret (v := nI 0) hx hb hr (fun t9 ht9 hW9 => ⟨⟨nI 0, (), rfl, rfl, by rw [ht9]; exact hP9, hD9⟩, hS.F ht9⟩) hS.2.2 dX7_forecast_11

set_option maxHeartbeats 4000000 in
set_option maxRecDepth 100000 in
theorem c_M_damage0 (l : Launch) (D : va_G) (cI cJ cM cG : ClassId) (m0 : Nat) (v : Nat) (a1 : Nat) (a2 : Nat) (ik : Int32) (th : Int32) (en : Int32) (N : Nat) (x : Int32) (y : Int32) (z3 : Int32) (sz : Nat) (hN : N ≤ 10) (hN0 : 0 < N) (hb2 : kBad2 N x y) : Met l yX7_damage (Cond.code yX7_damage cX7_damage 8 (some .int) :: kBig) ({ frames := 3, cells := 0, slots := 0, locals := 69 }) (va_Pc [.ref m0, .int x, .int y, .int z3] (kP D [(cI, .int), (cJ, .long), (cM, .object "MeshRouting$Message"), (cG, .array .int)] [(m0, .inr (7, [.ref v, .ref a1, .ref a2, .int ik, .int th, .int en])), (v, .inl (cJ, 136800, .inr (.inl (mF N))))] sz)) (va_Qi (fun (r : Int32) (_ : Unit) => r = nI 0) (fun _ t9 => kB D (va_A [(m0, .inr (7, [.ref v, .ref a1, .ref a2, .int ik, .int th, .int en])), (v, .inl (cJ, 136800, .inr (.inl (mF N))))] sz) [(m0, .inr (7, [.ref v, .ref a1, .ref a2, .int ik, .int (nI 1), .int en]))] t9) (va_A [(m0, .inr (7, [.ref v, .ref a1, .ref a2, .int ik, .int th, .int en])), (v, .inl (cJ, 136800, .inr (.inl (mF N))))] sz)) 0 0 (va_A [(m0, .inr (7, [.ref v, .ref a1, .ref a2, .int ik, .int th, .int en])), (v, .inl (cJ, 136800, .inr (.inl (mF N))))] sz) := by
  refine Met.ofW (cc := cX7_damage) (maxL := 8) (ret := (some .int)) (by decide) rfl ?_
  intro p e s m args below meth c s₁ B hml hv
  obtain ⟨rfl, hsz, hP, hK, hD0, hKN⟩ := hv
  have hx := B.exec
  have hb := B.bytes
  have hr := B.returns
  have hts := atoms_spec (ws := (Cond.code yX7_damage cX7_damage 8 (some .int) :: kBig)) B.pre
  have hown : s.vm.findClass RX7 = some m.cls := findClass_of_methodNamed B.named
  have hlocks := B.notSynchronized
  subst hsz
  have hD := hD0.self (sz := s.heap.size)
  generalize hAe : va_A [(m0, .inr (7, [.ref v, .ref a1, .ref a2, .int ik, .int th, .int en])), (v, .inl (cJ, 136800, .inr (.inl (mF N))))] s.heap.size = A at hD ⊢
  have hA : ∀ q : Nat, s.heap.size ≤ q → A q := fun q h => by rw [← hAe]; exact Or.inr h
  have hS : va_S A s.heap s.heap [] := va_S.rf
  have hl := lv_entry ([.ref m0, .int x, .int y, .int z3]) (n := 8) (Nat.le_of_ble_eq_true rfl)
  rw [lg_entry_eq]
  generalize (lg_sl ([.ref m0, .int x, .int y, .int z3]) ++ List.replicate (8 - (lg_sl ([.ref m0, .int x, .int y, .int z3])).length) Slot.unset).toArray = ls at hl ⊢
  have hl : lv_has ls 8 [(0, .ref m0), (1, .int x), (2, .int y), (3, .int z3)] := hl
  refine lv_aload_n hx hb dX7_damage_0 rfl (lv_at hl 0 rfl) ?_
  refine lv_iload_n hx hb dX7_damage_1 rfl (lv_at hl 1 rfl) ?_
  refine lv_iload_n hx hb dX7_damage_2 rfl (lv_at hl 2 rfl) ?_
  refine lv_iload_n hx hb dX7_damage_3 rfl (lv_at hl 3 rfl) ?_
  refine k_ci (wr := []) (w1 := [(m0, .inr (7, [.ref v, .ref a1, .ref a2, .int ik, .int (nI 1), .int en])), (v, .inl (cJ, 136800, .inr (.inl (mF N))))]) (va_runV (As := [.int x, .int y, .int z3]) (rest := []) ⟨hx, hb, hml, hown, hts⟩ (c_M_isWrong0 l D cI cJ cM cG m0 v a1 a2 ik th en N x y z3 s.heap.size (hN) (hN0) (hb2)) (cwV 3 hts (kB_V (fun _ => List.mem_cons_of_mem _) q_770 q_771 q_772 q_670 (kB_c q_773)) rfl rfl rfl (by decide +kernel) ⟨Nat.le_of_ble_eq_true rfl, Nat.le_of_ble_eq_true rfl⟩) (k_preV (T := TX7) hP hD hK hKN [0, 1] rfl rfl (ci := 7) rfl (q0 := 0) rfl) rfl rfl hl.1 rfl (lv_room (Nat.le_of_ble_eq_true rfl)) dX7_damage_4 ⟨Nat.le_of_ble_eq_true rfl, Nat.le_of_ble_eq_true rfl⟩) hP hD hS hA [0, 1] [] rfl rfl rfl (by decide) (fun r4 H locs hw4 hP hD hS => ?_)
  replace hP : va_P D vwCl [(m0, .inr (7, [.ref v, .ref a1, .ref a2, .int ik, .int (nI 1), .int en])), (v, .inl (cJ, 136800, .inr (.inl (mF N))))] H := hP
  replace hD : va_D A [(m0, .inr (7, [.ref v, .ref a1, .ref a2, .int ik, .int (nI 1), .int en])), (v, .inl (cJ, 136800, .inr (.inl (mF N))))] := hD
  replace hw4 : r4 = nI 1 := hw4
  refine k_ti hw4 ?_
  refine k_if_eq (tgt := 12) hx hb dX7_damage_7 (by decide) (by omega) (fun h9 => absurd h9 (by omega)) (fun _ => ?_)
  refine lv_iconst (v := nI 0) hx hb dX7_damage_10 (by decide) ?_
  have hP9 := hP.sub (ws' := [(m0, .inr (7, [.ref v, .ref a1, .ref a2, .int ik, .int (nI 1), .int en]))]) [0] rfl
  have hD9 := hD.sub (ws' := [(m0, .inr (7, [.ref v, .ref a1, .ref a2, .int ik, .int (nI 1), .int en]))]) [0] rfl rfl
  exact W.iret (v := nI 0) hx hb hr (fun t9 ht9 hW9 => ⟨⟨nI 0, (), rfl, rfl, by rw [ht9]; exact hP9, hD9⟩, hS.F ht9⟩) hS.2.2 dX7_damage_11

set_option maxHeartbeats 4000000 in
set_option maxRecDepth 100000 in
theorem c_M_damage2 (l : Launch) (D : va_G) (cI cJ cM cG : ClassId) (m0 : Nat) (v : Nat) (a1 : Nat) (a2 : Nat) (ik : Int32) (th : Int32) (en : Int32) (N : Nat) (a : Nat) (b : Nat) (z3 : Int32) (sz : Nat) (hN : N ≤ 10) (hN0 : 0 < N) (ha : a < N) (hb9 : b < N) (hz3 : a = b ∨ (z3 < 0 ∨ nI (100000 + 1) ≤ z3)) : Met l yX7_damage (Cond.code yX7_damage cX7_damage 8 (some .int) :: kBig) ({ frames := 3, cells := 0, slots := 0, locals := 69 }) (va_Pc [.ref m0, .int (nI a), .int (nI b), .int z3] (kP D [(cI, .int), (cJ, .long), (cM, .object "MeshRouting$Message"), (cG, .array .int)] [(m0, .inr (7, [.ref v, .ref a1, .ref a2, .int ik, .int th, .int en])), (v, .inl (cJ, 136800, .inr (.inl (mF N))))] sz)) (va_Qi (fun (r : Int32) (_ : Unit) => r = nI 0) (fun _ t9 => kB D (va_A [(m0, .inr (7, [.ref v, .ref a1, .ref a2, .int ik, .int th, .int en])), (v, .inl (cJ, 136800, .inr (.inl (mF N))))] sz) [(m0, .inr (7, [.ref v, .ref a1, .ref a2, .int ik, .int (nI 2), .int en]))] t9) (va_A [(m0, .inr (7, [.ref v, .ref a1, .ref a2, .int ik, .int th, .int en])), (v, .inl (cJ, 136800, .inr (.inl (mF N))))] sz)) 0 0 (va_A [(m0, .inr (7, [.ref v, .ref a1, .ref a2, .int ik, .int th, .int en])), (v, .inl (cJ, 136800, .inr (.inl (mF N))))] sz) := by
  refine Met.ofW (cc := cX7_damage) (maxL := 8) (ret := (some .int)) (by decide) rfl ?_
  intro p e s m args below meth c s₁ B hml hv
  obtain ⟨rfl, hsz, hP, hK, hD0, hKN⟩ := hv
  have hx := B.exec
  have hb := B.bytes
  have hr := B.returns
  have hts := atoms_spec (ws := (Cond.code yX7_damage cX7_damage 8 (some .int) :: kBig)) B.pre
  have hown : s.vm.findClass RX7 = some m.cls := findClass_of_methodNamed B.named
  have hlocks := B.notSynchronized
  subst hsz
  have hD := hD0.self (sz := s.heap.size)
  generalize hAe : va_A [(m0, .inr (7, [.ref v, .ref a1, .ref a2, .int ik, .int th, .int en])), (v, .inl (cJ, 136800, .inr (.inl (mF N))))] s.heap.size = A at hD ⊢
  have hA : ∀ q : Nat, s.heap.size ≤ q → A q := fun q h => by rw [← hAe]; exact Or.inr h
  have hS : va_S A s.heap s.heap [] := va_S.rf
  have hl := lv_entry ([.ref m0, .int (nI a), .int (nI b), .int z3]) (n := 8) (Nat.le_of_ble_eq_true rfl)
  rw [lg_entry_eq]
  generalize (lg_sl ([.ref m0, .int (nI a), .int (nI b), .int z3]) ++ List.replicate (8 - (lg_sl ([.ref m0, .int (nI a), .int (nI b), .int z3])).length) Slot.unset).toArray = ls at hl ⊢
  have hl : lv_has ls 8 [(0, .ref m0), (1, .int (nI a)), (2, .int (nI b)), (3, .int z3)] := hl
  refine lv_aload_n hx hb dX7_damage_0 rfl (lv_at hl 0 rfl) ?_
  refine lv_iload_n hx hb dX7_damage_1 rfl (lv_at hl 1 rfl) ?_
  refine lv_iload_n hx hb dX7_damage_2 rfl (lv_at hl 2 rfl) ?_
  refine lv_iload_n hx hb dX7_damage_3 rfl (lv_at hl 3 rfl) ?_
  refine k_ci (wr := []) (w1 := [(m0, .inr (7, [.ref v, .ref a1, .ref a2, .int ik, .int (nI 2), .int en])), (v, .inl (cJ, 136800, .inr (.inl (mF N))))]) (va_runV (As := [.int (nI a), .int (nI b), .int z3]) (rest := []) ⟨hx, hb, hml, hown, hts⟩ (c_M_isWrong2 l D cI cJ cM cG m0 v a1 a2 ik th en N a b z3 s.heap.size (hN) (hN0) (ha) (hb9) (hz3)) (cwV 3 hts (kB_V (fun _ => List.mem_cons_of_mem _) q_770 q_771 q_772 q_670 (kB_c q_773)) rfl rfl rfl (by decide +kernel) ⟨Nat.le_of_ble_eq_true rfl, Nat.le_of_ble_eq_true rfl⟩) (k_preV (T := TX7) hP hD hK hKN [0, 1] rfl rfl (ci := 7) rfl (q0 := 0) rfl) rfl rfl hl.1 rfl (lv_room (Nat.le_of_ble_eq_true rfl)) dX7_damage_4 ⟨Nat.le_of_ble_eq_true rfl, Nat.le_of_ble_eq_true rfl⟩) hP hD hS hA [0, 1] [] rfl rfl rfl (by decide) (fun r4 H locs hw4 hP hD hS => ?_)
  replace hP : va_P D vwCl [(m0, .inr (7, [.ref v, .ref a1, .ref a2, .int ik, .int (nI 2), .int en])), (v, .inl (cJ, 136800, .inr (.inl (mF N))))] H := hP
  replace hD : va_D A [(m0, .inr (7, [.ref v, .ref a1, .ref a2, .int ik, .int (nI 2), .int en])), (v, .inl (cJ, 136800, .inr (.inl (mF N))))] := hD
  replace hw4 : r4 = nI 1 := hw4
  refine k_ti hw4 ?_
  refine k_if_eq (tgt := 12) hx hb dX7_damage_7 (by decide) (by omega) (fun h9 => absurd h9 (by omega)) (fun _ => ?_)
  refine lv_iconst (v := nI 0) hx hb dX7_damage_10 (by decide) ?_
  have hP9 := hP.sub (ws' := [(m0, .inr (7, [.ref v, .ref a1, .ref a2, .int ik, .int (nI 2), .int en]))]) [0] rfl
  have hD9 := hD.sub (ws' := [(m0, .inr (7, [.ref v, .ref a1, .ref a2, .int ik, .int (nI 2), .int en]))]) [0] rfl rfl
  exact W.iret (v := nI 0) hx hb hr (fun t9 ht9 hW9 => ⟨⟨nI 0, (), rfl, rfl, by rw [ht9]; exact hP9, hD9⟩, hS.F ht9⟩) hS.2.2 dX7_damage_11

set_option maxHeartbeats 4000000 in
set_option maxRecDepth 100000 in
theorem c_M_forecast1 (l : Launch) (D : va_G) (cI cJ cM cG : ClassId) (m0 : Nat) (v : Nat) (a1 : Nat) (a2 : Nat) (ik : Int32) (th : Int32) (en : Int32) (N : Nat) (a : Nat) (b : Nat) (u : Nat) (sz : Nat) (hN : N ≤ 10) (hN0 : 0 < N) (ha : a < N) (hb9 : b < N) (hab : a ≠ b) (hu : u ≤ 100000) : Met l yX7_forecast (Cond.code yX7_forecast cX7_forecast 7 (some .int) :: kBig) ({ frames := 7, cells := 0, slots := 0, locals := 180 }) (va_Pc [.ref m0, .int (nI a), .int (nI b), .int (nI u)] (kP D [(cI, .int), (cJ, .long), (cM, .object "MeshRouting$Message"), (cG, .array .int)] [(m0, .inr (7, [.ref v, .ref a1, .ref a2, .int ik, .int th, .int en])), (v, .inl (cJ, 136800, .inr (.inl (mF N)))), (a1, .inl (cJ, 136800, .inr (.inl (fun _ => 0))))] sz)) (va_Qi (fun (r : Int32) (_ : Unit) => r = (if u < 680 then lN 0 else lN 3).toInt32) (fun _ t9 => kB D (va_A [(m0, .inr (7, [.ref v, .ref a1, .ref a2, .int ik, .int th, .int en])), (v, .inl (cJ, 136800, .inr (.inl (mF N)))), (a1, .inl (cJ, 136800, .inr (.inl (fun _ => 0))))] sz) [(m0, .inr (7, [.ref v, .ref a1, .ref a2, .int ik, .int (nI 0), .int en]))] t9) (va_A [(m0, .inr (7, [.ref v, .ref a1, .ref a2, .int ik, .int th, .int en])), (v, .inl (cJ, 136800, .inr (.inl (mF N)))), (a1, .inl (cJ, 136800, .inr (.inl (fun _ => 0))))] sz)) 0 0 (va_A [(m0, .inr (7, [.ref v, .ref a1, .ref a2, .int ik, .int th, .int en])), (v, .inl (cJ, 136800, .inr (.inl (mF N)))), (a1, .inl (cJ, 136800, .inr (.inl (fun _ => 0))))] sz) := by
  refine Met.ofW (cc := cX7_forecast) (maxL := 7) (ret := (some .int)) (by decide) rfl ?_
  intro p e s m args below meth c s₁ B hml hv
  obtain ⟨rfl, hsz, hP, hK, hD0, hKN⟩ := hv
  have hx := B.exec
  have hb := B.bytes
  have hr := B.returns
  have hts := atoms_spec (ws := (Cond.code yX7_forecast cX7_forecast 7 (some .int) :: kBig)) B.pre
  have hown : s.vm.findClass RX7 = some m.cls := findClass_of_methodNamed B.named
  have hlocks := B.notSynchronized
  have hin7 : ∀ w ∈ u_ws RX7 TX7 6, w ∈ (Cond.code yX7_forecast cX7_forecast 7 (some .int) :: kBig) := fun w h => List.mem_cons_of_mem _ (inb7 w h)
  subst hsz
  have hD := hD0.self (sz := s.heap.size)
  generalize hAe : va_A [(m0, .inr (7, [.ref v, .ref a1, .ref a2, .int ik, .int th, .int en])), (v, .inl (cJ, 136800, .inr (.inl (mF N)))), (a1, .inl (cJ, 136800, .inr (.inl (fun _ => 0))))] s.heap.size = A at hD ⊢
  have hA : ∀ q : Nat, s.heap.size ≤ q → A q := fun q h => by rw [← hAe]; exact Or.inr h
  have hS : va_S A s.heap s.heap [] := va_S.rf
  have hl := lv_entry ([.ref m0, .int (nI a), .int (nI b), .int (nI u)]) (n := 7) (Nat.le_of_ble_eq_true rfl)
  rw [lg_entry_eq]
  generalize (lg_sl ([.ref m0, .int (nI a), .int (nI b), .int (nI u)]) ++ List.replicate (7 - (lg_sl ([.ref m0, .int (nI a), .int (nI b), .int (nI u)])).length) Slot.unset).toArray = ls at hl ⊢
  have hl : lv_has ls 7 [(0, .ref m0), (1, .int (nI a)), (2, .int (nI b)), (3, .int (nI u))] := hl
  refine lv_aload_n hx hb dX7_forecast_0 rfl (lv_at hl 0 rfl) ?_
  refine lv_iload_n hx hb dX7_forecast_1 rfl (lv_at hl 1 rfl) ?_
  refine lv_iload_n hx hb dX7_forecast_2 rfl (lv_at hl 2 rfl) ?_
  refine lv_iload_n hx hb dX7_forecast_3 rfl (lv_at hl 3 rfl) ?_
  refine k_ci (wr := [(a1, .inl (cJ, 136800, .inr (.inl (fun _ => 0))))]) (w1 := [(m0, .inr (7, [.ref v, .ref a1, .ref a2, .int ik, .int (nI 0), .int en])), (v, .inl (cJ, 136800, .inr (.inl (mF N))))]) (va_runV (As := [.int (nI a), .int (nI b), .int (nI u)]) (rest := []) ⟨hx, hb, hml, hown, hts⟩ (c_M_isWrong1 l D cI cJ cM cG m0 v a1 a2 ik th en N a b u s.heap.size (hN) (hN0) (ha) (hb9) (hab) (hu)) (cwV 3 hts (kB_V (fun _ => List.mem_cons_of_mem _) q_770 q_771 q_772 q_670 (kB_c q_773)) rfl rfl rfl (by decide +kernel) ⟨Nat.le_of_ble_eq_true rfl, Nat.le_of_ble_eq_true rfl⟩) (k_preV (T := TX7) hP hD hK hKN [0, 1] rfl rfl (ci := 7) rfl (q0 := 0) rfl) rfl rfl hl.1 rfl (lv_room (Nat.le_of_ble_eq_true rfl)) dX7_forecast_4 ⟨Nat.le_of_ble_eq_true rfl, Nat.le_of_ble_eq_true rfl⟩) hP hD hS hA [0, 1] [2] rfl rfl rfl (by decide) (fun r4 H locs hw4 hP hD hS => ?_)
  replace hP : va_P D vwCl [(a1, .inl (cJ, 136800, .inr (.inl (fun _ => 0)))), (m0, .inr (7, [.ref v, .ref a1, .ref a2, .int ik, .int (nI 0), .int en])), (v, .inl (cJ, 136800, .inr (.inl (mF N))))] H := hP
  replace hD : va_D A [(a1, .inl (cJ, 136800, .inr (.inl (fun _ => 0)))), (m0, .inr (7, [.ref v, .ref a1, .ref a2, .int ik, .int (nI 0), .int en])), (v, .inl (cJ, 136800, .inr (.inl (mF N))))] := hD
  replace hw4 : r4 = nI 0 := hw4
  refine k_ti hw4 ?_
  refine k_if_eq (tgt := 12) hx hb dX7_forecast_7 (by decide) (by omega) (fun _ => ?_) (fun h9 => absurd h9 (by omega))
  refine lv_aload_n hx hb dX7_forecast_12 rfl (lv_at hl 0 rfl) ?_
  refine va_get (D := D) (ci := 7) (v := .ref v) (C := RX7) (T := TX7) (N := 6) hx hb hts hin7 hown hK hP 1 rfl rfl 0 (by decide) (hts (.fieldLink RX7 8 "MeshRoutingModel" "v" "[J") (List.mem_cons_of_mem _ q_665)) (fun _ h9 => h9) rfl dX7_forecast_13 ?_
  refine lv_bipush (v := nI 10) hx hb dX7_forecast_16 (by decide) ?_
  refine k_lald (v := lN 0) hx hb hK hP 2 1 rfl rfl (by omega) (by omega) ((mF_o (by omega) (by omega) (by omega))) dX7_forecast_18 ?_
  refine lv_ldc2 (v := 200) hx hb hown (by exact hts (.constantLong RX7 225 (200)) (List.mem_cons_of_mem _ q_901)) dX7_forecast_19 ?_
  refine k_tl (show (200) = (lN 200) from by decide) ?_
  refine W.lcmp hx hb dX7_forecast_22 ?_
  refine k_lif_ne (tgt := 28) hx hb dX7_forecast_23 (by decide) (by omega) (by omega) (fun _ => ?_) (fun h9 => absurd h9 (by omega))
  refine lv_aload_n hx hb dX7_forecast_28 rfl (lv_at hl 0 rfl) ?_
  refine va_get (D := D) (ci := 7) (v := .ref v) (C := RX7) (T := TX7) (N := 6) hx hb hts hin7 hown hK hP 1 rfl rfl 0 (by decide) (hts (.fieldLink RX7 8 "MeshRoutingModel" "v" "[J") (List.mem_cons_of_mem _ q_665)) (fun _ h9 => h9) rfl dX7_forecast_29 ?_
  refine lv_aload_n hx hb dX7_forecast_32 rfl (lv_at hl 0 rfl) ?_
  refine va_get (D := D) (ci := 7) (v := .ref a1) (C := RX7) (T := TX7) (N := 6) hx hb hts hin7 hown hK hP 1 rfl rfl 1 (by decide) (hts (.fieldLink RX7 14 "MeshRoutingModel" "aside" "[J") (List.mem_cons_of_mem _ q_769)) (fun _ h9 => h9) rfl dX7_forecast_33 ?_
  refine k_cv (wr := [(m0, .inr (7, [.ref v, .ref a1, .ref a2, .int ik, .int (nI 0), .int en]))]) (w1 := [(v, .inl (cJ, 136800, .inr (.inl (mF N)))), (a1, .inl (cJ, 136800, .inr (.inl (mF N))))]) (va_runS (As := [.ref v, .ref a1]) (rest := []) ⟨hx, hb, hml, hown, hts⟩ (c_X7_lays l D cI cJ cM cG v a1 (mF N) (fun _ => 0) H.size) (va_cwS 2 hts (kB_S (fun _ => List.mem_cons_of_mem _) q_775 q_776 q_670 (kB_c q_777)) rfl rfl rfl (by decide +kernel) ⟨Nat.le_of_ble_eq_true rfl, Nat.le_of_ble_eq_true rfl⟩) (k_preS hP hD hK hKN [2, 0] rfl rfl) rfl rfl hl.1 rfl (lv_room (Nat.le_of_ble_eq_true rfl)) dX7_forecast_36 ⟨Nat.le_of_ble_eq_true rfl, Nat.le_of_ble_eq_true rfl⟩) hP hD hS hA [2, 0] [1] rfl rfl rfl (by decide) (fun H locs hw36 hP hD hS => ?_)
  replace hP : va_P D vwCl [(m0, .inr (7, [.ref v, .ref a1, .ref a2, .int ik, .int (nI 0), .int en])), (v, .inl (cJ, 136800, .inr (.inl (mF N)))), (a1, .inl (cJ, 136800, .inr (.inl (mF N))))] H := hP
  replace hD : va_D A [(m0, .inr (7, [.ref v, .ref a1, .ref a2, .int ik, .int (nI 0), .int en])), (v, .inl (cJ, 136800, .inr (.inl (mF N)))), (a1, .inl (cJ, 136800, .inr (.inl (mF N))))] := hD
  refine lv_aload_n hx hb dX7_forecast_39 rfl (lv_at hl 0 rfl) ?_
  refine lv_iload_n hx hb dX7_forecast_40 rfl (lv_at hl 1 rfl) ?_
  refine lv_iload_n hx hb dX7_forecast_41 rfl (lv_at hl 2 rfl) ?_
  refine k_ciS (wr := [(a1, .inl (cJ, 136800, .inr (.inl (mF N))))]) (w1 := fun u => [(m0, .inr (7, [.ref v, .ref a1, .ref a2, .int ik, .int (nI 0), .int en])), (v, .inl (cJ, 136800, .inr (.inl u)))]) (va_runV (As := [.int (nI a), .int (nI b)]) (rest := []) ⟨hx, hb, hml, hown, hts⟩ (c_X7_begins2 l D cI cJ cM cG m0 v a1 a2 ik (nI 0) en (mF N) a b N H.size (by omega) (by omega) (hab) (hN) (rfl)) (cwV 2 hts (kB_V (fun _ => List.mem_cons_of_mem _) q_902 q_903 q_904 q_670 (kB_c q_710)) rfl rfl rfl (by decide +kernel) ⟨Nat.le_of_ble_eq_true rfl, Nat.le_of_ble_eq_true rfl⟩) (k_preV (T := TX7) hP hD hK hKN [0, 1] rfl rfl (ci := 7) rfl (q0 := 0) rfl) rfl rfl hl.1 rfl (lv_room (Nat.le_of_ble_eq_true rfl)) dX7_forecast_42 ⟨Nat.le_of_ble_eq_true rfl, Nat.le_of_ble_eq_true rfl⟩) hP hD hS hA [0, 1] [2] rfl rfl rfl (by decide) (fun r42 u42 H locs hw42 hP hD hS => ?_)
  replace hP : va_P D vwCl [(a1, .inl (cJ, 136800, .inr (.inl (mF N)))), (m0, .inr (7, [.ref v, .ref a1, .ref a2, .int ik, .int (nI 0), .int en])), (v, .inl (cJ, 136800, .inr (.inl u42)))] H := hP
  replace hD : va_D A [(a1, .inl (cJ, 136800, .inr (.inl (mF N)))), (m0, .inr (7, [.ref v, .ref a1, .ref a2, .int ik, .int (nI 0), .int en])), (v, .inl (cJ, 136800, .inr (.inl u42)))] := hD
  obtain ⟨hw42, hu42⟩ := hw42
  replace hw42 : r42 = nI 0 := hw42
  refine k_ti hw42 ?_
  refine lv_istore (lv' := [(4, .int (nI 0)), (0, .ref m0), (1, .int (nI a)), (2, .int (nI b)), (3, .int (nI u))]) hx hb dX7_forecast_45 hl (by decide) rfl (fun ls hl => ?_)
  refine lv_aload_n hx hb dX7_forecast_47 rfl (lv_at hl 1 rfl) ?_
  refine lv_aload_n hx hb dX7_forecast_48 rfl (lv_at hl 1 rfl) ?_
  refine va_get (D := D) (ci := 7) (v := .ref v) (C := RX7) (T := TX7) (N := 6) hx hb hts hin7 hown hK hP 1 rfl rfl 0 (by decide) (hts (.fieldLink RX7 8 "MeshRoutingModel" "v" "[J") (List.mem_cons_of_mem _ q_665)) (fun _ h9 => h9) rfl dX7_forecast_49 ?_
  refine lv_iconst (v := nI 0) hx hb dX7_forecast_52 (by decide) ?_
  refine k_lald (v := lN 0) hx hb hK hP 2 1 rfl rfl (by omega) (by omega) (hu42.1) dX7_forecast_53 ?_
  refine lv_iload_n hx hb dX7_forecast_54 rfl (lv_at hl 4 rfl) ?_
  refine lv_i2l (v := lN u) hx hb dX7_forecast_55 (by exact nI_l (by omega)) ?_
  refine lv_ladd hx hb dX7_forecast_56 ?_
  refine k_tl (show ((lN 0) + (lN u)) = (lN u) from (lN_add _ _).trans (congrArg lN (Nat.zero_add _))) ?_
  refine k_ciS (wr := [(a1, .inl (cJ, 136800, .inr (.inl (mF N))))]) (w1 := fun u => [(m0, .inr (7, [.ref v, .ref a1, .ref a2, .int ik, .int (nI 0), .int en])), (v, .inl (cJ, 136800, .inr (.inl u)))]) (va_runV (As := [.long (lN u)]) (rest := []) ⟨hx, hb, hml, hown, hts⟩ (c_X7_passes1 l D cI cJ cM cG m0 v a1 a2 ik (nI 0) en u42 a b N u H.size (by omega) (by omega) (hN) (by omega) (hu42)) (cwV 1 hts (kB_V (fun _ => List.mem_cons_of_mem _) q_807 q_808 q_809 q_670 (kB_c q_810)) rfl rfl rfl (by decide +kernel) ⟨Nat.le_of_ble_eq_true rfl, Nat.le_of_ble_eq_true rfl⟩) (k_preV (T := TX7) hP hD hK hKN [1, 2] rfl rfl (ci := 7) rfl (q0 := 1) rfl) rfl rfl hl.1 rfl (lv_room (Nat.le_of_ble_eq_true rfl)) dX7_forecast_57 ⟨Nat.le_of_ble_eq_true rfl, Nat.le_of_ble_eq_true rfl⟩) hP hD hS hA [1, 2] [0] rfl rfl rfl (by decide) (fun r57 u57 H locs hw57 hP hD hS => ?_)
  replace hP : va_P D vwCl [(a1, .inl (cJ, 136800, .inr (.inl (mF N)))), (m0, .inr (7, [.ref v, .ref a1, .ref a2, .int ik, .int (nI 0), .int en])), (v, .inl (cJ, 136800, .inr (.inl u57)))] H := hP
  replace hD : va_D A [(a1, .inl (cJ, 136800, .inr (.inl (mF N)))), (m0, .inr (7, [.ref v, .ref a1, .ref a2, .int ik, .int (nI 0), .int en])), (v, .inl (cJ, 136800, .inr (.inl u57)))] := hD
  have hu57 := hw57
  refine lv_istore (lv' := [(5, .int r57), (4, .int (nI 0)), (0, .ref m0), (1, .int (nI a)), (2, .int (nI b)), (3, .int (nI u))]) hx hb dX7_forecast_60 hl (by decide) rfl (fun ls hl => ?_)
  refine lv_aload_n hx hb dX7_forecast_62 rfl (lv_at hl 2 rfl) ?_
  refine va_get (D := D) (ci := 7) (v := .ref v) (C := RX7) (T := TX7) (N := 6) hx hb hts hin7 hown hK hP 1 rfl rfl 0 (by decide) (hts (.fieldLink RX7 8 "MeshRoutingModel" "v" "[J") (List.mem_cons_of_mem _ q_665)) (fun _ h9 => h9) rfl dX7_forecast_63 ?_
  refine lv_iload hx hb dX7_forecast_66 (lv_at hl 1 rfl) ?_
  refine k_ci (wr := [(a1, .inl (cJ, 136800, .inr (.inl (mF N)))), (m0, .inr (7, [.ref v, .ref a1, .ref a2, .int ik, .int (nI 0), .int en])), (v, .inl (cJ, 136800, .inr (.inl u57)))]) (w1 := []) (va_runS (As := [.int (nI 0)]) (rest := [.ref v]) ⟨hx, hb, hml, hown, hts⟩ (c_X7_packet l D cI cJ cM cG 0 H.size) (va_cwS 1 hts (kB_S (fun _ => List.mem_cons_of_mem _) q_711 q_712 q_670 (kB_c q_713)) rfl rfl rfl (by decide +kernel) ⟨Nat.le_of_ble_eq_true rfl, Nat.le_of_ble_eq_true rfl⟩) (k_preS hP hD hK hKN [] rfl rfl) rfl rfl hl.1 rfl (lv_room (Nat.le_of_ble_eq_true rfl)) dX7_forecast_68 ⟨Nat.le_of_ble_eq_true rfl, Nat.le_of_ble_eq_true rfl⟩) hP hD hS hA [] [0, 1, 2] rfl rfl rfl (by decide) (fun r68 H locs hw68 hP hD hS => ?_)
  replace hP : va_P D vwCl [(a1, .inl (cJ, 136800, .inr (.inl (mF N)))), (m0, .inr (7, [.ref v, .ref a1, .ref a2, .int ik, .int (nI 0), .int en])), (v, .inl (cJ, 136800, .inr (.inl u57)))] H := hP
  replace hD : va_D A [(a1, .inl (cJ, 136800, .inr (.inl (mF N)))), (m0, .inr (7, [.ref v, .ref a1, .ref a2, .int ik, .int (nI 0), .int en])), (v, .inl (cJ, 136800, .inr (.inl u57)))] := hD
  replace hw68 : r68 = nI (2300 + 8 * 0) := hw68
  refine k_ti hw68 ?_
  refine lv_iconst (v := nI 2) hx hb dX7_forecast_71 (by decide) ?_
  refine lv_iadd hx hb dX7_forecast_72 ?_
  refine k_ti (show ((nI (2300 + 8 * 0)) + (nI 2)) = (nI (2300 + 8 * 0 + 2)) from nI_add _ _) ?_
  refine k_lald (v := if u < 680 then lN 0 else lN 3) hx hb hK hP 2 1 rfl rfl (by omega) (by omega) ((by rw [show 2300 + 8 * 0 + 2 = 2302 by omega]; exact hu57)) dX7_forecast_73 ?_
  refine lv_l2i (v := (if u < 680 then lN 0 else lN 3).toInt32) hx hb dX7_forecast_74 (rfl) ?_
  refine lv_istore (lv' := [(6, .int ((if u < 680 then lN 0 else lN 3).toInt32)), (5, .int r57), (4, .int (nI 0)), (0, .ref m0), (1, .int (nI a)), (2, .int (nI b)), (3, .int (nI u))]) hx hb dX7_forecast_75 hl (by decide) rfl (fun ls hl => ?_)
  refine lv_aload_n hx hb dX7_forecast_77 rfl (lv_at hl 3 rfl) ?_
  refine va_get (D := D) (ci := 7) (v := .ref a1) (C := RX7) (T := TX7) (N := 6) hx hb hts hin7 hown hK hP 1 rfl rfl 1 (by decide) (hts (.fieldLink RX7 14 "MeshRoutingModel" "aside" "[J") (List.mem_cons_of_mem _ q_769)) (fun _ h9 => h9) rfl dX7_forecast_78 ?_
  refine lv_aload_n hx hb dX7_forecast_81 rfl (lv_at hl 3 rfl) ?_
  refine va_get (D := D) (ci := 7) (v := .ref v) (C := RX7) (T := TX7) (N := 6) hx hb hts hin7 hown hK hP 1 rfl rfl 0 (by decide) (hts (.fieldLink RX7 8 "MeshRoutingModel" "v" "[J") (List.mem_cons_of_mem _ q_665)) (fun _ h9 => h9) rfl dX7_forecast_82 ?_
  refine k_cv (wr := [(m0, .inr (7, [.ref v, .ref a1, .ref a2, .int ik, .int (nI 0), .int en]))]) (w1 := [(a1, .inl (cJ, 136800, .inr (.inl (mF N)))), (v, .inl (cJ, 136800, .inr (.inl (mF N))))]) (va_runS (As := [.ref a1, .ref v]) (rest := []) ⟨hx, hb, hml, hown, hts⟩ (c_X7_lays l D cI cJ cM cG a1 v (mF N) u57 H.size) (va_cwS 2 hts (kB_S (fun _ => List.mem_cons_of_mem _) q_775 q_776 q_670 (kB_c q_777)) rfl rfl rfl (by decide +kernel) ⟨Nat.le_of_ble_eq_true rfl, Nat.le_of_ble_eq_true rfl⟩) (k_preS hP hD hK hKN [0, 2] rfl rfl) rfl rfl hl.1 rfl (lv_room (Nat.le_of_ble_eq_true rfl)) dX7_forecast_85 ⟨Nat.le_of_ble_eq_true rfl, Nat.le_of_ble_eq_true rfl⟩) hP hD hS hA [0, 2] [1] rfl rfl rfl (by decide) (fun H locs hw85 hP hD hS => ?_)
  replace hP : va_P D vwCl [(m0, .inr (7, [.ref v, .ref a1, .ref a2, .int ik, .int (nI 0), .int en])), (a1, .inl (cJ, 136800, .inr (.inl (mF N)))), (v, .inl (cJ, 136800, .inr (.inl (mF N))))] H := hP
  replace hD : va_D A [(m0, .inr (7, [.ref v, .ref a1, .ref a2, .int ik, .int (nI 0), .int en])), (a1, .inl (cJ, 136800, .inr (.inl (mF N)))), (v, .inl (cJ, 136800, .inr (.inl (mF N))))] := hD
  refine lv_iload hx hb dX7_forecast_88 (lv_at hl 0 rfl) ?_
  have hP9 := hP.sub (ws' := [(m0, .inr (7, [.ref v, .ref a1, .ref a2, .int ik, .int (nI 0), .int en]))]) [0] rfl
  have hD9 := hD.sub (ws' := [(m0, .inr (7, [.ref v, .ref a1, .ref a2, .int ik, .int (nI 0), .int en]))]) [0] rfl rfl
  exact W.iret (v := (if u < 680 then lN 0 else lN 3).toInt32) hx hb hr (fun t9 ht9 hW9 => ⟨⟨(if u < 680 then lN 0 else lN 3).toInt32, (), rfl, rfl, by rw [ht9]; exact hP9, hD9⟩, hS.F ht9⟩) hS.2.2 dX7_forecast_90

set_option maxHeartbeats 4000000 in
set_option maxRecDepth 100000 in
theorem c_X7_inState0 (l : Launch) (D : va_G) (cI cJ cM cG : ClassId) (m0 : Nat) (v : Nat) (a1 : Nat) (a2 : Nat) (ik : Int32) (th : Int32) (en : Int32) (f : Nat → Int64) (x : Int32) (sz : Nat) (h10 : f 10 = lN 0) : Met l yX7_inState (Cond.code yX7_inState cX7_inState 4 (some .int) :: kBig) ({ frames := 0, cells := 0, slots := 0, locals := 0 }) (va_Pc [.ref m0, .int x] (kP D [(cI, .int), (cJ, .long), (cM, .object "MeshRouting$Message"), (cG, .array .int)] [(m0, .inr (7, [.ref v, .ref a1, .ref a2, .int ik, .int th, .int en])), (v, .inl (cJ, 136800, .inr (.inl f)))] sz)) (va_Qi (fun (r : Int32) (_ : Unit) => r = nI 0) (fun _ t9 => kB D (va_A [(m0, .inr (7, [.ref v, .ref a1, .ref a2, .int ik, .int th, .int en])), (v, .inl (cJ, 136800, .inr (.inl f)))] sz) [(m0, .inr (7, [.ref v, .ref a1, .ref a2, .int ik, .int th, .int en])), (v, .inl (cJ, 136800, .inr (.inl f)))] t9) (va_A [(m0, .inr (7, [.ref v, .ref a1, .ref a2, .int ik, .int th, .int en])), (v, .inl (cJ, 136800, .inr (.inl f)))] sz)) 0 0 (va_A [(m0, .inr (7, [.ref v, .ref a1, .ref a2, .int ik, .int th, .int en])), (v, .inl (cJ, 136800, .inr (.inl f)))] sz) := by
  refine Met.ofW (cc := cX7_inState) (maxL := 4) (ret := (some .int)) (by decide) rfl ?_
  intro p e s m args below meth c s₁ B hml hv
  obtain ⟨rfl, hsz, hP, hK, hD0, hKN⟩ := hv
  have hx := B.exec
  have hb := B.bytes
  have hr := B.returns
  have hts := atoms_spec (ws := (Cond.code yX7_inState cX7_inState 4 (some .int) :: kBig)) B.pre
  have hown : s.vm.findClass RX7 = some m.cls := findClass_of_methodNamed B.named
  have hlocks := B.notSynchronized
  have hin7 : ∀ w ∈ u_ws RX7 TX7 6, w ∈ (Cond.code yX7_inState cX7_inState 4 (some .int) :: kBig) := fun w h => List.mem_cons_of_mem _ (inb7 w h)
  subst hsz
  have hD := hD0.self (sz := s.heap.size)
  generalize hAe : va_A [(m0, .inr (7, [.ref v, .ref a1, .ref a2, .int ik, .int th, .int en])), (v, .inl (cJ, 136800, .inr (.inl f)))] s.heap.size = A at hD ⊢
  have hA : ∀ q : Nat, s.heap.size ≤ q → A q := fun q h => by rw [← hAe]; exact Or.inr h
  have hS : va_S A s.heap s.heap [] := va_S.rf
  have hl := lv_entry ([.ref m0, .int x]) (n := 4) (Nat.le_of_ble_eq_true rfl)
  rw [lg_entry_eq]
  generalize (lg_sl ([.ref m0, .int x]) ++ List.replicate (4 - (lg_sl ([.ref m0, .int x])).length) Slot.unset).toArray = ls at hl ⊢
  have hl : lv_has ls 4 [(0, .ref m0), (1, .int x)] := hl
  refine lv_iconst (v := nI 0) hx hb dX7_inState_0 (by decide) ?_
  refine lv_istore_n (lv' := [(2, .int (nI 0)), (0, .ref m0), (1, .int x)]) hx hb dX7_inState_1 rfl hl (by decide) rfl (fun ls hl => ?_)
  refine lv_iconst (v := nI 0) hx hb dX7_inState_2 (by decide) ?_
  refine lv_istore_n (lv' := [(3, .int (nI 0)), (2, .int (nI 0)), (0, .ref m0), (1, .int x)]) hx hb dX7_inState_3 rfl hl (by decide) rfl (fun ls hl => ?_)
  refine lv_iload_n hx hb dX7_inState_4 rfl (lv_at hl 0 rfl) ?_
  refine lv_i2l (v := lN 0) hx hb dX7_inState_5 (by decide) ?_
  refine lv_aload_n hx hb dX7_inState_6 rfl (lv_at hl 2 rfl) ?_
  refine va_get (D := D) (ci := 7) (v := .ref v) (C := RX7) (T := TX7) (N := 6) hx hb hts hin7 hown hK hP 0 rfl rfl 0 (by decide) (hts (.fieldLink RX7 8 "MeshRoutingModel" "v" "[J") (List.mem_cons_of_mem _ q_665)) (fun _ h9 => h9) rfl dX7_inState_7 ?_
  refine lv_bipush (v := nI 10) hx hb dX7_inState_10 (by decide) ?_
  refine k_lald (v := lN 0) hx hb hK hP 1 1 rfl rfl (by omega) (by omega) (h10) dX7_inState_12 ?_
  refine W.lcmp hx hb dX7_inState_13 ?_
  refine k_lif_ge (tgt := 48) hx hb dX7_inState_14 (by decide) (by omega) (by omega) (fun _ => ?_) (fun h9 => absurd h9 (by omega))
  refine lv_iload_n hx hb dX7_inState_48 rfl (lv_at hl 1 rfl) ?_
  have hP9 := hP.sub (ws' := [(m0, .inr (7, [.ref v, .ref a1, .ref a2, .int ik, .int th, .int en])), (v, .inl (cJ, 136800, .inr (.inl f)))]) [0, 1] rfl
  have hD9 := hD.sub (ws' := [(m0, .inr (7, [.ref v, .ref a1, .ref a2, .int ik, .int th, .int en])), (v, .inl (cJ, 136800, .inr (.inl f)))]) [0, 1] rfl rfl
  exact W.iret (v := nI 0) hx hb hr (fun t9 ht9 hW9 => ⟨⟨nI 0, (), rfl, rfl, by rw [ht9]; exact hP9, hD9⟩, hS.F ht9⟩) hS.2.2 dX7_inState_49

set_option maxHeartbeats 4000000 in
set_option maxRecDepth 100000 in
theorem c_M_damage1 (l : Launch) (D : va_G) (cI cJ cM cG : ClassId) (m0 : Nat) (v : Nat) (a1 : Nat) (a2 : Nat) (ik : Int32) (th : Int32) (en : Int32) (N : Nat) (a : Nat) (b : Nat) (u : Nat) (sz : Nat) (hN : N ≤ 10) (hN0 : 0 < N) (ha : a < N) (hb9 : b < N) (hab : a ≠ b) (hu : u ≤ 100000) : Met l yX7_damage (Cond.code yX7_damage cX7_damage 8 (some .int) :: kBig) ({ frames := 3, cells := 0, slots := 0, locals := 76 }) (va_Pc [.ref m0, .int (nI a), .int (nI b), .int (nI u)] (kP D [(cI, .int), (cJ, .long), (cM, .object "MeshRouting$Message"), (cG, .array .int)] [(m0, .inr (7, [.ref v, .ref a1, .ref a2, .int ik, .int th, .int en])), (v, .inl (cJ, 136800, .inr (.inl (mF N)))), (a1, .inl (cJ, 136800, .inr (.inl (fun _ => 0))))] sz)) (va_Qi (fun (r : Int32) (_ : Unit) => r = nI 0) (fun _ t9 => kB D (va_A [(m0, .inr (7, [.ref v, .ref a1, .ref a2, .int ik, .int th, .int en])), (v, .inl (cJ, 136800, .inr (.inl (mF N)))), (a1, .inl (cJ, 136800, .inr (.inl (fun _ => 0))))] sz) [(m0, .inr (7, [.ref v, .ref a1, .ref a2, .int ik, .int (nI 0), .int en]))] t9) (va_A [(m0, .inr (7, [.ref v, .ref a1, .ref a2, .int ik, .int th, .int en])), (v, .inl (cJ, 136800, .inr (.inl (mF N)))), (a1, .inl (cJ, 136800, .inr (.inl (fun _ => 0))))] sz)) 0 0 (va_A [(m0, .inr (7, [.ref v, .ref a1, .ref a2, .int ik, .int th, .int en])), (v, .inl (cJ, 136800, .inr (.inl (mF N)))), (a1, .inl (cJ, 136800, .inr (.inl (fun _ => 0))))] sz) := by
  refine Met.ofW (cc := cX7_damage) (maxL := 8) (ret := (some .int)) (by decide) rfl ?_
  intro p e s m args below meth c s₁ B hml hv
  obtain ⟨rfl, hsz, hP, hK, hD0, hKN⟩ := hv
  have hx := B.exec
  have hb := B.bytes
  have hr := B.returns
  have hts := atoms_spec (ws := (Cond.code yX7_damage cX7_damage 8 (some .int) :: kBig)) B.pre
  have hown : s.vm.findClass RX7 = some m.cls := findClass_of_methodNamed B.named
  have hlocks := B.notSynchronized
  have hin7 : ∀ w ∈ u_ws RX7 TX7 6, w ∈ (Cond.code yX7_damage cX7_damage 8 (some .int) :: kBig) := fun w h => List.mem_cons_of_mem _ (inb7 w h)
  subst hsz
  have hD := hD0.self (sz := s.heap.size)
  generalize hAe : va_A [(m0, .inr (7, [.ref v, .ref a1, .ref a2, .int ik, .int th, .int en])), (v, .inl (cJ, 136800, .inr (.inl (mF N)))), (a1, .inl (cJ, 136800, .inr (.inl (fun _ => 0))))] s.heap.size = A at hD ⊢
  have hA : ∀ q : Nat, s.heap.size ≤ q → A q := fun q h => by rw [← hAe]; exact Or.inr h
  have hS : va_S A s.heap s.heap [] := va_S.rf
  have hl := lv_entry ([.ref m0, .int (nI a), .int (nI b), .int (nI u)]) (n := 8) (Nat.le_of_ble_eq_true rfl)
  rw [lg_entry_eq]
  generalize (lg_sl ([.ref m0, .int (nI a), .int (nI b), .int (nI u)]) ++ List.replicate (8 - (lg_sl ([.ref m0, .int (nI a), .int (nI b), .int (nI u)])).length) Slot.unset).toArray = ls at hl ⊢
  have hl : lv_has ls 8 [(0, .ref m0), (1, .int (nI a)), (2, .int (nI b)), (3, .int (nI u))] := hl
  refine lv_aload_n hx hb dX7_damage_0 rfl (lv_at hl 0 rfl) ?_
  refine lv_iload_n hx hb dX7_damage_1 rfl (lv_at hl 1 rfl) ?_
  refine lv_iload_n hx hb dX7_damage_2 rfl (lv_at hl 2 rfl) ?_
  refine lv_iload_n hx hb dX7_damage_3 rfl (lv_at hl 3 rfl) ?_
  refine k_ci (wr := [(a1, .inl (cJ, 136800, .inr (.inl (fun _ => 0))))]) (w1 := [(m0, .inr (7, [.ref v, .ref a1, .ref a2, .int ik, .int (nI 0), .int en])), (v, .inl (cJ, 136800, .inr (.inl (mF N))))]) (va_runV (As := [.int (nI a), .int (nI b), .int (nI u)]) (rest := []) ⟨hx, hb, hml, hown, hts⟩ (c_M_isWrong1 l D cI cJ cM cG m0 v a1 a2 ik th en N a b u s.heap.size (hN) (hN0) (ha) (hb9) (hab) (hu)) (cwV 3 hts (kB_V (fun _ => List.mem_cons_of_mem _) q_770 q_771 q_772 q_670 (kB_c q_773)) rfl rfl rfl (by decide +kernel) ⟨Nat.le_of_ble_eq_true rfl, Nat.le_of_ble_eq_true rfl⟩) (k_preV (T := TX7) hP hD hK hKN [0, 1] rfl rfl (ci := 7) rfl (q0 := 0) rfl) rfl rfl hl.1 rfl (lv_room (Nat.le_of_ble_eq_true rfl)) dX7_damage_4 ⟨Nat.le_of_ble_eq_true rfl, Nat.le_of_ble_eq_true rfl⟩) hP hD hS hA [0, 1] [2] rfl rfl rfl (by decide) (fun r4 H locs hw4 hP hD hS => ?_)
  replace hP : va_P D vwCl [(a1, .inl (cJ, 136800, .inr (.inl (fun _ => 0)))), (m0, .inr (7, [.ref v, .ref a1, .ref a2, .int ik, .int (nI 0), .int en])), (v, .inl (cJ, 136800, .inr (.inl (mF N))))] H := hP
  replace hD : va_D A [(a1, .inl (cJ, 136800, .inr (.inl (fun _ => 0)))), (m0, .inr (7, [.ref v, .ref a1, .ref a2, .int ik, .int (nI 0), .int en])), (v, .inl (cJ, 136800, .inr (.inl (mF N))))] := hD
  replace hw4 : r4 = nI 0 := hw4
  refine k_ti hw4 ?_
  refine k_if_eq (tgt := 12) hx hb dX7_damage_7 (by decide) (by omega) (fun _ => ?_) (fun h9 => absurd h9 (by omega))
  refine lv_aload_n hx hb dX7_damage_12 rfl (lv_at hl 0 rfl) ?_
  refine va_get (D := D) (ci := 7) (v := .ref v) (C := RX7) (T := TX7) (N := 6) hx hb hts hin7 hown hK hP 1 rfl rfl 0 (by decide) (hts (.fieldLink RX7 8 "MeshRoutingModel" "v" "[J") (List.mem_cons_of_mem _ q_665)) (fun _ h9 => h9) rfl dX7_damage_13 ?_
  refine lv_aload_n hx hb dX7_damage_16 rfl (lv_at hl 0 rfl) ?_
  refine va_get (D := D) (ci := 7) (v := .ref a1) (C := RX7) (T := TX7) (N := 6) hx hb hts hin7 hown hK hP 1 rfl rfl 1 (by decide) (hts (.fieldLink RX7 14 "MeshRoutingModel" "aside" "[J") (List.mem_cons_of_mem _ q_769)) (fun _ h9 => h9) rfl dX7_damage_17 ?_
  refine k_cv (wr := [(m0, .inr (7, [.ref v, .ref a1, .ref a2, .int ik, .int (nI 0), .int en]))]) (w1 := [(v, .inl (cJ, 136800, .inr (.inl (mF N)))), (a1, .inl (cJ, 136800, .inr (.inl (mF N))))]) (va_runS (As := [.ref v, .ref a1]) (rest := []) ⟨hx, hb, hml, hown, hts⟩ (c_X7_lays l D cI cJ cM cG v a1 (mF N) (fun _ => 0) H.size) (va_cwS 2 hts (kB_S (fun _ => List.mem_cons_of_mem _) q_775 q_776 q_670 (kB_c q_777)) rfl rfl rfl (by decide +kernel) ⟨Nat.le_of_ble_eq_true rfl, Nat.le_of_ble_eq_true rfl⟩) (k_preS hP hD hK hKN [2, 0] rfl rfl) rfl rfl hl.1 rfl (lv_room (Nat.le_of_ble_eq_true rfl)) dX7_damage_20 ⟨Nat.le_of_ble_eq_true rfl, Nat.le_of_ble_eq_true rfl⟩) hP hD hS hA [2, 0] [1] rfl rfl rfl (by decide) (fun H locs hw20 hP hD hS => ?_)
  replace hP : va_P D vwCl [(m0, .inr (7, [.ref v, .ref a1, .ref a2, .int ik, .int (nI 0), .int en])), (v, .inl (cJ, 136800, .inr (.inl (mF N)))), (a1, .inl (cJ, 136800, .inr (.inl (mF N))))] H := hP
  replace hD : va_D A [(m0, .inr (7, [.ref v, .ref a1, .ref a2, .int ik, .int (nI 0), .int en])), (v, .inl (cJ, 136800, .inr (.inl (mF N)))), (a1, .inl (cJ, 136800, .inr (.inl (mF N))))] := hD
  refine lv_aload_n hx hb dX7_damage_23 rfl (lv_at hl 0 rfl) ?_
  refine lv_iconst (v := nI 3) hx hb dX7_damage_24 (by decide) ?_
  refine k_ci (wr := [(a1, .inl (cJ, 136800, .inr (.inl (mF N))))]) (w1 := [(m0, .inr (7, [.ref v, .ref a1, .ref a2, .int ik, .int (nI 0), .int en])), (v, .inl (cJ, 136800, .inr (.inl (mF N))))]) (va_runV (As := [.int (nI 3)]) (rest := []) ⟨hx, hb, hml, hown, hts⟩ (c_M_inState l D cI cJ cM cG m0 v a1 a2 ik (nI 0) en N (nI 3) H.size (hN) (hN0)) (cwV 1 hts (kB_V (fun _ => List.mem_cons_of_mem _) q_779 q_780 q_781 q_670 (kB_c q_782)) rfl rfl rfl (by decide +kernel) ⟨Nat.le_of_ble_eq_true rfl, Nat.le_of_ble_eq_true rfl⟩) (k_preV (T := TX7) hP hD hK hKN [0, 1] rfl rfl (ci := 7) rfl (q0 := 0) rfl) rfl rfl hl.1 rfl (lv_room (Nat.le_of_ble_eq_true rfl)) dX7_damage_25 ⟨Nat.le_of_ble_eq_true rfl, Nat.le_of_ble_eq_true rfl⟩) hP hD hS hA [0, 1] [2] rfl rfl rfl (by decide) (fun r25 H locs hw25 hP hD hS => ?_)
  replace hP : va_P D vwCl [(a1, .inl (cJ, 136800, .inr (.inl (mF N)))), (m0, .inr (7, [.ref v, .ref a1, .ref a2, .int ik, .int (nI 0), .int en])), (v, .inl (cJ, 136800, .inr (.inl (mF N))))] H := hP
  replace hD : va_D A [(a1, .inl (cJ, 136800, .inr (.inl (mF N)))), (m0, .inr (7, [.ref v, .ref a1, .ref a2, .int ik, .int (nI 0), .int en])), (v, .inl (cJ, 136800, .inr (.inl (mF N))))] := hD
  replace hw25 : r25 = nI 0 := hw25
  refine k_ti hw25 ?_
  refine lv_istore (lv' := [(4, .int (nI 0)), (0, .ref m0), (1, .int (nI a)), (2, .int (nI b)), (3, .int (nI u))]) hx hb dX7_damage_28 hl (by decide) rfl (fun ls hl => ?_)
  refine lv_aload_n hx hb dX7_damage_30 rfl (lv_at hl 1 rfl) ?_
  refine lv_iload_n hx hb dX7_damage_31 rfl (lv_at hl 2 rfl) ?_
  refine lv_iload_n hx hb dX7_damage_32 rfl (lv_at hl 3 rfl) ?_
  refine lv_iconst (v := nI 0) hx hb dX7_damage_33 (by decide) ?_
  refine k_ci (wr := [(a1, .inl (cJ, 136800, .inr (.inl (mF N))))]) (w1 := [(m0, .inr (7, [.ref v, .ref a1, .ref a2, .int ik, .int (nI 0), .int en])), (v, .inl (cJ, 136800, .inr (.inl (vp_updL (vp_updL (mF N) (100 + 10 * a + b) (lN 0)) (100 + 10 * b + a) (lN 0)))))]) (va_runV (As := [.int (nI a), .int (nI b), .int (nI 0)]) (rest := []) ⟨hx, hb, hml, hown, hts⟩ (c_M_links l D cI cJ cM cG m0 v a1 a2 ik (nI 0) en N a b 0 H.size (hN) (hN0) (ha) (hb9) (by omega)) (cwV 3 hts (kB_V (fun _ => List.mem_cons_of_mem _) q_783 q_784 q_785 q_670 (kB_c q_786)) rfl rfl rfl (by decide +kernel) ⟨Nat.le_of_ble_eq_true rfl, Nat.le_of_ble_eq_true rfl⟩) (k_preV (T := TX7) hP hD hK hKN [1, 2] rfl rfl (ci := 7) rfl (q0 := 1) rfl) rfl rfl hl.1 rfl (lv_room (Nat.le_of_ble_eq_true rfl)) dX7_damage_34 ⟨Nat.le_of_ble_eq_true rfl, Nat.le_of_ble_eq_true rfl⟩) hP hD hS hA [1, 2] [0] rfl rfl rfl (by decide) (fun r34 H locs hw34 hP hD hS => ?_)
  replace hP : va_P D vwCl [(a1, .inl (cJ, 136800, .inr (.inl (mF N)))), (m0, .inr (7, [.ref v, .ref a1, .ref a2, .int ik, .int (nI 0), .int en])), (v, .inl (cJ, 136800, .inr (.inl (vp_updL (vp_updL (mF N) (100 + 10 * a + b) (lN 0)) (100 + 10 * b + a) (lN 0)))))] H := hP
  replace hD : va_D A [(a1, .inl (cJ, 136800, .inr (.inl (mF N)))), (m0, .inr (7, [.ref v, .ref a1, .ref a2, .int ik, .int (nI 0), .int en])), (v, .inl (cJ, 136800, .inr (.inl (vp_updL (vp_updL (mF N) (100 + 10 * a + b) (lN 0)) (100 + 10 * b + a) (lN 0)))))] := hD
  replace hw34 : r34 = nI 0 := hw34
  refine k_ti hw34 ?_
  refine lv_istore (lv' := [(5, .int (nI 0)), (4, .int (nI 0)), (0, .ref m0), (1, .int (nI a)), (2, .int (nI b)), (3, .int (nI u))]) hx hb dX7_damage_37 hl (by decide) rfl (fun ls hl => ?_)
  replace hD := k_reD (q := 2) (e2 := .inl (cJ, 136800, .inr (.inl (mF N)))) hD rfl
  replace hP := k_reJ (q := 2) (g := (mF N)) hP rfl (fun j _ => congrFun (k_links0 (by omega) (by omega)) j)
  replace hP : va_P D vwCl [(a1, .inl (cJ, 136800, .inr (.inl (mF N)))), (m0, .inr (7, [.ref v, .ref a1, .ref a2, .int ik, .int (nI 0), .int en])), (v, .inl (cJ, 136800, .inr (.inl (mF N))))] _ := hP
  replace hD : va_D A [(a1, .inl (cJ, 136800, .inr (.inl (mF N)))), (m0, .inr (7, [.ref v, .ref a1, .ref a2, .int ik, .int (nI 0), .int en])), (v, .inl (cJ, 136800, .inr (.inl (mF N))))] := hD
  refine lv_aload_n hx hb dX7_damage_39 rfl (lv_at hl 2 rfl) ?_
  refine lv_aload_n hx hb dX7_damage_40 rfl (lv_at hl 2 rfl) ?_
  refine va_get (D := D) (ci := 7) (v := .ref v) (C := RX7) (T := TX7) (N := 6) hx hb hts hin7 hown hK hP 1 rfl rfl 0 (by decide) (hts (.fieldLink RX7 8 "MeshRoutingModel" "v" "[J") (List.mem_cons_of_mem _ q_665)) (fun _ h9 => h9) rfl dX7_damage_41 ?_
  refine lv_iconst (v := nI 0) hx hb dX7_damage_44 (by decide) ?_
  refine k_lald (v := lN 0) hx hb hK hP 2 1 rfl rfl (by omega) (by omega) ((mF_o (by omega) (by omega) (by omega))) dX7_damage_45 ?_
  refine lv_iload_n hx hb dX7_damage_46 rfl (lv_at hl 5 rfl) ?_
  refine lv_i2l (v := lN u) hx hb dX7_damage_47 (by exact nI_l (by omega)) ?_
  refine lv_ladd hx hb dX7_damage_48 ?_
  refine k_tl (show ((lN 0) + (lN u)) = (lN u) from (lN_add _ _).trans (congrArg lN (Nat.zero_add _))) ?_
  refine k_ci (wr := [(a1, .inl (cJ, 136800, .inr (.inl (mF N))))]) (w1 := [(m0, .inr (7, [.ref v, .ref a1, .ref a2, .int ik, .int (nI 0), .int en])), (v, .inl (cJ, 136800, .inr (.inl (vp_updL (mF N) 0 (lN u)))))]) (va_runV (As := [.long (lN u)]) (rest := []) ⟨hx, hb, hml, hown, hts⟩ (c_X7_passes0 l D cI cJ cM cG m0 v a1 a2 ik (nI 0) en (mF N) 0 (lN u) H.size (mF_o (by omega) (by omega) (by omega)) (by omega) (fun j h1 h2 => mF_l h1 h2) (fun q h => mF_z (by omega))) (cwV 1 hts (kB_V (fun _ => List.mem_cons_of_mem _) q_807 q_808 q_809 q_670 (kB_c q_810)) rfl rfl rfl (by decide +kernel) ⟨Nat.le_of_ble_eq_true rfl, Nat.le_of_ble_eq_true rfl⟩) (k_preV (T := TX7) hP hD hK hKN [1, 2] rfl rfl (ci := 7) rfl (q0 := 1) rfl) rfl rfl hl.1 rfl (lv_room (Nat.le_of_ble_eq_true rfl)) dX7_damage_49 ⟨Nat.le_of_ble_eq_true rfl, Nat.le_of_ble_eq_true rfl⟩) hP hD hS hA [1, 2] [0] rfl rfl rfl (by decide) (fun r49 H locs hw49 hP hD hS => ?_)
  replace hP : va_P D vwCl [(a1, .inl (cJ, 136800, .inr (.inl (mF N)))), (m0, .inr (7, [.ref v, .ref a1, .ref a2, .int ik, .int (nI 0), .int en])), (v, .inl (cJ, 136800, .inr (.inl (vp_updL (mF N) 0 (lN u)))))] H := hP
  replace hD : va_D A [(a1, .inl (cJ, 136800, .inr (.inl (mF N)))), (m0, .inr (7, [.ref v, .ref a1, .ref a2, .int ik, .int (nI 0), .int en])), (v, .inl (cJ, 136800, .inr (.inl (vp_updL (mF N) 0 (lN u)))))] := hD
  replace hw49 : r49 = nI 0 := hw49
  refine k_ti hw49 ?_
  refine lv_istore (lv' := [(6, .int (nI 0)), (5, .int (nI 0)), (4, .int (nI 0)), (0, .ref m0), (1, .int (nI a)), (2, .int (nI b)), (3, .int (nI u))]) hx hb dX7_damage_52 hl (by decide) rfl (fun ls hl => ?_)
  refine lv_aload_n hx hb dX7_damage_54 rfl (lv_at hl 3 rfl) ?_
  refine lv_iconst (v := nI 3) hx hb dX7_damage_55 (by decide) ?_
  refine k_ci (wr := [(a1, .inl (cJ, 136800, .inr (.inl (mF N))))]) (w1 := [(m0, .inr (7, [.ref v, .ref a1, .ref a2, .int ik, .int (nI 0), .int en])), (v, .inl (cJ, 136800, .inr (.inl (vp_updL (mF N) 0 (lN u)))))]) (va_runV (As := [.int (nI 3)]) (rest := []) ⟨hx, hb, hml, hown, hts⟩ (c_X7_inState0 l D cI cJ cM cG m0 v a1 a2 ik (nI 0) en (vp_updL (mF N) 0 (lN u)) (nI 3) H.size ((pk_uLn (by omega)).trans (mF_o (by omega) (by omega) (by omega)))) (cwV 1 hts (kB_V (fun _ => List.mem_cons_of_mem _) q_779 q_780 q_781 q_670 (kB_c q_782)) rfl rfl rfl (by decide +kernel) ⟨Nat.le_of_ble_eq_true rfl, Nat.le_of_ble_eq_true rfl⟩) (k_preV (T := TX7) hP hD hK hKN [1, 2] rfl rfl (ci := 7) rfl (q0 := 1) rfl) rfl rfl hl.1 rfl (lv_room (Nat.le_of_ble_eq_true rfl)) dX7_damage_56 ⟨Nat.le_of_ble_eq_true rfl, Nat.le_of_ble_eq_true rfl⟩) hP hD hS hA [1, 2] [0] rfl rfl rfl (by decide) (fun r56 H locs hw56 hP hD hS => ?_)
  replace hP : va_P D vwCl [(a1, .inl (cJ, 136800, .inr (.inl (mF N)))), (m0, .inr (7, [.ref v, .ref a1, .ref a2, .int ik, .int (nI 0), .int en])), (v, .inl (cJ, 136800, .inr (.inl (vp_updL (mF N) 0 (lN u)))))] H := hP
  replace hD : va_D A [(a1, .inl (cJ, 136800, .inr (.inl (mF N)))), (m0, .inr (7, [.ref v, .ref a1, .ref a2, .int ik, .int (nI 0), .int en])), (v, .inl (cJ, 136800, .inr (.inl (vp_updL (mF N) 0 (lN u)))))] := hD
  replace hw56 : r56 = nI 0 := hw56
  refine k_ti hw56 ?_
  refine lv_iload hx hb dX7_damage_59 (lv_at hl 2 rfl) ?_
  refine lv_isub hx hb dX7_damage_61 ?_
  refine k_ti (show ((nI 0) - (nI 0)) = (nI 0) from by decide) ?_
  refine lv_istore (lv' := [(7, .int (nI 0)), (6, .int (nI 0)), (5, .int (nI 0)), (4, .int (nI 0)), (0, .ref m0), (1, .int (nI a)), (2, .int (nI b)), (3, .int (nI u))]) hx hb dX7_damage_62 hl (by decide) rfl (fun ls hl => ?_)
  refine lv_aload_n hx hb dX7_damage_64 rfl (lv_at hl 4 rfl) ?_
  refine va_get (D := D) (ci := 7) (v := .ref a1) (C := RX7) (T := TX7) (N := 6) hx hb hts hin7 hown hK hP 1 rfl rfl 1 (by decide) (hts (.fieldLink RX7 14 "MeshRoutingModel" "aside" "[J") (List.mem_cons_of_mem _ q_769)) (fun _ h9 => h9) rfl dX7_damage_65 ?_
  refine lv_aload_n hx hb dX7_damage_68 rfl (lv_at hl 4 rfl) ?_
  refine va_get (D := D) (ci := 7) (v := .ref v) (C := RX7) (T := TX7) (N := 6) hx hb hts hin7 hown hK hP 1 rfl rfl 0 (by decide) (hts (.fieldLink RX7 8 "MeshRoutingModel" "v" "[J") (List.mem_cons_of_mem _ q_665)) (fun _ h9 => h9) rfl dX7_damage_69 ?_
  refine k_cv (wr := [(m0, .inr (7, [.ref v, .ref a1, .ref a2, .int ik, .int (nI 0), .int en]))]) (w1 := [(a1, .inl (cJ, 136800, .inr (.inl (mF N)))), (v, .inl (cJ, 136800, .inr (.inl (mF N))))]) (va_runS (As := [.ref a1, .ref v]) (rest := []) ⟨hx, hb, hml, hown, hts⟩ (c_X7_lays l D cI cJ cM cG a1 v (mF N) (vp_updL (mF N) 0 (lN u)) H.size) (va_cwS 2 hts (kB_S (fun _ => List.mem_cons_of_mem _) q_775 q_776 q_670 (kB_c q_777)) rfl rfl rfl (by decide +kernel) ⟨Nat.le_of_ble_eq_true rfl, Nat.le_of_ble_eq_true rfl⟩) (k_preS hP hD hK hKN [0, 2] rfl rfl) rfl rfl hl.1 rfl (lv_room (Nat.le_of_ble_eq_true rfl)) dX7_damage_72 ⟨Nat.le_of_ble_eq_true rfl, Nat.le_of_ble_eq_true rfl⟩) hP hD hS hA [0, 2] [1] rfl rfl rfl (by decide) (fun H locs hw72 hP hD hS => ?_)
  replace hP : va_P D vwCl [(m0, .inr (7, [.ref v, .ref a1, .ref a2, .int ik, .int (nI 0), .int en])), (a1, .inl (cJ, 136800, .inr (.inl (mF N)))), (v, .inl (cJ, 136800, .inr (.inl (mF N))))] H := hP
  replace hD : va_D A [(m0, .inr (7, [.ref v, .ref a1, .ref a2, .int ik, .int (nI 0), .int en])), (a1, .inl (cJ, 136800, .inr (.inl (mF N)))), (v, .inl (cJ, 136800, .inr (.inl (mF N))))] := hD
  refine lv_iload hx hb dX7_damage_75 (lv_at hl 0 rfl) ?_
  have hP9 := hP.sub (ws' := [(m0, .inr (7, [.ref v, .ref a1, .ref a2, .int ik, .int (nI 0), .int en]))]) [0] rfl
  have hD9 := hD.sub (ws' := [(m0, .inr (7, [.ref v, .ref a1, .ref a2, .int ik, .int (nI 0), .int en]))]) [0] rfl rfl
  exact W.iret (v := nI 0) hx hb hr (fun t9 ht9 hW9 => ⟨⟨nI 0, (), rfl, rfl, by rw [ht9]; exact hP9, hD9⟩, hS.F ht9⟩) hS.2.2 dX7_damage_77

set_option maxHeartbeats 4000000 in
set_option maxRecDepth 100000 in
theorem c_M_keep (l : Launch) (D : va_G) (cI cJ cM cG : ClassId) (m0 : Nat) (v : Nat) (a1 : Nat) (a2 : Nat) (ik : Int32) (th : Int32) (en : Int32) (N : Nat) (sz : Nat) (hN : N ≤ 10) (hN0 : 0 < N) : Met l yX7_keep (Cond.code yX7_keep cX7_keep 1 (some .int) :: kBig) ({ frames := 1, cells := 0, slots := 0, locals := 22 }) (va_Pc [.ref m0] (kP D [(cI, .int), (cJ, .long), (cM, .object "MeshRouting$Message"), (cG, .array .int)] [(m0, .inr (7, [.ref v, .ref a1, .ref a2, .int ik, .int th, .int en])), (v, .inl (cJ, 136800, .inr (.inl (mF N)))), (a2, .inl (cJ, 136800, .inr (.inl (fun _ => 0))))] sz)) (va_Qi (fun (r : Int32) (_ : Unit) => r = nI 0) (fun _ t9 => kB D (va_A [(m0, .inr (7, [.ref v, .ref a1, .ref a2, .int ik, .int th, .int en])), (v, .inl (cJ, 136800, .inr (.inl (mF N)))), (a2, .inl (cJ, 136800, .inr (.inl (fun _ => 0))))] sz) [(m0, .inr (7, [.ref v, .ref a1, .ref a2, .int (nI 1), .int (nI 0), .int en]))] t9) (va_A [(m0, .inr (7, [.ref v, .ref a1, .ref a2, .int ik, .int th, .int en])), (v, .inl (cJ, 136800, .inr (.inl (mF N)))), (a2, .inl (cJ, 136800, .inr (.inl (fun _ => 0))))] sz)) 0 0 (va_A [(m0, .inr (7, [.ref v, .ref a1, .ref a2, .int ik, .int th, .int en])), (v, .inl (cJ, 136800, .inr (.inl (mF N)))), (a2, .inl (cJ, 136800, .inr (.inl (fun _ => 0))))] sz) := by
  refine Met.ofW (cc := cX7_keep) (maxL := 1) (ret := (some .int)) (by decide) rfl ?_
  intro p e s m args below meth c s₁ B hml hv
  obtain ⟨rfl, hsz, hP, hK, hD0, hKN⟩ := hv
  have hx := B.exec
  have hb := B.bytes
  have hr := B.returns
  have hts := atoms_spec (ws := (Cond.code yX7_keep cX7_keep 1 (some .int) :: kBig)) B.pre
  have hown : s.vm.findClass RX7 = some m.cls := findClass_of_methodNamed B.named
  have hlocks := B.notSynchronized
  have hin7 : ∀ w ∈ u_ws RX7 TX7 6, w ∈ (Cond.code yX7_keep cX7_keep 1 (some .int) :: kBig) := fun w h => List.mem_cons_of_mem _ (inb7 w h)
  subst hsz
  have hD := hD0.self (sz := s.heap.size)
  generalize hAe : va_A [(m0, .inr (7, [.ref v, .ref a1, .ref a2, .int ik, .int th, .int en])), (v, .inl (cJ, 136800, .inr (.inl (mF N)))), (a2, .inl (cJ, 136800, .inr (.inl (fun _ => 0))))] s.heap.size = A at hD ⊢
  have hA : ∀ q : Nat, s.heap.size ≤ q → A q := fun q h => by rw [← hAe]; exact Or.inr h
  have hS : va_S A s.heap s.heap [] := va_S.rf
  have hl := lv_entry ([.ref m0]) (n := 1) (Nat.le_of_ble_eq_true rfl)
  rw [lg_entry_eq]
  generalize (lg_sl ([.ref m0]) ++ List.replicate (1 - (lg_sl ([.ref m0])).length) Slot.unset).toArray = ls at hl ⊢
  have hl : lv_has ls 1 [(0, .ref m0)] := hl
  refine lv_aload_n hx hb dX7_keep_0 rfl (lv_at hl 0 rfl) ?_
  refine lv_iconst (v := nI 0) hx hb dX7_keep_1 (by decide) ?_
  refine va_put (D := D) (ci := 7) (v := .int (nI 0)) (ty := .int) (C := RX7) (T := TX7) (N := 6) hx hb hts hin7 tyX7 tyX7_ok nmX7 hown hK hP hD hS 0 rfl rfl 4 (by decide) (hts (.fieldLink RX7 34 "MeshRoutingModel" "thrown" "I") (List.mem_cons_of_mem _ q_760)) (fun _ h9 => h9) rfl (by decide +kernel) rfl rfl (Nat.le_of_ble_eq_true rfl) dX7_keep_2 (fun H locs hP hD hS => ?_)
  replace hP : va_P D vwCl [(m0, .inr (7, [.ref v, .ref a1, .ref a2, .int ik, .int (nI 0), .int en])), (v, .inl (cJ, 136800, .inr (.inl (mF N)))), (a2, .inl (cJ, 136800, .inr (.inl (fun _ => 0))))] H := hP
  replace hD : va_D A [(m0, .inr (7, [.ref v, .ref a1, .ref a2, .int ik, .int (nI 0), .int en])), (v, .inl (cJ, 136800, .inr (.inl (mF N)))), (a2, .inl (cJ, 136800, .inr (.inl (fun _ => 0))))] := hD
  refine lv_aload_n hx hb dX7_keep_5 rfl (lv_at hl 0 rfl) ?_
  refine va_get (D := D) (ci := 7) (v := .ref v) (C := RX7) (T := TX7) (N := 6) hx hb hts hin7 hown hK hP 0 rfl rfl 0 (by decide) (hts (.fieldLink RX7 8 "MeshRoutingModel" "v" "[J") (List.mem_cons_of_mem _ q_665)) (fun _ h9 => h9) rfl dX7_keep_6 ?_
  refine lv_aload_n hx hb dX7_keep_9 rfl (lv_at hl 0 rfl) ?_
  refine va_get (D := D) (ci := 7) (v := .ref a2) (C := RX7) (T := TX7) (N := 6) hx hb hts hin7 hown hK hP 0 rfl rfl 2 (by decide) (hts (.fieldLink RX7 17 "MeshRoutingModel" "kept" "[J") (List.mem_cons_of_mem _ q_915)) (fun _ h9 => h9) rfl dX7_keep_10 ?_
  refine k_cv (wr := [(m0, .inr (7, [.ref v, .ref a1, .ref a2, .int ik, .int (nI 0), .int en]))]) (w1 := [(v, .inl (cJ, 136800, .inr (.inl (mF N)))), (a2, .inl (cJ, 136800, .inr (.inl (mF N))))]) (va_runS (As := [.ref v, .ref a2]) (rest := []) ⟨hx, hb, hml, hown, hts⟩ (c_X7_lays l D cI cJ cM cG v a2 (mF N) (fun _ => 0) H.size) (va_cwS 2 hts (kB_S (fun _ => List.mem_cons_of_mem _) q_775 q_776 q_670 (kB_c q_777)) rfl rfl rfl (by decide +kernel) ⟨Nat.le_of_ble_eq_true rfl, Nat.le_of_ble_eq_true rfl⟩) (k_preS hP hD hK hKN [1, 2] rfl rfl) rfl rfl hl.1 rfl (lv_room (Nat.le_of_ble_eq_true rfl)) dX7_keep_13 ⟨Nat.le_of_ble_eq_true rfl, Nat.le_of_ble_eq_true rfl⟩) hP hD hS hA [1, 2] [0] rfl rfl rfl (by decide) (fun H locs hw13 hP hD hS => ?_)
  replace hP : va_P D vwCl [(m0, .inr (7, [.ref v, .ref a1, .ref a2, .int ik, .int (nI 0), .int en])), (v, .inl (cJ, 136800, .inr (.inl (mF N)))), (a2, .inl (cJ, 136800, .inr (.inl (mF N))))] H := hP
  replace hD : va_D A [(m0, .inr (7, [.ref v, .ref a1, .ref a2, .int ik, .int (nI 0), .int en])), (v, .inl (cJ, 136800, .inr (.inl (mF N)))), (a2, .inl (cJ, 136800, .inr (.inl (mF N))))] := hD
  refine lv_aload_n hx hb dX7_keep_16 rfl (lv_at hl 0 rfl) ?_
  refine lv_iconst (v := nI 1) hx hb dX7_keep_17 (by decide) ?_
  refine va_put (D := D) (ci := 7) (v := .int (nI 1)) (ty := .boolean) (C := RX7) (T := TX7) (N := 6) hx hb hts hin7 tyX7 tyX7_ok nmX7 hown hK hP hD hS 0 rfl rfl 3 (by decide) (hts (.fieldLink RX7 264 "MeshRoutingModel" "isKept" "Z") (List.mem_cons_of_mem _ q_921)) (fun _ h9 => h9) rfl (by decide +kernel) (by decide) rfl (Nat.le_of_ble_eq_true rfl) dX7_keep_18 (fun H locs hP hD hS => ?_)
  replace hP : va_P D vwCl [(m0, .inr (7, [.ref v, .ref a1, .ref a2, .int (nI 1), .int (nI 0), .int en])), (v, .inl (cJ, 136800, .inr (.inl (mF N)))), (a2, .inl (cJ, 136800, .inr (.inl (mF N))))] H := hP
  replace hD : va_D A [(m0, .inr (7, [.ref v, .ref a1, .ref a2, .int (nI 1), .int (nI 0), .int en])), (v, .inl (cJ, 136800, .inr (.inl (mF N)))), (a2, .inl (cJ, 136800, .inr (.inl (mF N))))] := hD
  refine lv_aload_n hx hb dX7_keep_21 rfl (lv_at hl 0 rfl) ?_
  refine va_get (D := D) (ci := 7) (v := .ref v) (C := RX7) (T := TX7) (N := 6) hx hb hts hin7 hown hK hP 0 rfl rfl 0 (by decide) (hts (.fieldLink RX7 8 "MeshRoutingModel" "v" "[J") (List.mem_cons_of_mem _ q_665)) (fun _ h9 => h9) rfl dX7_keep_22 ?_
  refine lv_iconst (v := nI 0) hx hb dX7_keep_25 (by decide) ?_
  refine k_lald (v := lN 0) hx hb hK hP 1 1 rfl rfl (by omega) (by omega) ((mF_o (by omega) (by omega) (by omega))) dX7_keep_26 ?_
  refine lv_l2i (v := nI 0) hx hb dX7_keep_27 (by decide) ?_
  have hP9 := hP.sub (ws' := [(m0, .inr (7, [.ref v, .ref a1, .ref a2, .int (nI 1), .int (nI 0), .int en]))]) [0] rfl
  have hD9 := hD.sub (ws' := [(m0, .inr (7, [.ref v, .ref a1, .ref a2, .int (nI 1), .int (nI 0), .int en]))]) [0] rfl rfl
  exact W.iret (v := nI 0) hx hb hr (fun t9 ht9 hW9 => ⟨⟨nI 0, (), rfl, rfl, by rw [ht9]; exact hP9, hD9⟩, hS.F ht9⟩) hS.2.2 dX7_keep_28

set_option maxHeartbeats 4000000 in
set_option maxRecDepth 100000 in
theorem c_M_restore0 (l : Launch) (D : va_G) (cI cJ cM cG : ClassId) (m0 : Nat) (v : Nat) (a1 : Nat) (a2 : Nat) (ik : Int32) (th : Int32) (en : Int32) (N : Nat) (sz : Nat) (hN : N ≤ 10) (hN0 : 0 < N) : Met l yX7_restore (Cond.code yX7_restore cX7_restore 1 (some .int) :: kBig) ({ frames := 1, cells := 0, slots := 0, locals := 21 }) (va_Pc [.ref m0] (kP D [(cI, .int), (cJ, .long), (cM, .object "MeshRouting$Message"), (cG, .array .int)] [(m0, .inr (7, [.ref v, .ref a1, .ref a2, .int (nI 0), .int th, .int en])), (v, .inl (cJ, 136800, .inr (.inl (mF N))))] sz)) (va_Qi (fun (r : Int32) (_ : Unit) => r = nI 0) (fun _ t9 => kB D (va_A [(m0, .inr (7, [.ref v, .ref a1, .ref a2, .int (nI 0), .int th, .int en])), (v, .inl (cJ, 136800, .inr (.inl (mF N))))] sz) [(m0, .inr (7, [.ref v, .ref a1, .ref a2, .int (nI 0), .int (nI 1), .int en]))] t9) (va_A [(m0, .inr (7, [.ref v, .ref a1, .ref a2, .int (nI 0), .int th, .int en])), (v, .inl (cJ, 136800, .inr (.inl (mF N))))] sz)) 0 0 (va_A [(m0, .inr (7, [.ref v, .ref a1, .ref a2, .int (nI 0), .int th, .int en])), (v, .inl (cJ, 136800, .inr (.inl (mF N))))] sz) := by
  refine Met.ofW (cc := cX7_restore) (maxL := 1) (ret := (some .int)) (by decide) rfl ?_
  intro p e s m args below meth c s₁ B hml hv
  obtain ⟨rfl, hsz, hP, hK, hD0, hKN⟩ := hv
  have hx := B.exec
  have hb := B.bytes
  have hr := B.returns
  have hts := atoms_spec (ws := (Cond.code yX7_restore cX7_restore 1 (some .int) :: kBig)) B.pre
  have hown : s.vm.findClass RX7 = some m.cls := findClass_of_methodNamed B.named
  have hlocks := B.notSynchronized
  have hin7 : ∀ w ∈ u_ws RX7 TX7 6, w ∈ (Cond.code yX7_restore cX7_restore 1 (some .int) :: kBig) := fun w h => List.mem_cons_of_mem _ (inb7 w h)
  subst hsz
  have hD := hD0.self (sz := s.heap.size)
  generalize hAe : va_A [(m0, .inr (7, [.ref v, .ref a1, .ref a2, .int (nI 0), .int th, .int en])), (v, .inl (cJ, 136800, .inr (.inl (mF N))))] s.heap.size = A at hD ⊢
  have hA : ∀ q : Nat, s.heap.size ≤ q → A q := fun q h => by rw [← hAe]; exact Or.inr h
  have hS : va_S A s.heap s.heap [] := va_S.rf
  have hl := lv_entry ([.ref m0]) (n := 1) (Nat.le_of_ble_eq_true rfl)
  rw [lg_entry_eq]
  generalize (lg_sl ([.ref m0]) ++ List.replicate (1 - (lg_sl ([.ref m0])).length) Slot.unset).toArray = ls at hl ⊢
  have hl : lv_has ls 1 [(0, .ref m0)] := hl
  refine lv_aload_n hx hb dX7_restore_0 rfl (lv_at hl 0 rfl) ?_
  refine lv_iconst (v := nI 0) hx hb dX7_restore_1 (by decide) ?_
  refine va_put (D := D) (ci := 7) (v := .int (nI 0)) (ty := .int) (C := RX7) (T := TX7) (N := 6) hx hb hts hin7 tyX7 tyX7_ok nmX7 hown hK hP hD hS 0 rfl rfl 4 (by decide) (hts (.fieldLink RX7 34 "MeshRoutingModel" "thrown" "I") (List.mem_cons_of_mem _ q_760)) (fun _ h9 => h9) rfl (by decide +kernel) rfl rfl (Nat.le_of_ble_eq_true rfl) dX7_restore_2 (fun H locs hP hD hS => ?_)
  replace hP : va_P D vwCl [(m0, .inr (7, [.ref v, .ref a1, .ref a2, .int (nI 0), .int (nI 0), .int en])), (v, .inl (cJ, 136800, .inr (.inl (mF N))))] H := hP
  replace hD : va_D A [(m0, .inr (7, [.ref v, .ref a1, .ref a2, .int (nI 0), .int (nI 0), .int en])), (v, .inl (cJ, 136800, .inr (.inl (mF N))))] := hD
  refine lv_aload_n hx hb dX7_restore_5 rfl (lv_at hl 0 rfl) ?_
  refine va_get (D := D) (ci := 7) (v := .int (nI 0)) (C := RX7) (T := TX7) (N := 6) hx hb hts hin7 hown hK hP 0 rfl rfl 3 (by decide) (hts (.fieldLink RX7 264 "MeshRoutingModel" "isKept" "Z") (List.mem_cons_of_mem _ q_921)) (fun _ h9 => h9) rfl dX7_restore_6 ?_
  refine k_if_ne (tgt := 18) hx hb dX7_restore_9 (by decide) (by omega) (fun h9 => absurd h9 (by omega)) (fun _ => ?_)
  refine lv_aload_n hx hb dX7_restore_12 rfl (lv_at hl 0 rfl) ?_
  refine lv_iconst (v := nI 1) hx hb dX7_restore_13 (by decide) ?_
  refine k_ci (wr := []) (w1 := [(m0, .inr (7, [.ref v, .ref a1, .ref a2, .int (nI 0), .int (nI 1), .int en])), (v, .inl (cJ, 136800, .inr (.inl (mF N))))]) (va_runV (As := [.int (nI 1)]) (rest := []) ⟨hx, hb, hml, hown, hts⟩ (c_X7_fails l D cI cJ cM cG m0 v a1 a2 (nI 0) (nI 0) en (mF N) (nI 1) H.size) (cwV 1 hts (kB_V (fun _ => List.mem_cons_of_mem _) q_924 q_925 q_926 q_670 (kB_c q_883)) rfl rfl rfl (by decide +kernel) ⟨Nat.le_of_ble_eq_true rfl, Nat.le_of_ble_eq_true rfl⟩) (k_preV (T := TX7) hP hD hK hKN [0, 1] rfl rfl (ci := 7) rfl (q0 := 0) rfl) rfl rfl hl.1 rfl (lv_room (Nat.le_of_ble_eq_true rfl)) dX7_restore_14 ⟨Nat.le_of_ble_eq_true rfl, Nat.le_of_ble_eq_true rfl⟩) hP hD hS hA [0, 1] [] rfl rfl rfl (by decide) (fun r14 H locs hw14 hP hD hS => ?_)
  replace hP : va_P D vwCl [(m0, .inr (7, [.ref v, .ref a1, .ref a2, .int (nI 0), .int (nI 1), .int en])), (v, .inl (cJ, 136800, .inr (.inl (mF N))))] H := hP
  replace hD : va_D A [(m0, .inr (7, [.ref v, .ref a1, .ref a2, .int (nI 0), .int (nI 1), .int en])), (v, .inl (cJ, 136800, .inr (.inl (mF N))))] := hD
  replace hw14 : r14 = nI 0 := hw14
  refine k_ti hw14 ?_
  have hP9 := hP.sub (ws' := [(m0, .inr (7, [.ref v, .ref a1, .ref a2, .int (nI 0), .int (nI 1), .int en]))]) [0] rfl
  have hD9 := hD.sub (ws' := [(m0, .inr (7, [.ref v, .ref a1, .ref a2, .int (nI 0), .int (nI 1), .int en]))]) [0] rfl rfl
  exact W.iret (v := nI 0) hx hb hr (fun t9 ht9 hW9 => ⟨⟨nI 0, (), rfl, rfl, by rw [ht9]; exact hP9, hD9⟩, hS.F ht9⟩) hS.2.2 dX7_restore_17
