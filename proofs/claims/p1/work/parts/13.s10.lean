set_option maxHeartbeats 4000000 in
set_option maxRecDepth 100000 in
theorem c_X7_unbuffers (l : Launch) (D : va_G) (cI cJ cM cG : ClassId) (m0 : Nat) (v : Nat) (a1 : Nat) (a2 : Nat) (ik : Int32) (th : Int32) (en : Int32) (f : Nat → Int64) (i : Nat) (d : Nat) (sz : Nat) (hi9 : i < 10) (hd : d < 10) (h1 : f (1400 + 9 * (10 * i + d)) = lN 1) (h2 : f (1400 + 9 * (10 * i + d) + 1) = lN 0) : Met l yX7_unbuffers (Cond.code yX7_unbuffers cX7_unbuffers 6 (some .int) :: kBig) ({ frames := 1, cells := 0, slots := 0, locals := 21 }) (va_Pc [.ref m0, .int (nI i), .int (nI d)] (kP D [(cI, .int), (cJ, .long), (cM, .object "MeshRouting$Message"), (cG, .array .int)] [(m0, .inr (7, [.ref v, .ref a1, .ref a2, .int ik, .int th, .int en])), (v, .inl (cJ, 136800, .inr (.inl f)))] sz)) (va_Qi (fun (r : Int32) (u : Nat → Int64) => r = nI 0 ∧ (u (1400 + 9 * (10 * i + d)) = lN 0 ∧ ∀ j, (j < 1400 + 9 * (10 * i + d) ∨ 1400 + 9 * (10 * i + d) + 9 ≤ j) → u j = f j)) (fun u t9 => kB D (va_A [(m0, .inr (7, [.ref v, .ref a1, .ref a2, .int ik, .int th, .int en])), (v, .inl (cJ, 136800, .inr (.inl f)))] sz) [(m0, .inr (7, [.ref v, .ref a1, .ref a2, .int ik, .int th, .int en])), (v, .inl (cJ, 136800, .inr (.inl u)))] t9) (va_A [(m0, .inr (7, [.ref v, .ref a1, .ref a2, .int ik, .int th, .int en])), (v, .inl (cJ, 136800, .inr (.inl f)))] sz)) 0 0 (va_A [(m0, .inr (7, [.ref v, .ref a1, .ref a2, .int ik, .int th, .int en])), (v, .inl (cJ, 136800, .inr (.inl f)))] sz) := by
  refine Met.ofW (cc := cX7_unbuffers) (maxL := 6) (ret := (some .int)) (by decide) rfl ?_
  intro p e s m args below meth c s₁ B hml hv
  obtain ⟨rfl, hsz, hP, hK, hD0, hKN⟩ := hv
  have hx := B.exec
  have hb := B.bytes
  have hr := B.returns
  have hts := atoms_spec (ws := (Cond.code yX7_unbuffers cX7_unbuffers 6 (some .int) :: kBig)) B.pre
  have hown : s.vm.findClass RX7 = some m.cls := findClass_of_methodNamed B.named
  have hlocks := B.notSynchronized
  have hin7 : ∀ w ∈ u_ws RX7 TX7 6, w ∈ (Cond.code yX7_unbuffers cX7_unbuffers 6 (some .int) :: kBig) := fun w h => List.mem_cons_of_mem _ (inb7 w h)
  subst hsz
  have hD := hD0.self (sz := s.heap.size)
  generalize hAe : va_A [(m0, .inr (7, [.ref v, .ref a1, .ref a2, .int ik, .int th, .int en])), (v, .inl (cJ, 136800, .inr (.inl f)))] s.heap.size = A at hD ⊢
  have hA : ∀ q : Nat, s.heap.size ≤ q → A q := fun q h => by rw [← hAe]; exact Or.inr h
  have hS : va_S A s.heap s.heap [] := va_S.rf
  have hl := lv_entry ([.ref m0, .int (nI i), .int (nI d)]) (n := 6) (Nat.le_of_ble_eq_true rfl)
  rw [lg_entry_eq]
  generalize (lg_sl ([.ref m0, .int (nI i), .int (nI d)]) ++ List.replicate (6 - (lg_sl ([.ref m0, .int (nI i), .int (nI d)])).length) Slot.unset).toArray = ls at hl ⊢
  have hl : lv_has ls 6 [(0, .ref m0), (1, .int (nI i)), (2, .int (nI d))] := hl
  refine lv_iload_n hx hb dX7_unbuffers_0 rfl (lv_at hl 1 rfl) ?_
  refine lv_iload_n hx hb dX7_unbuffers_1 rfl (lv_at hl 2 rfl) ?_
  refine k_ci (wr := [(m0, .inr (7, [.ref v, .ref a1, .ref a2, .int ik, .int th, .int en])), (v, .inl (cJ, 136800, .inr (.inl f)))]) (w1 := []) (va_runS (As := [.int (nI i), .int (nI d)]) (rest := []) ⟨hx, hb, hml, hown, hts⟩ (c_X7_buffer l D cI cJ cM cG i d s.heap.size) (va_cwS 2 hts (kB_S (fun _ => List.mem_cons_of_mem _) q_741 q_742 q_670 (kB_c q_743)) rfl rfl rfl (by decide +kernel) ⟨Nat.le_of_ble_eq_true rfl, Nat.le_of_ble_eq_true rfl⟩) (k_preS hP hD hK hKN [] rfl rfl) rfl rfl hl.1 rfl (lv_room (Nat.le_of_ble_eq_true rfl)) dX7_unbuffers_2 ⟨Nat.le_of_ble_eq_true rfl, Nat.le_of_ble_eq_true rfl⟩) hP hD hS hA [] [0, 1] rfl rfl rfl (by decide) (fun r2 H locs hw2 hP hD hS => ?_)
  replace hP : va_P D vwCl [(m0, .inr (7, [.ref v, .ref a1, .ref a2, .int ik, .int th, .int en])), (v, .inl (cJ, 136800, .inr (.inl f)))] H := hP
  replace hD : va_D A [(m0, .inr (7, [.ref v, .ref a1, .ref a2, .int ik, .int th, .int en])), (v, .inl (cJ, 136800, .inr (.inl f)))] := hD
  replace hw2 : r2 = nI (1400 + 9 * (10 * i + d)) := hw2
  refine k_ti hw2 ?_
  refine lv_istore_n (lv' := [(3, .int (nI (1400 + 9 * (10 * i + d)))), (0, .ref m0), (1, .int (nI i)), (2, .int (nI d))]) hx hb dX7_unbuffers_5 rfl hl (by decide) rfl (fun ls hl => ?_)
  refine lv_aload_n hx hb dX7_unbuffers_6 rfl (lv_at hl 1 rfl) ?_
  refine va_get (D := D) (ci := 7) (v := .ref v) (C := RX7) (T := TX7) (N := 6) hx hb hts hin7 hown hK hP 0 rfl rfl 0 (by decide) (hts (.fieldLink RX7 8 "MeshRoutingModel" "v" "[J") (List.mem_cons_of_mem _ q_665)) (fun _ h9 => h9) rfl dX7_unbuffers_7 ?_
  refine lv_iload_n hx hb dX7_unbuffers_10 rfl (lv_at hl 0 rfl) ?_
  refine lv_iconst (v := nI 1) hx hb dX7_unbuffers_11 (by decide) ?_
  refine lv_iadd hx hb dX7_unbuffers_12 ?_
  refine k_ti (show ((nI (1400 + 9 * (10 * i + d))) + (nI 1)) = (nI (1400 + 9 * (10 * i + d) + 1)) from nI_add _ _) ?_
  refine k_lald (v := lN 0) hx hb hK hP 1 1 rfl rfl (by omega) (by omega) (h2) dX7_unbuffers_13 ?_
  refine lv_l2i (v := nI 0) hx hb dX7_unbuffers_14 (by decide) ?_
  refine lv_istore (lv' := [(4, .int (nI 0)), (3, .int (nI (1400 + 9 * (10 * i + d)))), (0, .ref m0), (1, .int (nI i)), (2, .int (nI d))]) hx hb dX7_unbuffers_15 hl (by decide) rfl (fun ls hl => ?_)
  refine lv_iconst (v := nI 1) hx hb dX7_unbuffers_17 (by decide) ?_
  refine lv_istore (lv' := [(5, .int (nI 1)), (4, .int (nI 0)), (3, .int (nI (1400 + 9 * (10 * i + d)))), (0, .ref m0), (1, .int (nI i)), (2, .int (nI d))]) hx hb dX7_unbuffers_18 hl (by decide) rfl (fun ls hl => ?_)
  refine k_loop (nL := 6) (wf := fun k => [(m0, .inr (7, [.ref v, .ref a1, .ref a2, .int ik, .int th, .int en])), (v, .inl (cJ, 136800, .inr (.inl (mUnb f (1400 + 9 * (10 * i + d)) k))))]) (lvf := fun k => [(0, .ref m0), (1, .int (nI i)), (2, .int (nI d)), (3, .int (nI (1400 + 9 * (10 * i + d)))), (4, .int (nI 0)), (5, .int (nI k))]) (B := 7) 1 (by omega) hP hD hS (lv_sub hl [3, 4, 5, 2, 1, 0] rfl) (fun H locs ls hP hD hS hl => ?_) (fun k hk9 hk ih H locs ls hP hD hS hl => ?_)
  · replace hP : va_P D vwCl [(m0, .inr (7, [.ref v, .ref a1, .ref a2, .int ik, .int th, .int en])), (v, .inl (cJ, 136800, .inr (.inl (mUnb f (1400 + 9 * (10 * i + d)) 7))))] H := hP
    replace hD : va_D A [(m0, .inr (7, [.ref v, .ref a1, .ref a2, .int ik, .int th, .int en])), (v, .inl (cJ, 136800, .inr (.inl (mUnb f (1400 + 9 * (10 * i + d)) 7))))] := hD
    replace hl : lv_has ls 6 [(0, .ref m0), (1, .int (nI i)), (2, .int (nI d)), (3, .int (nI (1400 + 9 * (10 * i + d)))), (4, .int (nI 0)), (5, .int (nI 7))] := hl
    refine lv_iload hx hb dX7_unbuffers_20 (lv_at hl 5 rfl) ?_
    refine lv_bipush (v := nI 7) hx hb dX7_unbuffers_22 (by decide) ?_
    refine k_icmp_ge (tgt := 53) hx hb dX7_unbuffers_24 (by decide) (by omega) (by omega) (fun _ => ?_) (fun h9 => absurd h9 (by omega))
    refine lv_aload_n hx hb dX7_unbuffers_53 rfl (lv_at hl 0 rfl) ?_
    refine va_get (D := D) (ci := 7) (v := .ref v) (C := RX7) (T := TX7) (N := 6) hx hb hts hin7 hown hK hP 0 rfl rfl 0 (by decide) (hts (.fieldLink RX7 8 "MeshRoutingModel" "v" "[J") (List.mem_cons_of_mem _ q_665)) (fun _ h9 => h9) rfl dX7_unbuffers_54 ?_
    refine lv_iload_n hx hb dX7_unbuffers_57 rfl (lv_at hl 3 rfl) ?_
    refine lv_dup2_11 hx hb dX7_unbuffers_58 rfl rfl ?_
    refine k_lald (v := lN 1) hx hb hK hP 1 1 rfl rfl (by omega) (by omega) (((mUnb_out (by omega) 7 (by omega)).trans h1)) dX7_unbuffers_59 ?_
    refine lv_lconst (v := lN 1) hx hb dX7_unbuffers_60 (by decide) ?_
    refine lv_lsub hx hb dX7_unbuffers_61 ?_
    refine k_tl (show ((lN 1) - (lN 1)) = (lN 0) from by decide) ?_
    refine k_last (f' := vp_updL (mUnb f (1400 + 9 * (10 * i + d)) 7) (1400 + 9 * (10 * i + d)) (lN 0)) hx hb hK hP hD hS 1 1 rfl rfl (by omega) (by omega) (rfl) dX7_unbuffers_62 (fun H locs hP hD hS => ?_)
    replace hP : va_P D vwCl [(m0, .inr (7, [.ref v, .ref a1, .ref a2, .int ik, .int th, .int en])), (v, .inl (cJ, 136800, .inr (.inl (vp_updL (mUnb f (1400 + 9 * (10 * i + d)) 7) (1400 + 9 * (10 * i + d)) (lN 0)))))] H := hP
    replace hD : va_D A [(m0, .inr (7, [.ref v, .ref a1, .ref a2, .int ik, .int th, .int en])), (v, .inl (cJ, 136800, .inr (.inl (vp_updL (mUnb f (1400 + 9 * (10 * i + d)) 7) (1400 + 9 * (10 * i + d)) (lN 0)))))] := hD
    refine lv_iload hx hb dX7_unbuffers_63 (lv_at hl 4 rfl) ?_
    have hP9 := hP.sub (ws' := [(m0, .inr (7, [.ref v, .ref a1, .ref a2, .int ik, .int th, .int en])), (v, .inl (cJ, 136800, .inr (.inl (vp_updL (mUnb f (1400 + 9 * (10 * i + d)) 7) (1400 + 9 * (10 * i + d)) (lN 0)))))]) [0, 1] rfl
    have hD9 := hD.sub (ws' := [(m0, .inr (7, [.ref v, .ref a1, .ref a2, .int ik, .int th, .int en])), (v, .inl (cJ, 136800, .inr (.inl (vp_updL (mUnb f (1400 + 9 * (10 * i + d)) 7) (1400 + 9 * (10 * i + d)) (lN 0)))))]) [0, 1] rfl rfl
    exact W.iret (v := nI 0) hx hb hr (fun t9 ht9 hW9 => ⟨⟨nI 0, vp_updL (mUnb f (1400 + 9 * (10 * i + d)) 7) (1400 + 9 * (10 * i + d)) (lN 0), rfl, ⟨rfl, ⟨pk_uLs, fun j hj => (pk_uLn (by omega)).trans (mUnb_out (by omega) 7 (by omega))⟩⟩, by rw [ht9]; exact hP9, hD9⟩, hS.F ht9⟩) hS.2.2 dX7_unbuffers_65
  · replace hP : va_P D vwCl [(m0, .inr (7, [.ref v, .ref a1, .ref a2, .int ik, .int th, .int en])), (v, .inl (cJ, 136800, .inr (.inl (mUnb f (1400 + 9 * (10 * i + d)) k))))] H := hP
    replace hD : va_D A [(m0, .inr (7, [.ref v, .ref a1, .ref a2, .int ik, .int th, .int en])), (v, .inl (cJ, 136800, .inr (.inl (mUnb f (1400 + 9 * (10 * i + d)) k))))] := hD
    replace hl : lv_has ls 6 [(0, .ref m0), (1, .int (nI i)), (2, .int (nI d)), (3, .int (nI (1400 + 9 * (10 * i + d)))), (4, .int (nI 0)), (5, .int (nI k))] := hl
    refine lv_iload hx hb dX7_unbuffers_20 (lv_at hl 5 rfl) ?_
    refine lv_bipush (v := nI 7) hx hb dX7_unbuffers_22 (by decide) ?_
    refine k_icmp_ge (tgt := 53) hx hb dX7_unbuffers_24 (by decide) (by omega) (by omega) (fun h9 => absurd h9 (by omega)) (fun _ => ?_)
    refine lv_aload_n hx hb dX7_unbuffers_27 rfl (lv_at hl 0 rfl) ?_
    refine va_get (D := D) (ci := 7) (v := .ref v) (C := RX7) (T := TX7) (N := 6) hx hb hts hin7 hown hK hP 0 rfl rfl 0 (by decide) (hts (.fieldLink RX7 8 "MeshRoutingModel" "v" "[J") (List.mem_cons_of_mem _ q_665)) (fun _ h9 => h9) rfl dX7_unbuffers_28 ?_
    refine lv_iload_n hx hb dX7_unbuffers_31 rfl (lv_at hl 3 rfl) ?_
    refine lv_iload hx hb dX7_unbuffers_32 (lv_at hl 5 rfl) ?_
    refine lv_iadd hx hb dX7_unbuffers_34 ?_
    refine k_ti (show ((nI (1400 + 9 * (10 * i + d))) + (nI k)) = (nI (1400 + 9 * (10 * i + d) + k)) from nI_add _ _) ?_
    refine lv_aload_n hx hb dX7_unbuffers_35 rfl (lv_at hl 0 rfl) ?_
    refine va_get (D := D) (ci := 7) (v := .ref v) (C := RX7) (T := TX7) (N := 6) hx hb hts hin7 hown hK hP 0 rfl rfl 0 (by decide) (hts (.fieldLink RX7 8 "MeshRoutingModel" "v" "[J") (List.mem_cons_of_mem _ q_665)) (fun _ h9 => h9) rfl dX7_unbuffers_36 ?_
    refine lv_iload_n hx hb dX7_unbuffers_39 rfl (lv_at hl 3 rfl) ?_
    refine lv_iload hx hb dX7_unbuffers_40 (lv_at hl 5 rfl) ?_
    refine lv_iadd hx hb dX7_unbuffers_42 ?_
    refine k_ti (show ((nI (1400 + 9 * (10 * i + d))) + (nI k)) = (nI (1400 + 9 * (10 * i + d) + k)) from nI_add _ _) ?_
    refine lv_iconst (v := nI 2) hx hb dX7_unbuffers_43 (by decide) ?_
    refine lv_iadd hx hb dX7_unbuffers_44 ?_
    refine k_ti (show ((nI (1400 + 9 * (10 * i + d) + k)) + (nI 2)) = (nI (1400 + 9 * (10 * i + d) + k + 2)) from nI_add _ _) ?_
    refine k_lald (v := (mUnb f (1400 + 9 * (10 * i + d)) k) (1400 + 9 * (10 * i + d) + k + 2)) hx hb hK hP 1 1 rfl rfl (by omega) (by omega) (rfl) dX7_unbuffers_45 ?_
    refine k_last (f' := (mUnb f (1400 + 9 * (10 * i + d)) (k + 1))) hx hb hK hP hD hS 1 1 rfl rfl (by omega) (by omega) (mUnb_s (by omega)) dX7_unbuffers_46 (fun H locs hP hD hS => ?_)
    replace hP : va_P D vwCl [(m0, .inr (7, [.ref v, .ref a1, .ref a2, .int ik, .int th, .int en])), (v, .inl (cJ, 136800, .inr (.inl (mUnb f (1400 + 9 * (10 * i + d)) (k + 1)))))] H := hP
    replace hD : va_D A [(m0, .inr (7, [.ref v, .ref a1, .ref a2, .int ik, .int th, .int en])), (v, .inl (cJ, 136800, .inr (.inl (mUnb f (1400 + 9 * (10 * i + d)) (k + 1)))))] := hD
    refine lv_iinc (v := nI (k + 1)) (lv' := [(5, .int (nI (k + 1))), (0, .ref m0), (1, .int (nI i)), (2, .int (nI d)), (3, .int (nI (1400 + 9 * (10 * i + d)))), (4, .int (nI 0))]) hx hb dX7_unbuffers_47 hl (k := 5) rfl (by exact nI_add k 1) (by decide) rfl (fun ls hl => ?_)
    refine lv_goto (tgt := 20) hx hb dX7_unbuffers_50 (by decide) ?_
    exact ih _ _ _ hP hD hS (lv_sub hl [1, 2, 3, 4, 5, 0] rfl)

set_option maxHeartbeats 4000000 in
set_option maxRecDepth 100000 in
theorem c_X7_buffers (l : Launch) (D : va_G) (cI cJ cM cG : ClassId) (m0 : Nat) (v : Nat) (a1 : Nat) (a2 : Nat) (ik : Int32) (th : Int32) (en : Int32) (f : Nat → Int64) (i : Nat) (d : Nat) (sz : Nat) (hi9 : i < 10) (hd : d < 10) (h1 : f (1400 + 9 * (10 * i + d)) = lN 0) : Met l yX7_buffers (Cond.code yX7_buffers cX7_buffers 6 none :: kBig) ({ frames := 1, cells := 0, slots := 0, locals := 21 }) (va_Pc [.ref m0, .int (nI 0), .int (nI i), .int (nI d), .int (-1)] (kP D [(cI, .int), (cJ, .long), (cM, .object "MeshRouting$Message"), (cG, .array .int)] [(m0, .inr (7, [.ref v, .ref a1, .ref a2, .int ik, .int th, .int en])), (v, .inl (cJ, 136800, .inr (.inl f)))] sz)) (va_Qv (fun u : Nat → Int64 => (u (1400 + 9 * (10 * i + d)) = lN 1 ∧ u (1400 + 9 * (10 * i + d) + 1) = lN 0 ∧ u 2302 = lN 0 ∧ ∀ j, j ≠ 1400 + 9 * (10 * i + d) → j ≠ 1400 + 9 * (10 * i + d) + 1 → j ≠ 1400 + 9 * (10 * i + d) + 2 → j ≠ 2302 → j ≠ 2303 → u j = f j)) (fun u t9 => kB D (va_A [(m0, .inr (7, [.ref v, .ref a1, .ref a2, .int ik, .int th, .int en])), (v, .inl (cJ, 136800, .inr (.inl f)))] sz) [(m0, .inr (7, [.ref v, .ref a1, .ref a2, .int ik, .int th, .int en])), (v, .inl (cJ, 136800, .inr (.inl u)))] t9) (va_A [(m0, .inr (7, [.ref v, .ref a1, .ref a2, .int ik, .int th, .int en])), (v, .inl (cJ, 136800, .inr (.inl f)))] sz)) 0 0 (va_A [(m0, .inr (7, [.ref v, .ref a1, .ref a2, .int ik, .int th, .int en])), (v, .inl (cJ, 136800, .inr (.inl f)))] sz) := by
  refine Met.ofW (cc := cX7_buffers) (maxL := 6) (ret := none) (by decide) rfl ?_
  intro p e s m args below meth c s₁ B hml hv
  obtain ⟨rfl, hsz, hP, hK, hD0, hKN⟩ := hv
  have hx := B.exec
  have hb := B.bytes
  have hr := B.returns
  have hts := atoms_spec (ws := (Cond.code yX7_buffers cX7_buffers 6 none :: kBig)) B.pre
  have hown : s.vm.findClass RX7 = some m.cls := findClass_of_methodNamed B.named
  have hlocks := B.notSynchronized
  have hin7 : ∀ w ∈ u_ws RX7 TX7 6, w ∈ (Cond.code yX7_buffers cX7_buffers 6 none :: kBig) := fun w h => List.mem_cons_of_mem _ (inb7 w h)
  subst hsz
  have hD := hD0.self (sz := s.heap.size)
  generalize hAe : va_A [(m0, .inr (7, [.ref v, .ref a1, .ref a2, .int ik, .int th, .int en])), (v, .inl (cJ, 136800, .inr (.inl f)))] s.heap.size = A at hD ⊢
  have hA : ∀ q : Nat, s.heap.size ≤ q → A q := fun q h => by rw [← hAe]; exact Or.inr h
  have hS : va_S A s.heap s.heap [] := va_S.rf
  have hl := lv_entry ([.ref m0, .int (nI 0), .int (nI i), .int (nI d), .int (-1)]) (n := 6) (Nat.le_of_ble_eq_true rfl)
  rw [lg_entry_eq]
  generalize (lg_sl ([.ref m0, .int (nI 0), .int (nI i), .int (nI d), .int (-1)]) ++ List.replicate (6 - (lg_sl ([.ref m0, .int (nI 0), .int (nI i), .int (nI d), .int (-1)])).length) Slot.unset).toArray = ls at hl ⊢
  have hl : lv_has ls 6 [(0, .ref m0), (1, .int (nI 0)), (2, .int (nI i)), (3, .int (nI d)), (4, .int (-1))] := hl
  refine lv_iload_n hx hb dX7_buffers_0 rfl (lv_at hl 2 rfl) ?_
  refine lv_iload_n hx hb dX7_buffers_1 rfl (lv_at hl 3 rfl) ?_
  refine k_ci (wr := [(m0, .inr (7, [.ref v, .ref a1, .ref a2, .int ik, .int th, .int en])), (v, .inl (cJ, 136800, .inr (.inl f)))]) (w1 := []) (va_runS (As := [.int (nI i), .int (nI d)]) (rest := []) ⟨hx, hb, hml, hown, hts⟩ (c_X7_buffer l D cI cJ cM cG i d s.heap.size) (va_cwS 2 hts (kB_S (fun _ => List.mem_cons_of_mem _) q_741 q_742 q_670 (kB_c q_743)) rfl rfl rfl (by decide +kernel) ⟨Nat.le_of_ble_eq_true rfl, Nat.le_of_ble_eq_true rfl⟩) (k_preS hP hD hK hKN [] rfl rfl) rfl rfl hl.1 rfl (lv_room (Nat.le_of_ble_eq_true rfl)) dX7_buffers_2 ⟨Nat.le_of_ble_eq_true rfl, Nat.le_of_ble_eq_true rfl⟩) hP hD hS hA [] [0, 1] rfl rfl rfl (by decide) (fun r2 H locs hw2 hP hD hS => ?_)
  replace hP : va_P D vwCl [(m0, .inr (7, [.ref v, .ref a1, .ref a2, .int ik, .int th, .int en])), (v, .inl (cJ, 136800, .inr (.inl f)))] H := hP
  replace hD : va_D A [(m0, .inr (7, [.ref v, .ref a1, .ref a2, .int ik, .int th, .int en])), (v, .inl (cJ, 136800, .inr (.inl f)))] := hD
  replace hw2 : r2 = nI (1400 + 9 * (10 * i + d)) := hw2
  refine k_ti hw2 ?_
  refine lv_istore (lv' := [(5, .int (nI (1400 + 9 * (10 * i + d)))), (0, .ref m0), (1, .int (nI 0)), (2, .int (nI i)), (3, .int (nI d)), (4, .int (-1))]) hx hb dX7_buffers_5 hl (by decide) rfl (fun ls hl => ?_)
  refine lv_aload_n hx hb dX7_buffers_7 rfl (lv_at hl 1 rfl) ?_
  refine va_get (D := D) (ci := 7) (v := .ref v) (C := RX7) (T := TX7) (N := 6) hx hb hts hin7 hown hK hP 0 rfl rfl 0 (by decide) (hts (.fieldLink RX7 8 "MeshRoutingModel" "v" "[J") (List.mem_cons_of_mem _ q_665)) (fun _ h9 => h9) rfl dX7_buffers_8 ?_
  refine lv_iload hx hb dX7_buffers_11 (lv_at hl 0 rfl) ?_
  refine k_lald (v := lN 0) hx hb hK hP 1 1 rfl rfl (by omega) (by omega) (h1) dX7_buffers_13 ?_
  refine lv_ldc2 (v := 4) hx hb hown (by exact hts (.constantLong RX7 98 (4)) (List.mem_cons_of_mem _ q_740)) dX7_buffers_14 ?_
  refine k_tl (show (4) = (lN 4) from by decide) ?_
  refine W.lcmp hx hb dX7_buffers_17 ?_
  refine k_lif_ne (tgt := 35) hx hb dX7_buffers_18 (by decide) (by omega) (by omega) (fun _ => ?_) (fun h9 => absurd h9 (by omega))
  refine lv_aload_n hx hb dX7_buffers_35 rfl (lv_at hl 1 rfl) ?_
  refine va_get (D := D) (ci := 7) (v := .ref v) (C := RX7) (T := TX7) (N := 6) hx hb hts hin7 hown hK hP 0 rfl rfl 0 (by decide) (hts (.fieldLink RX7 8 "MeshRoutingModel" "v" "[J") (List.mem_cons_of_mem _ q_665)) (fun _ h9 => h9) rfl dX7_buffers_36 ?_
  refine lv_iload hx hb dX7_buffers_39 (lv_at hl 0 rfl) ?_
  refine lv_iconst (v := nI 1) hx hb dX7_buffers_41 (by decide) ?_
  refine lv_iadd hx hb dX7_buffers_42 ?_
  refine k_ti (show ((nI (1400 + 9 * (10 * i + d))) + (nI 1)) = (nI (1400 + 9 * (10 * i + d) + 1)) from nI_add _ _) ?_
  refine lv_iconst (v := nI 2) hx hb dX7_buffers_43 (by decide) ?_
  refine lv_aload_n hx hb dX7_buffers_44 rfl (lv_at hl 1 rfl) ?_
  refine va_get (D := D) (ci := 7) (v := .ref v) (C := RX7) (T := TX7) (N := 6) hx hb hts hin7 hown hK hP 0 rfl rfl 0 (by decide) (hts (.fieldLink RX7 8 "MeshRoutingModel" "v" "[J") (List.mem_cons_of_mem _ q_665)) (fun _ h9 => h9) rfl dX7_buffers_45 ?_
  refine lv_iload hx hb dX7_buffers_48 (lv_at hl 0 rfl) ?_
  refine k_lald (v := lN 0) hx hb hK hP 1 1 rfl rfl (by omega) (by omega) (h1) dX7_buffers_50 ?_
  refine lv_l2i (v := nI 0) hx hb dX7_buffers_51 (by decide) ?_
  refine lv_imul hx hb dX7_buffers_52 ?_
  refine k_ti (show ((nI 2) * (nI 0)) = (nI 0) from by decide) ?_
  refine lv_iadd hx hb dX7_buffers_53 ?_
  refine k_ti (show ((nI (1400 + 9 * (10 * i + d) + 1)) + (nI 0)) = (nI (1400 + 9 * (10 * i + d) + 1 + 0)) from nI_add _ _) ?_
  refine lv_iload_n hx hb dX7_buffers_54 rfl (lv_at hl 2 rfl) ?_
  refine lv_i2l (v := lN 0) hx hb dX7_buffers_55 (by decide) ?_
  refine k_last (f' := vp_updL f (1400 + 9 * (10 * i + d) + 1 + 0) (lN 0)) hx hb hK hP hD hS 1 1 rfl rfl (by omega) (by omega) (rfl) dX7_buffers_56 (fun H locs hP hD hS => ?_)
  replace hP : va_P D vwCl [(m0, .inr (7, [.ref v, .ref a1, .ref a2, .int ik, .int th, .int en])), (v, .inl (cJ, 136800, .inr (.inl (vp_updL f (1400 + 9 * (10 * i + d) + 1 + 0) (lN 0)))))] H := hP
  replace hD : va_D A [(m0, .inr (7, [.ref v, .ref a1, .ref a2, .int ik, .int th, .int en])), (v, .inl (cJ, 136800, .inr (.inl (vp_updL f (1400 + 9 * (10 * i + d) + 1 + 0) (lN 0)))))] := hD
  refine lv_aload_n hx hb dX7_buffers_57 rfl (lv_at hl 1 rfl) ?_
  refine va_get (D := D) (ci := 7) (v := .ref v) (C := RX7) (T := TX7) (N := 6) hx hb hts hin7 hown hK hP 0 rfl rfl 0 (by decide) (hts (.fieldLink RX7 8 "MeshRoutingModel" "v" "[J") (List.mem_cons_of_mem _ q_665)) (fun _ h9 => h9) rfl dX7_buffers_58 ?_
  refine lv_iload hx hb dX7_buffers_61 (lv_at hl 0 rfl) ?_
  refine lv_iconst (v := nI 2) hx hb dX7_buffers_63 (by decide) ?_
  refine lv_iadd hx hb dX7_buffers_64 ?_
  refine k_ti (show ((nI (1400 + 9 * (10 * i + d))) + (nI 2)) = (nI (1400 + 9 * (10 * i + d) + 2)) from nI_add _ _) ?_
  refine lv_iconst (v := nI 2) hx hb dX7_buffers_65 (by decide) ?_
  refine lv_aload_n hx hb dX7_buffers_66 rfl (lv_at hl 1 rfl) ?_
  refine va_get (D := D) (ci := 7) (v := .ref v) (C := RX7) (T := TX7) (N := 6) hx hb hts hin7 hown hK hP 0 rfl rfl 0 (by decide) (hts (.fieldLink RX7 8 "MeshRoutingModel" "v" "[J") (List.mem_cons_of_mem _ q_665)) (fun _ h9 => h9) rfl dX7_buffers_67 ?_
  refine lv_iload hx hb dX7_buffers_70 (lv_at hl 0 rfl) ?_
  refine k_lald (v := lN 0) hx hb hK hP 1 1 rfl rfl (by omega) (by omega) (((pk_uLn (by omega)).trans h1)) dX7_buffers_72 ?_
  refine lv_l2i (v := nI 0) hx hb dX7_buffers_73 (by decide) ?_
  refine lv_imul hx hb dX7_buffers_74 ?_
  refine k_ti (show ((nI 2) * (nI 0)) = (nI 0) from by decide) ?_
  refine lv_iadd hx hb dX7_buffers_75 ?_
  refine k_ti (show ((nI (1400 + 9 * (10 * i + d) + 2)) + (nI 0)) = (nI (1400 + 9 * (10 * i + d) + 2 + 0)) from nI_add _ _) ?_
  refine lv_iload hx hb dX7_buffers_76 (lv_at hl 5 rfl) ?_
  refine lv_i2l (v := (-1)) hx hb dX7_buffers_78 (by decide) ?_
  refine k_last (f' := vp_updL (vp_updL f (1400 + 9 * (10 * i + d) + 1 + 0) (lN 0)) (1400 + 9 * (10 * i + d) + 2 + 0) (-1)) hx hb hK hP hD hS 1 1 rfl rfl (by omega) (by omega) (rfl) dX7_buffers_79 (fun H locs hP hD hS => ?_)
  replace hP : va_P D vwCl [(m0, .inr (7, [.ref v, .ref a1, .ref a2, .int ik, .int th, .int en])), (v, .inl (cJ, 136800, .inr (.inl (vp_updL (vp_updL f (1400 + 9 * (10 * i + d) + 1 + 0) (lN 0)) (1400 + 9 * (10 * i + d) + 2 + 0) (-1)))))] H := hP
  replace hD : va_D A [(m0, .inr (7, [.ref v, .ref a1, .ref a2, .int ik, .int th, .int en])), (v, .inl (cJ, 136800, .inr (.inl (vp_updL (vp_updL f (1400 + 9 * (10 * i + d) + 1 + 0) (lN 0)) (1400 + 9 * (10 * i + d) + 2 + 0) (-1)))))] := hD
  refine lv_aload_n hx hb dX7_buffers_80 rfl (lv_at hl 1 rfl) ?_
  refine va_get (D := D) (ci := 7) (v := .ref v) (C := RX7) (T := TX7) (N := 6) hx hb hts hin7 hown hK hP 0 rfl rfl 0 (by decide) (hts (.fieldLink RX7 8 "MeshRoutingModel" "v" "[J") (List.mem_cons_of_mem _ q_665)) (fun _ h9 => h9) rfl dX7_buffers_81 ?_
  refine lv_iload hx hb dX7_buffers_84 (lv_at hl 0 rfl) ?_
  refine lv_dup2_11 hx hb dX7_buffers_86 rfl rfl ?_
  refine k_lald (v := lN 0) hx hb hK hP 1 1 rfl rfl (by omega) (by omega) (((pk_uLn (by omega)).trans ((pk_uLn (by omega)).trans h1))) dX7_buffers_87 ?_
  refine lv_lconst (v := lN 1) hx hb dX7_buffers_88 (by decide) ?_
  refine lv_ladd hx hb dX7_buffers_89 ?_
  refine k_tl (show ((lN 0) + (lN 1)) = (lN 1) from by decide) ?_
  refine k_last (f' := vp_updL (vp_updL (vp_updL f (1400 + 9 * (10 * i + d) + 1 + 0) (lN 0)) (1400 + 9 * (10 * i + d) + 2 + 0) (-1)) (1400 + 9 * (10 * i + d)) (lN 1)) hx hb hK hP hD hS 1 1 rfl rfl (by omega) (by omega) (rfl) dX7_buffers_90 (fun H locs hP hD hS => ?_)
  replace hP : va_P D vwCl [(m0, .inr (7, [.ref v, .ref a1, .ref a2, .int ik, .int th, .int en])), (v, .inl (cJ, 136800, .inr (.inl (vp_updL (vp_updL (vp_updL f (1400 + 9 * (10 * i + d) + 1 + 0) (lN 0)) (1400 + 9 * (10 * i + d) + 2 + 0) (-1)) (1400 + 9 * (10 * i + d)) (lN 1)))))] H := hP
  replace hD : va_D A [(m0, .inr (7, [.ref v, .ref a1, .ref a2, .int ik, .int th, .int en])), (v, .inl (cJ, 136800, .inr (.inl (vp_updL (vp_updL (vp_updL f (1400 + 9 * (10 * i + d) + 1 + 0) (lN 0)) (1400 + 9 * (10 * i + d) + 2 + 0) (-1)) (1400 + 9 * (10 * i + d)) (lN 1)))))] := hD
  refine lv_aload_n hx hb dX7_buffers_91 rfl (lv_at hl 1 rfl) ?_
  refine va_get (D := D) (ci := 7) (v := .ref v) (C := RX7) (T := TX7) (N := 6) hx hb hts hin7 hown hK hP 0 rfl rfl 0 (by decide) (hts (.fieldLink RX7 8 "MeshRoutingModel" "v" "[J") (List.mem_cons_of_mem _ q_665)) (fun _ h9 => h9) rfl dX7_buffers_92 ?_
  refine lv_iload_n hx hb dX7_buffers_95 rfl (lv_at hl 2 rfl) ?_
  refine k_ci (wr := [(m0, .inr (7, [.ref v, .ref a1, .ref a2, .int ik, .int th, .int en])), (v, .inl (cJ, 136800, .inr (.inl (vp_updL (vp_updL (vp_updL f (1400 + 9 * (10 * i + d) + 1 + 0) (lN 0)) (1400 + 9 * (10 * i + d) + 2 + 0) (-1)) (1400 + 9 * (10 * i + d)) (lN 1)))))]) (w1 := []) (va_runS (As := [.int (nI 0)]) (rest := [.ref v]) ⟨hx, hb, hml, hown, hts⟩ (c_X7_packet l D cI cJ cM cG 0 H.size) (va_cwS 1 hts (kB_S (fun _ => List.mem_cons_of_mem _) q_711 q_712 q_670 (kB_c q_713)) rfl rfl rfl (by decide +kernel) ⟨Nat.le_of_ble_eq_true rfl, Nat.le_of_ble_eq_true rfl⟩) (k_preS hP hD hK hKN [] rfl rfl) rfl rfl hl.1 rfl (lv_room (Nat.le_of_ble_eq_true rfl)) dX7_buffers_96 ⟨Nat.le_of_ble_eq_true rfl, Nat.le_of_ble_eq_true rfl⟩) hP hD hS hA [] [0, 1] rfl rfl rfl (by decide) (fun r96 H locs hw96 hP hD hS => ?_)
  replace hP : va_P D vwCl [(m0, .inr (7, [.ref v, .ref a1, .ref a2, .int ik, .int th, .int en])), (v, .inl (cJ, 136800, .inr (.inl (vp_updL (vp_updL (vp_updL f (1400 + 9 * (10 * i + d) + 1 + 0) (lN 0)) (1400 + 9 * (10 * i + d) + 2 + 0) (-1)) (1400 + 9 * (10 * i + d)) (lN 1)))))] H := hP
  replace hD : va_D A [(m0, .inr (7, [.ref v, .ref a1, .ref a2, .int ik, .int th, .int en])), (v, .inl (cJ, 136800, .inr (.inl (vp_updL (vp_updL (vp_updL f (1400 + 9 * (10 * i + d) + 1 + 0) (lN 0)) (1400 + 9 * (10 * i + d) + 2 + 0) (-1)) (1400 + 9 * (10 * i + d)) (lN 1)))))] := hD
  replace hw96 : r96 = nI (2300 + 8 * 0) := hw96
  refine k_ti hw96 ?_
  refine lv_iconst (v := nI 2) hx hb dX7_buffers_99 (by decide) ?_
  refine lv_iadd hx hb dX7_buffers_100 ?_
  refine k_ti (show ((nI (2300 + 8 * 0)) + (nI 2)) = (nI (2300 + 8 * 0 + 2)) from nI_add _ _) ?_
  refine lv_lconst (v := lN 0) hx hb dX7_buffers_101 (by decide) ?_
  refine k_last (f' := vp_updL (vp_updL (vp_updL (vp_updL f (1400 + 9 * (10 * i + d) + 1 + 0) (lN 0)) (1400 + 9 * (10 * i + d) + 2 + 0) (-1)) (1400 + 9 * (10 * i + d)) (lN 1)) (2300 + 8 * 0 + 2) (lN 0)) hx hb hK hP hD hS 1 1 rfl rfl (by omega) (by omega) (rfl) dX7_buffers_102 (fun H locs hP hD hS => ?_)
  replace hP : va_P D vwCl [(m0, .inr (7, [.ref v, .ref a1, .ref a2, .int ik, .int th, .int en])), (v, .inl (cJ, 136800, .inr (.inl (vp_updL (vp_updL (vp_updL (vp_updL f (1400 + 9 * (10 * i + d) + 1 + 0) (lN 0)) (1400 + 9 * (10 * i + d) + 2 + 0) (-1)) (1400 + 9 * (10 * i + d)) (lN 1)) (2300 + 8 * 0 + 2) (lN 0)))))] H := hP
  replace hD : va_D A [(m0, .inr (7, [.ref v, .ref a1, .ref a2, .int ik, .int th, .int en])), (v, .inl (cJ, 136800, .inr (.inl (vp_updL (vp_updL (vp_updL (vp_updL f (1400 + 9 * (10 * i + d) + 1 + 0) (lN 0)) (1400 + 9 * (10 * i + d) + 2 + 0) (-1)) (1400 + 9 * (10 * i + d)) (lN 1)) (2300 + 8 * 0 + 2) (lN 0)))))] := hD
  refine lv_aload_n hx hb dX7_buffers_103 rfl (lv_at hl 1 rfl) ?_
  refine va_get (D := D) (ci := 7) (v := .ref v) (C := RX7) (T := TX7) (N := 6) hx hb hts hin7 hown hK hP 0 rfl rfl 0 (by decide) (hts (.fieldLink RX7 8 "MeshRoutingModel" "v" "[J") (List.mem_cons_of_mem _ q_665)) (fun _ h9 => h9) rfl dX7_buffers_104 ?_
  refine lv_iload_n hx hb dX7_buffers_107 rfl (lv_at hl 2 rfl) ?_
  refine k_ci (wr := [(m0, .inr (7, [.ref v, .ref a1, .ref a2, .int ik, .int th, .int en])), (v, .inl (cJ, 136800, .inr (.inl (vp_updL (vp_updL (vp_updL (vp_updL f (1400 + 9 * (10 * i + d) + 1 + 0) (lN 0)) (1400 + 9 * (10 * i + d) + 2 + 0) (-1)) (1400 + 9 * (10 * i + d)) (lN 1)) (2300 + 8 * 0 + 2) (lN 0)))))]) (w1 := []) (va_runS (As := [.int (nI 0)]) (rest := [.ref v]) ⟨hx, hb, hml, hown, hts⟩ (c_X7_packet l D cI cJ cM cG 0 H.size) (va_cwS 1 hts (kB_S (fun _ => List.mem_cons_of_mem _) q_711 q_712 q_670 (kB_c q_713)) rfl rfl rfl (by decide +kernel) ⟨Nat.le_of_ble_eq_true rfl, Nat.le_of_ble_eq_true rfl⟩) (k_preS hP hD hK hKN [] rfl rfl) rfl rfl hl.1 rfl (lv_room (Nat.le_of_ble_eq_true rfl)) dX7_buffers_108 ⟨Nat.le_of_ble_eq_true rfl, Nat.le_of_ble_eq_true rfl⟩) hP hD hS hA [] [0, 1] rfl rfl rfl (by decide) (fun r108 H locs hw108 hP hD hS => ?_)
  replace hP : va_P D vwCl [(m0, .inr (7, [.ref v, .ref a1, .ref a2, .int ik, .int th, .int en])), (v, .inl (cJ, 136800, .inr (.inl (vp_updL (vp_updL (vp_updL (vp_updL f (1400 + 9 * (10 * i + d) + 1 + 0) (lN 0)) (1400 + 9 * (10 * i + d) + 2 + 0) (-1)) (1400 + 9 * (10 * i + d)) (lN 1)) (2300 + 8 * 0 + 2) (lN 0)))))] H := hP
  replace hD : va_D A [(m0, .inr (7, [.ref v, .ref a1, .ref a2, .int ik, .int th, .int en])), (v, .inl (cJ, 136800, .inr (.inl (vp_updL (vp_updL (vp_updL (vp_updL f (1400 + 9 * (10 * i + d) + 1 + 0) (lN 0)) (1400 + 9 * (10 * i + d) + 2 + 0) (-1)) (1400 + 9 * (10 * i + d)) (lN 1)) (2300 + 8 * 0 + 2) (lN 0)))))] := hD
  replace hw108 : r108 = nI (2300 + 8 * 0) := hw108
  refine k_ti hw108 ?_
  refine lv_iconst (v := nI 3) hx hb dX7_buffers_111 (by decide) ?_
  refine lv_iadd hx hb dX7_buffers_112 ?_
  refine k_ti (show ((nI (2300 + 8 * 0)) + (nI 3)) = (nI (2300 + 8 * 0 + 3)) from nI_add _ _) ?_
  refine lv_iload_n hx hb dX7_buffers_113 rfl (lv_at hl 3 rfl) ?_
  refine lv_i2l (v := lN i) hx hb dX7_buffers_114 (by exact nI_l (by omega)) ?_
  refine k_last (f' := vp_updL (vp_updL (vp_updL (vp_updL (vp_updL f (1400 + 9 * (10 * i + d) + 1 + 0) (lN 0)) (1400 + 9 * (10 * i + d) + 2 + 0) (-1)) (1400 + 9 * (10 * i + d)) (lN 1)) (2300 + 8 * 0 + 2) (lN 0)) (2300 + 8 * 0 + 3) (lN i)) hx hb hK hP hD hS 1 1 rfl rfl (by omega) (by omega) (rfl) dX7_buffers_115 (fun H locs hP hD hS => ?_)
  replace hP : va_P D vwCl [(m0, .inr (7, [.ref v, .ref a1, .ref a2, .int ik, .int th, .int en])), (v, .inl (cJ, 136800, .inr (.inl (vp_updL (vp_updL (vp_updL (vp_updL (vp_updL f (1400 + 9 * (10 * i + d) + 1 + 0) (lN 0)) (1400 + 9 * (10 * i + d) + 2 + 0) (-1)) (1400 + 9 * (10 * i + d)) (lN 1)) (2300 + 8 * 0 + 2) (lN 0)) (2300 + 8 * 0 + 3) (lN i)))))] H := hP
  replace hD : va_D A [(m0, .inr (7, [.ref v, .ref a1, .ref a2, .int ik, .int th, .int en])), (v, .inl (cJ, 136800, .inr (.inl (vp_updL (vp_updL (vp_updL (vp_updL (vp_updL f (1400 + 9 * (10 * i + d) + 1 + 0) (lN 0)) (1400 + 9 * (10 * i + d) + 2 + 0) (-1)) (1400 + 9 * (10 * i + d)) (lN 1)) (2300 + 8 * 0 + 2) (lN 0)) (2300 + 8 * 0 + 3) (lN i)))))] := hD
  have hP9 := hP.sub (ws' := [(m0, .inr (7, [.ref v, .ref a1, .ref a2, .int ik, .int th, .int en])), (v, .inl (cJ, 136800, .inr (.inl (vp_updL (vp_updL (vp_updL (vp_updL (vp_updL f (1400 + 9 * (10 * i + d) + 1 + 0) (lN 0)) (1400 + 9 * (10 * i + d) + 2 + 0) (-1)) (1400 + 9 * (10 * i + d)) (lN 1)) (2300 + 8 * 0 + 2) (lN 0)) (2300 + 8 * 0 + 3) (lN i)))))]) [0, 1] rfl
  have hD9 := hD.sub (ws' := [(m0, .inr (7, [.ref v, .ref a1, .ref a2, .int ik, .int th, .int en])), (v, .inl (cJ, 136800, .inr (.inl (vp_updL (vp_updL (vp_updL (vp_updL (vp_updL f (1400 + 9 * (10 * i + d) + 1 + 0) (lN 0)) (1400 + 9 * (10 * i + d) + 2 + 0) (-1)) (1400 + 9 * (10 * i + d)) (lN 1)) (2300 + 8 * 0 + 2) (lN 0)) (2300 + 8 * 0 + 3) (lN i)))))]) [0, 1] rfl rfl
  exact W.vret hx hb hr (fun t9 ht9 hW9 => ⟨⟨vp_updL (vp_updL (vp_updL (vp_updL (vp_updL f (1400 + 9 * (10 * i + d) + 1 + 0) (lN 0)) (1400 + 9 * (10 * i + d) + 2 + 0) (-1)) (1400 + 9 * (10 * i + d)) (lN 1)) (2300 + 8 * 0 + 2) (lN 0)) (2300 + 8 * 0 + 3) (lN i), rfl, ⟨by first | exact (pk_uLn (by omega)).trans ((pk_uLn (by omega)).trans pk_uLs), by first | exact (pk_uLn (by omega)).trans ((pk_uLn (by omega)).trans ((pk_uLn (by omega)).trans ((pk_uLn (by omega)).trans (by first | exact pk_uLs | rfl)))), by first | exact (pk_uLn (by omega)).trans (by first | exact pk_uLs | rfl), fun j h1 h2 h3 h4 h5 => (pk_uLn (by omega)).trans ((pk_uLn (by omega)).trans ((pk_uLn (by omega)).trans ((pk_uLn (by omega)).trans (pk_uLn (by omega)))))⟩, by rw [ht9]; exact hP9, hD9⟩, hS.F ht9⟩) hS.2.2 dX7_buffers_116

set_option maxHeartbeats 4000000 in
set_option maxRecDepth 100000 in
theorem c_X7_dropsAll (l : Launch) (D : va_G) (cI cJ cM cG : ClassId) (m0 : Nat) (v : Nat) (a1 : Nat) (a2 : Nat) (ik : Int32) (th : Int32) (en : Int32) (f : Nat → Int64) (i : Nat) (d : Nat) (cz : Nat) (t : Nat) (sz : Nat) (hi9 : i < 10) (hd : d < 10) (hcz : cz < 100) (h0 : f 0 = lN t) (h1 : f (1400 + 9 * (10 * i + d)) = lN 1) (h2 : f (1400 + 9 * (10 * i + d) + 1) = lN 0) : Met l yX7_dropsAll (Cond.code yX7_dropsAll cX7_dropsAll 4 none :: kBig) ({ frames := 2, cells := 0, slots := 0, locals := 46 }) (va_Pc [.ref m0, .int (nI i), .int (nI d), .int (nI cz)] (kP D [(cI, .int), (cJ, .long), (cM, .object "MeshRouting$Message"), (cG, .array .int)] [(m0, .inr (7, [.ref v, .ref a1, .ref a2, .int ik, .int th, .int en])), (v, .inl (cJ, 136800, .inr (.inl f)))] sz)) (va_Qv (fun u : Nat → Int64 => (u 2302 = lN 3 ∧ ∀ j, (j < 1400 + 9 * (10 * i + d) ∨ 1400 + 9 * (10 * i + d) + 9 ≤ j) → j ≠ 2302 → j ≠ 2303 → j ≠ 2305 → j ≠ 2306 → u j = f j)) (fun u t9 => kB D (va_A [(m0, .inr (7, [.ref v, .ref a1, .ref a2, .int ik, .int th, .int en])), (v, .inl (cJ, 136800, .inr (.inl f)))] sz) [(m0, .inr (7, [.ref v, .ref a1, .ref a2, .int ik, .int th, .int en])), (v, .inl (cJ, 136800, .inr (.inl u)))] t9) (va_A [(m0, .inr (7, [.ref v, .ref a1, .ref a2, .int ik, .int th, .int en])), (v, .inl (cJ, 136800, .inr (.inl f)))] sz)) 0 0 (va_A [(m0, .inr (7, [.ref v, .ref a1, .ref a2, .int ik, .int th, .int en])), (v, .inl (cJ, 136800, .inr (.inl f)))] sz) := by
  refine Met.ofW (cc := cX7_dropsAll) (maxL := 4) (ret := none) (by decide) rfl ?_
  intro p e s m args below meth c s₁ B hml hv
  obtain ⟨rfl, hsz, hP, hK, hD0, hKN⟩ := hv
  have hx := B.exec
  have hb := B.bytes
  have hr := B.returns
  have hts := atoms_spec (ws := (Cond.code yX7_dropsAll cX7_dropsAll 4 none :: kBig)) B.pre
  have hown : s.vm.findClass RX7 = some m.cls := findClass_of_methodNamed B.named
  have hlocks := B.notSynchronized
  have hin7 : ∀ w ∈ u_ws RX7 TX7 6, w ∈ (Cond.code yX7_dropsAll cX7_dropsAll 4 none :: kBig) := fun w h => List.mem_cons_of_mem _ (inb7 w h)
  subst hsz
  have hD := hD0.self (sz := s.heap.size)
  generalize hAe : va_A [(m0, .inr (7, [.ref v, .ref a1, .ref a2, .int ik, .int th, .int en])), (v, .inl (cJ, 136800, .inr (.inl f)))] s.heap.size = A at hD ⊢
  have hA : ∀ q : Nat, s.heap.size ≤ q → A q := fun q h => by rw [← hAe]; exact Or.inr h
  have hS : va_S A s.heap s.heap [] := va_S.rf
  have hl := lv_entry ([.ref m0, .int (nI i), .int (nI d), .int (nI cz)]) (n := 4) (Nat.le_of_ble_eq_true rfl)
  rw [lg_entry_eq]
  generalize (lg_sl ([.ref m0, .int (nI i), .int (nI d), .int (nI cz)]) ++ List.replicate (4 - (lg_sl ([.ref m0, .int (nI i), .int (nI d), .int (nI cz)])).length) Slot.unset).toArray = ls at hl ⊢
  have hl : lv_has ls 4 [(0, .ref m0), (1, .int (nI i)), (2, .int (nI d)), (3, .int (nI cz))] := hl
  refine lv_aload_n hx hb dX7_dropsAll_0 rfl (lv_at hl 0 rfl) ?_
  refine va_get (D := D) (ci := 7) (v := .ref v) (C := RX7) (T := TX7) (N := 6) hx hb hts hin7 hown hK hP 0 rfl rfl 0 (by decide) (hts (.fieldLink RX7 8 "MeshRoutingModel" "v" "[J") (List.mem_cons_of_mem _ q_665)) (fun _ h9 => h9) rfl dX7_dropsAll_1 ?_
  refine lv_iload_n hx hb dX7_dropsAll_4 rfl (lv_at hl 1 rfl) ?_
  refine lv_iload_n hx hb dX7_dropsAll_5 rfl (lv_at hl 2 rfl) ?_
  refine k_ci (wr := [(m0, .inr (7, [.ref v, .ref a1, .ref a2, .int ik, .int th, .int en])), (v, .inl (cJ, 136800, .inr (.inl f)))]) (w1 := []) (va_runS (As := [.int (nI i), .int (nI d)]) (rest := [.ref v]) ⟨hx, hb, hml, hown, hts⟩ (c_X7_buffer l D cI cJ cM cG i d s.heap.size) (va_cwS 2 hts (kB_S (fun _ => List.mem_cons_of_mem _) q_741 q_742 q_670 (kB_c q_743)) rfl rfl rfl (by decide +kernel) ⟨Nat.le_of_ble_eq_true rfl, Nat.le_of_ble_eq_true rfl⟩) (k_preS hP hD hK hKN [] rfl rfl) rfl rfl hl.1 rfl (lv_room (Nat.le_of_ble_eq_true rfl)) dX7_dropsAll_6 ⟨Nat.le_of_ble_eq_true rfl, Nat.le_of_ble_eq_true rfl⟩) hP hD hS hA [] [0, 1] rfl rfl rfl (by decide) (fun r6 H locs hw6 hP hD hS => ?_)
  replace hP : va_P D vwCl [(m0, .inr (7, [.ref v, .ref a1, .ref a2, .int ik, .int th, .int en])), (v, .inl (cJ, 136800, .inr (.inl f)))] H := hP
  replace hD : va_D A [(m0, .inr (7, [.ref v, .ref a1, .ref a2, .int ik, .int th, .int en])), (v, .inl (cJ, 136800, .inr (.inl f)))] := hD
  replace hw6 : r6 = nI (1400 + 9 * (10 * i + d)) := hw6
  refine k_ti hw6 ?_
  refine k_lald (v := lN 1) hx hb hK hP 1 1 rfl rfl (by omega) (by omega) (h1) dX7_dropsAll_9 ?_
  refine lv_lconst (v := lN 0) hx hb dX7_dropsAll_10 (by decide) ?_
  refine W.lcmp hx hb dX7_dropsAll_11 ?_
  refine k_lif_le (tgt := 31) hx hb dX7_dropsAll_12 (by decide) (by omega) (by omega) (fun h9 => absurd h9 (by omega)) (fun _ => ?_)
  refine lv_aload_n hx hb dX7_dropsAll_15 rfl (lv_at hl 0 rfl) ?_
  refine lv_aload_n hx hb dX7_dropsAll_16 rfl (lv_at hl 0 rfl) ?_
  refine lv_iload_n hx hb dX7_dropsAll_17 rfl (lv_at hl 1 rfl) ?_
  refine lv_iload_n hx hb dX7_dropsAll_18 rfl (lv_at hl 2 rfl) ?_
  refine k_ciS (wr := []) (w1 := fun u => [(m0, .inr (7, [.ref v, .ref a1, .ref a2, .int ik, .int th, .int en])), (v, .inl (cJ, 136800, .inr (.inl u)))]) (va_runV (As := [.int (nI i), .int (nI d)]) (rest := [.ref m0]) ⟨hx, hb, hml, hown, hts⟩ (c_X7_unbuffers l D cI cJ cM cG m0 v a1 a2 ik th en f i d H.size (hi9) (hd) (h1) (h2)) (cwV 2 hts (kB_V (fun _ => List.mem_cons_of_mem _) q_744 q_745 q_746 q_670 (kB_c q_747)) rfl rfl rfl (by decide +kernel) ⟨Nat.le_of_ble_eq_true rfl, Nat.le_of_ble_eq_true rfl⟩) (k_preV (T := TX7) hP hD hK hKN [0, 1] rfl rfl (ci := 7) rfl (q0 := 0) rfl) rfl rfl hl.1 rfl (lv_room (Nat.le_of_ble_eq_true rfl)) dX7_dropsAll_19 ⟨Nat.le_of_ble_eq_true rfl, Nat.le_of_ble_eq_true rfl⟩) hP hD hS hA [0, 1] [] rfl rfl rfl (by decide) (fun r19 u19 H locs hw19 hP hD hS => ?_)
  replace hP : va_P D vwCl [(m0, .inr (7, [.ref v, .ref a1, .ref a2, .int ik, .int th, .int en])), (v, .inl (cJ, 136800, .inr (.inl u19)))] H := hP
  replace hD : va_D A [(m0, .inr (7, [.ref v, .ref a1, .ref a2, .int ik, .int th, .int en])), (v, .inl (cJ, 136800, .inr (.inl u19)))] := hD
  obtain ⟨hw19, hu19⟩ := hw19
  replace hw19 : r19 = nI 0 := hw19
  refine k_ti hw19 ?_
  refine lv_iconst (v := nI 3) hx hb dX7_dropsAll_22 (by decide) ?_
  refine lv_iload_n hx hb dX7_dropsAll_23 rfl (lv_at hl 1 rfl) ?_
  refine lv_iload_n hx hb dX7_dropsAll_24 rfl (lv_at hl 3 rfl) ?_
  refine k_cV (wr := []) (w1 := fun u => [(m0, .inr (7, [.ref v, .ref a1, .ref a2, .int ik, .int th, .int en])), (v, .inl (cJ, 136800, .inr (.inl u)))]) (va_runV (As := [.int (nI 0), .int (nI 3), .int (nI i), .int (nI cz)]) (rest := []) ⟨hx, hb, hml, hown, hts⟩ (c_X7_ends l D cI cJ cM cG m0 v a1 a2 ik th en u19 3 i cz t H.size ((hu19.2 0 (by omega)).trans h0) (by omega) (hi9) (hcz)) (cwV 4 hts (kB_V (fun _ => List.mem_cons_of_mem _) q_720 q_721 q_722 q_670 (kB_c q_723)) rfl rfl rfl (by decide +kernel) ⟨Nat.le_of_ble_eq_true rfl, Nat.le_of_ble_eq_true rfl⟩) (k_preV (T := TX7) hP hD hK hKN [0, 1] rfl rfl (ci := 7) rfl (q0 := 0) rfl) rfl rfl hl.1 rfl (lv_room (Nat.le_of_ble_eq_true rfl)) dX7_dropsAll_25 ⟨Nat.le_of_ble_eq_true rfl, Nat.le_of_ble_eq_true rfl⟩) hP hD hS hA [0, 1] [] rfl rfl rfl (by decide) (fun u25 H locs hw25 hP hD hS => ?_)
  replace hP : va_P D vwCl [(m0, .inr (7, [.ref v, .ref a1, .ref a2, .int ik, .int th, .int en])), (v, .inl (cJ, 136800, .inr (.inl u25)))] H := hP
  replace hD : va_D A [(m0, .inr (7, [.ref v, .ref a1, .ref a2, .int ik, .int th, .int en])), (v, .inl (cJ, 136800, .inr (.inl u25)))] := hD
  have hu25 := hw25
  refine lv_goto (tgt := 0) hx hb dX7_dropsAll_28 (by decide) ?_
  refine lv_aload_n hx hb dX7_dropsAll_0 rfl (lv_at hl 0 rfl) ?_
  refine va_get (D := D) (ci := 7) (v := .ref v) (C := RX7) (T := TX7) (N := 6) hx hb hts hin7 hown hK hP 0 rfl rfl 0 (by decide) (hts (.fieldLink RX7 8 "MeshRoutingModel" "v" "[J") (List.mem_cons_of_mem _ q_665)) (fun _ h9 => h9) rfl dX7_dropsAll_1 ?_
  refine lv_iload_n hx hb dX7_dropsAll_4 rfl (lv_at hl 1 rfl) ?_
  refine lv_iload_n hx hb dX7_dropsAll_5 rfl (lv_at hl 2 rfl) ?_
  refine k_ci (wr := [(m0, .inr (7, [.ref v, .ref a1, .ref a2, .int ik, .int th, .int en])), (v, .inl (cJ, 136800, .inr (.inl u25)))]) (w1 := []) (va_runS (As := [.int (nI i), .int (nI d)]) (rest := [.ref v]) ⟨hx, hb, hml, hown, hts⟩ (c_X7_buffer l D cI cJ cM cG i d H.size) (va_cwS 2 hts (kB_S (fun _ => List.mem_cons_of_mem _) q_741 q_742 q_670 (kB_c q_743)) rfl rfl rfl (by decide +kernel) ⟨Nat.le_of_ble_eq_true rfl, Nat.le_of_ble_eq_true rfl⟩) (k_preS hP hD hK hKN [] rfl rfl) rfl rfl hl.1 rfl (lv_room (Nat.le_of_ble_eq_true rfl)) dX7_dropsAll_6 ⟨Nat.le_of_ble_eq_true rfl, Nat.le_of_ble_eq_true rfl⟩) hP hD hS hA [] [0, 1] rfl rfl rfl (by decide) (fun r6 H locs hw6 hP hD hS => ?_)
  replace hP : va_P D vwCl [(m0, .inr (7, [.ref v, .ref a1, .ref a2, .int ik, .int th, .int en])), (v, .inl (cJ, 136800, .inr (.inl u25)))] H := hP
  replace hD : va_D A [(m0, .inr (7, [.ref v, .ref a1, .ref a2, .int ik, .int th, .int en])), (v, .inl (cJ, 136800, .inr (.inl u25)))] := hD
  replace hw6 : r6 = nI (1400 + 9 * (10 * i + d)) := hw6
  refine k_ti hw6 ?_
  refine k_lald (v := lN 0) hx hb hK hP 1 1 rfl rfl (by omega) (by omega) (((hu25.2 _ (by omega) (by omega) (by omega) (by omega)).trans hu19.1)) dX7_dropsAll_9 ?_
  refine lv_lconst (v := lN 0) hx hb dX7_dropsAll_10 (by decide) ?_
  refine W.lcmp hx hb dX7_dropsAll_11 ?_
  refine k_lif_le (tgt := 31) hx hb dX7_dropsAll_12 (by decide) (by omega) (by omega) (fun _ => ?_) (fun h9 => absurd h9 (by omega))
  have hP9 := hP.sub (ws' := [(m0, .inr (7, [.ref v, .ref a1, .ref a2, .int ik, .int th, .int en])), (v, .inl (cJ, 136800, .inr (.inl u25)))]) [0, 1] rfl
  have hD9 := hD.sub (ws' := [(m0, .inr (7, [.ref v, .ref a1, .ref a2, .int ik, .int th, .int en])), (v, .inl (cJ, 136800, .inr (.inl u25)))]) [0, 1] rfl rfl
  exact W.vret hx hb hr (fun t9 ht9 hW9 => ⟨⟨u25, rfl, ⟨hu25.1, fun j h3 h4 h5 h6 h7 => (hu25.2 j h4 h5 h6 h7).trans (hu19.2 j h3)⟩, by rw [ht9]; exact hP9, hD9⟩, hS.F ht9⟩) hS.2.2 dX7_dropsAll_31

set_option maxHeartbeats 4000000 in
set_option maxRecDepth 100000 in
theorem c_X7_broadcasts (l : Launch) (D : va_G) (cI cJ cM cG : ClassId) (m0 : Nat) (v : Nat) (a1 : Nat) (a2 : Nat) (ik : Int32) (th : Int32) (en : Int32) (f : Nat → Int64) (i : Nat) (x1 : Int64) (x2 : Int64) (N : Nat) (sz : Nat) (hi9 : i < 10) (hN : N ≤ 10) (h1 : f 1 = lN N) (hf : ∀ j, 100 ≤ j → j < 200 → f j = lN 0) : Met l yX7_broadcasts (Cond.code yX7_broadcasts cX7_broadcasts 7 none :: kBig) ({ frames := 1, cells := 0, slots := 0, locals := 22 }) (va_Pc [.ref m0, .int (nI i), .long x1, .long x2] (kP D [(cI, .int), (cJ, .long), (cM, .object "MeshRouting$Message"), (cG, .array .int)] [(m0, .inr (7, [.ref v, .ref a1, .ref a2, .int ik, .int th, .int en])), (v, .inl (cJ, 136800, .inr (.inl f)))] sz)) (va_Qv (fun _ : Unit => True) (fun _ t9 => kB D (va_A [(m0, .inr (7, [.ref v, .ref a1, .ref a2, .int ik, .int th, .int en])), (v, .inl (cJ, 136800, .inr (.inl f)))] sz) [(m0, .inr (7, [.ref v, .ref a1, .ref a2, .int ik, .int th, .int en])), (v, .inl (cJ, 136800, .inr (.inl f)))] t9) (va_A [(m0, .inr (7, [.ref v, .ref a1, .ref a2, .int ik, .int th, .int en])), (v, .inl (cJ, 136800, .inr (.inl f)))] sz)) 0 0 (va_A [(m0, .inr (7, [.ref v, .ref a1, .ref a2, .int ik, .int th, .int en])), (v, .inl (cJ, 136800, .inr (.inl f)))] sz) := by
  refine Met.ofW (cc := cX7_broadcasts) (maxL := 7) (ret := none) (by decide) rfl ?_
  intro p e s m args below meth c s₁ B hml hv
  obtain ⟨rfl, hsz, hP, hK, hD0, hKN⟩ := hv
  have hx := B.exec
  have hb := B.bytes
  have hr := B.returns
  have hts := atoms_spec (ws := (Cond.code yX7_broadcasts cX7_broadcasts 7 none :: kBig)) B.pre
  have hown : s.vm.findClass RX7 = some m.cls := findClass_of_methodNamed B.named
  have hlocks := B.notSynchronized
  have hin7 : ∀ w ∈ u_ws RX7 TX7 6, w ∈ (Cond.code yX7_broadcasts cX7_broadcasts 7 none :: kBig) := fun w h => List.mem_cons_of_mem _ (inb7 w h)
  subst hsz
  have hD := hD0.self (sz := s.heap.size)
  generalize hAe : va_A [(m0, .inr (7, [.ref v, .ref a1, .ref a2, .int ik, .int th, .int en])), (v, .inl (cJ, 136800, .inr (.inl f)))] s.heap.size = A at hD ⊢
  have hA : ∀ q : Nat, s.heap.size ≤ q → A q := fun q h => by rw [← hAe]; exact Or.inr h
  have hS : va_S A s.heap s.heap [] := va_S.rf
  have hl := lv_entry ([.ref m0, .int (nI i), .long x1, .long x2]) (n := 7) (Nat.le_of_ble_eq_true rfl)
  rw [lg_entry_eq]
  generalize (lg_sl ([.ref m0, .int (nI i), .long x1, .long x2]) ++ List.replicate (7 - (lg_sl ([.ref m0, .int (nI i), .long x1, .long x2])).length) Slot.unset).toArray = ls at hl ⊢
  have hl : lv_has ls 7 [(0, .ref m0), (1, .int (nI i)), (2, .long x1), (4, .long x2)] := hl
  refine lv_iconst (v := nI 0) hx hb dX7_broadcasts_0 (by decide) ?_
  refine lv_istore (lv' := [(6, .int (nI 0)), (0, .ref m0), (1, .int (nI i)), (2, .long x1), (4, .long x2)]) hx hb dX7_broadcasts_1 hl (by decide) rfl (fun ls hl => ?_)
  refine k_loop (nL := 7) (wf := fun k => [(m0, .inr (7, [.ref v, .ref a1, .ref a2, .int ik, .int th, .int en])), (v, .inl (cJ, 136800, .inr (.inl f)))]) (lvf := fun k => [(0, .ref m0), (1, .int (nI i)), (2, .long x1), (4, .long x2), (6, .int (nI k))]) (B := N) 0 (Nat.zero_le _) hP hD hS (lv_sub hl [1, 2, 3, 4, 0] rfl) (fun H locs ls hP hD hS hl => ?_) (fun k hk9 hk ih H locs ls hP hD hS hl => ?_)
  · replace hP : va_P D vwCl [(m0, .inr (7, [.ref v, .ref a1, .ref a2, .int ik, .int th, .int en])), (v, .inl (cJ, 136800, .inr (.inl f)))] H := hP
    replace hD : va_D A [(m0, .inr (7, [.ref v, .ref a1, .ref a2, .int ik, .int th, .int en])), (v, .inl (cJ, 136800, .inr (.inl f)))] := hD
    replace hl : lv_has ls 7 [(0, .ref m0), (1, .int (nI i)), (2, .long x1), (4, .long x2), (6, .int (nI N))] := hl
    refine lv_iload hx hb dX7_broadcasts_3 (lv_at hl 4 rfl) ?_
    refine lv_i2l (v := lN N) hx hb dX7_broadcasts_5 (by exact nI_l (by omega)) ?_
    refine lv_aload_n hx hb dX7_broadcasts_6 rfl (lv_at hl 0 rfl) ?_
    refine va_get (D := D) (ci := 7) (v := .ref v) (C := RX7) (T := TX7) (N := 6) hx hb hts hin7 hown hK hP 0 rfl rfl 0 (by decide) (hts (.fieldLink RX7 8 "MeshRoutingModel" "v" "[J") (List.mem_cons_of_mem _ q_665)) (fun _ h9 => h9) rfl dX7_broadcasts_7 ?_
    refine lv_iconst (v := nI 1) hx hb dX7_broadcasts_10 (by decide) ?_
    refine k_lald (v := lN N) hx hb hK hP 1 1 rfl rfl (by omega) (by omega) (h1) dX7_broadcasts_11 ?_
    refine W.lcmp hx hb dX7_broadcasts_12 ?_
    refine k_lif_ge (tgt := 43) hx hb dX7_broadcasts_13 (by decide) (by omega) (by omega) (fun _ => ?_) (fun h9 => absurd h9 (by omega))
    have hP9 := hP.sub (ws' := [(m0, .inr (7, [.ref v, .ref a1, .ref a2, .int ik, .int th, .int en])), (v, .inl (cJ, 136800, .inr (.inl f)))]) [0, 1] rfl
    have hD9 := hD.sub (ws' := [(m0, .inr (7, [.ref v, .ref a1, .ref a2, .int ik, .int th, .int en])), (v, .inl (cJ, 136800, .inr (.inl f)))]) [0, 1] rfl rfl
    exact W.vret hx hb hr (fun t9 ht9 hW9 => ⟨⟨(), rfl, trivial, by rw [ht9]; exact hP9, hD9⟩, hS.F ht9⟩) hS.2.2 dX7_broadcasts_43
  · replace hP : va_P D vwCl [(m0, .inr (7, [.ref v, .ref a1, .ref a2, .int ik, .int th, .int en])), (v, .inl (cJ, 136800, .inr (.inl f)))] H := hP
    replace hD : va_D A [(m0, .inr (7, [.ref v, .ref a1, .ref a2, .int ik, .int th, .int en])), (v, .inl (cJ, 136800, .inr (.inl f)))] := hD
    replace hl : lv_has ls 7 [(0, .ref m0), (1, .int (nI i)), (2, .long x1), (4, .long x2), (6, .int (nI k))] := hl
    refine lv_iload hx hb dX7_broadcasts_3 (lv_at hl 4 rfl) ?_
    refine lv_i2l (v := lN k) hx hb dX7_broadcasts_5 (by exact nI_l (by omega)) ?_
    refine lv_aload_n hx hb dX7_broadcasts_6 rfl (lv_at hl 0 rfl) ?_
    refine va_get (D := D) (ci := 7) (v := .ref v) (C := RX7) (T := TX7) (N := 6) hx hb hts hin7 hown hK hP 0 rfl rfl 0 (by decide) (hts (.fieldLink RX7 8 "MeshRoutingModel" "v" "[J") (List.mem_cons_of_mem _ q_665)) (fun _ h9 => h9) rfl dX7_broadcasts_7 ?_
    refine lv_iconst (v := nI 1) hx hb dX7_broadcasts_10 (by decide) ?_
    refine k_lald (v := lN N) hx hb hK hP 1 1 rfl rfl (by omega) (by omega) (h1) dX7_broadcasts_11 ?_
    refine W.lcmp hx hb dX7_broadcasts_12 ?_
    refine k_lif_ge (tgt := 43) hx hb dX7_broadcasts_13 (by decide) (by omega) (by omega) (fun h9 => absurd h9 (by omega)) (fun _ => ?_)
    refine lv_aload_n hx hb dX7_broadcasts_16 rfl (lv_at hl 0 rfl) ?_
    refine lv_iload_n hx hb dX7_broadcasts_17 rfl (lv_at hl 1 rfl) ?_
    refine lv_iload hx hb dX7_broadcasts_18 (lv_at hl 4 rfl) ?_
    refine k_ci (wr := []) (w1 := [(m0, .inr (7, [.ref v, .ref a1, .ref a2, .int ik, .int th, .int en])), (v, .inl (cJ, 136800, .inr (.inl f)))]) (va_runV (As := [.int (nI i), .int (nI k)]) (rest := []) ⟨hx, hb, hml, hown, hts⟩ (c_X7_isUp l D cI cJ cM cG m0 v a1 a2 ik th en f i k H.size (hi9) (by omega) (hf)) (cwV 2 hts (kB_V (fun _ => List.mem_cons_of_mem _) q_694 q_695 q_696 q_670 (kB_c q_697)) rfl rfl rfl (by decide +kernel) ⟨Nat.le_of_ble_eq_true rfl, Nat.le_of_ble_eq_true rfl⟩) (k_preV (T := TX7) hP hD hK hKN [0, 1] rfl rfl (ci := 7) rfl (q0 := 0) rfl) rfl rfl hl.1 rfl (lv_room (Nat.le_of_ble_eq_true rfl)) dX7_broadcasts_20 ⟨Nat.le_of_ble_eq_true rfl, Nat.le_of_ble_eq_true rfl⟩) hP hD hS hA [0, 1] [] rfl rfl rfl (by decide) (fun r20 H locs hw20 hP hD hS => ?_)
    replace hP : va_P D vwCl [(m0, .inr (7, [.ref v, .ref a1, .ref a2, .int ik, .int th, .int en])), (v, .inl (cJ, 136800, .inr (.inl f)))] H := hP
    replace hD : va_D A [(m0, .inr (7, [.ref v, .ref a1, .ref a2, .int ik, .int th, .int en])), (v, .inl (cJ, 136800, .inr (.inl f)))] := hD
    replace hw20 : r20 = nI 0 := hw20
    refine k_ti hw20 ?_
    refine k_if_eq (tgt := 37) hx hb dX7_broadcasts_23 (by decide) (by omega) (fun _ => ?_) (fun h9 => absurd h9 (by omega))
    refine lv_iinc (v := nI (k + 1)) (lv' := [(6, .int (nI (k + 1))), (0, .ref m0), (1, .int (nI i)), (2, .long x1), (4, .long x2)]) hx hb dX7_broadcasts_37 hl (k := 4) rfl (by exact nI_add k 1) (by decide) rfl (fun ls hl => ?_)
    refine lv_goto (tgt := 3) hx hb dX7_broadcasts_40 (by decide) ?_
    exact ih _ _ _ hP hD hS (lv_sub hl [1, 2, 3, 4, 0] rfl)

set_option maxHeartbeats 4000000 in
set_option maxRecDepth 100000 in
theorem c_X7_asks (l : Launch) (D : va_G) (cI cJ cM cG : ClassId) (m0 : Nat) (v : Nat) (a1 : Nat) (a2 : Nat) (ik : Int32) (th : Int32) (en : Int32) (f : Nat → Int64) (o : Nat) (d : Nat) (r : Nat) (N : Nat) (t : Nat) (k : Nat) (sz : Nat) (ho : o < 10) (hd : d < 10) (hN : N ≤ 10) (hk : k < 60) (ht : t < 2 ^ 40) (hr9 : r < 100) (h0 : f 0 = lN t) (h1 : f 1 = lN N) (h6 : f (60 + o) = lN k) (h46 : f 46 = lN 20) (hf : ∀ j, 100 ≤ j → j < 1000 → f j = lN 0) : Met l yX7_asks (Cond.code yX7_asks cX7_asks 8 none :: kBig) ({ frames := 3, cells := 0, slots := 0, locals := 71 }) (va_Pc [.ref m0, .int (nI o), .int (nI d), .long (lN r)] (kP D [(cI, .int), (cJ, .long), (cM, .object "MeshRouting$Message"), (cG, .array .int)] [(m0, .inr (7, [.ref v, .ref a1, .ref a2, .int ik, .int th, .int en])), (v, .inl (cJ, 136800, .inr (.inl f)))] sz)) (va_Qv (fun u : Nat → Int64 => (mAsk f u o d t r k)) (fun u t9 => kB D (va_A [(m0, .inr (7, [.ref v, .ref a1, .ref a2, .int ik, .int th, .int en])), (v, .inl (cJ, 136800, .inr (.inl f)))] sz) [(m0, .inr (7, [.ref v, .ref a1, .ref a2, .int ik, .int th, .int en])), (v, .inl (cJ, 136800, .inr (.inl u)))] t9) (va_A [(m0, .inr (7, [.ref v, .ref a1, .ref a2, .int ik, .int th, .int en])), (v, .inl (cJ, 136800, .inr (.inl f)))] sz)) 0 0 (va_A [(m0, .inr (7, [.ref v, .ref a1, .ref a2, .int ik, .int th, .int en])), (v, .inl (cJ, 136800, .inr (.inl f)))] sz) := by
  refine Met.ofW (cc := cX7_asks) (maxL := 8) (ret := none) (by decide) rfl ?_
  intro p e s m args below meth c s₁ B hml hv
  obtain ⟨rfl, hsz, hP, hK, hD0, hKN⟩ := hv
  have hx := B.exec
  have hb := B.bytes
  have hr := B.returns
  have hts := atoms_spec (ws := (Cond.code yX7_asks cX7_asks 8 none :: kBig)) B.pre
  have hown : s.vm.findClass RX7 = some m.cls := findClass_of_methodNamed B.named
  have hlocks := B.notSynchronized
  have hin7 : ∀ w ∈ u_ws RX7 TX7 6, w ∈ (Cond.code yX7_asks cX7_asks 8 none :: kBig) := fun w h => List.mem_cons_of_mem _ (inb7 w h)
  subst hsz
  have hD := hD0.self (sz := s.heap.size)
  generalize hAe : va_A [(m0, .inr (7, [.ref v, .ref a1, .ref a2, .int ik, .int th, .int en])), (v, .inl (cJ, 136800, .inr (.inl f)))] s.heap.size = A at hD ⊢
  have hA : ∀ q : Nat, s.heap.size ≤ q → A q := fun q h => by rw [← hAe]; exact Or.inr h
  have hS : va_S A s.heap s.heap [] := va_S.rf
  have hl := lv_entry ([.ref m0, .int (nI o), .int (nI d), .long (lN r)]) (n := 8) (Nat.le_of_ble_eq_true rfl)
  rw [lg_entry_eq]
  generalize (lg_sl ([.ref m0, .int (nI o), .int (nI d), .long (lN r)]) ++ List.replicate (8 - (lg_sl ([.ref m0, .int (nI o), .int (nI d), .long (lN r)])).length) Slot.unset).toArray = ls at hl ⊢
  have hl : lv_has ls 8 [(0, .ref m0), (1, .int (nI o)), (2, .int (nI d)), (3, .long (lN r))] := hl
  refine lv_aload_n hx hb dX7_asks_0 rfl (lv_at hl 0 rfl) ?_
  refine va_get (D := D) (ci := 7) (v := .ref v) (C := RX7) (T := TX7) (N := 6) hx hb hts hin7 hown hK hP 0 rfl rfl 0 (by decide) (hts (.fieldLink RX7 8 "MeshRoutingModel" "v" "[J") (List.mem_cons_of_mem _ q_665)) (fun _ h9 => h9) rfl dX7_asks_1 ?_
  refine lv_bipush (v := nI 50) hx hb dX7_asks_4 (by decide) ?_
  refine lv_iload_n hx hb dX7_asks_6 rfl (lv_at hl 1 rfl) ?_
  refine lv_iadd hx hb dX7_asks_7 ?_
  refine k_ti (show ((nI 50) + (nI o)) = (nI (50 + o)) from nI_add _ _) ?_
  refine lv_dup2_11 hx hb dX7_asks_8 rfl rfl ?_
  refine k_lald (v := f (50 + o)) hx hb hK hP 1 1 rfl rfl (by omega) (by omega) (rfl) dX7_asks_9 ?_
  refine lv_lconst (v := lN 1) hx hb dX7_asks_10 (by decide) ?_
  refine lv_ladd hx hb dX7_asks_11 ?_
  refine k_last (f' := vp_updL f (50 + o) ((f (50 + o)) + (lN 1))) hx hb hK hP hD hS 1 1 rfl rfl (by omega) (by omega) (rfl) dX7_asks_12 (fun H locs hP hD hS => ?_)
  replace hP : va_P D vwCl [(m0, .inr (7, [.ref v, .ref a1, .ref a2, .int ik, .int th, .int en])), (v, .inl (cJ, 136800, .inr (.inl (vp_updL f (50 + o) ((f (50 + o)) + (lN 1))))))] H := hP
  replace hD : va_D A [(m0, .inr (7, [.ref v, .ref a1, .ref a2, .int ik, .int th, .int en])), (v, .inl (cJ, 136800, .inr (.inl (vp_updL f (50 + o) ((f (50 + o)) + (lN 1))))))] := hD
  refine lv_aload_n hx hb dX7_asks_13 rfl (lv_at hl 0 rfl) ?_
  refine va_get (D := D) (ci := 7) (v := .ref v) (C := RX7) (T := TX7) (N := 6) hx hb hts hin7 hown hK hP 0 rfl rfl 0 (by decide) (hts (.fieldLink RX7 8 "MeshRoutingModel" "v" "[J") (List.mem_cons_of_mem _ q_665)) (fun _ h9 => h9) rfl dX7_asks_14 ?_
  refine lv_bipush (v := nI 60) hx hb dX7_asks_17 (by decide) ?_
  refine lv_iload_n hx hb dX7_asks_19 rfl (lv_at hl 1 rfl) ?_
  refine lv_iadd hx hb dX7_asks_20 ?_
  refine k_ti (show ((nI 60) + (nI o)) = (nI (60 + o)) from nI_add _ _) ?_
  refine lv_dup2_11 hx hb dX7_asks_21 rfl rfl ?_
  refine k_lald (v := lN k) hx hb hK hP 1 1 rfl rfl (by omega) (by omega) (((pk_uLn (by omega)).trans h6)) dX7_asks_22 ?_
  refine lv_lconst (v := lN 1) hx hb dX7_asks_23 (by decide) ?_
  refine lv_ladd hx hb dX7_asks_24 ?_
  refine k_tl (show ((lN k) + (lN 1)) = (lN (k + 1)) from lN_add _ _) ?_
  refine k_last (f' := vp_updL (vp_updL f (50 + o) ((f (50 + o)) + (lN 1))) (60 + o) (lN (k + 1))) hx hb hK hP hD hS 1 1 rfl rfl (by omega) (by omega) (rfl) dX7_asks_25 (fun H locs hP hD hS => ?_)
  replace hP : va_P D vwCl [(m0, .inr (7, [.ref v, .ref a1, .ref a2, .int ik, .int th, .int en])), (v, .inl (cJ, 136800, .inr (.inl (vp_updL (vp_updL f (50 + o) ((f (50 + o)) + (lN 1))) (60 + o) (lN (k + 1))))))] H := hP
  replace hD : va_D A [(m0, .inr (7, [.ref v, .ref a1, .ref a2, .int ik, .int th, .int en])), (v, .inl (cJ, 136800, .inr (.inl (vp_updL (vp_updL f (50 + o) ((f (50 + o)) + (lN 1))) (60 + o) (lN (k + 1))))))] := hD
  refine lv_aload_n hx hb dX7_asks_26 rfl (lv_at hl 0 rfl) ?_
  refine lv_iload_n hx hb dX7_asks_27 rfl (lv_at hl 1 rfl) ?_
  refine lv_aload_n hx hb dX7_asks_28 rfl (lv_at hl 0 rfl) ?_
  refine va_get (D := D) (ci := 7) (v := .ref v) (C := RX7) (T := TX7) (N := 6) hx hb hts hin7 hown hK hP 0 rfl rfl 0 (by decide) (hts (.fieldLink RX7 8 "MeshRoutingModel" "v" "[J") (List.mem_cons_of_mem _ q_665)) (fun _ h9 => h9) rfl dX7_asks_29 ?_
  refine lv_bipush (v := nI 60) hx hb dX7_asks_32 (by decide) ?_
  refine lv_iload_n hx hb dX7_asks_34 rfl (lv_at hl 1 rfl) ?_
  refine lv_iadd hx hb dX7_asks_35 ?_
  refine k_ti (show ((nI 60) + (nI o)) = (nI (60 + o)) from nI_add _ _) ?_
  refine k_lald (v := lN (k + 1)) hx hb hK hP 1 1 rfl rfl (by omega) (by omega) (pk_uLs) dX7_asks_36 ?_
  refine k_cV (wr := []) (w1 := fun u => [(m0, .inr (7, [.ref v, .ref a1, .ref a2, .int ik, .int th, .int en])), (v, .inl (cJ, 136800, .inr (.inl u)))]) (va_runV (As := [.int (nI o), .long (lN (k + 1))]) (rest := []) ⟨hx, hb, hml, hown, hts⟩ (c_X7_begins l D cI cJ cM cG m0 v a1 a2 ik th en (vp_updL (vp_updL f (50 + o) ((f (50 + o)) + (lN 1))) (60 + o) (lN (k + 1))) o (k + 1) H.size (ho) (by omega)) (cwV 2 hts (kB_V (fun _ => List.mem_cons_of_mem _) q_667 q_668 q_669 q_670 (kB_c q_671)) rfl rfl rfl (by decide +kernel) ⟨Nat.le_of_ble_eq_true rfl, Nat.le_of_ble_eq_true rfl⟩) (k_preV (T := TX7) hP hD hK hKN [0, 1] rfl rfl (ci := 7) rfl (q0 := 0) rfl) rfl rfl hl.1 rfl (lv_room (Nat.le_of_ble_eq_true rfl)) dX7_asks_37 ⟨Nat.le_of_ble_eq_true rfl, Nat.le_of_ble_eq_true rfl⟩) hP hD hS hA [0, 1] [] rfl rfl rfl (by decide) (fun u37 H locs hw37 hP hD hS => ?_)
  replace hP : va_P D vwCl [(m0, .inr (7, [.ref v, .ref a1, .ref a2, .int ik, .int th, .int en])), (v, .inl (cJ, 136800, .inr (.inl u37)))] H := hP
  replace hD : va_D A [(m0, .inr (7, [.ref v, .ref a1, .ref a2, .int ik, .int th, .int en])), (v, .inl (cJ, 136800, .inr (.inl u37)))] := hD
  have hu37 := hw37
  refine lv_iload_n hx hb dX7_asks_40 rfl (lv_at hl 1 rfl) ?_
  refine lv_iload_n hx hb dX7_asks_41 rfl (lv_at hl 2 rfl) ?_
  refine k_ci (wr := [(m0, .inr (7, [.ref v, .ref a1, .ref a2, .int ik, .int th, .int en])), (v, .inl (cJ, 136800, .inr (.inl u37)))]) (w1 := []) (va_runS (As := [.int (nI o), .int (nI d)]) (rest := []) ⟨hx, hb, hml, hown, hts⟩ (c_X7_entry l D cI cJ cM cG o d H.size) (va_cwS 2 hts (kB_S (fun _ => List.mem_cons_of_mem _) q_681 q_682 q_670 (kB_c q_683)) rfl rfl rfl (by decide +kernel) ⟨Nat.le_of_ble_eq_true rfl, Nat.le_of_ble_eq_true rfl⟩) (k_preS hP hD hK hKN [] rfl rfl) rfl rfl hl.1 rfl (lv_room (Nat.le_of_ble_eq_true rfl)) dX7_asks_42 ⟨Nat.le_of_ble_eq_true rfl, Nat.le_of_ble_eq_true rfl⟩) hP hD hS hA [] [0, 1] rfl rfl rfl (by decide) (fun r42 H locs hw42 hP hD hS => ?_)
  replace hP : va_P D vwCl [(m0, .inr (7, [.ref v, .ref a1, .ref a2, .int ik, .int th, .int en])), (v, .inl (cJ, 136800, .inr (.inl u37)))] H := hP
  replace hD : va_D A [(m0, .inr (7, [.ref v, .ref a1, .ref a2, .int ik, .int th, .int en])), (v, .inl (cJ, 136800, .inr (.inl u37)))] := hD
  replace hw42 : r42 = nI (200 + 8 * (10 * o + d)) := hw42
  refine k_ti hw42 ?_
  refine lv_istore (lv' := [(5, .int (nI (200 + 8 * (10 * o + d)))), (0, .ref m0), (1, .int (nI o)), (2, .int (nI d)), (3, .long (lN r))]) hx hb dX7_asks_45 hl (by decide) rfl (fun ls hl => ?_)
  refine lv_aload_n hx hb dX7_asks_47 rfl (lv_at hl 1 rfl) ?_
  refine va_get (D := D) (ci := 7) (v := .ref v) (C := RX7) (T := TX7) (N := 6) hx hb hts hin7 hown hK hP 0 rfl rfl 0 (by decide) (hts (.fieldLink RX7 8 "MeshRoutingModel" "v" "[J") (List.mem_cons_of_mem _ q_665)) (fun _ h9 => h9) rfl dX7_asks_48 ?_
  refine lv_iload hx hb dX7_asks_51 (lv_at hl 0 rfl) ?_
  refine lv_iconst (v := nI 0) hx hb dX7_asks_53 (by decide) ?_
  refine lv_iadd hx hb dX7_asks_54 ?_
  refine k_ti (show ((nI (200 + 8 * (10 * o + d))) + (nI 0)) = (nI (200 + 8 * (10 * o + d) + 0)) from nI_add _ _) ?_
  refine k_lald (v := lN 0) hx hb hK hP 1 1 rfl rfl (by omega) (by omega) (((hu37 _ (by omega)).trans ((pk_uLn (by omega)).trans ((pk_uLn (by omega)).trans (hf _ (by omega) (by omega)))))) dX7_asks_55 ?_
  refine lv_lconst (v := lN 1) hx hb dX7_asks_56 (by decide) ?_
  refine W.lcmp hx hb dX7_asks_57 ?_
  refine k_lif_ne (tgt := 73) hx hb dX7_asks_58 (by decide) (by omega) (by omega) (fun _ => ?_) (fun h9 => absurd h9 (by omega))
  refine lv_ldc2 (v := -1) hx hb hown (by exact hts (.constantLong RX7 24 (-1)) (List.mem_cons_of_mem _ q_666)) dX7_asks_73 ?_
  refine k_tl (show (-1) = ((-1)) from by decide) ?_
  refine lv_lstore (lv' := [(6, .long (-1)), (5, .int (nI (200 + 8 * (10 * o + d)))), (0, .ref m0), (1, .int (nI o)), (2, .int (nI d)), (3, .long (lN r))]) hx hb dX7_asks_76 hl (by decide) rfl (fun ls hl => ?_)
  refine lv_aload_n hx hb dX7_asks_78 rfl (lv_at hl 2 rfl) ?_
  refine lv_iload_n hx hb dX7_asks_79 rfl (lv_at hl 3 rfl) ?_
  refine lv_iload_n hx hb dX7_asks_80 rfl (lv_at hl 3 rfl) ?_
  refine lv_i2l (v := lN o) hx hb dX7_asks_81 (by exact nI_l (by omega)) ?_
  refine lv_iload_n hx hb dX7_asks_82 rfl (lv_at hl 4 rfl) ?_
  refine lv_i2l (v := lN d) hx hb dX7_asks_83 (by exact nI_l (by omega)) ?_
  refine lv_lconst (v := lN 0) hx hb dX7_asks_84 (by decide) ?_
  refine lv_lload_n hx hb dX7_asks_85 rfl (lv_at hl 5 rfl) ?_
  refine k_cl (wr := [(m0, .inr (7, [.ref v, .ref a1, .ref a2, .int ik, .int th, .int en])), (v, .inl (cJ, 136800, .inr (.inl u37)))]) (w1 := []) (va_runS (As := [.long (lN o), .long (lN d), .long (lN 0), .long (lN r)]) (rest := [.int (nI o), .ref m0]) ⟨hx, hb, hml, hown, hts⟩ (c_X7_headOf l D cI cJ cM cG (lN o) (lN d) (lN 0) (lN r) H.size) (va_cwS 4 hts (kB_S (fun _ => List.mem_cons_of_mem _) q_684 q_685 q_670 (kB_c q_686)) rfl rfl rfl (by decide +kernel) ⟨Nat.le_of_ble_eq_true rfl, Nat.le_of_ble_eq_true rfl⟩) (k_preS hP hD hK hKN [] rfl rfl) rfl rfl hl.1 rfl (lv_room (Nat.le_of_ble_eq_true rfl)) dX7_asks_86 ⟨Nat.le_of_ble_eq_true rfl, Nat.le_of_ble_eq_true rfl⟩) hP hD hS hA [] [0, 1] rfl rfl rfl (by decide) (fun rh H locs hw86 hP hD hS => ?_)
  replace hP : va_P D vwCl [(m0, .inr (7, [.ref v, .ref a1, .ref a2, .int ik, .int th, .int en])), (v, .inl (cJ, 136800, .inr (.inl u37)))] H := hP
  replace hD : va_D A [(m0, .inr (7, [.ref v, .ref a1, .ref a2, .int ik, .int th, .int en])), (v, .inl (cJ, 136800, .inr (.inl u37)))] := hD
  refine lv_aload_n hx hb dX7_asks_89 rfl (lv_at hl 2 rfl) ?_
  refine va_get (D := D) (ci := 7) (v := .ref v) (C := RX7) (T := TX7) (N := 6) hx hb hts hin7 hown hK hP 0 rfl rfl 0 (by decide) (hts (.fieldLink RX7 8 "MeshRoutingModel" "v" "[J") (List.mem_cons_of_mem _ q_665)) (fun _ h9 => h9) rfl dX7_asks_90 ?_
  refine lv_bipush (v := nI 50) hx hb dX7_asks_93 (by decide) ?_
  refine lv_iload_n hx hb dX7_asks_95 rfl (lv_at hl 3 rfl) ?_
  refine lv_iadd hx hb dX7_asks_96 ?_
  refine k_ti (show ((nI 50) + (nI o)) = (nI (50 + o)) from nI_add _ _) ?_
  refine k_lald (v := u37 (50 + o)) hx hb hK hP 1 1 rfl rfl (by omega) (by omega) (rfl) dX7_asks_97 ?_
  refine lv_aload_n hx hb dX7_asks_98 rfl (lv_at hl 2 rfl) ?_
  refine va_get (D := D) (ci := 7) (v := .ref v) (C := RX7) (T := TX7) (N := 6) hx hb hts hin7 hown hK hP 0 rfl rfl 0 (by decide) (hts (.fieldLink RX7 8 "MeshRoutingModel" "v" "[J") (List.mem_cons_of_mem _ q_665)) (fun _ h9 => h9) rfl dX7_asks_99 ?_
  refine lv_bipush (v := nI 60) hx hb dX7_asks_102 (by decide) ?_
  refine lv_iload_n hx hb dX7_asks_104 rfl (lv_at hl 3 rfl) ?_
  refine lv_iadd hx hb dX7_asks_105 ?_
  refine k_ti (show ((nI 60) + (nI o)) = (nI (60 + o)) from nI_add _ _) ?_
  refine k_lald (v := u37 (60 + o)) hx hb hK hP 1 1 rfl rfl (by omega) (by omega) (rfl) dX7_asks_106 ?_
  refine lv_lload hx hb dX7_asks_107 (lv_at hl 0 rfl) ?_
  refine k_cl (wr := [(m0, .inr (7, [.ref v, .ref a1, .ref a2, .int ik, .int th, .int en])), (v, .inl (cJ, 136800, .inr (.inl u37)))]) (w1 := []) (va_runS (As := [.long (u37 (50 + o)), .long (u37 (60 + o)), .long (-1)]) (rest := [.long rh, .int (nI o), .ref m0]) ⟨hx, hb, hml, hown, hts⟩ (c_X7_bodyOf l D cI cJ cM cG (u37 (50 + o)) (u37 (60 + o)) (-1) H.size) (va_cwS 3 hts (kB_S (fun _ => List.mem_cons_of_mem _) q_687 q_688 q_670 (kB_c q_689)) rfl rfl rfl (by decide +kernel) ⟨Nat.le_of_ble_eq_true rfl, Nat.le_of_ble_eq_true rfl⟩) (k_preS hP hD hK hKN [] rfl rfl) rfl rfl hl.1 rfl (lv_room (Nat.le_of_ble_eq_true rfl)) dX7_asks_109 ⟨Nat.le_of_ble_eq_true rfl, Nat.le_of_ble_eq_true rfl⟩) hP hD hS hA [] [0, 1] rfl rfl rfl (by decide) (fun rb H locs hw109 hP hD hS => ?_)
  replace hP : va_P D vwCl [(m0, .inr (7, [.ref v, .ref a1, .ref a2, .int ik, .int th, .int en])), (v, .inl (cJ, 136800, .inr (.inl u37)))] H := hP
  replace hD : va_D A [(m0, .inr (7, [.ref v, .ref a1, .ref a2, .int ik, .int th, .int en])), (v, .inl (cJ, 136800, .inr (.inl u37)))] := hD
  refine k_cv (wr := []) (w1 := [(m0, .inr (7, [.ref v, .ref a1, .ref a2, .int ik, .int th, .int en])), (v, .inl (cJ, 136800, .inr (.inl u37)))]) (va_runV (As := [.int (nI o), .long rh, .long rb]) (rest := []) ⟨hx, hb, hml, hown, hts⟩ (c_X7_broadcasts l D cI cJ cM cG m0 v a1 a2 ik th en u37 o rh rb N H.size (ho) (hN) (((hu37 1 (by omega)).trans ((pk_uLn (by omega)).trans ((pk_uLn (by omega)).trans h1)))) (fun j h8 h9 => ((hu37 j (by omega)).trans ((pk_uLn (by omega)).trans ((pk_uLn (by omega)).trans (hf j h8 (by omega))))))) (cwV 3 hts (kB_V (fun _ => List.mem_cons_of_mem _) q_690 q_691 q_692 q_670 (kB_c q_693)) rfl rfl rfl (by decide +kernel) ⟨Nat.le_of_ble_eq_true rfl, Nat.le_of_ble_eq_true rfl⟩) (k_preV (T := TX7) hP hD hK hKN [0, 1] rfl rfl (ci := 7) rfl (q0 := 0) rfl) rfl rfl hl.1 rfl (lv_room (Nat.le_of_ble_eq_true rfl)) dX7_asks_112 ⟨Nat.le_of_ble_eq_true rfl, Nat.le_of_ble_eq_true rfl⟩) hP hD hS hA [0, 1] [] rfl rfl rfl (by decide) (fun H locs hw112 hP hD hS => ?_)
  replace hP : va_P D vwCl [(m0, .inr (7, [.ref v, .ref a1, .ref a2, .int ik, .int th, .int en])), (v, .inl (cJ, 136800, .inr (.inl u37)))] H := hP
  replace hD : va_D A [(m0, .inr (7, [.ref v, .ref a1, .ref a2, .int ik, .int th, .int en])), (v, .inl (cJ, 136800, .inr (.inl u37)))] := hD
  refine lv_aload_n hx hb dX7_asks_115 rfl (lv_at hl 2 rfl) ?_
  refine va_get (D := D) (ci := 7) (v := .ref v) (C := RX7) (T := TX7) (N := 6) hx hb hts hin7 hown hK hP 0 rfl rfl 0 (by decide) (hts (.fieldLink RX7 8 "MeshRoutingModel" "v" "[J") (List.mem_cons_of_mem _ q_665)) (fun _ h9 => h9) rfl dX7_asks_116 ?_
  refine lv_iload_n hx hb dX7_asks_119 rfl (lv_at hl 3 rfl) ?_
  refine lv_iload_n hx hb dX7_asks_120 rfl (lv_at hl 4 rfl) ?_
  refine k_ci (wr := [(m0, .inr (7, [.ref v, .ref a1, .ref a2, .int ik, .int th, .int en])), (v, .inl (cJ, 136800, .inr (.inl u37)))]) (w1 := []) (va_runS (As := [.int (nI o), .int (nI d)]) (rest := [.ref v]) ⟨hx, hb, hml, hown, hts⟩ (c_X7_search l D cI cJ cM cG o d H.size) (va_cwS 2 hts (kB_S (fun _ => List.mem_cons_of_mem _) q_703 q_704 q_670 (kB_c q_705)) rfl rfl rfl (by decide +kernel) ⟨Nat.le_of_ble_eq_true rfl, Nat.le_of_ble_eq_true rfl⟩) (k_preS hP hD hK hKN [] rfl rfl) rfl rfl hl.1 rfl (lv_room (Nat.le_of_ble_eq_true rfl)) dX7_asks_121 ⟨Nat.le_of_ble_eq_true rfl, Nat.le_of_ble_eq_true rfl⟩) hP hD hS hA [] [0, 1] rfl rfl rfl (by decide) (fun r121 H locs hw121 hP hD hS => ?_)
  replace hP : va_P D vwCl [(m0, .inr (7, [.ref v, .ref a1, .ref a2, .int ik, .int th, .int en])), (v, .inl (cJ, 136800, .inr (.inl u37)))] H := hP
  replace hD : va_D A [(m0, .inr (7, [.ref v, .ref a1, .ref a2, .int ik, .int th, .int en])), (v, .inl (cJ, 136800, .inr (.inl u37)))] := hD
  replace hw121 : r121 = nI (1000 + 4 * (10 * o + d)) := hw121
  refine k_ti hw121 ?_
  refine lv_iconst (v := nI 2) hx hb dX7_asks_124 (by decide) ?_
  refine lv_iadd hx hb dX7_asks_125 ?_
  refine k_ti (show ((nI (1000 + 4 * (10 * o + d))) + (nI 2)) = (nI (1000 + 4 * (10 * o + d) + 2)) from nI_add _ _) ?_
  refine lv_lload_n hx hb dX7_asks_126 rfl (lv_at hl 5 rfl) ?_
  refine k_last (f' := vp_updL u37 (1000 + 4 * (10 * o + d) + 2) (lN r)) hx hb hK hP hD hS 1 1 rfl rfl (by omega) (by omega) (rfl) dX7_asks_127 (fun H locs hP hD hS => ?_)
  replace hP : va_P D vwCl [(m0, .inr (7, [.ref v, .ref a1, .ref a2, .int ik, .int th, .int en])), (v, .inl (cJ, 136800, .inr (.inl (vp_updL u37 (1000 + 4 * (10 * o + d) + 2) (lN r)))))] H := hP
  replace hD : va_D A [(m0, .inr (7, [.ref v, .ref a1, .ref a2, .int ik, .int th, .int en])), (v, .inl (cJ, 136800, .inr (.inl (vp_updL u37 (1000 + 4 * (10 * o + d) + 2) (lN r)))))] := hD
  refine lv_aload_n hx hb dX7_asks_128 rfl (lv_at hl 2 rfl) ?_
  refine va_get (D := D) (ci := 7) (v := .ref v) (C := RX7) (T := TX7) (N := 6) hx hb hts hin7 hown hK hP 0 rfl rfl 0 (by decide) (hts (.fieldLink RX7 8 "MeshRoutingModel" "v" "[J") (List.mem_cons_of_mem _ q_665)) (fun _ h9 => h9) rfl dX7_asks_129 ?_
  refine lv_iload_n hx hb dX7_asks_132 rfl (lv_at hl 3 rfl) ?_
  refine lv_iload_n hx hb dX7_asks_133 rfl (lv_at hl 4 rfl) ?_
  refine k_ci (wr := [(m0, .inr (7, [.ref v, .ref a1, .ref a2, .int ik, .int th, .int en])), (v, .inl (cJ, 136800, .inr (.inl (vp_updL u37 (1000 + 4 * (10 * o + d) + 2) (lN r)))))]) (w1 := []) (va_runS (As := [.int (nI o), .int (nI d)]) (rest := [.ref v]) ⟨hx, hb, hml, hown, hts⟩ (c_X7_search l D cI cJ cM cG o d H.size) (va_cwS 2 hts (kB_S (fun _ => List.mem_cons_of_mem _) q_703 q_704 q_670 (kB_c q_705)) rfl rfl rfl (by decide +kernel) ⟨Nat.le_of_ble_eq_true rfl, Nat.le_of_ble_eq_true rfl⟩) (k_preS hP hD hK hKN [] rfl rfl) rfl rfl hl.1 rfl (lv_room (Nat.le_of_ble_eq_true rfl)) dX7_asks_134 ⟨Nat.le_of_ble_eq_true rfl, Nat.le_of_ble_eq_true rfl⟩) hP hD hS hA [] [0, 1] rfl rfl rfl (by decide) (fun r134 H locs hw134 hP hD hS => ?_)
  replace hP : va_P D vwCl [(m0, .inr (7, [.ref v, .ref a1, .ref a2, .int ik, .int th, .int en])), (v, .inl (cJ, 136800, .inr (.inl (vp_updL u37 (1000 + 4 * (10 * o + d) + 2) (lN r)))))] H := hP
  replace hD : va_D A [(m0, .inr (7, [.ref v, .ref a1, .ref a2, .int ik, .int th, .int en])), (v, .inl (cJ, 136800, .inr (.inl (vp_updL u37 (1000 + 4 * (10 * o + d) + 2) (lN r)))))] := hD
  replace hw134 : r134 = nI (1000 + 4 * (10 * o + d)) := hw134
  refine k_ti hw134 ?_
  refine lv_iconst (v := nI 1) hx hb dX7_asks_137 (by decide) ?_
  refine lv_iadd hx hb dX7_asks_138 ?_
  refine k_ti (show ((nI (1000 + 4 * (10 * o + d))) + (nI 1)) = (nI (1000 + 4 * (10 * o + d) + 1)) from nI_add _ _) ?_
  refine lv_aload_n hx hb dX7_asks_139 rfl (lv_at hl 2 rfl) ?_
  refine va_get (D := D) (ci := 7) (v := .ref v) (C := RX7) (T := TX7) (N := 6) hx hb hts hin7 hown hK hP 0 rfl rfl 0 (by decide) (hts (.fieldLink RX7 8 "MeshRoutingModel" "v" "[J") (List.mem_cons_of_mem _ q_665)) (fun _ h9 => h9) rfl dX7_asks_140 ?_
  refine lv_iconst (v := nI 0) hx hb dX7_asks_143 (by decide) ?_
  refine k_lald (v := lN t) hx hb hK hP 1 1 rfl rfl (by omega) (by omega) (((pk_uLn (by omega)).trans ((hu37 0 (by omega)).trans ((pk_uLn (by omega)).trans ((pk_uLn (by omega)).trans h0))))) dX7_asks_144 ?_
  refine lv_aload_n hx hb dX7_asks_145 rfl (lv_at hl 2 rfl) ?_
  refine va_get (D := D) (ci := 7) (v := .ref v) (C := RX7) (T := TX7) (N := 6) hx hb hts hin7 hown hK hP 0 rfl rfl 0 (by decide) (hts (.fieldLink RX7 8 "MeshRoutingModel" "v" "[J") (List.mem_cons_of_mem _ q_665)) (fun _ h9 => h9) rfl dX7_asks_146 ?_
  refine lv_bipush (v := nI 46) hx hb dX7_asks_149 (by decide) ?_
  refine k_lald (v := lN 20) hx hb hK hP 1 1 rfl rfl (by omega) (by omega) (((pk_uLn (by omega)).trans ((hu37 46 (by omega)).trans ((pk_uLn (by omega)).trans ((pk_uLn (by omega)).trans h46))))) dX7_asks_151 ?_
  refine lv_lload_n hx hb dX7_asks_152 rfl (lv_at hl 5 rfl) ?_
  refine lv_lconst (v := lN 1) hx hb dX7_asks_153 (by decide) ?_
  refine lv_ladd hx hb dX7_asks_154 ?_
  refine k_tl (show ((lN r) + (lN 1)) = (lN (r + 1)) from lN_add _ _) ?_
  refine lv_lmul hx hb dX7_asks_155 ?_
  refine k_tl (show ((lN 20) * (lN (r + 1))) = (lN (20 * (r + 1))) from lN_mul _ _) ?_
  refine lv_ladd hx hb dX7_asks_156 ?_
  refine k_tl (show ((lN t) + (lN (20 * (r + 1)))) = (lN (t + 20 * (r + 1))) from lN_add _ _) ?_
  refine k_last (f' := vp_updL (vp_updL u37 (1000 + 4 * (10 * o + d) + 2) (lN r)) (1000 + 4 * (10 * o + d) + 1) (lN (t + 20 * (r + 1)))) hx hb hK hP hD hS 1 1 rfl rfl (by omega) (by omega) (rfl) dX7_asks_157 (fun H locs hP hD hS => ?_)
  replace hP : va_P D vwCl [(m0, .inr (7, [.ref v, .ref a1, .ref a2, .int ik, .int th, .int en])), (v, .inl (cJ, 136800, .inr (.inl (vp_updL (vp_updL u37 (1000 + 4 * (10 * o + d) + 2) (lN r)) (1000 + 4 * (10 * o + d) + 1) (lN (t + 20 * (r + 1)))))))] H := hP
  replace hD : va_D A [(m0, .inr (7, [.ref v, .ref a1, .ref a2, .int ik, .int th, .int en])), (v, .inl (cJ, 136800, .inr (.inl (vp_updL (vp_updL u37 (1000 + 4 * (10 * o + d) + 2) (lN r)) (1000 + 4 * (10 * o + d) + 1) (lN (t + 20 * (r + 1)))))))] := hD
  have hP9 := hP.sub (ws' := [(m0, .inr (7, [.ref v, .ref a1, .ref a2, .int ik, .int th, .int en])), (v, .inl (cJ, 136800, .inr (.inl (vp_updL (vp_updL u37 (1000 + 4 * (10 * o + d) + 2) (lN r)) (1000 + 4 * (10 * o + d) + 1) (lN (t + 20 * (r + 1)))))))]) [0, 1] rfl
  have hD9 := hD.sub (ws' := [(m0, .inr (7, [.ref v, .ref a1, .ref a2, .int ik, .int th, .int en])), (v, .inl (cJ, 136800, .inr (.inl (vp_updL (vp_updL u37 (1000 + 4 * (10 * o + d) + 2) (lN r)) (1000 + 4 * (10 * o + d) + 1) (lN (t + 20 * (r + 1)))))))]) [0, 1] rfl rfl
  exact W.vret hx hb hr (fun t9 ht9 hW9 => ⟨⟨vp_updL (vp_updL u37 (1000 + 4 * (10 * o + d) + 2) (lN r)) (1000 + 4 * (10 * o + d) + 1) (lN (t + 20 * (r + 1))), rfl, ⟨(pk_uLn (by omega)).trans ((pk_uLn (by omega)).trans ((hu37 _ (by omega)).trans pk_uLs)), pk_uLs, (pk_uLn (by omega)).trans pk_uLs, fun j h2 h3 h4 h5 h7 => (pk_uLn (by omega)).trans ((pk_uLn (by omega)).trans ((hu37 j h7).trans ((pk_uLn (by omega)).trans (pk_uLn (by omega)))))⟩, by rw [ht9]; exact hP9, hD9⟩, hS.F ht9⟩) hS.2.2 dX7_asks_158
