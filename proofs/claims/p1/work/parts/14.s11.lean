set_option maxHeartbeats 4000000 in
set_option maxRecDepth 100000 in
theorem c_X7_asksFirst (l : Launch) (D : va_G) (cI cJ cM cG : ClassId) (m0 : Nat) (v : Nat) (a1 : Nat) (a2 : Nat) (ik : Int32) (th : Int32) (en : Int32) (f : Nat → Int64) (o : Nat) (d : Nat) (r : Nat) (N : Nat) (t : Nat) (k : Nat) (sz : Nat) (ho : o < 10) (hd : d < 10) (hN : N ≤ 10) (hk : k < 60) (ht : t < 2 ^ 40) (hr9 : r < 100) (h0 : f 0 = lN t) (h1 : f 1 = lN N) (h6 : f (60 + o) = lN k) (h46 : f 46 = lN 20) (hf : ∀ j, 100 ≤ j → j < 1000 → f j = lN 0) : Met l yX7_asksFirst (Cond.code yX7_asksFirst cX7_asksFirst 6 none :: kBig) ({ frames := 4, cells := 0, slots := 0, locals := 98 }) (va_Pc [.ref m0, .int (nI o), .int (nI d), .int (nI 1), .long (lN r)] (kP D [(cI, .int), (cJ, .long), (cM, .object "MeshRouting$Message"), (cG, .array .int)] [(m0, .inr (7, [.ref v, .ref a1, .ref a2, .int ik, .int th, .int en])), (v, .inl (cJ, 136800, .inr (.inl f)))] sz)) (va_Qv (fun u : Nat → Int64 => (mAsk (vp_updL (vp_updL f (1000 + 4 * (10 * o + d) + 0) (lN 1)) (1000 + 4 * (10 * o + d) + 3) (lN 0)) u o d t r k)) (fun u t9 => kB D (va_A [(m0, .inr (7, [.ref v, .ref a1, .ref a2, .int ik, .int th, .int en])), (v, .inl (cJ, 136800, .inr (.inl f)))] sz) [(m0, .inr (7, [.ref v, .ref a1, .ref a2, .int ik, .int th, .int en])), (v, .inl (cJ, 136800, .inr (.inl u)))] t9) (va_A [(m0, .inr (7, [.ref v, .ref a1, .ref a2, .int ik, .int th, .int en])), (v, .inl (cJ, 136800, .inr (.inl f)))] sz)) 0 0 (va_A [(m0, .inr (7, [.ref v, .ref a1, .ref a2, .int ik, .int th, .int en])), (v, .inl (cJ, 136800, .inr (.inl f)))] sz) := by
  refine Met.ofW (cc := cX7_asksFirst) (maxL := 6) (ret := none) (by decide) rfl ?_
  intro p e s m args below meth c s₁ B hml hv
  obtain ⟨rfl, hsz, hP, hK, hD0, hKN⟩ := hv
  have hx := B.exec
  have hb := B.bytes
  have hr := B.returns
  have hts := atoms_spec (ws := (Cond.code yX7_asksFirst cX7_asksFirst 6 none :: kBig)) B.pre
  have hown : s.vm.findClass RX7 = some m.cls := findClass_of_methodNamed B.named
  have hlocks := B.notSynchronized
  have hin7 : ∀ w ∈ u_ws RX7 TX7 6, w ∈ (Cond.code yX7_asksFirst cX7_asksFirst 6 none :: kBig) := fun w h => List.mem_cons_of_mem _ (inb7 w h)
  subst hsz
  have hD := hD0.self (sz := s.heap.size)
  generalize hAe : va_A [(m0, .inr (7, [.ref v, .ref a1, .ref a2, .int ik, .int th, .int en])), (v, .inl (cJ, 136800, .inr (.inl f)))] s.heap.size = A at hD ⊢
  have hA : ∀ q : Nat, s.heap.size ≤ q → A q := fun q h => by rw [← hAe]; exact Or.inr h
  have hS : va_S A s.heap s.heap [] := va_S.rf
  have hl := lv_entry ([.ref m0, .int (nI o), .int (nI d), .int (nI 1), .long (lN r)]) (n := 6) (Nat.le_of_ble_eq_true rfl)
  rw [lg_entry_eq]
  generalize (lg_sl ([.ref m0, .int (nI o), .int (nI d), .int (nI 1), .long (lN r)]) ++ List.replicate (6 - (lg_sl ([.ref m0, .int (nI o), .int (nI d), .int (nI 1), .long (lN r)])).length) Slot.unset).toArray = ls at hl ⊢
  have hl : lv_has ls 6 [(0, .ref m0), (1, .int (nI o)), (2, .int (nI d)), (3, .int (nI 1)), (4, .long (lN r))] := hl
  refine lv_aload_n hx hb dX7_asksFirst_0 rfl (lv_at hl 0 rfl) ?_
  refine va_get (D := D) (ci := 7) (v := .ref v) (C := RX7) (T := TX7) (N := 6) hx hb hts hin7 hown hK hP 0 rfl rfl 0 (by decide) (hts (.fieldLink RX7 8 "MeshRoutingModel" "v" "[J") (List.mem_cons_of_mem _ q_665)) (fun _ h9 => h9) rfl dX7_asksFirst_1 ?_
  refine lv_iload_n hx hb dX7_asksFirst_4 rfl (lv_at hl 1 rfl) ?_
  refine lv_iload_n hx hb dX7_asksFirst_5 rfl (lv_at hl 2 rfl) ?_
  refine k_ci (wr := [(m0, .inr (7, [.ref v, .ref a1, .ref a2, .int ik, .int th, .int en])), (v, .inl (cJ, 136800, .inr (.inl f)))]) (w1 := []) (va_runS (As := [.int (nI o), .int (nI d)]) (rest := [.ref v]) ⟨hx, hb, hml, hown, hts⟩ (c_X7_search l D cI cJ cM cG o d s.heap.size) (va_cwS 2 hts (kB_S (fun _ => List.mem_cons_of_mem _) q_703 q_704 q_670 (kB_c q_705)) rfl rfl rfl (by decide +kernel) ⟨Nat.le_of_ble_eq_true rfl, Nat.le_of_ble_eq_true rfl⟩) (k_preS hP hD hK hKN [] rfl rfl) rfl rfl hl.1 rfl (lv_room (Nat.le_of_ble_eq_true rfl)) dX7_asksFirst_6 ⟨Nat.le_of_ble_eq_true rfl, Nat.le_of_ble_eq_true rfl⟩) hP hD hS hA [] [0, 1] rfl rfl rfl (by decide) (fun r6 H locs hw6 hP hD hS => ?_)
  replace hP : va_P D vwCl [(m0, .inr (7, [.ref v, .ref a1, .ref a2, .int ik, .int th, .int en])), (v, .inl (cJ, 136800, .inr (.inl f)))] H := hP
  replace hD : va_D A [(m0, .inr (7, [.ref v, .ref a1, .ref a2, .int ik, .int th, .int en])), (v, .inl (cJ, 136800, .inr (.inl f)))] := hD
  replace hw6 : r6 = nI (1000 + 4 * (10 * o + d)) := hw6
  refine k_ti hw6 ?_
  refine lv_iconst (v := nI 0) hx hb dX7_asksFirst_9 (by decide) ?_
  refine lv_iadd hx hb dX7_asksFirst_10 ?_
  refine k_ti (show ((nI (1000 + 4 * (10 * o + d))) + (nI 0)) = (nI (1000 + 4 * (10 * o + d) + 0)) from nI_add _ _) ?_
  refine lv_iload_n hx hb dX7_asksFirst_11 rfl (lv_at hl 3 rfl) ?_
  refine lv_i2l (v := lN 1) hx hb dX7_asksFirst_12 (by decide) ?_
  refine k_last (f' := vp_updL f (1000 + 4 * (10 * o + d) + 0) (lN 1)) hx hb hK hP hD hS 1 1 rfl rfl (by omega) (by omega) (rfl) dX7_asksFirst_13 (fun H locs hP hD hS => ?_)
  replace hP : va_P D vwCl [(m0, .inr (7, [.ref v, .ref a1, .ref a2, .int ik, .int th, .int en])), (v, .inl (cJ, 136800, .inr (.inl (vp_updL f (1000 + 4 * (10 * o + d) + 0) (lN 1)))))] H := hP
  replace hD : va_D A [(m0, .inr (7, [.ref v, .ref a1, .ref a2, .int ik, .int th, .int en])), (v, .inl (cJ, 136800, .inr (.inl (vp_updL f (1000 + 4 * (10 * o + d) + 0) (lN 1)))))] := hD
  refine lv_aload_n hx hb dX7_asksFirst_14 rfl (lv_at hl 0 rfl) ?_
  refine va_get (D := D) (ci := 7) (v := .ref v) (C := RX7) (T := TX7) (N := 6) hx hb hts hin7 hown hK hP 0 rfl rfl 0 (by decide) (hts (.fieldLink RX7 8 "MeshRoutingModel" "v" "[J") (List.mem_cons_of_mem _ q_665)) (fun _ h9 => h9) rfl dX7_asksFirst_15 ?_
  refine lv_iload_n hx hb dX7_asksFirst_18 rfl (lv_at hl 1 rfl) ?_
  refine lv_iload_n hx hb dX7_asksFirst_19 rfl (lv_at hl 2 rfl) ?_
  refine k_ci (wr := [(m0, .inr (7, [.ref v, .ref a1, .ref a2, .int ik, .int th, .int en])), (v, .inl (cJ, 136800, .inr (.inl (vp_updL f (1000 + 4 * (10 * o + d) + 0) (lN 1)))))]) (w1 := []) (va_runS (As := [.int (nI o), .int (nI d)]) (rest := [.ref v]) ⟨hx, hb, hml, hown, hts⟩ (c_X7_search l D cI cJ cM cG o d H.size) (va_cwS 2 hts (kB_S (fun _ => List.mem_cons_of_mem _) q_703 q_704 q_670 (kB_c q_705)) rfl rfl rfl (by decide +kernel) ⟨Nat.le_of_ble_eq_true rfl, Nat.le_of_ble_eq_true rfl⟩) (k_preS hP hD hK hKN [] rfl rfl) rfl rfl hl.1 rfl (lv_room (Nat.le_of_ble_eq_true rfl)) dX7_asksFirst_20 ⟨Nat.le_of_ble_eq_true rfl, Nat.le_of_ble_eq_true rfl⟩) hP hD hS hA [] [0, 1] rfl rfl rfl (by decide) (fun r20 H locs hw20 hP hD hS => ?_)
  replace hP : va_P D vwCl [(m0, .inr (7, [.ref v, .ref a1, .ref a2, .int ik, .int th, .int en])), (v, .inl (cJ, 136800, .inr (.inl (vp_updL f (1000 + 4 * (10 * o + d) + 0) (lN 1)))))] H := hP
  replace hD : va_D A [(m0, .inr (7, [.ref v, .ref a1, .ref a2, .int ik, .int th, .int en])), (v, .inl (cJ, 136800, .inr (.inl (vp_updL f (1000 + 4 * (10 * o + d) + 0) (lN 1)))))] := hD
  replace hw20 : r20 = nI (1000 + 4 * (10 * o + d)) := hw20
  refine k_ti hw20 ?_
  refine lv_iconst (v := nI 3) hx hb dX7_asksFirst_23 (by decide) ?_
  refine lv_iadd hx hb dX7_asksFirst_24 ?_
  refine k_ti (show ((nI (1000 + 4 * (10 * o + d))) + (nI 3)) = (nI (1000 + 4 * (10 * o + d) + 3)) from nI_add _ _) ?_
  refine lv_lconst (v := lN 0) hx hb dX7_asksFirst_25 (by decide) ?_
  refine k_last (f' := vp_updL (vp_updL f (1000 + 4 * (10 * o + d) + 0) (lN 1)) (1000 + 4 * (10 * o + d) + 3) (lN 0)) hx hb hK hP hD hS 1 1 rfl rfl (by omega) (by omega) (rfl) dX7_asksFirst_26 (fun H locs hP hD hS => ?_)
  replace hP : va_P D vwCl [(m0, .inr (7, [.ref v, .ref a1, .ref a2, .int ik, .int th, .int en])), (v, .inl (cJ, 136800, .inr (.inl (vp_updL (vp_updL f (1000 + 4 * (10 * o + d) + 0) (lN 1)) (1000 + 4 * (10 * o + d) + 3) (lN 0)))))] H := hP
  replace hD : va_D A [(m0, .inr (7, [.ref v, .ref a1, .ref a2, .int ik, .int th, .int en])), (v, .inl (cJ, 136800, .inr (.inl (vp_updL (vp_updL f (1000 + 4 * (10 * o + d) + 0) (lN 1)) (1000 + 4 * (10 * o + d) + 3) (lN 0)))))] := hD
  refine lv_aload_n hx hb dX7_asksFirst_27 rfl (lv_at hl 0 rfl) ?_
  refine lv_iload_n hx hb dX7_asksFirst_28 rfl (lv_at hl 1 rfl) ?_
  refine lv_iload_n hx hb dX7_asksFirst_29 rfl (lv_at hl 2 rfl) ?_
  refine lv_lload hx hb dX7_asksFirst_30 (lv_at hl 4 rfl) ?_
  refine k_cV (wr := []) (w1 := fun u => [(m0, .inr (7, [.ref v, .ref a1, .ref a2, .int ik, .int th, .int en])), (v, .inl (cJ, 136800, .inr (.inl u)))]) (va_runV (As := [.int (nI o), .int (nI d), .long (lN r)]) (rest := []) ⟨hx, hb, hml, hown, hts⟩ (c_X7_asks l D cI cJ cM cG m0 v a1 a2 ik th en (vp_updL (vp_updL f (1000 + 4 * (10 * o + d) + 0) (lN 1)) (1000 + 4 * (10 * o + d) + 3) (lN 0)) o d r N t k H.size (ho) (hd) (hN) (hk) (ht) (hr9) ((pk_uLn (by omega)).trans ((pk_uLn (by omega)).trans h0)) ((pk_uLn (by omega)).trans ((pk_uLn (by omega)).trans h1)) ((pk_uLn (by omega)).trans ((pk_uLn (by omega)).trans h6)) ((pk_uLn (by omega)).trans ((pk_uLn (by omega)).trans h46)) (fun j h8 h9 => (pk_uLn (by omega)).trans ((pk_uLn (by omega)).trans (hf j h8 h9)))) (cwV 3 hts (kB_V (fun _ => List.mem_cons_of_mem _) q_707 q_708 q_709 q_670 (kB_c q_664)) rfl rfl rfl (by decide +kernel) ⟨Nat.le_of_ble_eq_true rfl, Nat.le_of_ble_eq_true rfl⟩) (k_preV (T := TX7) hP hD hK hKN [0, 1] rfl rfl (ci := 7) rfl (q0 := 0) rfl) rfl rfl hl.1 rfl (lv_room (Nat.le_of_ble_eq_true rfl)) dX7_asksFirst_32 ⟨Nat.le_of_ble_eq_true rfl, Nat.le_of_ble_eq_true rfl⟩) hP hD hS hA [0, 1] [] rfl rfl rfl (by decide) (fun u32 H locs hw32 hP hD hS => ?_)
  replace hP : va_P D vwCl [(m0, .inr (7, [.ref v, .ref a1, .ref a2, .int ik, .int th, .int en])), (v, .inl (cJ, 136800, .inr (.inl u32)))] H := hP
  replace hD : va_D A [(m0, .inr (7, [.ref v, .ref a1, .ref a2, .int ik, .int th, .int en])), (v, .inl (cJ, 136800, .inr (.inl u32)))] := hD
  have hu32 := hw32
  have hP9 := hP.sub (ws' := [(m0, .inr (7, [.ref v, .ref a1, .ref a2, .int ik, .int th, .int en])), (v, .inl (cJ, 136800, .inr (.inl u32)))]) [0, 1] rfl
  have hD9 := hD.sub (ws' := [(m0, .inr (7, [.ref v, .ref a1, .ref a2, .int ik, .int th, .int en])), (v, .inl (cJ, 136800, .inr (.inl u32)))]) [0, 1] rfl rfl
  exact W.vret hx hb hr (fun t9 ht9 hW9 => ⟨⟨u32, rfl, hu32, by rw [ht9]; exact hP9, hD9⟩, hS.F ht9⟩) hS.2.2 dX7_asksFirst_35

set_option maxHeartbeats 4000000 in
set_option maxRecDepth 100000 in
theorem c_X7_carries (l : Launch) (D : va_G) (cI cJ cM cG : ClassId) (m0 : Nat) (v : Nat) (a1 : Nat) (a2 : Nat) (ik : Int32) (th : Int32) (en : Int32) (f : Nat → Int64) (o : Nat) (d : Nat) (N : Nat) (sz : Nat) (ho : o < 10) (hd : d < 10) (hod : o ≠ d) (hN : N ≤ 10) (hB : mB f N o d) : Met l yX7_carries (Cond.code yX7_carries cX7_carries 7 none :: kBig) ({ frames := 5, cells := 0, slots := 0, locals := 123 }) (va_Pc [.ref m0, .int (nI 0), .int (nI o), .int (-1)] (kP D [(cI, .int), (cJ, .long), (cM, .object "MeshRouting$Message"), (cG, .array .int)] [(m0, .inr (7, [.ref v, .ref a1, .ref a2, .int ik, .int th, .int en])), (v, .inl (cJ, 136800, .inr (.inl f)))] sz)) (va_Qv (fun u : Nat → Int64 => (mS u N o d 0 40 1 0 1)) (fun u t9 => kB D (va_A [(m0, .inr (7, [.ref v, .ref a1, .ref a2, .int ik, .int th, .int en])), (v, .inl (cJ, 136800, .inr (.inl f)))] sz) [(m0, .inr (7, [.ref v, .ref a1, .ref a2, .int ik, .int th, .int en])), (v, .inl (cJ, 136800, .inr (.inl u)))] t9) (va_A [(m0, .inr (7, [.ref v, .ref a1, .ref a2, .int ik, .int th, .int en])), (v, .inl (cJ, 136800, .inr (.inl f)))] sz)) 0 0 (va_A [(m0, .inr (7, [.ref v, .ref a1, .ref a2, .int ik, .int th, .int en])), (v, .inl (cJ, 136800, .inr (.inl f)))] sz) := by
  refine Met.ofW (cc := cX7_carries) (maxL := 7) (ret := none) (by decide) rfl ?_
  intro p e s m args below meth c s₁ B hml hv
  obtain ⟨rfl, hsz, hP, hK, hD0, hKN⟩ := hv
  have hx := B.exec
  have hb := B.bytes
  have hr := B.returns
  have hts := atoms_spec (ws := (Cond.code yX7_carries cX7_carries 7 none :: kBig)) B.pre
  have hown : s.vm.findClass RX7 = some m.cls := findClass_of_methodNamed B.named
  have hlocks := B.notSynchronized
  have hin7 : ∀ w ∈ u_ws RX7 TX7 6, w ∈ (Cond.code yX7_carries cX7_carries 7 none :: kBig) := fun w h => List.mem_cons_of_mem _ (inb7 w h)
  subst hsz
  have hD := hD0.self (sz := s.heap.size)
  generalize hAe : va_A [(m0, .inr (7, [.ref v, .ref a1, .ref a2, .int ik, .int th, .int en])), (v, .inl (cJ, 136800, .inr (.inl f)))] s.heap.size = A at hD ⊢
  have hA : ∀ q : Nat, s.heap.size ≤ q → A q := fun q h => by rw [← hAe]; exact Or.inr h
  have hS : va_S A s.heap s.heap [] := va_S.rf
  have hl := lv_entry ([.ref m0, .int (nI 0), .int (nI o), .int (-1)]) (n := 7) (Nat.le_of_ble_eq_true rfl)
  rw [lg_entry_eq]
  generalize (lg_sl ([.ref m0, .int (nI 0), .int (nI o), .int (-1)]) ++ List.replicate (7 - (lg_sl ([.ref m0, .int (nI 0), .int (nI o), .int (-1)])).length) Slot.unset).toArray = ls at hl ⊢
  have hl : lv_has ls 7 [(0, .ref m0), (1, .int (nI 0)), (2, .int (nI o)), (3, .int (-1))] := hl
  obtain ⟨y0, y1, y2, y3, y4, y5, y6, y7, y8, y9, y10⟩ := id hB
  refine lv_iload_n hx hb dX7_carries_0 rfl (lv_at hl 1 rfl) ?_
  refine k_ci (wr := [(m0, .inr (7, [.ref v, .ref a1, .ref a2, .int ik, .int th, .int en])), (v, .inl (cJ, 136800, .inr (.inl f)))]) (w1 := []) (va_runS (As := [.int (nI 0)]) (rest := []) ⟨hx, hb, hml, hown, hts⟩ (c_X7_packet l D cI cJ cM cG 0 s.heap.size) (va_cwS 1 hts (kB_S (fun _ => List.mem_cons_of_mem _) q_711 q_712 q_670 (kB_c q_713)) rfl rfl rfl (by decide +kernel) ⟨Nat.le_of_ble_eq_true rfl, Nat.le_of_ble_eq_true rfl⟩) (k_preS hP hD hK hKN [] rfl rfl) rfl rfl hl.1 rfl (lv_room (Nat.le_of_ble_eq_true rfl)) dX7_carries_1 ⟨Nat.le_of_ble_eq_true rfl, Nat.le_of_ble_eq_true rfl⟩) hP hD hS hA [] [0, 1] rfl rfl rfl (by decide) (fun r1 H locs hw1 hP hD hS => ?_)
  replace hP : va_P D vwCl [(m0, .inr (7, [.ref v, .ref a1, .ref a2, .int ik, .int th, .int en])), (v, .inl (cJ, 136800, .inr (.inl f)))] H := hP
  replace hD : va_D A [(m0, .inr (7, [.ref v, .ref a1, .ref a2, .int ik, .int th, .int en])), (v, .inl (cJ, 136800, .inr (.inl f)))] := hD
  replace hw1 : r1 = nI (2300 + 8 * 0) := hw1
  refine k_ti hw1 ?_
  refine lv_istore (lv' := [(4, .int (nI (2300 + 8 * 0))), (0, .ref m0), (1, .int (nI 0)), (2, .int (nI o)), (3, .int (-1))]) hx hb dX7_carries_4 hl (by decide) rfl (fun ls hl => ?_)
  refine lv_aload_n hx hb dX7_carries_6 rfl (lv_at hl 1 rfl) ?_
  refine va_get (D := D) (ci := 7) (v := .ref v) (C := RX7) (T := TX7) (N := 6) hx hb hts hin7 hown hK hP 0 rfl rfl 0 (by decide) (hts (.fieldLink RX7 8 "MeshRoutingModel" "v" "[J") (List.mem_cons_of_mem _ q_665)) (fun _ h9 => h9) rfl dX7_carries_7 ?_
  refine lv_iload hx hb dX7_carries_10 (lv_at hl 0 rfl) ?_
  refine lv_iconst (v := nI 1) hx hb dX7_carries_12 (by decide) ?_
  refine lv_iadd hx hb dX7_carries_13 ?_
  refine k_ti (show ((nI (2300 + 8 * 0)) + (nI 1)) = (nI (2300 + 8 * 0 + 1)) from nI_add _ _) ?_
  refine k_lald (v := lN d) hx hb hK hP 1 1 rfl rfl (by omega) (by omega) ((by rw [show 2300 + 8 * 0 + 1 = 2301 by omega]; exact y9)) dX7_carries_14 ?_
  refine lv_l2i (v := nI d) hx hb dX7_carries_15 (lN_i _) ?_
  refine lv_istore (lv' := [(5, .int (nI d)), (4, .int (nI (2300 + 8 * 0))), (0, .ref m0), (1, .int (nI 0)), (2, .int (nI o)), (3, .int (-1))]) hx hb dX7_carries_16 hl (by decide) rfl (fun ls hl => ?_)
  refine lv_iload_n hx hb dX7_carries_18 rfl (lv_at hl 4 rfl) ?_
  refine lv_iload hx hb dX7_carries_19 (lv_at hl 0 rfl) ?_
  refine k_icmp_ne (tgt := 35) hx hb dX7_carries_21 (by decide) (by omega) (by omega) (fun _ => ?_) (fun h9 => absurd h9 (by omega))
  refine lv_aload_n hx hb dX7_carries_35 rfl (lv_at hl 2 rfl) ?_
  refine va_get (D := D) (ci := 7) (v := .ref v) (C := RX7) (T := TX7) (N := 6) hx hb hts hin7 hown hK hP 0 rfl rfl 0 (by decide) (hts (.fieldLink RX7 8 "MeshRoutingModel" "v" "[J") (List.mem_cons_of_mem _ q_665)) (fun _ h9 => h9) rfl dX7_carries_36 ?_
  refine lv_iload hx hb dX7_carries_39 (lv_at hl 1 rfl) ?_
  refine lv_iconst (v := nI 4) hx hb dX7_carries_41 (by decide) ?_
  refine lv_iadd hx hb dX7_carries_42 ?_
  refine k_ti (show ((nI (2300 + 8 * 0)) + (nI 4)) = (nI (2300 + 8 * 0 + 4)) from nI_add _ _) ?_
  refine k_lald (v := lN 0) hx hb hK hP 1 1 rfl rfl (by omega) (by omega) ((by rw [show 2300 + 8 * 0 + 4 = 2304 by omega]; exact y10)) dX7_carries_43 ?_
  refine lv_ldc2 (v := 30) hx hb hown (by exact hts (.constantLong RX7 111 (30)) (List.mem_cons_of_mem _ q_718)) dX7_carries_44 ?_
  refine k_tl (show (30) = (lN 30) from by decide) ?_
  refine W.lcmp hx hb dX7_carries_47 ?_
  refine k_lif_lt (tgt := 63) hx hb dX7_carries_48 (by decide) (by omega) (by omega) (fun _ => ?_) (fun h9 => absurd h9 (by omega))
  refine lv_aload_n hx hb dX7_carries_63 rfl (lv_at hl 2 rfl) ?_
  refine lv_iload_n hx hb dX7_carries_64 rfl (lv_at hl 4 rfl) ?_
  refine lv_iload hx hb dX7_carries_65 (lv_at hl 0 rfl) ?_
  refine k_ci (wr := []) (w1 := [(m0, .inr (7, [.ref v, .ref a1, .ref a2, .int ik, .int th, .int en])), (v, .inl (cJ, 136800, .inr (.inl f)))]) (va_runV (As := [.int (nI o), .int (nI d)]) (rest := []) ⟨hx, hb, hml, hown, hts⟩ (c_X7_isGood l D cI cJ cM cG m0 v a1 a2 ik th en f o d H.size (ho) (hd) (fun j h1 h2 => y5 j (by omega) h2)) (cwV 2 hts (kB_V (fun _ => List.mem_cons_of_mem _) q_724 q_725 q_726 q_670 (kB_c q_727)) rfl rfl rfl (by decide +kernel) ⟨Nat.le_of_ble_eq_true rfl, Nat.le_of_ble_eq_true rfl⟩) (k_preV (T := TX7) hP hD hK hKN [0, 1] rfl rfl (ci := 7) rfl (q0 := 0) rfl) rfl rfl hl.1 rfl (lv_room (Nat.le_of_ble_eq_true rfl)) dX7_carries_67 ⟨Nat.le_of_ble_eq_true rfl, Nat.le_of_ble_eq_true rfl⟩) hP hD hS hA [0, 1] [] rfl rfl rfl (by decide) (fun r67 H locs hw67 hP hD hS => ?_)
  replace hP : va_P D vwCl [(m0, .inr (7, [.ref v, .ref a1, .ref a2, .int ik, .int th, .int en])), (v, .inl (cJ, 136800, .inr (.inl f)))] H := hP
  replace hD : va_D A [(m0, .inr (7, [.ref v, .ref a1, .ref a2, .int ik, .int th, .int en])), (v, .inl (cJ, 136800, .inr (.inl f)))] := hD
  replace hw67 : r67 = nI 0 := hw67
  refine k_ti hw67 ?_
  refine k_if_eq (tgt := 167) hx hb dX7_carries_70 (by decide) (by omega) (fun _ => ?_) (fun h9 => absurd h9 (by omega))
  refine lv_iload_n hx hb dX7_carries_167 rfl (lv_at hl 4 rfl) ?_
  refine lv_i2l (v := lN o) hx hb dX7_carries_168 (by exact nI_l (by omega)) ?_
  refine lv_aload_n hx hb dX7_carries_169 rfl (lv_at hl 2 rfl) ?_
  refine va_get (D := D) (ci := 7) (v := .ref v) (C := RX7) (T := TX7) (N := 6) hx hb hts hin7 hown hK hP 0 rfl rfl 0 (by decide) (hts (.fieldLink RX7 8 "MeshRoutingModel" "v" "[J") (List.mem_cons_of_mem _ q_665)) (fun _ h9 => h9) rfl dX7_carries_170 ?_
  refine lv_iload hx hb dX7_carries_173 (lv_at hl 1 rfl) ?_
  refine lv_iconst (v := nI 0) hx hb dX7_carries_175 (by decide) ?_
  refine lv_iadd hx hb dX7_carries_176 ?_
  refine k_ti (show ((nI (2300 + 8 * 0)) + (nI 0)) = (nI (2300 + 8 * 0 + 0)) from nI_add _ _) ?_
  refine k_lald (v := lN o) hx hb hK hP 1 1 rfl rfl (by omega) (by omega) ((by rw [show 2300 + 8 * 0 + 0 = 2300 by omega]; exact y8)) dX7_carries_177 ?_
  refine W.lcmp hx hb dX7_carries_178 ?_
  refine k_lif_ne (tgt := 227) hx hb dX7_carries_179 (by decide) (by omega) (by omega) (fun h9 => absurd h9 (by omega)) (fun _ => ?_)
  refine lv_aload_n hx hb dX7_carries_182 rfl (lv_at hl 2 rfl) ?_
  refine lv_iload_n hx hb dX7_carries_183 rfl (lv_at hl 3 rfl) ?_
  refine lv_iload_n hx hb dX7_carries_184 rfl (lv_at hl 4 rfl) ?_
  refine lv_iload hx hb dX7_carries_185 (lv_at hl 0 rfl) ?_
  refine lv_iload_n hx hb dX7_carries_187 rfl (lv_at hl 5 rfl) ?_
  refine k_cV (wr := []) (w1 := fun u => [(m0, .inr (7, [.ref v, .ref a1, .ref a2, .int ik, .int th, .int en])), (v, .inl (cJ, 136800, .inr (.inl u)))]) (va_runV (As := [.int (nI 0), .int (nI o), .int (nI d), .int (-1)]) (rest := []) ⟨hx, hb, hml, hown, hts⟩ (c_X7_buffers l D cI cJ cM cG m0 v a1 a2 ik th en f o d H.size (ho) (hd) (y7)) (cwV 4 hts (kB_V (fun _ => List.mem_cons_of_mem _) q_736 q_737 q_738 q_670 (kB_c q_739)) rfl rfl rfl (by decide +kernel) ⟨Nat.le_of_ble_eq_true rfl, Nat.le_of_ble_eq_true rfl⟩) (k_preV (T := TX7) hP hD hK hKN [0, 1] rfl rfl (ci := 7) rfl (q0 := 0) rfl) rfl rfl hl.1 rfl (lv_room (Nat.le_of_ble_eq_true rfl)) dX7_carries_188 ⟨Nat.le_of_ble_eq_true rfl, Nat.le_of_ble_eq_true rfl⟩) hP hD hS hA [0, 1] [] rfl rfl rfl (by decide) (fun u188 H locs hw188 hP hD hS => ?_)
  replace hP : va_P D vwCl [(m0, .inr (7, [.ref v, .ref a1, .ref a2, .int ik, .int th, .int en])), (v, .inl (cJ, 136800, .inr (.inl u188)))] H := hP
  replace hD : va_D A [(m0, .inr (7, [.ref v, .ref a1, .ref a2, .int ik, .int th, .int en])), (v, .inl (cJ, 136800, .inr (.inl u188)))] := hD
  have hu188 := hw188
  refine lv_aload_n hx hb dX7_carries_191 rfl (lv_at hl 2 rfl) ?_
  refine va_get (D := D) (ci := 7) (v := .ref v) (C := RX7) (T := TX7) (N := 6) hx hb hts hin7 hown hK hP 0 rfl rfl 0 (by decide) (hts (.fieldLink RX7 8 "MeshRoutingModel" "v" "[J") (List.mem_cons_of_mem _ q_665)) (fun _ h9 => h9) rfl dX7_carries_192 ?_
  refine lv_iload_n hx hb dX7_carries_195 rfl (lv_at hl 4 rfl) ?_
  refine lv_iload hx hb dX7_carries_196 (lv_at hl 0 rfl) ?_
  refine k_ci (wr := [(m0, .inr (7, [.ref v, .ref a1, .ref a2, .int ik, .int th, .int en])), (v, .inl (cJ, 136800, .inr (.inl u188)))]) (w1 := []) (va_runS (As := [.int (nI o), .int (nI d)]) (rest := [.ref v]) ⟨hx, hb, hml, hown, hts⟩ (c_X7_search l D cI cJ cM cG o d H.size) (va_cwS 2 hts (kB_S (fun _ => List.mem_cons_of_mem _) q_703 q_704 q_670 (kB_c q_705)) rfl rfl rfl (by decide +kernel) ⟨Nat.le_of_ble_eq_true rfl, Nat.le_of_ble_eq_true rfl⟩) (k_preS hP hD hK hKN [] rfl rfl) rfl rfl hl.1 rfl (lv_room (Nat.le_of_ble_eq_true rfl)) dX7_carries_198 ⟨Nat.le_of_ble_eq_true rfl, Nat.le_of_ble_eq_true rfl⟩) hP hD hS hA [] [0, 1] rfl rfl rfl (by decide) (fun r198 H locs hw198 hP hD hS => ?_)
  replace hP : va_P D vwCl [(m0, .inr (7, [.ref v, .ref a1, .ref a2, .int ik, .int th, .int en])), (v, .inl (cJ, 136800, .inr (.inl u188)))] H := hP
  replace hD : va_D A [(m0, .inr (7, [.ref v, .ref a1, .ref a2, .int ik, .int th, .int en])), (v, .inl (cJ, 136800, .inr (.inl u188)))] := hD
  replace hw198 : r198 = nI (1000 + 4 * (10 * o + d)) := hw198
  refine k_ti hw198 ?_
  refine lv_iconst (v := nI 0) hx hb dX7_carries_201 (by decide) ?_
  refine lv_iadd hx hb dX7_carries_202 ?_
  refine k_ti (show ((nI (1000 + 4 * (10 * o + d))) + (nI 0)) = (nI (1000 + 4 * (10 * o + d) + 0)) from nI_add _ _) ?_
  refine k_lald (v := lN 0) hx hb hK hP 1 1 rfl rfl (by omega) (by omega) (((hu188.2.2.2 _ (by omega) (by omega) (by omega) (by omega) (by omega)).trans (y6 _ (by omega)))) dX7_carries_203 ?_
  refine lv_lconst (v := lN 0) hx hb dX7_carries_204 (by decide) ?_
  refine W.lcmp hx hb dX7_carries_205 ?_
  refine k_lif_ne (tgt := 366) hx hb dX7_carries_206 (by decide) (by omega) (by omega) (fun h9 => absurd h9 (by omega)) (fun _ => ?_)
  refine lv_aload_n hx hb dX7_carries_209 rfl (lv_at hl 2 rfl) ?_
  refine lv_iload_n hx hb dX7_carries_210 rfl (lv_at hl 4 rfl) ?_
  refine lv_iload hx hb dX7_carries_211 (lv_at hl 0 rfl) ?_
  refine lv_iconst (v := nI 1) hx hb dX7_carries_213 (by decide) ?_
  refine lv_aload_n hx hb dX7_carries_214 rfl (lv_at hl 2 rfl) ?_
  refine va_get (D := D) (ci := 7) (v := .ref v) (C := RX7) (T := TX7) (N := 6) hx hb hts hin7 hown hK hP 0 rfl rfl 0 (by decide) (hts (.fieldLink RX7 8 "MeshRoutingModel" "v" "[J") (List.mem_cons_of_mem _ q_665)) (fun _ h9 => h9) rfl dX7_carries_215 ?_
  refine lv_bipush (v := nI 41) hx hb dX7_carries_218 (by decide) ?_
  refine k_lald (v := lN 1) hx hb hK hP 1 1 rfl rfl (by omega) (by omega) (((hu188.2.2.2 41 (by omega) (by omega) (by omega) (by omega) (by omega)).trans ((y3 41 (by omega) (by omega)).trans rfl))) dX7_carries_220 ?_
  refine k_cV (wr := []) (w1 := fun u => [(m0, .inr (7, [.ref v, .ref a1, .ref a2, .int ik, .int th, .int en])), (v, .inl (cJ, 136800, .inr (.inl u)))]) (va_runV (As := [.int (nI o), .int (nI d), .int (nI 1), .long (lN 1)]) (rest := []) ⟨hx, hb, hml, hown, hts⟩ (c_X7_asksFirst l D cI cJ cM cG m0 v a1 a2 ik th en u188 o d 1 N 0 0 H.size (ho) (hd) (hN) (by omega) (by omega) (by omega) (((hu188.2.2.2 _ (by omega) (by omega) (by omega) (by omega) (by omega)).trans y0)) (((hu188.2.2.2 _ (by omega) (by omega) (by omega) (by omega) (by omega)).trans y1)) (((hu188.2.2.2 _ (by omega) (by omega) (by omega) (by omega) (by omega)).trans y4)) (((hu188.2.2.2 _ (by omega) (by omega) (by omega) (by omega) (by omega)).trans ((y3 46 (by omega) (by omega)).trans rfl))) (fun j h8 h9 => ((hu188.2.2.2 _ (by omega) (by omega) (by omega) (by omega) (by omega)).trans (y5 j h8 h9)))) (cwV 4 hts (kB_V (fun _ => List.mem_cons_of_mem _) q_748 q_749 q_750 q_670 (kB_c q_706)) rfl rfl rfl (by decide +kernel) ⟨Nat.le_of_ble_eq_true rfl, Nat.le_of_ble_eq_true rfl⟩) (k_preV (T := TX7) hP hD hK hKN [0, 1] rfl rfl (ci := 7) rfl (q0 := 0) rfl) rfl rfl hl.1 rfl (lv_room (Nat.le_of_ble_eq_true rfl)) dX7_carries_221 ⟨Nat.le_of_ble_eq_true rfl, Nat.le_of_ble_eq_true rfl⟩) hP hD hS hA [0, 1] [] rfl rfl rfl (by decide) (fun u221 H locs hw221 hP hD hS => ?_)
  replace hP : va_P D vwCl [(m0, .inr (7, [.ref v, .ref a1, .ref a2, .int ik, .int th, .int en])), (v, .inl (cJ, 136800, .inr (.inl u221)))] H := hP
  replace hD : va_D A [(m0, .inr (7, [.ref v, .ref a1, .ref a2, .int ik, .int th, .int en])), (v, .inl (cJ, 136800, .inr (.inl u221)))] := hD
  have hu221 := hw221
  refine lv_goto (tgt := 366) hx hb dX7_carries_224 (by decide) ?_
  have hP9 := hP.sub (ws' := [(m0, .inr (7, [.ref v, .ref a1, .ref a2, .int ik, .int th, .int en])), (v, .inl (cJ, 136800, .inr (.inl u221)))]) [0, 1] rfl
  have hD9 := hD.sub (ws' := [(m0, .inr (7, [.ref v, .ref a1, .ref a2, .int ik, .int th, .int en])), (v, .inl (cJ, 136800, .inr (.inl u221)))]) [0, 1] rfl rfl
  exact W.vret hx hb hr (fun t9 ht9 hW9 => ⟨⟨u221, rfl, mS_first ho hd hB hu188 hu221, by rw [ht9]; exact hP9, hD9⟩, hS.F ht9⟩) hS.2.2 dX7_carries_366

set_option maxHeartbeats 4000000 in
set_option maxRecDepth 100000 in
theorem c_X7_begins2 (l : Launch) (D : va_G) (cI cJ cM cG : ClassId) (m0 : Nat) (v : Nat) (a1 : Nat) (a2 : Nat) (ik : Int32) (th : Int32) (en : Int32) (f : Nat → Int64) (o : Nat) (d : Nat) (N : Nat) (sz : Nat) (ho : o < 10) (hd : d < 10) (hod : o ≠ d) (hN : N ≤ 10) (hfF : f = mF N) : Met l yX7_begins2 (Cond.code yX7_begins2 cX7_begins2 4 (some .int) :: kBig) ({ frames := 6, cells := 0, slots := 0, locals := 149 }) (va_Pc [.ref m0, .int (nI o), .int (nI d)] (kP D [(cI, .int), (cJ, .long), (cM, .object "MeshRouting$Message"), (cG, .array .int)] [(m0, .inr (7, [.ref v, .ref a1, .ref a2, .int ik, .int th, .int en])), (v, .inl (cJ, 136800, .inr (.inl f)))] sz)) (va_Qi (fun (r : Int32) (u : Nat → Int64) => r = nI 0 ∧ (mS u N o d 0 40 1 0 1)) (fun u t9 => kB D (va_A [(m0, .inr (7, [.ref v, .ref a1, .ref a2, .int ik, .int th, .int en])), (v, .inl (cJ, 136800, .inr (.inl f)))] sz) [(m0, .inr (7, [.ref v, .ref a1, .ref a2, .int ik, .int th, .int en])), (v, .inl (cJ, 136800, .inr (.inl u)))] t9) (va_A [(m0, .inr (7, [.ref v, .ref a1, .ref a2, .int ik, .int th, .int en])), (v, .inl (cJ, 136800, .inr (.inl f)))] sz)) 0 0 (va_A [(m0, .inr (7, [.ref v, .ref a1, .ref a2, .int ik, .int th, .int en])), (v, .inl (cJ, 136800, .inr (.inl f)))] sz) := by
  refine Met.ofW (cc := cX7_begins2) (maxL := 4) (ret := (some .int)) (by decide) rfl ?_
  intro p e s m args below meth c s₁ B hml hv
  obtain ⟨rfl, hsz, hP, hK, hD0, hKN⟩ := hv
  have hx := B.exec
  have hb := B.bytes
  have hr := B.returns
  have hts := atoms_spec (ws := (Cond.code yX7_begins2 cX7_begins2 4 (some .int) :: kBig)) B.pre
  have hown : s.vm.findClass RX7 = some m.cls := findClass_of_methodNamed B.named
  have hlocks := B.notSynchronized
  have hin7 : ∀ w ∈ u_ws RX7 TX7 6, w ∈ (Cond.code yX7_begins2 cX7_begins2 4 (some .int) :: kBig) := fun w h => List.mem_cons_of_mem _ (inb7 w h)
  subst hsz
  have hD := hD0.self (sz := s.heap.size)
  generalize hAe : va_A [(m0, .inr (7, [.ref v, .ref a1, .ref a2, .int ik, .int th, .int en])), (v, .inl (cJ, 136800, .inr (.inl f)))] s.heap.size = A at hD ⊢
  have hA : ∀ q : Nat, s.heap.size ≤ q → A q := fun q h => by rw [← hAe]; exact Or.inr h
  have hS : va_S A s.heap s.heap [] := va_S.rf
  have hl := lv_entry ([.ref m0, .int (nI o), .int (nI d)]) (n := 4) (Nat.le_of_ble_eq_true rfl)
  rw [lg_entry_eq]
  generalize (lg_sl ([.ref m0, .int (nI o), .int (nI d)]) ++ List.replicate (4 - (lg_sl ([.ref m0, .int (nI o), .int (nI d)])).length) Slot.unset).toArray = ls at hl ⊢
  have hl : lv_has ls 4 [(0, .ref m0), (1, .int (nI o)), (2, .int (nI d))] := hl
  subst hfF
  refine lv_aload_n hx hb dX7_begins2_0 rfl (lv_at hl 0 rfl) ?_
  refine va_get (D := D) (ci := 7) (v := .ref v) (C := RX7) (T := TX7) (N := 6) hx hb hts hin7 hown hK hP 0 rfl rfl 0 (by decide) (hts (.fieldLink RX7 8 "MeshRoutingModel" "v" "[J") (List.mem_cons_of_mem _ q_665)) (fun _ h9 => h9) rfl dX7_begins2_1 ?_
  refine lv_bipush (v := nI 10) hx hb dX7_begins2_4 (by decide) ?_
  refine k_lald (v := lN 0) hx hb hK hP 1 1 rfl rfl (by omega) (by omega) ((mF_o (by omega) (by omega) (by omega))) dX7_begins2_6 ?_
  refine lv_l2i (v := nI 0) hx hb dX7_begins2_7 (by decide) ?_
  refine lv_istore_n (lv' := [(3, .int (nI 0)), (0, .ref m0), (1, .int (nI o)), (2, .int (nI d))]) hx hb dX7_begins2_8 rfl hl (by decide) rfl (fun ls hl => ?_)
  refine lv_aload_n hx hb dX7_begins2_9 rfl (lv_at hl 1 rfl) ?_
  refine va_get (D := D) (ci := 7) (v := .ref v) (C := RX7) (T := TX7) (N := 6) hx hb hts hin7 hown hK hP 0 rfl rfl 0 (by decide) (hts (.fieldLink RX7 8 "MeshRoutingModel" "v" "[J") (List.mem_cons_of_mem _ q_665)) (fun _ h9 => h9) rfl dX7_begins2_10 ?_
  refine lv_bipush (v := nI 10) hx hb dX7_begins2_13 (by decide) ?_
  refine lv_dup2_11 hx hb dX7_begins2_15 rfl rfl ?_
  refine k_lald (v := lN 0) hx hb hK hP 1 1 rfl rfl (by omega) (by omega) ((mF_o (by omega) (by omega) (by omega))) dX7_begins2_16 ?_
  refine lv_lconst (v := lN 1) hx hb dX7_begins2_17 (by decide) ?_
  refine lv_ladd hx hb dX7_begins2_18 ?_
  refine k_tl (show ((lN 0) + (lN 1)) = (lN 1) from by decide) ?_
  refine k_last (f' := vp_updL (mF N) 10 (lN 1)) hx hb hK hP hD hS 1 1 rfl rfl (by omega) (by omega) (rfl) dX7_begins2_19 (fun H locs hP hD hS => ?_)
  replace hP : va_P D vwCl [(m0, .inr (7, [.ref v, .ref a1, .ref a2, .int ik, .int th, .int en])), (v, .inl (cJ, 136800, .inr (.inl (vp_updL (mF N) 10 (lN 1)))))] H := hP
  replace hD : va_D A [(m0, .inr (7, [.ref v, .ref a1, .ref a2, .int ik, .int th, .int en])), (v, .inl (cJ, 136800, .inr (.inl (vp_updL (mF N) 10 (lN 1)))))] := hD
  refine lv_aload_n hx hb dX7_begins2_20 rfl (lv_at hl 1 rfl) ?_
  refine va_get (D := D) (ci := 7) (v := .ref v) (C := RX7) (T := TX7) (N := 6) hx hb hts hin7 hown hK hP 0 rfl rfl 0 (by decide) (hts (.fieldLink RX7 8 "MeshRoutingModel" "v" "[J") (List.mem_cons_of_mem _ q_665)) (fun _ h9 => h9) rfl dX7_begins2_21 ?_
  refine lv_iload_n hx hb dX7_begins2_24 rfl (lv_at hl 0 rfl) ?_
  refine k_ci (wr := [(m0, .inr (7, [.ref v, .ref a1, .ref a2, .int ik, .int th, .int en])), (v, .inl (cJ, 136800, .inr (.inl (vp_updL (mF N) 10 (lN 1)))))]) (w1 := []) (va_runS (As := [.int (nI 0)]) (rest := [.ref v]) ⟨hx, hb, hml, hown, hts⟩ (c_X7_packet l D cI cJ cM cG 0 H.size) (va_cwS 1 hts (kB_S (fun _ => List.mem_cons_of_mem _) q_711 q_712 q_670 (kB_c q_713)) rfl rfl rfl (by decide +kernel) ⟨Nat.le_of_ble_eq_true rfl, Nat.le_of_ble_eq_true rfl⟩) (k_preS hP hD hK hKN [] rfl rfl) rfl rfl hl.1 rfl (lv_room (Nat.le_of_ble_eq_true rfl)) dX7_begins2_25 ⟨Nat.le_of_ble_eq_true rfl, Nat.le_of_ble_eq_true rfl⟩) hP hD hS hA [] [0, 1] rfl rfl rfl (by decide) (fun r25 H locs hw25 hP hD hS => ?_)
  replace hP : va_P D vwCl [(m0, .inr (7, [.ref v, .ref a1, .ref a2, .int ik, .int th, .int en])), (v, .inl (cJ, 136800, .inr (.inl (vp_updL (mF N) 10 (lN 1)))))] H := hP
  replace hD : va_D A [(m0, .inr (7, [.ref v, .ref a1, .ref a2, .int ik, .int th, .int en])), (v, .inl (cJ, 136800, .inr (.inl (vp_updL (mF N) 10 (lN 1)))))] := hD
  replace hw25 : r25 = nI (2300 + 8 * 0) := hw25
  refine k_ti hw25 ?_
  refine lv_iconst (v := nI 0) hx hb dX7_begins2_28 (by decide) ?_
  refine lv_iadd hx hb dX7_begins2_29 ?_
  refine k_ti (show ((nI (2300 + 8 * 0)) + (nI 0)) = (nI (2300 + 8 * 0 + 0)) from nI_add _ _) ?_
  refine lv_iload_n hx hb dX7_begins2_30 rfl (lv_at hl 2 rfl) ?_
  refine lv_i2l (v := lN o) hx hb dX7_begins2_31 (by exact nI_l (by omega)) ?_
  refine k_last (f' := vp_updL (vp_updL (mF N) 10 (lN 1)) (2300 + 8 * 0 + 0) (lN o)) hx hb hK hP hD hS 1 1 rfl rfl (by omega) (by omega) (rfl) dX7_begins2_32 (fun H locs hP hD hS => ?_)
  replace hP : va_P D vwCl [(m0, .inr (7, [.ref v, .ref a1, .ref a2, .int ik, .int th, .int en])), (v, .inl (cJ, 136800, .inr (.inl (vp_updL (vp_updL (mF N) 10 (lN 1)) (2300 + 8 * 0 + 0) (lN o)))))] H := hP
  replace hD : va_D A [(m0, .inr (7, [.ref v, .ref a1, .ref a2, .int ik, .int th, .int en])), (v, .inl (cJ, 136800, .inr (.inl (vp_updL (vp_updL (mF N) 10 (lN 1)) (2300 + 8 * 0 + 0) (lN o)))))] := hD
  refine lv_aload_n hx hb dX7_begins2_33 rfl (lv_at hl 1 rfl) ?_
  refine va_get (D := D) (ci := 7) (v := .ref v) (C := RX7) (T := TX7) (N := 6) hx hb hts hin7 hown hK hP 0 rfl rfl 0 (by decide) (hts (.fieldLink RX7 8 "MeshRoutingModel" "v" "[J") (List.mem_cons_of_mem _ q_665)) (fun _ h9 => h9) rfl dX7_begins2_34 ?_
  refine lv_iload_n hx hb dX7_begins2_37 rfl (lv_at hl 0 rfl) ?_
  refine k_ci (wr := [(m0, .inr (7, [.ref v, .ref a1, .ref a2, .int ik, .int th, .int en])), (v, .inl (cJ, 136800, .inr (.inl (vp_updL (vp_updL (mF N) 10 (lN 1)) (2300 + 8 * 0 + 0) (lN o)))))]) (w1 := []) (va_runS (As := [.int (nI 0)]) (rest := [.ref v]) ⟨hx, hb, hml, hown, hts⟩ (c_X7_packet l D cI cJ cM cG 0 H.size) (va_cwS 1 hts (kB_S (fun _ => List.mem_cons_of_mem _) q_711 q_712 q_670 (kB_c q_713)) rfl rfl rfl (by decide +kernel) ⟨Nat.le_of_ble_eq_true rfl, Nat.le_of_ble_eq_true rfl⟩) (k_preS hP hD hK hKN [] rfl rfl) rfl rfl hl.1 rfl (lv_room (Nat.le_of_ble_eq_true rfl)) dX7_begins2_38 ⟨Nat.le_of_ble_eq_true rfl, Nat.le_of_ble_eq_true rfl⟩) hP hD hS hA [] [0, 1] rfl rfl rfl (by decide) (fun r38 H locs hw38 hP hD hS => ?_)
  replace hP : va_P D vwCl [(m0, .inr (7, [.ref v, .ref a1, .ref a2, .int ik, .int th, .int en])), (v, .inl (cJ, 136800, .inr (.inl (vp_updL (vp_updL (mF N) 10 (lN 1)) (2300 + 8 * 0 + 0) (lN o)))))] H := hP
  replace hD : va_D A [(m0, .inr (7, [.ref v, .ref a1, .ref a2, .int ik, .int th, .int en])), (v, .inl (cJ, 136800, .inr (.inl (vp_updL (vp_updL (mF N) 10 (lN 1)) (2300 + 8 * 0 + 0) (lN o)))))] := hD
  replace hw38 : r38 = nI (2300 + 8 * 0) := hw38
  refine k_ti hw38 ?_
  refine lv_iconst (v := nI 1) hx hb dX7_begins2_41 (by decide) ?_
  refine lv_iadd hx hb dX7_begins2_42 ?_
  refine k_ti (show ((nI (2300 + 8 * 0)) + (nI 1)) = (nI (2300 + 8 * 0 + 1)) from nI_add _ _) ?_
  refine lv_iload_n hx hb dX7_begins2_43 rfl (lv_at hl 3 rfl) ?_
  refine lv_i2l (v := lN d) hx hb dX7_begins2_44 (by exact nI_l (by omega)) ?_
  refine k_last (f' := vp_updL (vp_updL (vp_updL (mF N) 10 (lN 1)) (2300 + 8 * 0 + 0) (lN o)) (2300 + 8 * 0 + 1) (lN d)) hx hb hK hP hD hS 1 1 rfl rfl (by omega) (by omega) (rfl) dX7_begins2_45 (fun H locs hP hD hS => ?_)
  replace hP : va_P D vwCl [(m0, .inr (7, [.ref v, .ref a1, .ref a2, .int ik, .int th, .int en])), (v, .inl (cJ, 136800, .inr (.inl (vp_updL (vp_updL (vp_updL (mF N) 10 (lN 1)) (2300 + 8 * 0 + 0) (lN o)) (2300 + 8 * 0 + 1) (lN d)))))] H := hP
  replace hD : va_D A [(m0, .inr (7, [.ref v, .ref a1, .ref a2, .int ik, .int th, .int en])), (v, .inl (cJ, 136800, .inr (.inl (vp_updL (vp_updL (vp_updL (mF N) 10 (lN 1)) (2300 + 8 * 0 + 0) (lN o)) (2300 + 8 * 0 + 1) (lN d)))))] := hD
  refine lv_aload_n hx hb dX7_begins2_46 rfl (lv_at hl 1 rfl) ?_
  refine va_get (D := D) (ci := 7) (v := .ref v) (C := RX7) (T := TX7) (N := 6) hx hb hts hin7 hown hK hP 0 rfl rfl 0 (by decide) (hts (.fieldLink RX7 8 "MeshRoutingModel" "v" "[J") (List.mem_cons_of_mem _ q_665)) (fun _ h9 => h9) rfl dX7_begins2_47 ?_
  refine lv_iload_n hx hb dX7_begins2_50 rfl (lv_at hl 0 rfl) ?_
  refine k_ci (wr := [(m0, .inr (7, [.ref v, .ref a1, .ref a2, .int ik, .int th, .int en])), (v, .inl (cJ, 136800, .inr (.inl (vp_updL (vp_updL (vp_updL (mF N) 10 (lN 1)) (2300 + 8 * 0 + 0) (lN o)) (2300 + 8 * 0 + 1) (lN d)))))]) (w1 := []) (va_runS (As := [.int (nI 0)]) (rest := [.ref v]) ⟨hx, hb, hml, hown, hts⟩ (c_X7_packet l D cI cJ cM cG 0 H.size) (va_cwS 1 hts (kB_S (fun _ => List.mem_cons_of_mem _) q_711 q_712 q_670 (kB_c q_713)) rfl rfl rfl (by decide +kernel) ⟨Nat.le_of_ble_eq_true rfl, Nat.le_of_ble_eq_true rfl⟩) (k_preS hP hD hK hKN [] rfl rfl) rfl rfl hl.1 rfl (lv_room (Nat.le_of_ble_eq_true rfl)) dX7_begins2_51 ⟨Nat.le_of_ble_eq_true rfl, Nat.le_of_ble_eq_true rfl⟩) hP hD hS hA [] [0, 1] rfl rfl rfl (by decide) (fun r51 H locs hw51 hP hD hS => ?_)
  replace hP : va_P D vwCl [(m0, .inr (7, [.ref v, .ref a1, .ref a2, .int ik, .int th, .int en])), (v, .inl (cJ, 136800, .inr (.inl (vp_updL (vp_updL (vp_updL (mF N) 10 (lN 1)) (2300 + 8 * 0 + 0) (lN o)) (2300 + 8 * 0 + 1) (lN d)))))] H := hP
  replace hD : va_D A [(m0, .inr (7, [.ref v, .ref a1, .ref a2, .int ik, .int th, .int en])), (v, .inl (cJ, 136800, .inr (.inl (vp_updL (vp_updL (vp_updL (mF N) 10 (lN 1)) (2300 + 8 * 0 + 0) (lN o)) (2300 + 8 * 0 + 1) (lN d)))))] := hD
  replace hw51 : r51 = nI (2300 + 8 * 0) := hw51
  refine k_ti hw51 ?_
  refine lv_iconst (v := nI 5) hx hb dX7_begins2_54 (by decide) ?_
  refine lv_iadd hx hb dX7_begins2_55 ?_
  refine k_ti (show ((nI (2300 + 8 * 0)) + (nI 5)) = (nI (2300 + 8 * 0 + 5)) from nI_add _ _) ?_
  refine lv_ldc2 (v := -1) hx hb hown (by exact hts (.constantLong RX7 24 (-1)) (List.mem_cons_of_mem _ q_666)) dX7_begins2_56 ?_
  refine k_tl (show (-1) = ((-1)) from by decide) ?_
  refine k_last (f' := vp_updL (vp_updL (vp_updL (vp_updL (mF N) 10 (lN 1)) (2300 + 8 * 0 + 0) (lN o)) (2300 + 8 * 0 + 1) (lN d)) (2300 + 8 * 0 + 5) (-1)) hx hb hK hP hD hS 1 1 rfl rfl (by omega) (by omega) (rfl) dX7_begins2_59 (fun H locs hP hD hS => ?_)
  replace hP : va_P D vwCl [(m0, .inr (7, [.ref v, .ref a1, .ref a2, .int ik, .int th, .int en])), (v, .inl (cJ, 136800, .inr (.inl (vp_updL (vp_updL (vp_updL (vp_updL (mF N) 10 (lN 1)) (2300 + 8 * 0 + 0) (lN o)) (2300 + 8 * 0 + 1) (lN d)) (2300 + 8 * 0 + 5) (-1)))))] H := hP
  replace hD : va_D A [(m0, .inr (7, [.ref v, .ref a1, .ref a2, .int ik, .int th, .int en])), (v, .inl (cJ, 136800, .inr (.inl (vp_updL (vp_updL (vp_updL (vp_updL (mF N) 10 (lN 1)) (2300 + 8 * 0 + 0) (lN o)) (2300 + 8 * 0 + 1) (lN d)) (2300 + 8 * 0 + 5) (-1)))))] := hD
  refine lv_aload_n hx hb dX7_begins2_60 rfl (lv_at hl 1 rfl) ?_
  refine lv_iload_n hx hb dX7_begins2_61 rfl (lv_at hl 0 rfl) ?_
  refine lv_iload_n hx hb dX7_begins2_62 rfl (lv_at hl 2 rfl) ?_
  refine lv_iconst (v := (-1)) hx hb dX7_begins2_63 (by decide) ?_
  refine k_cV (wr := []) (w1 := fun u => [(m0, .inr (7, [.ref v, .ref a1, .ref a2, .int ik, .int th, .int en])), (v, .inl (cJ, 136800, .inr (.inl u)))]) (va_runV (As := [.int (nI 0), .int (nI o), .int (-1)]) (rest := []) ⟨hx, hb, hml, hown, hts⟩ (c_X7_carries l D cI cJ cM cG m0 v a1 a2 ik th en (vp_updL (vp_updL (vp_updL (vp_updL (mF N) 10 (lN 1)) (2300 + 8 * 0 + 0) (lN o)) (2300 + 8 * 0 + 1) (lN d)) (2300 + 8 * 0 + 5) (-1)) o d N H.size (ho) (hd) (hod) (hN) (⟨(pk_uLn (by omega)).trans ((pk_uLn (by omega)).trans ((pk_uLn (by omega)).trans ((pk_uLn (by omega)).trans (mF_o (by omega) (by omega) (by omega))))), (pk_uLn (by omega)).trans ((pk_uLn (by omega)).trans ((pk_uLn (by omega)).trans ((pk_uLn (by omega)).trans (rfl)))), fun j h1 h2 => (pk_uLn (by omega)).trans ((pk_uLn (by omega)).trans ((pk_uLn (by omega)).trans ((pk_uLn (by omega)).trans (mF_l h1 h2)))), fun j h1 h2 => (pk_uLn (by omega)).trans ((pk_uLn (by omega)).trans ((pk_uLn (by omega)).trans ((pk_uLn (by omega)).trans (rfl)))), (pk_uLn (by omega)).trans ((pk_uLn (by omega)).trans ((pk_uLn (by omega)).trans ((pk_uLn (by omega)).trans (mF_z (by omega))))), fun j h1 h2 => (pk_uLn (by omega)).trans ((pk_uLn (by omega)).trans ((pk_uLn (by omega)).trans ((pk_uLn (by omega)).trans (mF_z (by omega))))), fun q h1 => (pk_uLn (by omega)).trans ((pk_uLn (by omega)).trans ((pk_uLn (by omega)).trans ((pk_uLn (by omega)).trans (mF_z (by omega))))), (pk_uLn (by omega)).trans ((pk_uLn (by omega)).trans ((pk_uLn (by omega)).trans ((pk_uLn (by omega)).trans (mF_z (by omega))))), (pk_uLn (by omega)).trans ((pk_uLn (by omega)).trans (by first | exact pk_uLs | rfl)), (pk_uLn (by omega)).trans (by first | exact pk_uLs | rfl), (pk_uLn (by omega)).trans ((pk_uLn (by omega)).trans ((pk_uLn (by omega)).trans ((pk_uLn (by omega)).trans (mF_z (by omega)))))⟩)) (cwV 3 hts (kB_V (fun _ => List.mem_cons_of_mem _) q_714 q_715 q_716 q_670 (kB_c q_717)) rfl rfl rfl (by decide +kernel) ⟨Nat.le_of_ble_eq_true rfl, Nat.le_of_ble_eq_true rfl⟩) (k_preV (T := TX7) hP hD hK hKN [0, 1] rfl rfl (ci := 7) rfl (q0 := 0) rfl) rfl rfl hl.1 rfl (lv_room (Nat.le_of_ble_eq_true rfl)) dX7_begins2_64 ⟨Nat.le_of_ble_eq_true rfl, Nat.le_of_ble_eq_true rfl⟩) hP hD hS hA [0, 1] [] rfl rfl rfl (by decide) (fun u64 H locs hw64 hP hD hS => ?_)
  replace hP : va_P D vwCl [(m0, .inr (7, [.ref v, .ref a1, .ref a2, .int ik, .int th, .int en])), (v, .inl (cJ, 136800, .inr (.inl u64)))] H := hP
  replace hD : va_D A [(m0, .inr (7, [.ref v, .ref a1, .ref a2, .int ik, .int th, .int en])), (v, .inl (cJ, 136800, .inr (.inl u64)))] := hD
  have hu64 := hw64
  refine lv_iload_n hx hb dX7_begins2_67 rfl (lv_at hl 0 rfl) ?_
  have hP9 := hP.sub (ws' := [(m0, .inr (7, [.ref v, .ref a1, .ref a2, .int ik, .int th, .int en])), (v, .inl (cJ, 136800, .inr (.inl u64)))]) [0, 1] rfl
  have hD9 := hD.sub (ws' := [(m0, .inr (7, [.ref v, .ref a1, .ref a2, .int ik, .int th, .int en])), (v, .inl (cJ, 136800, .inr (.inl u64)))]) [0, 1] rfl rfl
  exact W.iret (v := nI 0) hx hb hr (fun t9 ht9 hW9 => ⟨⟨nI 0, u64, rfl, ⟨rfl, hu64⟩, by rw [ht9]; exact hP9, hD9⟩, hS.F ht9⟩) hS.2.2 dX7_begins2_68

set_option maxHeartbeats 4000000 in
set_option maxRecDepth 100000 in
theorem c_X7_nextTimeout1 (l : Launch) (D : va_G) (cI cJ cM cG : ClassId) (m0 : Nat) (v : Nat) (a1 : Nat) (a2 : Nat) (ik : Int32) (th : Int32) (en : Int32) (f : Nat → Int64) (c0 : Nat) (sz : Nat) (hc : c0 < 100) (hz : ∀ q, q < 100 → q ≠ c0 → f (1000 + 4 * q) = lN 0) (h1 : f (1000 + 4 * c0) = lN 1) : Met l yX7_nextTimeout (Cond.code yX7_nextTimeout cX7_nextTimeout 4 (some .int) :: kBig) ({ frames := 0, cells := 0, slots := 0, locals := 0 }) (va_Pc [.ref m0] (kP D [(cI, .int), (cJ, .long), (cM, .object "MeshRouting$Message"), (cG, .array .int)] [(m0, .inr (7, [.ref v, .ref a1, .ref a2, .int ik, .int th, .int en])), (v, .inl (cJ, 136800, .inr (.inl f)))] sz)) (va_Qi (fun (r : Int32) (_ : Unit) => r = nI c0) (fun _ t9 => kB D (va_A [(m0, .inr (7, [.ref v, .ref a1, .ref a2, .int ik, .int th, .int en])), (v, .inl (cJ, 136800, .inr (.inl f)))] sz) [(m0, .inr (7, [.ref v, .ref a1, .ref a2, .int ik, .int th, .int en])), (v, .inl (cJ, 136800, .inr (.inl f)))] t9) (va_A [(m0, .inr (7, [.ref v, .ref a1, .ref a2, .int ik, .int th, .int en])), (v, .inl (cJ, 136800, .inr (.inl f)))] sz)) 0 0 (va_A [(m0, .inr (7, [.ref v, .ref a1, .ref a2, .int ik, .int th, .int en])), (v, .inl (cJ, 136800, .inr (.inl f)))] sz) := by
  refine Met.ofW (cc := cX7_nextTimeout) (maxL := 4) (ret := (some .int)) (by decide) rfl ?_
  intro p e s m args below meth c s₁ B hml hv
  obtain ⟨rfl, hsz, hP, hK, hD0, hKN⟩ := hv
  have hx := B.exec
  have hb := B.bytes
  have hr := B.returns
  have hts := atoms_spec (ws := (Cond.code yX7_nextTimeout cX7_nextTimeout 4 (some .int) :: kBig)) B.pre
  have hown : s.vm.findClass RX7 = some m.cls := findClass_of_methodNamed B.named
  have hlocks := B.notSynchronized
  have hin7 : ∀ w ∈ u_ws RX7 TX7 6, w ∈ (Cond.code yX7_nextTimeout cX7_nextTimeout 4 (some .int) :: kBig) := fun w h => List.mem_cons_of_mem _ (inb7 w h)
  subst hsz
  have hD := hD0.self (sz := s.heap.size)
  generalize hAe : va_A [(m0, .inr (7, [.ref v, .ref a1, .ref a2, .int ik, .int th, .int en])), (v, .inl (cJ, 136800, .inr (.inl f)))] s.heap.size = A at hD ⊢
  have hA : ∀ q : Nat, s.heap.size ≤ q → A q := fun q h => by rw [← hAe]; exact Or.inr h
  have hS : va_S A s.heap s.heap [] := va_S.rf
  have hl := lv_entry ([.ref m0]) (n := 4) (Nat.le_of_ble_eq_true rfl)
  rw [lg_entry_eq]
  generalize (lg_sl ([.ref m0]) ++ List.replicate (4 - (lg_sl ([.ref m0])).length) Slot.unset).toArray = ls at hl ⊢
  have hl : lv_has ls 4 [(0, .ref m0)] := hl
  refine lv_iconst (v := (-1)) hx hb dX7_nextTimeout_0 (by decide) ?_
  refine lv_istore_n (lv' := [(1, .int (-1)), (0, .ref m0)]) hx hb dX7_nextTimeout_1 rfl hl (by decide) rfl (fun ls hl => ?_)
  refine lv_iconst (v := nI 0) hx hb dX7_nextTimeout_2 (by decide) ?_
  refine lv_istore_n (lv' := [(2, .int (nI 0)), (1, .int (-1)), (0, .ref m0)]) hx hb dX7_nextTimeout_3 rfl hl (by decide) rfl (fun ls hl => ?_)
  have hb0 : (-1 : Int32) = (if c0 < 0 then nI c0 else -1) := (if_neg (Nat.not_lt_zero c0)).symm
  rw [hb0] at hl
  refine k_loop (nL := 4) (wf := fun k => [(m0, .inr (7, [.ref v, .ref a1, .ref a2, .int ik, .int th, .int en])), (v, .inl (cJ, 136800, .inr (.inl f)))]) (lvf := fun k => [(0, .ref m0), (1, .int (if c0 < k then nI c0 else -1)), (2, .int (nI k))]) (B := 100) 0 (Nat.zero_le _) hP hD hS (lv_sub hl [2, 1, 0] rfl) (fun H locs ls hP hD hS hl => ?_) (fun k hk9 hk ih H locs ls hP hD hS hl => ?_)
  · replace hP : va_P D vwCl [(m0, .inr (7, [.ref v, .ref a1, .ref a2, .int ik, .int th, .int en])), (v, .inl (cJ, 136800, .inr (.inl f)))] H := hP
    replace hD : va_D A [(m0, .inr (7, [.ref v, .ref a1, .ref a2, .int ik, .int th, .int en])), (v, .inl (cJ, 136800, .inr (.inl f)))] := hD
    replace hl : lv_has ls 4 [(0, .ref m0), (1, .int (if c0 < 100 then nI c0 else -1)), (2, .int (nI 100))] := hl
    have hd1 : (if c0 < 100 then nI c0 else -1) = nI c0 := if_pos hc
    rw [hd1] at hl
    refine lv_iload_n hx hb dX7_nextTimeout_4 rfl (lv_at hl 2 rfl) ?_
    refine lv_bipush (v := nI 100) hx hb dX7_nextTimeout_5 (by decide) ?_
    refine k_icmp_ge (tgt := 69) hx hb dX7_nextTimeout_7 (by decide) (by omega) (by omega) (fun _ => ?_) (fun h9 => absurd h9 (by omega))
    refine lv_iload_n hx hb dX7_nextTimeout_69 rfl (lv_at hl 1 rfl) ?_
    have hP9 := hP.sub (ws' := [(m0, .inr (7, [.ref v, .ref a1, .ref a2, .int ik, .int th, .int en])), (v, .inl (cJ, 136800, .inr (.inl f)))]) [0, 1] rfl
    have hD9 := hD.sub (ws' := [(m0, .inr (7, [.ref v, .ref a1, .ref a2, .int ik, .int th, .int en])), (v, .inl (cJ, 136800, .inr (.inl f)))]) [0, 1] rfl rfl
    exact W.iret (v := nI c0) hx hb hr (fun t9 ht9 hW9 => ⟨⟨nI c0, (), rfl, rfl, by rw [ht9]; exact hP9, hD9⟩, hS.F ht9⟩) hS.2.2 dX7_nextTimeout_70
  · replace hP : va_P D vwCl [(m0, .inr (7, [.ref v, .ref a1, .ref a2, .int ik, .int th, .int en])), (v, .inl (cJ, 136800, .inr (.inl f)))] H := hP
    replace hD : va_D A [(m0, .inr (7, [.ref v, .ref a1, .ref a2, .int ik, .int th, .int en])), (v, .inl (cJ, 136800, .inr (.inl f)))] := hD
    replace hl : lv_has ls 4 [(0, .ref m0), (1, .int (if c0 < k then nI c0 else -1)), (2, .int (nI k))] := hl
    refine lv_iload_n hx hb dX7_nextTimeout_4 rfl (lv_at hl 2 rfl) ?_
    refine lv_bipush (v := nI 100) hx hb dX7_nextTimeout_5 (by decide) ?_
    refine k_icmp_ge (tgt := 69) hx hb dX7_nextTimeout_7 (by decide) (by omega) (by omega) (fun h9 => absurd h9 (by omega)) (fun _ => ?_)
    refine lv_sipush (v := nI 1000) hx hb dX7_nextTimeout_10 (by decide) ?_
    refine lv_iconst (v := nI 4) hx hb dX7_nextTimeout_13 (by decide) ?_
    refine lv_iload_n hx hb dX7_nextTimeout_14 rfl (lv_at hl 2 rfl) ?_
    refine lv_imul hx hb dX7_nextTimeout_15 ?_
    refine k_ti (show ((nI 4) * (nI k)) = (nI (4 * k)) from pk_mul _ _) ?_
    refine lv_iadd hx hb dX7_nextTimeout_16 ?_
    refine k_ti (show ((nI 1000) + (nI (4 * k))) = (nI (1000 + 4 * k)) from nI_add _ _) ?_
    refine lv_istore_n (lv' := [(3, .int (nI (1000 + 4 * k))), (0, .ref m0), (1, .int (if c0 < k then nI c0 else -1)), (2, .int (nI k))]) hx hb dX7_nextTimeout_17 rfl hl (by decide) rfl (fun ls hl => ?_)
    by_cases hkc : k = c0
    · have hd1 : (if c0 < k then nI c0 else -1) = (-1 : Int32) := if_neg (by omega)
      rw [hd1] at hl
      refine lv_aload_n hx hb dX7_nextTimeout_18 rfl (lv_at hl 1 rfl) ?_
      refine va_get (D := D) (ci := 7) (v := .ref v) (C := RX7) (T := TX7) (N := 6) hx hb hts hin7 hown hK hP 0 rfl rfl 0 (by decide) (hts (.fieldLink RX7 8 "MeshRoutingModel" "v" "[J") (List.mem_cons_of_mem _ q_665)) (fun _ h9 => h9) rfl dX7_nextTimeout_19 ?_
      refine lv_iload_n hx hb dX7_nextTimeout_22 rfl (lv_at hl 0 rfl) ?_
      refine lv_iconst (v := nI 0) hx hb dX7_nextTimeout_23 (by decide) ?_
      refine lv_iadd hx hb dX7_nextTimeout_24 ?_
      refine k_ti (show ((nI (1000 + 4 * k)) + (nI 0)) = (nI (1000 + 4 * k + 0)) from nI_add _ _) ?_
      refine k_lald (v := lN 1) hx hb hK hP 1 1 rfl rfl (by omega) (by omega) (by rw [hkc]; exact h1) dX7_nextTimeout_25 ?_
      refine lv_lconst (v := lN 0) hx hb dX7_nextTimeout_26 (by decide) ?_
      refine W.lcmp hx hb dX7_nextTimeout_27 ?_
      refine k_lif_le (tgt := 63) hx hb dX7_nextTimeout_28 (by decide) (by omega) (by omega) (fun h9 => absurd h9 (by omega)) (fun _ => ?_)
      refine lv_iload_n hx hb dX7_nextTimeout_31 rfl (lv_at hl 2 rfl) ?_
      refine lv_if_lt (tgt := 61) hx hb dX7_nextTimeout_32 (by decide) (fun _ => ?_) (fun h9 => absurd (by decide) h9)
      refine lv_iload_n hx hb dX7_nextTimeout_61 rfl (lv_at hl 3 rfl) ?_
      refine k_ti (show (nI k) = (if c0 < k + 1 then nI c0 else -1) from by rw [if_pos (by omega), hkc]) ?_
      refine lv_istore_n (lv' := [(1, .int (if c0 < k + 1 then nI c0 else -1)), (3, .int (nI (1000 + 4 * k))), (0, .ref m0), (2, .int (nI k))]) hx hb dX7_nextTimeout_62 rfl hl (by decide) rfl (fun ls hl => ?_)
      refine lv_iinc (v := nI (k + 1)) (lv' := [(2, .int (nI (k + 1))), (1, .int (if c0 < k + 1 then nI c0 else -1)), (3, .int (nI (1000 + 4 * k))), (0, .ref m0)]) hx hb dX7_nextTimeout_63 hl (k := 3) rfl (by exact nI_add k 1) (by decide) rfl (fun ls hl => ?_)
      refine lv_goto (tgt := 4) hx hb dX7_nextTimeout_66 (by decide) ?_
      exact ih _ _ _ hP hD hS (lv_sub hl [3, 1, 0] rfl)
    · have hd1 : (if c0 < k then nI c0 else -1) = (if c0 < k + 1 then nI c0 else -1 : Int32) := by
        by_cases h : c0 < k
        · rw [if_pos h, if_pos (by omega)]
        · rw [if_neg h, if_neg (by omega)]
      rw [hd1] at hl
      refine lv_aload_n hx hb dX7_nextTimeout_18 rfl (lv_at hl 1 rfl) ?_
      refine va_get (D := D) (ci := 7) (v := .ref v) (C := RX7) (T := TX7) (N := 6) hx hb hts hin7 hown hK hP 0 rfl rfl 0 (by decide) (hts (.fieldLink RX7 8 "MeshRoutingModel" "v" "[J") (List.mem_cons_of_mem _ q_665)) (fun _ h9 => h9) rfl dX7_nextTimeout_19 ?_
      refine lv_iload_n hx hb dX7_nextTimeout_22 rfl (lv_at hl 0 rfl) ?_
      refine lv_iconst (v := nI 0) hx hb dX7_nextTimeout_23 (by decide) ?_
      refine lv_iadd hx hb dX7_nextTimeout_24 ?_
      refine k_ti (show ((nI (1000 + 4 * k)) + (nI 0)) = (nI (1000 + 4 * k + 0)) from nI_add _ _) ?_
      refine k_lald (v := lN 0) hx hb hK hP 1 1 rfl rfl (by omega) (by omega) (hz k (by omega) hkc) dX7_nextTimeout_25 ?_
      refine lv_lconst (v := lN 0) hx hb dX7_nextTimeout_26 (by decide) ?_
      refine W.lcmp hx hb dX7_nextTimeout_27 ?_
      refine k_lif_le (tgt := 63) hx hb dX7_nextTimeout_28 (by decide) (by omega) (by omega) (fun _ => ?_) (fun h9 => absurd h9 (by omega))
      refine lv_iinc (v := nI (k + 1)) (lv' := [(2, .int (nI (k + 1))), (3, .int (nI (1000 + 4 * k))), (0, .ref m0), (1, .int (if c0 < k + 1 then nI c0 else -1))]) hx hb dX7_nextTimeout_63 hl (k := 3) rfl (by exact nI_add k 1) (by decide) rfl (fun ls hl => ?_)
      refine lv_goto (tgt := 4) hx hb dX7_nextTimeout_66 (by decide) ?_
      exact ih _ _ _ hP hD hS (lv_sub hl [2, 3, 0] rfl)

set_option maxHeartbeats 4000000 in
set_option maxRecDepth 100000 in
theorem c_X7_nextTimeout0 (l : Launch) (D : va_G) (cI cJ cM cG : ClassId) (m0 : Nat) (v : Nat) (a1 : Nat) (a2 : Nat) (ik : Int32) (th : Int32) (en : Int32) (f : Nat → Int64) (sz : Nat) (hz : ∀ q, q < 100 → f (1000 + 4 * q) = lN 0) : Met l yX7_nextTimeout (Cond.code yX7_nextTimeout cX7_nextTimeout 4 (some .int) :: kBig) ({ frames := 0, cells := 0, slots := 0, locals := 0 }) (va_Pc [.ref m0] (kP D [(cI, .int), (cJ, .long), (cM, .object "MeshRouting$Message"), (cG, .array .int)] [(m0, .inr (7, [.ref v, .ref a1, .ref a2, .int ik, .int th, .int en])), (v, .inl (cJ, 136800, .inr (.inl f)))] sz)) (va_Qi (fun (r : Int32) (_ : Unit) => r = (-1)) (fun _ t9 => kB D (va_A [(m0, .inr (7, [.ref v, .ref a1, .ref a2, .int ik, .int th, .int en])), (v, .inl (cJ, 136800, .inr (.inl f)))] sz) [(m0, .inr (7, [.ref v, .ref a1, .ref a2, .int ik, .int th, .int en])), (v, .inl (cJ, 136800, .inr (.inl f)))] t9) (va_A [(m0, .inr (7, [.ref v, .ref a1, .ref a2, .int ik, .int th, .int en])), (v, .inl (cJ, 136800, .inr (.inl f)))] sz)) 0 0 (va_A [(m0, .inr (7, [.ref v, .ref a1, .ref a2, .int ik, .int th, .int en])), (v, .inl (cJ, 136800, .inr (.inl f)))] sz) := by
  refine Met.ofW (cc := cX7_nextTimeout) (maxL := 4) (ret := (some .int)) (by decide) rfl ?_
  intro p e s m args below meth c s₁ B hml hv
  obtain ⟨rfl, hsz, hP, hK, hD0, hKN⟩ := hv
  have hx := B.exec
  have hb := B.bytes
  have hr := B.returns
  have hts := atoms_spec (ws := (Cond.code yX7_nextTimeout cX7_nextTimeout 4 (some .int) :: kBig)) B.pre
  have hown : s.vm.findClass RX7 = some m.cls := findClass_of_methodNamed B.named
  have hlocks := B.notSynchronized
  have hin7 : ∀ w ∈ u_ws RX7 TX7 6, w ∈ (Cond.code yX7_nextTimeout cX7_nextTimeout 4 (some .int) :: kBig) := fun w h => List.mem_cons_of_mem _ (inb7 w h)
  subst hsz
  have hD := hD0.self (sz := s.heap.size)
  generalize hAe : va_A [(m0, .inr (7, [.ref v, .ref a1, .ref a2, .int ik, .int th, .int en])), (v, .inl (cJ, 136800, .inr (.inl f)))] s.heap.size = A at hD ⊢
  have hA : ∀ q : Nat, s.heap.size ≤ q → A q := fun q h => by rw [← hAe]; exact Or.inr h
  have hS : va_S A s.heap s.heap [] := va_S.rf
  have hl := lv_entry ([.ref m0]) (n := 4) (Nat.le_of_ble_eq_true rfl)
  rw [lg_entry_eq]
  generalize (lg_sl ([.ref m0]) ++ List.replicate (4 - (lg_sl ([.ref m0])).length) Slot.unset).toArray = ls at hl ⊢
  have hl : lv_has ls 4 [(0, .ref m0)] := hl
  refine lv_iconst (v := (-1)) hx hb dX7_nextTimeout_0 (by decide) ?_
  refine lv_istore_n (lv' := [(1, .int (-1)), (0, .ref m0)]) hx hb dX7_nextTimeout_1 rfl hl (by decide) rfl (fun ls hl => ?_)
  refine lv_iconst (v := nI 0) hx hb dX7_nextTimeout_2 (by decide) ?_
  refine lv_istore_n (lv' := [(2, .int (nI 0)), (1, .int (-1)), (0, .ref m0)]) hx hb dX7_nextTimeout_3 rfl hl (by decide) rfl (fun ls hl => ?_)
  refine k_loop (nL := 4) (wf := fun k => [(m0, .inr (7, [.ref v, .ref a1, .ref a2, .int ik, .int th, .int en])), (v, .inl (cJ, 136800, .inr (.inl f)))]) (lvf := fun k => [(0, .ref m0), (1, .int (-1)), (2, .int (nI k))]) (B := 100) 0 (Nat.zero_le _) hP hD hS (lv_sub hl [2, 1, 0] rfl) (fun H locs ls hP hD hS hl => ?_) (fun k hk9 hk ih H locs ls hP hD hS hl => ?_)
  · replace hP : va_P D vwCl [(m0, .inr (7, [.ref v, .ref a1, .ref a2, .int ik, .int th, .int en])), (v, .inl (cJ, 136800, .inr (.inl f)))] H := hP
    replace hD : va_D A [(m0, .inr (7, [.ref v, .ref a1, .ref a2, .int ik, .int th, .int en])), (v, .inl (cJ, 136800, .inr (.inl f)))] := hD
    replace hl : lv_has ls 4 [(0, .ref m0), (1, .int (-1)), (2, .int (nI 100))] := hl
    refine lv_iload_n hx hb dX7_nextTimeout_4 rfl (lv_at hl 2 rfl) ?_
    refine lv_bipush (v := nI 100) hx hb dX7_nextTimeout_5 (by decide) ?_
    refine k_icmp_ge (tgt := 69) hx hb dX7_nextTimeout_7 (by decide) (by omega) (by omega) (fun _ => ?_) (fun h9 => absurd h9 (by omega))
    refine lv_iload_n hx hb dX7_nextTimeout_69 rfl (lv_at hl 1 rfl) ?_
    have hP9 := hP.sub (ws' := [(m0, .inr (7, [.ref v, .ref a1, .ref a2, .int ik, .int th, .int en])), (v, .inl (cJ, 136800, .inr (.inl f)))]) [0, 1] rfl
    have hD9 := hD.sub (ws' := [(m0, .inr (7, [.ref v, .ref a1, .ref a2, .int ik, .int th, .int en])), (v, .inl (cJ, 136800, .inr (.inl f)))]) [0, 1] rfl rfl
    exact W.iret (v := (-1)) hx hb hr (fun t9 ht9 hW9 => ⟨⟨(-1), (), rfl, rfl, by rw [ht9]; exact hP9, hD9⟩, hS.F ht9⟩) hS.2.2 dX7_nextTimeout_70
  · replace hP : va_P D vwCl [(m0, .inr (7, [.ref v, .ref a1, .ref a2, .int ik, .int th, .int en])), (v, .inl (cJ, 136800, .inr (.inl f)))] H := hP
    replace hD : va_D A [(m0, .inr (7, [.ref v, .ref a1, .ref a2, .int ik, .int th, .int en])), (v, .inl (cJ, 136800, .inr (.inl f)))] := hD
    replace hl : lv_has ls 4 [(0, .ref m0), (1, .int (-1)), (2, .int (nI k))] := hl
    refine lv_iload_n hx hb dX7_nextTimeout_4 rfl (lv_at hl 2 rfl) ?_
    refine lv_bipush (v := nI 100) hx hb dX7_nextTimeout_5 (by decide) ?_
    refine k_icmp_ge (tgt := 69) hx hb dX7_nextTimeout_7 (by decide) (by omega) (by omega) (fun h9 => absurd h9 (by omega)) (fun _ => ?_)
    refine lv_sipush (v := nI 1000) hx hb dX7_nextTimeout_10 (by decide) ?_
    refine lv_iconst (v := nI 4) hx hb dX7_nextTimeout_13 (by decide) ?_
    refine lv_iload_n hx hb dX7_nextTimeout_14 rfl (lv_at hl 2 rfl) ?_
    refine lv_imul hx hb dX7_nextTimeout_15 ?_
    refine k_ti (show ((nI 4) * (nI k)) = (nI (4 * k)) from pk_mul _ _) ?_
    refine lv_iadd hx hb dX7_nextTimeout_16 ?_
    refine k_ti (show ((nI 1000) + (nI (4 * k))) = (nI (1000 + 4 * k)) from nI_add _ _) ?_
    refine lv_istore_n (lv' := [(3, .int (nI (1000 + 4 * k))), (0, .ref m0), (1, .int (-1)), (2, .int (nI k))]) hx hb dX7_nextTimeout_17 rfl hl (by decide) rfl (fun ls hl => ?_)
    refine lv_aload_n hx hb dX7_nextTimeout_18 rfl (lv_at hl 1 rfl) ?_
    refine va_get (D := D) (ci := 7) (v := .ref v) (C := RX7) (T := TX7) (N := 6) hx hb hts hin7 hown hK hP 0 rfl rfl 0 (by decide) (hts (.fieldLink RX7 8 "MeshRoutingModel" "v" "[J") (List.mem_cons_of_mem _ q_665)) (fun _ h9 => h9) rfl dX7_nextTimeout_19 ?_
    refine lv_iload_n hx hb dX7_nextTimeout_22 rfl (lv_at hl 0 rfl) ?_
    refine lv_iconst (v := nI 0) hx hb dX7_nextTimeout_23 (by decide) ?_
    refine lv_iadd hx hb dX7_nextTimeout_24 ?_
    refine k_ti (show ((nI (1000 + 4 * k)) + (nI 0)) = (nI (1000 + 4 * k + 0)) from nI_add _ _) ?_
    refine k_lald (v := lN 0) hx hb hK hP 1 1 rfl rfl (by omega) (by omega) (hz k (by omega)) dX7_nextTimeout_25 ?_
    refine lv_lconst (v := lN 0) hx hb dX7_nextTimeout_26 (by decide) ?_
    refine W.lcmp hx hb dX7_nextTimeout_27 ?_
    refine k_lif_le (tgt := 63) hx hb dX7_nextTimeout_28 (by decide) (by omega) (by omega) (fun _ => ?_) (fun h9 => absurd h9 (by omega))
    refine lv_iinc (v := nI (k + 1)) (lv' := [(2, .int (nI (k + 1))), (3, .int (nI (1000 + 4 * k))), (0, .ref m0), (1, .int (-1))]) hx hb dX7_nextTimeout_63 hl (k := 3) rfl (by exact nI_add k 1) (by decide) rfl (fun ls hl => ?_)
    refine lv_goto (tgt := 4) hx hb dX7_nextTimeout_66 (by decide) ?_
    exact ih _ _ _ hP hD hS (lv_sub hl [2, 3, 0] rfl)

set_option maxHeartbeats 4000000 in
set_option maxRecDepth 100000 in
theorem c_X7_timesOut0 (l : Launch) (D : va_G) (cI cJ cM cG : ClassId) (m0 : Nat) (v : Nat) (a1 : Nat) (a2 : Nat) (ik : Int32) (th : Int32) (en : Int32) (f : Nat → Int64) (o : Nat) (d : Nat) (N : Nat) (t : Nat) (k : Nat) (sz : Nat) (ho : o < 10) (hd : d < 10) (hN : N ≤ 10) (hk : k < 60) (ht : t < 2 ^ 40) (hM : mS f N o d t t 1 0 k) : Met l yX7_timesOut (Cond.code yX7_timesOut cX7_timesOut 10 none :: kBig) ({ frames := 4, cells := 0, slots := 0, locals := 98 }) (va_Pc [.ref m0, .int (nI o), .int (nI d)] (kP D [(cI, .int), (cJ, .long), (cM, .object "MeshRouting$Message"), (cG, .array .int)] [(m0, .inr (7, [.ref v, .ref a1, .ref a2, .int ik, .int th, .int en])), (v, .inl (cJ, 136800, .inr (.inl f)))] sz)) (va_Qv (fun u : Nat → Int64 => (mS u N o d t (t + 20 * (3 + 1)) 3 0 (k + 1))) (fun u t9 => kB D (va_A [(m0, .inr (7, [.ref v, .ref a1, .ref a2, .int ik, .int th, .int en])), (v, .inl (cJ, 136800, .inr (.inl f)))] sz) [(m0, .inr (7, [.ref v, .ref a1, .ref a2, .int ik, .int th, .int en])), (v, .inl (cJ, 136800, .inr (.inl u)))] t9) (va_A [(m0, .inr (7, [.ref v, .ref a1, .ref a2, .int ik, .int th, .int en])), (v, .inl (cJ, 136800, .inr (.inl f)))] sz)) 0 0 (va_A [(m0, .inr (7, [.ref v, .ref a1, .ref a2, .int ik, .int th, .int en])), (v, .inl (cJ, 136800, .inr (.inl f)))] sz) := by
  refine Met.ofW (cc := cX7_timesOut) (maxL := 10) (ret := none) (by decide) rfl ?_
  intro p e s m args below meth c s₁ B hml hv
  obtain ⟨rfl, hsz, hP, hK, hD0, hKN⟩ := hv
  have hx := B.exec
  have hb := B.bytes
  have hr := B.returns
  have hts := atoms_spec (ws := (Cond.code yX7_timesOut cX7_timesOut 10 none :: kBig)) B.pre
  have hown : s.vm.findClass RX7 = some m.cls := findClass_of_methodNamed B.named
  have hlocks := B.notSynchronized
  have hin7 : ∀ w ∈ u_ws RX7 TX7 6, w ∈ (Cond.code yX7_timesOut cX7_timesOut 10 none :: kBig) := fun w h => List.mem_cons_of_mem _ (inb7 w h)
  subst hsz
  have hD := hD0.self (sz := s.heap.size)
  generalize hAe : va_A [(m0, .inr (7, [.ref v, .ref a1, .ref a2, .int ik, .int th, .int en])), (v, .inl (cJ, 136800, .inr (.inl f)))] s.heap.size = A at hD ⊢
  have hA : ∀ q : Nat, s.heap.size ≤ q → A q := fun q h => by rw [← hAe]; exact Or.inr h
  have hS : va_S A s.heap s.heap [] := va_S.rf
  have hl := lv_entry ([.ref m0, .int (nI o), .int (nI d)]) (n := 10) (Nat.le_of_ble_eq_true rfl)
  rw [lg_entry_eq]
  generalize (lg_sl ([.ref m0, .int (nI o), .int (nI d)]) ++ List.replicate (10 - (lg_sl ([.ref m0, .int (nI o), .int (nI d)])).length) Slot.unset).toArray = ls at hl ⊢
  have hl : lv_has ls 10 [(0, .ref m0), (1, .int (nI o)), (2, .int (nI d))] := hl
  obtain ⟨y0, y1, y2, y3, y4, y5, y6, y7, y8, y9, y10, y11, y12, y13⟩ := id hM
  refine lv_iload_n hx hb dX7_timesOut_0 rfl (lv_at hl 1 rfl) ?_
  refine lv_iload_n hx hb dX7_timesOut_1 rfl (lv_at hl 2 rfl) ?_
  refine k_ci (wr := [(m0, .inr (7, [.ref v, .ref a1, .ref a2, .int ik, .int th, .int en])), (v, .inl (cJ, 136800, .inr (.inl f)))]) (w1 := []) (va_runS (As := [.int (nI o), .int (nI d)]) (rest := []) ⟨hx, hb, hml, hown, hts⟩ (c_X7_search l D cI cJ cM cG o d s.heap.size) (va_cwS 2 hts (kB_S (fun _ => List.mem_cons_of_mem _) q_703 q_704 q_670 (kB_c q_705)) rfl rfl rfl (by decide +kernel) ⟨Nat.le_of_ble_eq_true rfl, Nat.le_of_ble_eq_true rfl⟩) (k_preS hP hD hK hKN [] rfl rfl) rfl rfl hl.1 rfl (lv_room (Nat.le_of_ble_eq_true rfl)) dX7_timesOut_2 ⟨Nat.le_of_ble_eq_true rfl, Nat.le_of_ble_eq_true rfl⟩) hP hD hS hA [] [0, 1] rfl rfl rfl (by decide) (fun r2 H locs hw2 hP hD hS => ?_)
  replace hP : va_P D vwCl [(m0, .inr (7, [.ref v, .ref a1, .ref a2, .int ik, .int th, .int en])), (v, .inl (cJ, 136800, .inr (.inl f)))] H := hP
  replace hD : va_D A [(m0, .inr (7, [.ref v, .ref a1, .ref a2, .int ik, .int th, .int en])), (v, .inl (cJ, 136800, .inr (.inl f)))] := hD
  replace hw2 : r2 = nI (1000 + 4 * (10 * o + d)) := hw2
  refine k_ti hw2 ?_
  refine lv_istore_n (lv' := [(3, .int (nI (1000 + 4 * (10 * o + d)))), (0, .ref m0), (1, .int (nI o)), (2, .int (nI d))]) hx hb dX7_timesOut_5 rfl hl (by decide) rfl (fun ls hl => ?_)
  refine lv_aload_n hx hb dX7_timesOut_6 rfl (lv_at hl 1 rfl) ?_
  refine va_get (D := D) (ci := 7) (v := .ref v) (C := RX7) (T := TX7) (N := 6) hx hb hts hin7 hown hK hP 0 rfl rfl 0 (by decide) (hts (.fieldLink RX7 8 "MeshRoutingModel" "v" "[J") (List.mem_cons_of_mem _ q_665)) (fun _ h9 => h9) rfl dX7_timesOut_7 ?_
  refine lv_iload_n hx hb dX7_timesOut_10 rfl (lv_at hl 0 rfl) ?_
  refine lv_iconst (v := nI 2) hx hb dX7_timesOut_11 (by decide) ?_
  refine lv_iadd hx hb dX7_timesOut_12 ?_
  refine k_ti (show ((nI (1000 + 4 * (10 * o + d))) + (nI 2)) = (nI (1000 + 4 * (10 * o + d) + 2)) from nI_add _ _) ?_
  refine k_lald (v := lN 1) hx hb hK hP 1 1 rfl rfl (by omega) (by omega) (y9) dX7_timesOut_13 ?_
  refine lv_lstore (lv' := [(4, .long (lN 1)), (3, .int (nI (1000 + 4 * (10 * o + d)))), (0, .ref m0), (1, .int (nI o)), (2, .int (nI d))]) hx hb dX7_timesOut_14 hl (by decide) rfl (fun ls hl => ?_)
  refine lv_aload_n hx hb dX7_timesOut_16 rfl (lv_at hl 2 rfl) ?_
  refine va_get (D := D) (ci := 7) (v := .ref v) (C := RX7) (T := TX7) (N := 6) hx hb hts hin7 hown hK hP 0 rfl rfl 0 (by decide) (hts (.fieldLink RX7 8 "MeshRoutingModel" "v" "[J") (List.mem_cons_of_mem _ q_665)) (fun _ h9 => h9) rfl dX7_timesOut_17 ?_
  refine lv_bipush (v := nI 43) hx hb dX7_timesOut_20 (by decide) ?_
  refine k_lald (v := lN 5) hx hb hK hP 1 1 rfl rfl (by omega) (by omega) (((y3 43 (by omega) (by omega)).trans rfl)) dX7_timesOut_22 ?_
  refine lv_lstore (lv' := [(6, .long (lN 5)), (4, .long (lN 1)), (3, .int (nI (1000 + 4 * (10 * o + d)))), (0, .ref m0), (1, .int (nI o)), (2, .int (nI d))]) hx hb dX7_timesOut_23 hl (by decide) rfl (fun ls hl => ?_)
  refine lv_aload_n hx hb dX7_timesOut_25 rfl (lv_at hl 3 rfl) ?_
  refine va_get (D := D) (ci := 7) (v := .ref v) (C := RX7) (T := TX7) (N := 6) hx hb hts hin7 hown hK hP 0 rfl rfl 0 (by decide) (hts (.fieldLink RX7 8 "MeshRoutingModel" "v" "[J") (List.mem_cons_of_mem _ q_665)) (fun _ h9 => h9) rfl dX7_timesOut_26 ?_
  refine lv_iload_n hx hb dX7_timesOut_29 rfl (lv_at hl 2 rfl) ?_
  refine lv_iconst (v := nI 0) hx hb dX7_timesOut_30 (by decide) ?_
  refine lv_iadd hx hb dX7_timesOut_31 ?_
  refine k_ti (show ((nI (1000 + 4 * (10 * o + d))) + (nI 0)) = (nI (1000 + 4 * (10 * o + d) + 0)) from nI_add _ _) ?_
  refine k_lald (v := lN 1) hx hb hK hP 1 1 rfl rfl (by omega) (by omega) (y7) dX7_timesOut_32 ?_
  refine lv_ldc2 (v := 2) hx hb hown (by exact hts (.constantLong RX7 20 (2)) (List.mem_cons_of_mem _ q_719)) dX7_timesOut_33 ?_
  refine k_tl (show (2) = (lN 2) from by decide) ?_
  refine W.lcmp hx hb dX7_timesOut_36 ?_
  refine k_lif_ne (tgt := 66) hx hb dX7_timesOut_37 (by decide) (by omega) (by omega) (fun _ => ?_) (fun h9 => absurd h9 (by omega))
  refine lv_aload_n hx hb dX7_timesOut_66 rfl (lv_at hl 3 rfl) ?_
  refine va_get (D := D) (ci := 7) (v := .ref v) (C := RX7) (T := TX7) (N := 6) hx hb hts hin7 hown hK hP 0 rfl rfl 0 (by decide) (hts (.fieldLink RX7 8 "MeshRoutingModel" "v" "[J") (List.mem_cons_of_mem _ q_665)) (fun _ h9 => h9) rfl dX7_timesOut_67 ?_
  refine lv_iload_n hx hb dX7_timesOut_70 rfl (lv_at hl 2 rfl) ?_
  refine lv_iconst (v := nI 3) hx hb dX7_timesOut_71 (by decide) ?_
  refine lv_iadd hx hb dX7_timesOut_72 ?_
  refine k_ti (show ((nI (1000 + 4 * (10 * o + d))) + (nI 3)) = (nI (1000 + 4 * (10 * o + d) + 3)) from nI_add _ _) ?_
  refine k_lald (v := lN 0) hx hb hK hP 1 1 rfl rfl (by omega) (by omega) (y10) dX7_timesOut_73 ?_
  refine lv_lconst (v := lN 0) hx hb dX7_timesOut_74 (by decide) ?_
  refine W.lcmp hx hb dX7_timesOut_75 ?_
  refine k_lif_ne (tgt := 123) hx hb dX7_timesOut_76 (by decide) (by omega) (by omega) (fun h9 => absurd h9 (by omega)) (fun _ => ?_)
  refine lv_lload hx hb dX7_timesOut_79 (lv_at hl 1 rfl) ?_
  refine lv_lload hx hb dX7_timesOut_81 (lv_at hl 0 rfl) ?_
  refine W.lcmp hx hb dX7_timesOut_83 ?_
  refine k_lif_ge (tgt := 123) hx hb dX7_timesOut_84 (by decide) (by omega) (by omega) (fun h9 => absurd h9 (by omega)) (fun _ => ?_)
  refine lv_lload hx hb dX7_timesOut_87 (lv_at hl 1 rfl) ?_
  refine lv_aload_n hx hb dX7_timesOut_89 rfl (lv_at hl 3 rfl) ?_
  refine va_get (D := D) (ci := 7) (v := .ref v) (C := RX7) (T := TX7) (N := 6) hx hb hts hin7 hown hK hP 0 rfl rfl 0 (by decide) (hts (.fieldLink RX7 8 "MeshRoutingModel" "v" "[J") (List.mem_cons_of_mem _ q_665)) (fun _ h9 => h9) rfl dX7_timesOut_90 ?_
  refine lv_bipush (v := nI 42) hx hb dX7_timesOut_93 (by decide) ?_
  refine k_lald (v := lN 2) hx hb hK hP 1 1 rfl rfl (by omega) (by omega) (((y3 42 (by omega) (by omega)).trans rfl)) dX7_timesOut_95 ?_
  refine lv_ladd hx hb dX7_timesOut_96 ?_
  refine k_tl (show ((lN 1) + (lN 2)) = (lN 3) from by decide) ?_
  refine lv_lstore (lv' := [(8, .long (lN 3)), (6, .long (lN 5)), (4, .long (lN 1)), (3, .int (nI (1000 + 4 * (10 * o + d)))), (0, .ref m0), (1, .int (nI o)), (2, .int (nI d))]) hx hb dX7_timesOut_97 hl (by decide) rfl (fun ls hl => ?_)
  refine lv_aload_n hx hb dX7_timesOut_99 rfl (lv_at hl 4 rfl) ?_
  refine lv_iload_n hx hb dX7_timesOut_100 rfl (lv_at hl 5 rfl) ?_
  refine lv_iload_n hx hb dX7_timesOut_101 rfl (lv_at hl 6 rfl) ?_
  refine lv_lload hx hb dX7_timesOut_102 (lv_at hl 0 rfl) ?_
  refine lv_lload hx hb dX7_timesOut_104 (lv_at hl 1 rfl) ?_
  refine W.lcmp hx hb dX7_timesOut_106 ?_
  refine k_lif_ge (tgt := 115) hx hb dX7_timesOut_107 (by decide) (by omega) (by omega) (fun h9 => absurd h9 (by omega)) (fun _ => ?_)
  refine lv_lload hx hb dX7_timesOut_110 (lv_at hl 0 rfl) ?_
  refine lv_goto (tgt := 117) hx hb dX7_timesOut_112 (by decide) ?_
  refine k_cV (wr := []) (w1 := fun u => [(m0, .inr (7, [.ref v, .ref a1, .ref a2, .int ik, .int th, .int en])), (v, .inl (cJ, 136800, .inr (.inl u)))]) (va_runV (As := [.int (nI o), .int (nI d), .long (lN 3)]) (rest := []) ⟨hx, hb, hml, hown, hts⟩ (c_X7_asks l D cI cJ cM cG m0 v a1 a2 ik th en f o d 3 N t k H.size (ho) (hd) (hN) (hk) (ht) (by omega) (hM.1) (hM.2.1) (hM.2.2.2.2.1) (mS_46 hM) (hM.2.2.2.2.2.1)) (cwV 3 hts (kB_V (fun _ => List.mem_cons_of_mem _) q_707 q_708 q_709 q_670 (kB_c q_664)) rfl rfl rfl (by decide +kernel) ⟨Nat.le_of_ble_eq_true rfl, Nat.le_of_ble_eq_true rfl⟩) (k_preV (T := TX7) hP hD hK hKN [0, 1] rfl rfl (ci := 7) rfl (q0 := 0) rfl) rfl rfl hl.1 rfl (lv_room (Nat.le_of_ble_eq_true rfl)) dX7_timesOut_117 ⟨Nat.le_of_ble_eq_true rfl, Nat.le_of_ble_eq_true rfl⟩) hP hD hS hA [0, 1] [] rfl rfl rfl (by decide) (fun u117 H locs hw117 hP hD hS => ?_)
  replace hP : va_P D vwCl [(m0, .inr (7, [.ref v, .ref a1, .ref a2, .int ik, .int th, .int en])), (v, .inl (cJ, 136800, .inr (.inl u117)))] H := hP
  replace hD : va_D A [(m0, .inr (7, [.ref v, .ref a1, .ref a2, .int ik, .int th, .int en])), (v, .inl (cJ, 136800, .inr (.inl u117)))] := hD
  have hu117 := hw117
  refine lv_goto (tgt := 187) hx hb dX7_timesOut_120 (by decide) ?_
  have hP9 := hP.sub (ws' := [(m0, .inr (7, [.ref v, .ref a1, .ref a2, .int ik, .int th, .int en])), (v, .inl (cJ, 136800, .inr (.inl u117)))]) [0, 1] rfl
  have hD9 := hD.sub (ws' := [(m0, .inr (7, [.ref v, .ref a1, .ref a2, .int ik, .int th, .int en])), (v, .inl (cJ, 136800, .inr (.inl u117)))]) [0, 1] rfl rfl
  exact W.vret hx hb hr (fun t9 ht9 hW9 => ⟨⟨u117, rfl, mS_ask ho hd hM hu117, by rw [ht9]; exact hP9, hD9⟩, hS.F ht9⟩) hS.2.2 dX7_timesOut_187

set_option maxHeartbeats 4000000 in
set_option maxRecDepth 100000 in
theorem c_X7_timesOut1 (l : Launch) (D : va_G) (cI cJ cM cG : ClassId) (m0 : Nat) (v : Nat) (a1 : Nat) (a2 : Nat) (ik : Int32) (th : Int32) (en : Int32) (f : Nat → Int64) (o : Nat) (d : Nat) (N : Nat) (t : Nat) (k : Nat) (sz : Nat) (ho : o < 10) (hd : d < 10) (hN : N ≤ 10) (hk : k < 60) (ht : t < 2 ^ 40) (hM : mS f N o d t t 3 0 k) : Met l yX7_timesOut (Cond.code yX7_timesOut cX7_timesOut 10 none :: kBig) ({ frames := 4, cells := 0, slots := 0, locals := 98 }) (va_Pc [.ref m0, .int (nI o), .int (nI d)] (kP D [(cI, .int), (cJ, .long), (cM, .object "MeshRouting$Message"), (cG, .array .int)] [(m0, .inr (7, [.ref v, .ref a1, .ref a2, .int ik, .int th, .int en])), (v, .inl (cJ, 136800, .inr (.inl f)))] sz)) (va_Qv (fun u : Nat → Int64 => (mS u N o d t (t + 20 * (5 + 1)) 5 0 (k + 1))) (fun u t9 => kB D (va_A [(m0, .inr (7, [.ref v, .ref a1, .ref a2, .int ik, .int th, .int en])), (v, .inl (cJ, 136800, .inr (.inl f)))] sz) [(m0, .inr (7, [.ref v, .ref a1, .ref a2, .int ik, .int th, .int en])), (v, .inl (cJ, 136800, .inr (.inl u)))] t9) (va_A [(m0, .inr (7, [.ref v, .ref a1, .ref a2, .int ik, .int th, .int en])), (v, .inl (cJ, 136800, .inr (.inl f)))] sz)) 0 0 (va_A [(m0, .inr (7, [.ref v, .ref a1, .ref a2, .int ik, .int th, .int en])), (v, .inl (cJ, 136800, .inr (.inl f)))] sz) := by
  refine Met.ofW (cc := cX7_timesOut) (maxL := 10) (ret := none) (by decide) rfl ?_
  intro p e s m args below meth c s₁ B hml hv
  obtain ⟨rfl, hsz, hP, hK, hD0, hKN⟩ := hv
  have hx := B.exec
  have hb := B.bytes
  have hr := B.returns
  have hts := atoms_spec (ws := (Cond.code yX7_timesOut cX7_timesOut 10 none :: kBig)) B.pre
  have hown : s.vm.findClass RX7 = some m.cls := findClass_of_methodNamed B.named
  have hlocks := B.notSynchronized
  have hin7 : ∀ w ∈ u_ws RX7 TX7 6, w ∈ (Cond.code yX7_timesOut cX7_timesOut 10 none :: kBig) := fun w h => List.mem_cons_of_mem _ (inb7 w h)
  subst hsz
  have hD := hD0.self (sz := s.heap.size)
  generalize hAe : va_A [(m0, .inr (7, [.ref v, .ref a1, .ref a2, .int ik, .int th, .int en])), (v, .inl (cJ, 136800, .inr (.inl f)))] s.heap.size = A at hD ⊢
  have hA : ∀ q : Nat, s.heap.size ≤ q → A q := fun q h => by rw [← hAe]; exact Or.inr h
  have hS : va_S A s.heap s.heap [] := va_S.rf
  have hl := lv_entry ([.ref m0, .int (nI o), .int (nI d)]) (n := 10) (Nat.le_of_ble_eq_true rfl)
  rw [lg_entry_eq]
  generalize (lg_sl ([.ref m0, .int (nI o), .int (nI d)]) ++ List.replicate (10 - (lg_sl ([.ref m0, .int (nI o), .int (nI d)])).length) Slot.unset).toArray = ls at hl ⊢
  have hl : lv_has ls 10 [(0, .ref m0), (1, .int (nI o)), (2, .int (nI d))] := hl
  obtain ⟨y0, y1, y2, y3, y4, y5, y6, y7, y8, y9, y10, y11, y12, y13⟩ := id hM
  refine lv_iload_n hx hb dX7_timesOut_0 rfl (lv_at hl 1 rfl) ?_
  refine lv_iload_n hx hb dX7_timesOut_1 rfl (lv_at hl 2 rfl) ?_
  refine k_ci (wr := [(m0, .inr (7, [.ref v, .ref a1, .ref a2, .int ik, .int th, .int en])), (v, .inl (cJ, 136800, .inr (.inl f)))]) (w1 := []) (va_runS (As := [.int (nI o), .int (nI d)]) (rest := []) ⟨hx, hb, hml, hown, hts⟩ (c_X7_search l D cI cJ cM cG o d s.heap.size) (va_cwS 2 hts (kB_S (fun _ => List.mem_cons_of_mem _) q_703 q_704 q_670 (kB_c q_705)) rfl rfl rfl (by decide +kernel) ⟨Nat.le_of_ble_eq_true rfl, Nat.le_of_ble_eq_true rfl⟩) (k_preS hP hD hK hKN [] rfl rfl) rfl rfl hl.1 rfl (lv_room (Nat.le_of_ble_eq_true rfl)) dX7_timesOut_2 ⟨Nat.le_of_ble_eq_true rfl, Nat.le_of_ble_eq_true rfl⟩) hP hD hS hA [] [0, 1] rfl rfl rfl (by decide) (fun r2 H locs hw2 hP hD hS => ?_)
  replace hP : va_P D vwCl [(m0, .inr (7, [.ref v, .ref a1, .ref a2, .int ik, .int th, .int en])), (v, .inl (cJ, 136800, .inr (.inl f)))] H := hP
  replace hD : va_D A [(m0, .inr (7, [.ref v, .ref a1, .ref a2, .int ik, .int th, .int en])), (v, .inl (cJ, 136800, .inr (.inl f)))] := hD
  replace hw2 : r2 = nI (1000 + 4 * (10 * o + d)) := hw2
  refine k_ti hw2 ?_
  refine lv_istore_n (lv' := [(3, .int (nI (1000 + 4 * (10 * o + d)))), (0, .ref m0), (1, .int (nI o)), (2, .int (nI d))]) hx hb dX7_timesOut_5 rfl hl (by decide) rfl (fun ls hl => ?_)
  refine lv_aload_n hx hb dX7_timesOut_6 rfl (lv_at hl 1 rfl) ?_
  refine va_get (D := D) (ci := 7) (v := .ref v) (C := RX7) (T := TX7) (N := 6) hx hb hts hin7 hown hK hP 0 rfl rfl 0 (by decide) (hts (.fieldLink RX7 8 "MeshRoutingModel" "v" "[J") (List.mem_cons_of_mem _ q_665)) (fun _ h9 => h9) rfl dX7_timesOut_7 ?_
  refine lv_iload_n hx hb dX7_timesOut_10 rfl (lv_at hl 0 rfl) ?_
  refine lv_iconst (v := nI 2) hx hb dX7_timesOut_11 (by decide) ?_
  refine lv_iadd hx hb dX7_timesOut_12 ?_
  refine k_ti (show ((nI (1000 + 4 * (10 * o + d))) + (nI 2)) = (nI (1000 + 4 * (10 * o + d) + 2)) from nI_add _ _) ?_
  refine k_lald (v := lN 3) hx hb hK hP 1 1 rfl rfl (by omega) (by omega) (y9) dX7_timesOut_13 ?_
  refine lv_lstore (lv' := [(4, .long (lN 3)), (3, .int (nI (1000 + 4 * (10 * o + d)))), (0, .ref m0), (1, .int (nI o)), (2, .int (nI d))]) hx hb dX7_timesOut_14 hl (by decide) rfl (fun ls hl => ?_)
  refine lv_aload_n hx hb dX7_timesOut_16 rfl (lv_at hl 2 rfl) ?_
  refine va_get (D := D) (ci := 7) (v := .ref v) (C := RX7) (T := TX7) (N := 6) hx hb hts hin7 hown hK hP 0 rfl rfl 0 (by decide) (hts (.fieldLink RX7 8 "MeshRoutingModel" "v" "[J") (List.mem_cons_of_mem _ q_665)) (fun _ h9 => h9) rfl dX7_timesOut_17 ?_
  refine lv_bipush (v := nI 43) hx hb dX7_timesOut_20 (by decide) ?_
  refine k_lald (v := lN 5) hx hb hK hP 1 1 rfl rfl (by omega) (by omega) (((y3 43 (by omega) (by omega)).trans rfl)) dX7_timesOut_22 ?_
  refine lv_lstore (lv' := [(6, .long (lN 5)), (4, .long (lN 3)), (3, .int (nI (1000 + 4 * (10 * o + d)))), (0, .ref m0), (1, .int (nI o)), (2, .int (nI d))]) hx hb dX7_timesOut_23 hl (by decide) rfl (fun ls hl => ?_)
  refine lv_aload_n hx hb dX7_timesOut_25 rfl (lv_at hl 3 rfl) ?_
  refine va_get (D := D) (ci := 7) (v := .ref v) (C := RX7) (T := TX7) (N := 6) hx hb hts hin7 hown hK hP 0 rfl rfl 0 (by decide) (hts (.fieldLink RX7 8 "MeshRoutingModel" "v" "[J") (List.mem_cons_of_mem _ q_665)) (fun _ h9 => h9) rfl dX7_timesOut_26 ?_
  refine lv_iload_n hx hb dX7_timesOut_29 rfl (lv_at hl 2 rfl) ?_
  refine lv_iconst (v := nI 0) hx hb dX7_timesOut_30 (by decide) ?_
  refine lv_iadd hx hb dX7_timesOut_31 ?_
  refine k_ti (show ((nI (1000 + 4 * (10 * o + d))) + (nI 0)) = (nI (1000 + 4 * (10 * o + d) + 0)) from nI_add _ _) ?_
  refine k_lald (v := lN 1) hx hb hK hP 1 1 rfl rfl (by omega) (by omega) (y7) dX7_timesOut_32 ?_
  refine lv_ldc2 (v := 2) hx hb hown (by exact hts (.constantLong RX7 20 (2)) (List.mem_cons_of_mem _ q_719)) dX7_timesOut_33 ?_
  refine k_tl (show (2) = (lN 2) from by decide) ?_
  refine W.lcmp hx hb dX7_timesOut_36 ?_
  refine k_lif_ne (tgt := 66) hx hb dX7_timesOut_37 (by decide) (by omega) (by omega) (fun _ => ?_) (fun h9 => absurd h9 (by omega))
  refine lv_aload_n hx hb dX7_timesOut_66 rfl (lv_at hl 3 rfl) ?_
  refine va_get (D := D) (ci := 7) (v := .ref v) (C := RX7) (T := TX7) (N := 6) hx hb hts hin7 hown hK hP 0 rfl rfl 0 (by decide) (hts (.fieldLink RX7 8 "MeshRoutingModel" "v" "[J") (List.mem_cons_of_mem _ q_665)) (fun _ h9 => h9) rfl dX7_timesOut_67 ?_
  refine lv_iload_n hx hb dX7_timesOut_70 rfl (lv_at hl 2 rfl) ?_
  refine lv_iconst (v := nI 3) hx hb dX7_timesOut_71 (by decide) ?_
  refine lv_iadd hx hb dX7_timesOut_72 ?_
  refine k_ti (show ((nI (1000 + 4 * (10 * o + d))) + (nI 3)) = (nI (1000 + 4 * (10 * o + d) + 3)) from nI_add _ _) ?_
  refine k_lald (v := lN 0) hx hb hK hP 1 1 rfl rfl (by omega) (by omega) (y10) dX7_timesOut_73 ?_
  refine lv_lconst (v := lN 0) hx hb dX7_timesOut_74 (by decide) ?_
  refine W.lcmp hx hb dX7_timesOut_75 ?_
  refine k_lif_ne (tgt := 123) hx hb dX7_timesOut_76 (by decide) (by omega) (by omega) (fun h9 => absurd h9 (by omega)) (fun _ => ?_)
  refine lv_lload hx hb dX7_timesOut_79 (lv_at hl 1 rfl) ?_
  refine lv_lload hx hb dX7_timesOut_81 (lv_at hl 0 rfl) ?_
  refine W.lcmp hx hb dX7_timesOut_83 ?_
  refine k_lif_ge (tgt := 123) hx hb dX7_timesOut_84 (by decide) (by omega) (by omega) (fun h9 => absurd h9 (by omega)) (fun _ => ?_)
  refine lv_lload hx hb dX7_timesOut_87 (lv_at hl 1 rfl) ?_
  refine lv_aload_n hx hb dX7_timesOut_89 rfl (lv_at hl 3 rfl) ?_
  refine va_get (D := D) (ci := 7) (v := .ref v) (C := RX7) (T := TX7) (N := 6) hx hb hts hin7 hown hK hP 0 rfl rfl 0 (by decide) (hts (.fieldLink RX7 8 "MeshRoutingModel" "v" "[J") (List.mem_cons_of_mem _ q_665)) (fun _ h9 => h9) rfl dX7_timesOut_90 ?_
  refine lv_bipush (v := nI 42) hx hb dX7_timesOut_93 (by decide) ?_
  refine k_lald (v := lN 2) hx hb hK hP 1 1 rfl rfl (by omega) (by omega) (((y3 42 (by omega) (by omega)).trans rfl)) dX7_timesOut_95 ?_
  refine lv_ladd hx hb dX7_timesOut_96 ?_
  refine k_tl (show ((lN 3) + (lN 2)) = (lN 5) from by decide) ?_
  refine lv_lstore (lv' := [(8, .long (lN 5)), (6, .long (lN 5)), (4, .long (lN 3)), (3, .int (nI (1000 + 4 * (10 * o + d)))), (0, .ref m0), (1, .int (nI o)), (2, .int (nI d))]) hx hb dX7_timesOut_97 hl (by decide) rfl (fun ls hl => ?_)
  refine lv_aload_n hx hb dX7_timesOut_99 rfl (lv_at hl 4 rfl) ?_
  refine lv_iload_n hx hb dX7_timesOut_100 rfl (lv_at hl 5 rfl) ?_
  refine lv_iload_n hx hb dX7_timesOut_101 rfl (lv_at hl 6 rfl) ?_
  refine lv_lload hx hb dX7_timesOut_102 (lv_at hl 0 rfl) ?_
  refine lv_lload hx hb dX7_timesOut_104 (lv_at hl 1 rfl) ?_
  refine W.lcmp hx hb dX7_timesOut_106 ?_
  refine k_lif_ge (tgt := 115) hx hb dX7_timesOut_107 (by decide) (by omega) (by omega) (fun _ => ?_) (fun h9 => absurd h9 (by omega))
  refine lv_lload hx hb dX7_timesOut_115 (lv_at hl 1 rfl) ?_
  refine k_cV (wr := []) (w1 := fun u => [(m0, .inr (7, [.ref v, .ref a1, .ref a2, .int ik, .int th, .int en])), (v, .inl (cJ, 136800, .inr (.inl u)))]) (va_runV (As := [.int (nI o), .int (nI d), .long (lN 5)]) (rest := []) ⟨hx, hb, hml, hown, hts⟩ (c_X7_asks l D cI cJ cM cG m0 v a1 a2 ik th en f o d 5 N t k H.size (ho) (hd) (hN) (hk) (ht) (by omega) (hM.1) (hM.2.1) (hM.2.2.2.2.1) (mS_46 hM) (hM.2.2.2.2.2.1)) (cwV 3 hts (kB_V (fun _ => List.mem_cons_of_mem _) q_707 q_708 q_709 q_670 (kB_c q_664)) rfl rfl rfl (by decide +kernel) ⟨Nat.le_of_ble_eq_true rfl, Nat.le_of_ble_eq_true rfl⟩) (k_preV (T := TX7) hP hD hK hKN [0, 1] rfl rfl (ci := 7) rfl (q0 := 0) rfl) rfl rfl hl.1 rfl (lv_room (Nat.le_of_ble_eq_true rfl)) dX7_timesOut_117 ⟨Nat.le_of_ble_eq_true rfl, Nat.le_of_ble_eq_true rfl⟩) hP hD hS hA [0, 1] [] rfl rfl rfl (by decide) (fun u117 H locs hw117 hP hD hS => ?_)
  replace hP : va_P D vwCl [(m0, .inr (7, [.ref v, .ref a1, .ref a2, .int ik, .int th, .int en])), (v, .inl (cJ, 136800, .inr (.inl u117)))] H := hP
  replace hD : va_D A [(m0, .inr (7, [.ref v, .ref a1, .ref a2, .int ik, .int th, .int en])), (v, .inl (cJ, 136800, .inr (.inl u117)))] := hD
  have hu117 := hw117
  refine lv_goto (tgt := 187) hx hb dX7_timesOut_120 (by decide) ?_
  have hP9 := hP.sub (ws' := [(m0, .inr (7, [.ref v, .ref a1, .ref a2, .int ik, .int th, .int en])), (v, .inl (cJ, 136800, .inr (.inl u117)))]) [0, 1] rfl
  have hD9 := hD.sub (ws' := [(m0, .inr (7, [.ref v, .ref a1, .ref a2, .int ik, .int th, .int en])), (v, .inl (cJ, 136800, .inr (.inl u117)))]) [0, 1] rfl rfl
  exact W.vret hx hb hr (fun t9 ht9 hW9 => ⟨⟨u117, rfl, mS_ask ho hd hM hu117, by rw [ht9]; exact hP9, hD9⟩, hS.F ht9⟩) hS.2.2 dX7_timesOut_187

set_option maxHeartbeats 4000000 in
set_option maxRecDepth 100000 in
theorem c_X7_timesOut2 (l : Launch) (D : va_G) (cI cJ cM cG : ClassId) (m0 : Nat) (v : Nat) (a1 : Nat) (a2 : Nat) (ik : Int32) (th : Int32) (en : Int32) (f : Nat → Int64) (o : Nat) (d : Nat) (N : Nat) (t : Nat) (k : Nat) (sz : Nat) (ho : o < 10) (hd : d < 10) (hN : N ≤ 10) (hk : k < 60) (ht : t < 2 ^ 40) (hM : mS f N o d t t 5 0 k) : Met l yX7_timesOut (Cond.code yX7_timesOut cX7_timesOut 10 none :: kBig) ({ frames := 4, cells := 0, slots := 0, locals := 98 }) (va_Pc [.ref m0, .int (nI o), .int (nI d)] (kP D [(cI, .int), (cJ, .long), (cM, .object "MeshRouting$Message"), (cG, .array .int)] [(m0, .inr (7, [.ref v, .ref a1, .ref a2, .int ik, .int th, .int en])), (v, .inl (cJ, 136800, .inr (.inl f)))] sz)) (va_Qv (fun u : Nat → Int64 => (mS u N o d t (t + 20 * (10 + 1)) 10 1 (k + 1))) (fun u t9 => kB D (va_A [(m0, .inr (7, [.ref v, .ref a1, .ref a2, .int ik, .int th, .int en])), (v, .inl (cJ, 136800, .inr (.inl f)))] sz) [(m0, .inr (7, [.ref v, .ref a1, .ref a2, .int ik, .int th, .int en])), (v, .inl (cJ, 136800, .inr (.inl u)))] t9) (va_A [(m0, .inr (7, [.ref v, .ref a1, .ref a2, .int ik, .int th, .int en])), (v, .inl (cJ, 136800, .inr (.inl f)))] sz)) 0 0 (va_A [(m0, .inr (7, [.ref v, .ref a1, .ref a2, .int ik, .int th, .int en])), (v, .inl (cJ, 136800, .inr (.inl f)))] sz) := by
  refine Met.ofW (cc := cX7_timesOut) (maxL := 10) (ret := none) (by decide) rfl ?_
  intro p e s m args below meth c s₁ B hml hv
  obtain ⟨rfl, hsz, hP, hK, hD0, hKN⟩ := hv
  have hx := B.exec
  have hb := B.bytes
  have hr := B.returns
  have hts := atoms_spec (ws := (Cond.code yX7_timesOut cX7_timesOut 10 none :: kBig)) B.pre
  have hown : s.vm.findClass RX7 = some m.cls := findClass_of_methodNamed B.named
  have hlocks := B.notSynchronized
  have hin7 : ∀ w ∈ u_ws RX7 TX7 6, w ∈ (Cond.code yX7_timesOut cX7_timesOut 10 none :: kBig) := fun w h => List.mem_cons_of_mem _ (inb7 w h)
  subst hsz
  have hD := hD0.self (sz := s.heap.size)
  generalize hAe : va_A [(m0, .inr (7, [.ref v, .ref a1, .ref a2, .int ik, .int th, .int en])), (v, .inl (cJ, 136800, .inr (.inl f)))] s.heap.size = A at hD ⊢
  have hA : ∀ q : Nat, s.heap.size ≤ q → A q := fun q h => by rw [← hAe]; exact Or.inr h
  have hS : va_S A s.heap s.heap [] := va_S.rf
  have hl := lv_entry ([.ref m0, .int (nI o), .int (nI d)]) (n := 10) (Nat.le_of_ble_eq_true rfl)
  rw [lg_entry_eq]
  generalize (lg_sl ([.ref m0, .int (nI o), .int (nI d)]) ++ List.replicate (10 - (lg_sl ([.ref m0, .int (nI o), .int (nI d)])).length) Slot.unset).toArray = ls at hl ⊢
  have hl : lv_has ls 10 [(0, .ref m0), (1, .int (nI o)), (2, .int (nI d))] := hl
  obtain ⟨y0, y1, y2, y3, y4, y5, y6, y7, y8, y9, y10, y11, y12, y13⟩ := id hM
  refine lv_iload_n hx hb dX7_timesOut_0 rfl (lv_at hl 1 rfl) ?_
  refine lv_iload_n hx hb dX7_timesOut_1 rfl (lv_at hl 2 rfl) ?_
  refine k_ci (wr := [(m0, .inr (7, [.ref v, .ref a1, .ref a2, .int ik, .int th, .int en])), (v, .inl (cJ, 136800, .inr (.inl f)))]) (w1 := []) (va_runS (As := [.int (nI o), .int (nI d)]) (rest := []) ⟨hx, hb, hml, hown, hts⟩ (c_X7_search l D cI cJ cM cG o d s.heap.size) (va_cwS 2 hts (kB_S (fun _ => List.mem_cons_of_mem _) q_703 q_704 q_670 (kB_c q_705)) rfl rfl rfl (by decide +kernel) ⟨Nat.le_of_ble_eq_true rfl, Nat.le_of_ble_eq_true rfl⟩) (k_preS hP hD hK hKN [] rfl rfl) rfl rfl hl.1 rfl (lv_room (Nat.le_of_ble_eq_true rfl)) dX7_timesOut_2 ⟨Nat.le_of_ble_eq_true rfl, Nat.le_of_ble_eq_true rfl⟩) hP hD hS hA [] [0, 1] rfl rfl rfl (by decide) (fun r2 H locs hw2 hP hD hS => ?_)
  replace hP : va_P D vwCl [(m0, .inr (7, [.ref v, .ref a1, .ref a2, .int ik, .int th, .int en])), (v, .inl (cJ, 136800, .inr (.inl f)))] H := hP
  replace hD : va_D A [(m0, .inr (7, [.ref v, .ref a1, .ref a2, .int ik, .int th, .int en])), (v, .inl (cJ, 136800, .inr (.inl f)))] := hD
  replace hw2 : r2 = nI (1000 + 4 * (10 * o + d)) := hw2
  refine k_ti hw2 ?_
  refine lv_istore_n (lv' := [(3, .int (nI (1000 + 4 * (10 * o + d)))), (0, .ref m0), (1, .int (nI o)), (2, .int (nI d))]) hx hb dX7_timesOut_5 rfl hl (by decide) rfl (fun ls hl => ?_)
  refine lv_aload_n hx hb dX7_timesOut_6 rfl (lv_at hl 1 rfl) ?_
  refine va_get (D := D) (ci := 7) (v := .ref v) (C := RX7) (T := TX7) (N := 6) hx hb hts hin7 hown hK hP 0 rfl rfl 0 (by decide) (hts (.fieldLink RX7 8 "MeshRoutingModel" "v" "[J") (List.mem_cons_of_mem _ q_665)) (fun _ h9 => h9) rfl dX7_timesOut_7 ?_
  refine lv_iload_n hx hb dX7_timesOut_10 rfl (lv_at hl 0 rfl) ?_
  refine lv_iconst (v := nI 2) hx hb dX7_timesOut_11 (by decide) ?_
  refine lv_iadd hx hb dX7_timesOut_12 ?_
  refine k_ti (show ((nI (1000 + 4 * (10 * o + d))) + (nI 2)) = (nI (1000 + 4 * (10 * o + d) + 2)) from nI_add _ _) ?_
  refine k_lald (v := lN 5) hx hb hK hP 1 1 rfl rfl (by omega) (by omega) (y9) dX7_timesOut_13 ?_
  refine lv_lstore (lv' := [(4, .long (lN 5)), (3, .int (nI (1000 + 4 * (10 * o + d)))), (0, .ref m0), (1, .int (nI o)), (2, .int (nI d))]) hx hb dX7_timesOut_14 hl (by decide) rfl (fun ls hl => ?_)
  refine lv_aload_n hx hb dX7_timesOut_16 rfl (lv_at hl 2 rfl) ?_
  refine va_get (D := D) (ci := 7) (v := .ref v) (C := RX7) (T := TX7) (N := 6) hx hb hts hin7 hown hK hP 0 rfl rfl 0 (by decide) (hts (.fieldLink RX7 8 "MeshRoutingModel" "v" "[J") (List.mem_cons_of_mem _ q_665)) (fun _ h9 => h9) rfl dX7_timesOut_17 ?_
  refine lv_bipush (v := nI 43) hx hb dX7_timesOut_20 (by decide) ?_
  refine k_lald (v := lN 5) hx hb hK hP 1 1 rfl rfl (by omega) (by omega) (((y3 43 (by omega) (by omega)).trans rfl)) dX7_timesOut_22 ?_
  refine lv_lstore (lv' := [(6, .long (lN 5)), (4, .long (lN 5)), (3, .int (nI (1000 + 4 * (10 * o + d)))), (0, .ref m0), (1, .int (nI o)), (2, .int (nI d))]) hx hb dX7_timesOut_23 hl (by decide) rfl (fun ls hl => ?_)
  refine lv_aload_n hx hb dX7_timesOut_25 rfl (lv_at hl 3 rfl) ?_
  refine va_get (D := D) (ci := 7) (v := .ref v) (C := RX7) (T := TX7) (N := 6) hx hb hts hin7 hown hK hP 0 rfl rfl 0 (by decide) (hts (.fieldLink RX7 8 "MeshRoutingModel" "v" "[J") (List.mem_cons_of_mem _ q_665)) (fun _ h9 => h9) rfl dX7_timesOut_26 ?_
  refine lv_iload_n hx hb dX7_timesOut_29 rfl (lv_at hl 2 rfl) ?_
  refine lv_iconst (v := nI 0) hx hb dX7_timesOut_30 (by decide) ?_
  refine lv_iadd hx hb dX7_timesOut_31 ?_
  refine k_ti (show ((nI (1000 + 4 * (10 * o + d))) + (nI 0)) = (nI (1000 + 4 * (10 * o + d) + 0)) from nI_add _ _) ?_
  refine k_lald (v := lN 1) hx hb hK hP 1 1 rfl rfl (by omega) (by omega) (y7) dX7_timesOut_32 ?_
  refine lv_ldc2 (v := 2) hx hb hown (by exact hts (.constantLong RX7 20 (2)) (List.mem_cons_of_mem _ q_719)) dX7_timesOut_33 ?_
  refine k_tl (show (2) = (lN 2) from by decide) ?_
  refine W.lcmp hx hb dX7_timesOut_36 ?_
  refine k_lif_ne (tgt := 66) hx hb dX7_timesOut_37 (by decide) (by omega) (by omega) (fun _ => ?_) (fun h9 => absurd h9 (by omega))
  refine lv_aload_n hx hb dX7_timesOut_66 rfl (lv_at hl 3 rfl) ?_
  refine va_get (D := D) (ci := 7) (v := .ref v) (C := RX7) (T := TX7) (N := 6) hx hb hts hin7 hown hK hP 0 rfl rfl 0 (by decide) (hts (.fieldLink RX7 8 "MeshRoutingModel" "v" "[J") (List.mem_cons_of_mem _ q_665)) (fun _ h9 => h9) rfl dX7_timesOut_67 ?_
  refine lv_iload_n hx hb dX7_timesOut_70 rfl (lv_at hl 2 rfl) ?_
  refine lv_iconst (v := nI 3) hx hb dX7_timesOut_71 (by decide) ?_
  refine lv_iadd hx hb dX7_timesOut_72 ?_
  refine k_ti (show ((nI (1000 + 4 * (10 * o + d))) + (nI 3)) = (nI (1000 + 4 * (10 * o + d) + 3)) from nI_add _ _) ?_
  refine k_lald (v := lN 0) hx hb hK hP 1 1 rfl rfl (by omega) (by omega) (y10) dX7_timesOut_73 ?_
  refine lv_lconst (v := lN 0) hx hb dX7_timesOut_74 (by decide) ?_
  refine W.lcmp hx hb dX7_timesOut_75 ?_
  refine k_lif_ne (tgt := 123) hx hb dX7_timesOut_76 (by decide) (by omega) (by omega) (fun h9 => absurd h9 (by omega)) (fun _ => ?_)
  refine lv_lload hx hb dX7_timesOut_79 (lv_at hl 1 rfl) ?_
  refine lv_lload hx hb dX7_timesOut_81 (lv_at hl 0 rfl) ?_
  refine W.lcmp hx hb dX7_timesOut_83 ?_
  refine k_lif_ge (tgt := 123) hx hb dX7_timesOut_84 (by decide) (by omega) (by omega) (fun _ => ?_) (fun h9 => absurd h9 (by omega))
  refine lv_aload_n hx hb dX7_timesOut_123 rfl (lv_at hl 3 rfl) ?_
  refine va_get (D := D) (ci := 7) (v := .ref v) (C := RX7) (T := TX7) (N := 6) hx hb hts hin7 hown hK hP 0 rfl rfl 0 (by decide) (hts (.fieldLink RX7 8 "MeshRoutingModel" "v" "[J") (List.mem_cons_of_mem _ q_665)) (fun _ h9 => h9) rfl dX7_timesOut_124 ?_
  refine lv_iload_n hx hb dX7_timesOut_127 rfl (lv_at hl 2 rfl) ?_
  refine lv_iconst (v := nI 3) hx hb dX7_timesOut_128 (by decide) ?_
  refine lv_iadd hx hb dX7_timesOut_129 ?_
  refine k_ti (show ((nI (1000 + 4 * (10 * o + d))) + (nI 3)) = (nI (1000 + 4 * (10 * o + d) + 3)) from nI_add _ _) ?_
  refine k_lald (v := lN 0) hx hb hK hP 1 1 rfl rfl (by omega) (by omega) (y10) dX7_timesOut_130 ?_
  refine lv_aload_n hx hb dX7_timesOut_131 rfl (lv_at hl 3 rfl) ?_
  refine va_get (D := D) (ci := 7) (v := .ref v) (C := RX7) (T := TX7) (N := 6) hx hb hts hin7 hown hK hP 0 rfl rfl 0 (by decide) (hts (.fieldLink RX7 8 "MeshRoutingModel" "v" "[J") (List.mem_cons_of_mem _ q_665)) (fun _ h9 => h9) rfl dX7_timesOut_132 ?_
  refine lv_bipush (v := nI 45) hx hb dX7_timesOut_135 (by decide) ?_
  refine k_lald (v := lN 2) hx hb hK hP 1 1 rfl rfl (by omega) (by omega) (((y3 45 (by omega) (by omega)).trans rfl)) dX7_timesOut_137 ?_
  refine W.lcmp hx hb dX7_timesOut_138 ?_
  refine k_lif_ge (tgt := 170) hx hb dX7_timesOut_139 (by decide) (by omega) (by omega) (fun h9 => absurd h9 (by omega)) (fun _ => ?_)
  refine lv_aload_n hx hb dX7_timesOut_142 rfl (lv_at hl 3 rfl) ?_
  refine va_get (D := D) (ci := 7) (v := .ref v) (C := RX7) (T := TX7) (N := 6) hx hb hts hin7 hown hK hP 0 rfl rfl 0 (by decide) (hts (.fieldLink RX7 8 "MeshRoutingModel" "v" "[J") (List.mem_cons_of_mem _ q_665)) (fun _ h9 => h9) rfl dX7_timesOut_143 ?_
  refine lv_iload_n hx hb dX7_timesOut_146 rfl (lv_at hl 2 rfl) ?_
  refine lv_iconst (v := nI 3) hx hb dX7_timesOut_147 (by decide) ?_
  refine lv_iadd hx hb dX7_timesOut_148 ?_
  refine k_ti (show ((nI (1000 + 4 * (10 * o + d))) + (nI 3)) = (nI (1000 + 4 * (10 * o + d) + 3)) from nI_add _ _) ?_
  refine lv_dup2_11 hx hb dX7_timesOut_149 rfl rfl ?_
  refine k_lald (v := lN 0) hx hb hK hP 1 1 rfl rfl (by omega) (by omega) (y10) dX7_timesOut_150 ?_
  refine lv_lconst (v := lN 1) hx hb dX7_timesOut_151 (by decide) ?_
  refine lv_ladd hx hb dX7_timesOut_152 ?_
  refine k_tl (show ((lN 0) + (lN 1)) = (lN 1) from by decide) ?_
  refine k_last (f' := vp_updL f (1000 + 4 * (10 * o + d) + 3) (lN 1)) hx hb hK hP hD hS 1 1 rfl rfl (by omega) (by omega) (rfl) dX7_timesOut_153 (fun H locs hP hD hS => ?_)
  replace hP : va_P D vwCl [(m0, .inr (7, [.ref v, .ref a1, .ref a2, .int ik, .int th, .int en])), (v, .inl (cJ, 136800, .inr (.inl (vp_updL f (1000 + 4 * (10 * o + d) + 3) (lN 1)))))] H := hP
  replace hD : va_D A [(m0, .inr (7, [.ref v, .ref a1, .ref a2, .int ik, .int th, .int en])), (v, .inl (cJ, 136800, .inr (.inl (vp_updL f (1000 + 4 * (10 * o + d) + 3) (lN 1)))))] := hD
  refine lv_aload_n hx hb dX7_timesOut_154 rfl (lv_at hl 3 rfl) ?_
  refine lv_iload_n hx hb dX7_timesOut_155 rfl (lv_at hl 4 rfl) ?_
  refine lv_iload_n hx hb dX7_timesOut_156 rfl (lv_at hl 5 rfl) ?_
  refine lv_aload_n hx hb dX7_timesOut_157 rfl (lv_at hl 3 rfl) ?_
  refine va_get (D := D) (ci := 7) (v := .ref v) (C := RX7) (T := TX7) (N := 6) hx hb hts hin7 hown hK hP 0 rfl rfl 0 (by decide) (hts (.fieldLink RX7 8 "MeshRoutingModel" "v" "[J") (List.mem_cons_of_mem _ q_665)) (fun _ h9 => h9) rfl dX7_timesOut_158 ?_
  refine lv_bipush (v := nI 44) hx hb dX7_timesOut_161 (by decide) ?_
  refine k_lald (v := lN 10) hx hb hK hP 1 1 rfl rfl (by omega) (by omega) (((pk_uLn (by omega)).trans ((y3 44 (by omega) (by omega)).trans rfl))) dX7_timesOut_163 ?_
  have hM2 := mS_full (w2 := 1) ho hd hM
  refine k_cV (wr := []) (w1 := fun u => [(m0, .inr (7, [.ref v, .ref a1, .ref a2, .int ik, .int th, .int en])), (v, .inl (cJ, 136800, .inr (.inl u)))]) (va_runV (As := [.int (nI o), .int (nI d), .long (lN 10)]) (rest := []) ⟨hx, hb, hml, hown, hts⟩ (c_X7_asks l D cI cJ cM cG m0 v a1 a2 ik th en (vp_updL f (1000 + 4 * (10 * o + d) + 3) (lN 1)) o d 10 N t k H.size (ho) (hd) (hN) (hk) (ht) (by omega) (hM2.1) (hM2.2.1) (hM2.2.2.2.2.1) (mS_46 hM2) (hM2.2.2.2.2.2.1)) (cwV 3 hts (kB_V (fun _ => List.mem_cons_of_mem _) q_707 q_708 q_709 q_670 (kB_c q_664)) rfl rfl rfl (by decide +kernel) ⟨Nat.le_of_ble_eq_true rfl, Nat.le_of_ble_eq_true rfl⟩) (k_preV (T := TX7) hP hD hK hKN [0, 1] rfl rfl (ci := 7) rfl (q0 := 0) rfl) rfl rfl hl.1 rfl (lv_room (Nat.le_of_ble_eq_true rfl)) dX7_timesOut_164 ⟨Nat.le_of_ble_eq_true rfl, Nat.le_of_ble_eq_true rfl⟩) hP hD hS hA [0, 1] [] rfl rfl rfl (by decide) (fun u164 H locs hw164 hP hD hS => ?_)
  replace hP : va_P D vwCl [(m0, .inr (7, [.ref v, .ref a1, .ref a2, .int ik, .int th, .int en])), (v, .inl (cJ, 136800, .inr (.inl u164)))] H := hP
  replace hD : va_D A [(m0, .inr (7, [.ref v, .ref a1, .ref a2, .int ik, .int th, .int en])), (v, .inl (cJ, 136800, .inr (.inl u164)))] := hD
  have hu164 := hw164
  refine lv_goto (tgt := 187) hx hb dX7_timesOut_167 (by decide) ?_
  have hP9 := hP.sub (ws' := [(m0, .inr (7, [.ref v, .ref a1, .ref a2, .int ik, .int th, .int en])), (v, .inl (cJ, 136800, .inr (.inl u164)))]) [0, 1] rfl
  have hD9 := hD.sub (ws' := [(m0, .inr (7, [.ref v, .ref a1, .ref a2, .int ik, .int th, .int en])), (v, .inl (cJ, 136800, .inr (.inl u164)))]) [0, 1] rfl rfl
  exact W.vret hx hb hr (fun t9 ht9 hW9 => ⟨⟨u164, rfl, mS_ask ho hd hM2 hu164, by rw [ht9]; exact hP9, hD9⟩, hS.F ht9⟩) hS.2.2 dX7_timesOut_187

set_option maxHeartbeats 4000000 in
set_option maxRecDepth 100000 in
theorem c_X7_timesOut3 (l : Launch) (D : va_G) (cI cJ cM cG : ClassId) (m0 : Nat) (v : Nat) (a1 : Nat) (a2 : Nat) (ik : Int32) (th : Int32) (en : Int32) (f : Nat → Int64) (o : Nat) (d : Nat) (N : Nat) (t : Nat) (k : Nat) (sz : Nat) (ho : o < 10) (hd : d < 10) (hN : N ≤ 10) (hk : k < 60) (ht : t < 2 ^ 40) (hM : mS f N o d t t 10 1 k) : Met l yX7_timesOut (Cond.code yX7_timesOut cX7_timesOut 10 none :: kBig) ({ frames := 4, cells := 0, slots := 0, locals := 98 }) (va_Pc [.ref m0, .int (nI o), .int (nI d)] (kP D [(cI, .int), (cJ, .long), (cM, .object "MeshRouting$Message"), (cG, .array .int)] [(m0, .inr (7, [.ref v, .ref a1, .ref a2, .int ik, .int th, .int en])), (v, .inl (cJ, 136800, .inr (.inl f)))] sz)) (va_Qv (fun u : Nat → Int64 => (mS u N o d t (t + 20 * (10 + 1)) 10 2 (k + 1))) (fun u t9 => kB D (va_A [(m0, .inr (7, [.ref v, .ref a1, .ref a2, .int ik, .int th, .int en])), (v, .inl (cJ, 136800, .inr (.inl f)))] sz) [(m0, .inr (7, [.ref v, .ref a1, .ref a2, .int ik, .int th, .int en])), (v, .inl (cJ, 136800, .inr (.inl u)))] t9) (va_A [(m0, .inr (7, [.ref v, .ref a1, .ref a2, .int ik, .int th, .int en])), (v, .inl (cJ, 136800, .inr (.inl f)))] sz)) 0 0 (va_A [(m0, .inr (7, [.ref v, .ref a1, .ref a2, .int ik, .int th, .int en])), (v, .inl (cJ, 136800, .inr (.inl f)))] sz) := by
  refine Met.ofW (cc := cX7_timesOut) (maxL := 10) (ret := none) (by decide) rfl ?_
  intro p e s m args below meth c s₁ B hml hv
  obtain ⟨rfl, hsz, hP, hK, hD0, hKN⟩ := hv
  have hx := B.exec
  have hb := B.bytes
  have hr := B.returns
  have hts := atoms_spec (ws := (Cond.code yX7_timesOut cX7_timesOut 10 none :: kBig)) B.pre
  have hown : s.vm.findClass RX7 = some m.cls := findClass_of_methodNamed B.named
  have hlocks := B.notSynchronized
  have hin7 : ∀ w ∈ u_ws RX7 TX7 6, w ∈ (Cond.code yX7_timesOut cX7_timesOut 10 none :: kBig) := fun w h => List.mem_cons_of_mem _ (inb7 w h)
  subst hsz
  have hD := hD0.self (sz := s.heap.size)
  generalize hAe : va_A [(m0, .inr (7, [.ref v, .ref a1, .ref a2, .int ik, .int th, .int en])), (v, .inl (cJ, 136800, .inr (.inl f)))] s.heap.size = A at hD ⊢
  have hA : ∀ q : Nat, s.heap.size ≤ q → A q := fun q h => by rw [← hAe]; exact Or.inr h
  have hS : va_S A s.heap s.heap [] := va_S.rf
  have hl := lv_entry ([.ref m0, .int (nI o), .int (nI d)]) (n := 10) (Nat.le_of_ble_eq_true rfl)
  rw [lg_entry_eq]
  generalize (lg_sl ([.ref m0, .int (nI o), .int (nI d)]) ++ List.replicate (10 - (lg_sl ([.ref m0, .int (nI o), .int (nI d)])).length) Slot.unset).toArray = ls at hl ⊢
  have hl : lv_has ls 10 [(0, .ref m0), (1, .int (nI o)), (2, .int (nI d))] := hl
  obtain ⟨y0, y1, y2, y3, y4, y5, y6, y7, y8, y9, y10, y11, y12, y13⟩ := id hM
  refine lv_iload_n hx hb dX7_timesOut_0 rfl (lv_at hl 1 rfl) ?_
  refine lv_iload_n hx hb dX7_timesOut_1 rfl (lv_at hl 2 rfl) ?_
  refine k_ci (wr := [(m0, .inr (7, [.ref v, .ref a1, .ref a2, .int ik, .int th, .int en])), (v, .inl (cJ, 136800, .inr (.inl f)))]) (w1 := []) (va_runS (As := [.int (nI o), .int (nI d)]) (rest := []) ⟨hx, hb, hml, hown, hts⟩ (c_X7_search l D cI cJ cM cG o d s.heap.size) (va_cwS 2 hts (kB_S (fun _ => List.mem_cons_of_mem _) q_703 q_704 q_670 (kB_c q_705)) rfl rfl rfl (by decide +kernel) ⟨Nat.le_of_ble_eq_true rfl, Nat.le_of_ble_eq_true rfl⟩) (k_preS hP hD hK hKN [] rfl rfl) rfl rfl hl.1 rfl (lv_room (Nat.le_of_ble_eq_true rfl)) dX7_timesOut_2 ⟨Nat.le_of_ble_eq_true rfl, Nat.le_of_ble_eq_true rfl⟩) hP hD hS hA [] [0, 1] rfl rfl rfl (by decide) (fun r2 H locs hw2 hP hD hS => ?_)
  replace hP : va_P D vwCl [(m0, .inr (7, [.ref v, .ref a1, .ref a2, .int ik, .int th, .int en])), (v, .inl (cJ, 136800, .inr (.inl f)))] H := hP
  replace hD : va_D A [(m0, .inr (7, [.ref v, .ref a1, .ref a2, .int ik, .int th, .int en])), (v, .inl (cJ, 136800, .inr (.inl f)))] := hD
  replace hw2 : r2 = nI (1000 + 4 * (10 * o + d)) := hw2
  refine k_ti hw2 ?_
  refine lv_istore_n (lv' := [(3, .int (nI (1000 + 4 * (10 * o + d)))), (0, .ref m0), (1, .int (nI o)), (2, .int (nI d))]) hx hb dX7_timesOut_5 rfl hl (by decide) rfl (fun ls hl => ?_)
  refine lv_aload_n hx hb dX7_timesOut_6 rfl (lv_at hl 1 rfl) ?_
  refine va_get (D := D) (ci := 7) (v := .ref v) (C := RX7) (T := TX7) (N := 6) hx hb hts hin7 hown hK hP 0 rfl rfl 0 (by decide) (hts (.fieldLink RX7 8 "MeshRoutingModel" "v" "[J") (List.mem_cons_of_mem _ q_665)) (fun _ h9 => h9) rfl dX7_timesOut_7 ?_
  refine lv_iload_n hx hb dX7_timesOut_10 rfl (lv_at hl 0 rfl) ?_
  refine lv_iconst (v := nI 2) hx hb dX7_timesOut_11 (by decide) ?_
  refine lv_iadd hx hb dX7_timesOut_12 ?_
  refine k_ti (show ((nI (1000 + 4 * (10 * o + d))) + (nI 2)) = (nI (1000 + 4 * (10 * o + d) + 2)) from nI_add _ _) ?_
  refine k_lald (v := lN 10) hx hb hK hP 1 1 rfl rfl (by omega) (by omega) (y9) dX7_timesOut_13 ?_
  refine lv_lstore (lv' := [(4, .long (lN 10)), (3, .int (nI (1000 + 4 * (10 * o + d)))), (0, .ref m0), (1, .int (nI o)), (2, .int (nI d))]) hx hb dX7_timesOut_14 hl (by decide) rfl (fun ls hl => ?_)
  refine lv_aload_n hx hb dX7_timesOut_16 rfl (lv_at hl 2 rfl) ?_
  refine va_get (D := D) (ci := 7) (v := .ref v) (C := RX7) (T := TX7) (N := 6) hx hb hts hin7 hown hK hP 0 rfl rfl 0 (by decide) (hts (.fieldLink RX7 8 "MeshRoutingModel" "v" "[J") (List.mem_cons_of_mem _ q_665)) (fun _ h9 => h9) rfl dX7_timesOut_17 ?_
  refine lv_bipush (v := nI 43) hx hb dX7_timesOut_20 (by decide) ?_
  refine k_lald (v := lN 5) hx hb hK hP 1 1 rfl rfl (by omega) (by omega) (((y3 43 (by omega) (by omega)).trans rfl)) dX7_timesOut_22 ?_
  refine lv_lstore (lv' := [(6, .long (lN 5)), (4, .long (lN 10)), (3, .int (nI (1000 + 4 * (10 * o + d)))), (0, .ref m0), (1, .int (nI o)), (2, .int (nI d))]) hx hb dX7_timesOut_23 hl (by decide) rfl (fun ls hl => ?_)
  refine lv_aload_n hx hb dX7_timesOut_25 rfl (lv_at hl 3 rfl) ?_
  refine va_get (D := D) (ci := 7) (v := .ref v) (C := RX7) (T := TX7) (N := 6) hx hb hts hin7 hown hK hP 0 rfl rfl 0 (by decide) (hts (.fieldLink RX7 8 "MeshRoutingModel" "v" "[J") (List.mem_cons_of_mem _ q_665)) (fun _ h9 => h9) rfl dX7_timesOut_26 ?_
  refine lv_iload_n hx hb dX7_timesOut_29 rfl (lv_at hl 2 rfl) ?_
  refine lv_iconst (v := nI 0) hx hb dX7_timesOut_30 (by decide) ?_
  refine lv_iadd hx hb dX7_timesOut_31 ?_
  refine k_ti (show ((nI (1000 + 4 * (10 * o + d))) + (nI 0)) = (nI (1000 + 4 * (10 * o + d) + 0)) from nI_add _ _) ?_
  refine k_lald (v := lN 1) hx hb hK hP 1 1 rfl rfl (by omega) (by omega) (y7) dX7_timesOut_32 ?_
  refine lv_ldc2 (v := 2) hx hb hown (by exact hts (.constantLong RX7 20 (2)) (List.mem_cons_of_mem _ q_719)) dX7_timesOut_33 ?_
  refine k_tl (show (2) = (lN 2) from by decide) ?_
  refine W.lcmp hx hb dX7_timesOut_36 ?_
  refine k_lif_ne (tgt := 66) hx hb dX7_timesOut_37 (by decide) (by omega) (by omega) (fun _ => ?_) (fun h9 => absurd h9 (by omega))
  refine lv_aload_n hx hb dX7_timesOut_66 rfl (lv_at hl 3 rfl) ?_
  refine va_get (D := D) (ci := 7) (v := .ref v) (C := RX7) (T := TX7) (N := 6) hx hb hts hin7 hown hK hP 0 rfl rfl 0 (by decide) (hts (.fieldLink RX7 8 "MeshRoutingModel" "v" "[J") (List.mem_cons_of_mem _ q_665)) (fun _ h9 => h9) rfl dX7_timesOut_67 ?_
  refine lv_iload_n hx hb dX7_timesOut_70 rfl (lv_at hl 2 rfl) ?_
  refine lv_iconst (v := nI 3) hx hb dX7_timesOut_71 (by decide) ?_
  refine lv_iadd hx hb dX7_timesOut_72 ?_
  refine k_ti (show ((nI (1000 + 4 * (10 * o + d))) + (nI 3)) = (nI (1000 + 4 * (10 * o + d) + 3)) from nI_add _ _) ?_
  refine k_lald (v := lN 1) hx hb hK hP 1 1 rfl rfl (by omega) (by omega) (y10) dX7_timesOut_73 ?_
  refine lv_lconst (v := lN 0) hx hb dX7_timesOut_74 (by decide) ?_
  refine W.lcmp hx hb dX7_timesOut_75 ?_
  refine k_lif_ne (tgt := 123) hx hb dX7_timesOut_76 (by decide) (by omega) (by omega) (fun _ => ?_) (fun h9 => absurd h9 (by omega))
  refine lv_aload_n hx hb dX7_timesOut_123 rfl (lv_at hl 3 rfl) ?_
  refine va_get (D := D) (ci := 7) (v := .ref v) (C := RX7) (T := TX7) (N := 6) hx hb hts hin7 hown hK hP 0 rfl rfl 0 (by decide) (hts (.fieldLink RX7 8 "MeshRoutingModel" "v" "[J") (List.mem_cons_of_mem _ q_665)) (fun _ h9 => h9) rfl dX7_timesOut_124 ?_
  refine lv_iload_n hx hb dX7_timesOut_127 rfl (lv_at hl 2 rfl) ?_
  refine lv_iconst (v := nI 3) hx hb dX7_timesOut_128 (by decide) ?_
  refine lv_iadd hx hb dX7_timesOut_129 ?_
  refine k_ti (show ((nI (1000 + 4 * (10 * o + d))) + (nI 3)) = (nI (1000 + 4 * (10 * o + d) + 3)) from nI_add _ _) ?_
  refine k_lald (v := lN 1) hx hb hK hP 1 1 rfl rfl (by omega) (by omega) (y10) dX7_timesOut_130 ?_
  refine lv_aload_n hx hb dX7_timesOut_131 rfl (lv_at hl 3 rfl) ?_
  refine va_get (D := D) (ci := 7) (v := .ref v) (C := RX7) (T := TX7) (N := 6) hx hb hts hin7 hown hK hP 0 rfl rfl 0 (by decide) (hts (.fieldLink RX7 8 "MeshRoutingModel" "v" "[J") (List.mem_cons_of_mem _ q_665)) (fun _ h9 => h9) rfl dX7_timesOut_132 ?_
  refine lv_bipush (v := nI 45) hx hb dX7_timesOut_135 (by decide) ?_
  refine k_lald (v := lN 2) hx hb hK hP 1 1 rfl rfl (by omega) (by omega) (((y3 45 (by omega) (by omega)).trans rfl)) dX7_timesOut_137 ?_
  refine W.lcmp hx hb dX7_timesOut_138 ?_
  refine k_lif_ge (tgt := 170) hx hb dX7_timesOut_139 (by decide) (by omega) (by omega) (fun h9 => absurd h9 (by omega)) (fun _ => ?_)
  refine lv_aload_n hx hb dX7_timesOut_142 rfl (lv_at hl 3 rfl) ?_
  refine va_get (D := D) (ci := 7) (v := .ref v) (C := RX7) (T := TX7) (N := 6) hx hb hts hin7 hown hK hP 0 rfl rfl 0 (by decide) (hts (.fieldLink RX7 8 "MeshRoutingModel" "v" "[J") (List.mem_cons_of_mem _ q_665)) (fun _ h9 => h9) rfl dX7_timesOut_143 ?_
  refine lv_iload_n hx hb dX7_timesOut_146 rfl (lv_at hl 2 rfl) ?_
  refine lv_iconst (v := nI 3) hx hb dX7_timesOut_147 (by decide) ?_
  refine lv_iadd hx hb dX7_timesOut_148 ?_
  refine k_ti (show ((nI (1000 + 4 * (10 * o + d))) + (nI 3)) = (nI (1000 + 4 * (10 * o + d) + 3)) from nI_add _ _) ?_
  refine lv_dup2_11 hx hb dX7_timesOut_149 rfl rfl ?_
  refine k_lald (v := lN 1) hx hb hK hP 1 1 rfl rfl (by omega) (by omega) (y10) dX7_timesOut_150 ?_
  refine lv_lconst (v := lN 1) hx hb dX7_timesOut_151 (by decide) ?_
  refine lv_ladd hx hb dX7_timesOut_152 ?_
  refine k_tl (show ((lN 1) + (lN 1)) = (lN 2) from by decide) ?_
  refine k_last (f' := vp_updL f (1000 + 4 * (10 * o + d) + 3) (lN 2)) hx hb hK hP hD hS 1 1 rfl rfl (by omega) (by omega) (rfl) dX7_timesOut_153 (fun H locs hP hD hS => ?_)
  replace hP : va_P D vwCl [(m0, .inr (7, [.ref v, .ref a1, .ref a2, .int ik, .int th, .int en])), (v, .inl (cJ, 136800, .inr (.inl (vp_updL f (1000 + 4 * (10 * o + d) + 3) (lN 2)))))] H := hP
  replace hD : va_D A [(m0, .inr (7, [.ref v, .ref a1, .ref a2, .int ik, .int th, .int en])), (v, .inl (cJ, 136800, .inr (.inl (vp_updL f (1000 + 4 * (10 * o + d) + 3) (lN 2)))))] := hD
  refine lv_aload_n hx hb dX7_timesOut_154 rfl (lv_at hl 3 rfl) ?_
  refine lv_iload_n hx hb dX7_timesOut_155 rfl (lv_at hl 4 rfl) ?_
  refine lv_iload_n hx hb dX7_timesOut_156 rfl (lv_at hl 5 rfl) ?_
  refine lv_aload_n hx hb dX7_timesOut_157 rfl (lv_at hl 3 rfl) ?_
  refine va_get (D := D) (ci := 7) (v := .ref v) (C := RX7) (T := TX7) (N := 6) hx hb hts hin7 hown hK hP 0 rfl rfl 0 (by decide) (hts (.fieldLink RX7 8 "MeshRoutingModel" "v" "[J") (List.mem_cons_of_mem _ q_665)) (fun _ h9 => h9) rfl dX7_timesOut_158 ?_
  refine lv_bipush (v := nI 44) hx hb dX7_timesOut_161 (by decide) ?_
  refine k_lald (v := lN 10) hx hb hK hP 1 1 rfl rfl (by omega) (by omega) (((pk_uLn (by omega)).trans ((y3 44 (by omega) (by omega)).trans rfl))) dX7_timesOut_163 ?_
  have hM2 := mS_full (w2 := 2) ho hd hM
  refine k_cV (wr := []) (w1 := fun u => [(m0, .inr (7, [.ref v, .ref a1, .ref a2, .int ik, .int th, .int en])), (v, .inl (cJ, 136800, .inr (.inl u)))]) (va_runV (As := [.int (nI o), .int (nI d), .long (lN 10)]) (rest := []) ⟨hx, hb, hml, hown, hts⟩ (c_X7_asks l D cI cJ cM cG m0 v a1 a2 ik th en (vp_updL f (1000 + 4 * (10 * o + d) + 3) (lN 2)) o d 10 N t k H.size (ho) (hd) (hN) (hk) (ht) (by omega) (hM2.1) (hM2.2.1) (hM2.2.2.2.2.1) (mS_46 hM2) (hM2.2.2.2.2.2.1)) (cwV 3 hts (kB_V (fun _ => List.mem_cons_of_mem _) q_707 q_708 q_709 q_670 (kB_c q_664)) rfl rfl rfl (by decide +kernel) ⟨Nat.le_of_ble_eq_true rfl, Nat.le_of_ble_eq_true rfl⟩) (k_preV (T := TX7) hP hD hK hKN [0, 1] rfl rfl (ci := 7) rfl (q0 := 0) rfl) rfl rfl hl.1 rfl (lv_room (Nat.le_of_ble_eq_true rfl)) dX7_timesOut_164 ⟨Nat.le_of_ble_eq_true rfl, Nat.le_of_ble_eq_true rfl⟩) hP hD hS hA [0, 1] [] rfl rfl rfl (by decide) (fun u164 H locs hw164 hP hD hS => ?_)
  replace hP : va_P D vwCl [(m0, .inr (7, [.ref v, .ref a1, .ref a2, .int ik, .int th, .int en])), (v, .inl (cJ, 136800, .inr (.inl u164)))] H := hP
  replace hD : va_D A [(m0, .inr (7, [.ref v, .ref a1, .ref a2, .int ik, .int th, .int en])), (v, .inl (cJ, 136800, .inr (.inl u164)))] := hD
  have hu164 := hw164
  refine lv_goto (tgt := 187) hx hb dX7_timesOut_167 (by decide) ?_
  have hP9 := hP.sub (ws' := [(m0, .inr (7, [.ref v, .ref a1, .ref a2, .int ik, .int th, .int en])), (v, .inl (cJ, 136800, .inr (.inl u164)))]) [0, 1] rfl
  have hD9 := hD.sub (ws' := [(m0, .inr (7, [.ref v, .ref a1, .ref a2, .int ik, .int th, .int en])), (v, .inl (cJ, 136800, .inr (.inl u164)))]) [0, 1] rfl rfl
  exact W.vret hx hb hr (fun t9 ht9 hW9 => ⟨⟨u164, rfl, mS_ask ho hd hM2 hu164, by rw [ht9]; exact hP9, hD9⟩, hS.F ht9⟩) hS.2.2 dX7_timesOut_187

set_option maxHeartbeats 4000000 in
set_option maxRecDepth 100000 in
theorem c_X7_timesOut4 (l : Launch) (D : va_G) (cI cJ cM cG : ClassId) (m0 : Nat) (v : Nat) (a1 : Nat) (a2 : Nat) (ik : Int32) (th : Int32) (en : Int32) (f : Nat → Int64) (o : Nat) (d : Nat) (N : Nat) (t : Nat) (k : Nat) (sz : Nat) (ho : o < 10) (hd : d < 10) (hM : mS f N o d t t 10 2 k) : Met l yX7_timesOut (Cond.code yX7_timesOut cX7_timesOut 10 none :: kBig) ({ frames := 3, cells := 0, slots := 0, locals := 69 }) (va_Pc [.ref m0, .int (nI o), .int (nI d)] (kP D [(cI, .int), (cJ, .long), (cM, .object "MeshRouting$Message"), (cG, .array .int)] [(m0, .inr (7, [.ref v, .ref a1, .ref a2, .int ik, .int th, .int en])), (v, .inl (cJ, 136800, .inr (.inl f)))] sz)) (va_Qv (fun u : Nat → Int64 => (mE u N t)) (fun u t9 => kB D (va_A [(m0, .inr (7, [.ref v, .ref a1, .ref a2, .int ik, .int th, .int en])), (v, .inl (cJ, 136800, .inr (.inl f)))] sz) [(m0, .inr (7, [.ref v, .ref a1, .ref a2, .int ik, .int th, .int en])), (v, .inl (cJ, 136800, .inr (.inl u)))] t9) (va_A [(m0, .inr (7, [.ref v, .ref a1, .ref a2, .int ik, .int th, .int en])), (v, .inl (cJ, 136800, .inr (.inl f)))] sz)) 0 0 (va_A [(m0, .inr (7, [.ref v, .ref a1, .ref a2, .int ik, .int th, .int en])), (v, .inl (cJ, 136800, .inr (.inl f)))] sz) := by
  refine Met.ofW (cc := cX7_timesOut) (maxL := 10) (ret := none) (by decide) rfl ?_
  intro p e s m args below meth c s₁ B hml hv
  obtain ⟨rfl, hsz, hP, hK, hD0, hKN⟩ := hv
  have hx := B.exec
  have hb := B.bytes
  have hr := B.returns
  have hts := atoms_spec (ws := (Cond.code yX7_timesOut cX7_timesOut 10 none :: kBig)) B.pre
  have hown : s.vm.findClass RX7 = some m.cls := findClass_of_methodNamed B.named
  have hlocks := B.notSynchronized
  have hin7 : ∀ w ∈ u_ws RX7 TX7 6, w ∈ (Cond.code yX7_timesOut cX7_timesOut 10 none :: kBig) := fun w h => List.mem_cons_of_mem _ (inb7 w h)
  subst hsz
  have hD := hD0.self (sz := s.heap.size)
  generalize hAe : va_A [(m0, .inr (7, [.ref v, .ref a1, .ref a2, .int ik, .int th, .int en])), (v, .inl (cJ, 136800, .inr (.inl f)))] s.heap.size = A at hD ⊢
  have hA : ∀ q : Nat, s.heap.size ≤ q → A q := fun q h => by rw [← hAe]; exact Or.inr h
  have hS : va_S A s.heap s.heap [] := va_S.rf
  have hl := lv_entry ([.ref m0, .int (nI o), .int (nI d)]) (n := 10) (Nat.le_of_ble_eq_true rfl)
  rw [lg_entry_eq]
  generalize (lg_sl ([.ref m0, .int (nI o), .int (nI d)]) ++ List.replicate (10 - (lg_sl ([.ref m0, .int (nI o), .int (nI d)])).length) Slot.unset).toArray = ls at hl ⊢
  have hl : lv_has ls 10 [(0, .ref m0), (1, .int (nI o)), (2, .int (nI d))] := hl
  obtain ⟨y0, y1, y2, y3, y4, y5, y6, y7, y8, y9, y10, y11, y12, y13⟩ := id hM
  refine lv_iload_n hx hb dX7_timesOut_0 rfl (lv_at hl 1 rfl) ?_
  refine lv_iload_n hx hb dX7_timesOut_1 rfl (lv_at hl 2 rfl) ?_
  refine k_ci (wr := [(m0, .inr (7, [.ref v, .ref a1, .ref a2, .int ik, .int th, .int en])), (v, .inl (cJ, 136800, .inr (.inl f)))]) (w1 := []) (va_runS (As := [.int (nI o), .int (nI d)]) (rest := []) ⟨hx, hb, hml, hown, hts⟩ (c_X7_search l D cI cJ cM cG o d s.heap.size) (va_cwS 2 hts (kB_S (fun _ => List.mem_cons_of_mem _) q_703 q_704 q_670 (kB_c q_705)) rfl rfl rfl (by decide +kernel) ⟨Nat.le_of_ble_eq_true rfl, Nat.le_of_ble_eq_true rfl⟩) (k_preS hP hD hK hKN [] rfl rfl) rfl rfl hl.1 rfl (lv_room (Nat.le_of_ble_eq_true rfl)) dX7_timesOut_2 ⟨Nat.le_of_ble_eq_true rfl, Nat.le_of_ble_eq_true rfl⟩) hP hD hS hA [] [0, 1] rfl rfl rfl (by decide) (fun r2 H locs hw2 hP hD hS => ?_)
  replace hP : va_P D vwCl [(m0, .inr (7, [.ref v, .ref a1, .ref a2, .int ik, .int th, .int en])), (v, .inl (cJ, 136800, .inr (.inl f)))] H := hP
  replace hD : va_D A [(m0, .inr (7, [.ref v, .ref a1, .ref a2, .int ik, .int th, .int en])), (v, .inl (cJ, 136800, .inr (.inl f)))] := hD
  replace hw2 : r2 = nI (1000 + 4 * (10 * o + d)) := hw2
  refine k_ti hw2 ?_
  refine lv_istore_n (lv' := [(3, .int (nI (1000 + 4 * (10 * o + d)))), (0, .ref m0), (1, .int (nI o)), (2, .int (nI d))]) hx hb dX7_timesOut_5 rfl hl (by decide) rfl (fun ls hl => ?_)
  refine lv_aload_n hx hb dX7_timesOut_6 rfl (lv_at hl 1 rfl) ?_
  refine va_get (D := D) (ci := 7) (v := .ref v) (C := RX7) (T := TX7) (N := 6) hx hb hts hin7 hown hK hP 0 rfl rfl 0 (by decide) (hts (.fieldLink RX7 8 "MeshRoutingModel" "v" "[J") (List.mem_cons_of_mem _ q_665)) (fun _ h9 => h9) rfl dX7_timesOut_7 ?_
  refine lv_iload_n hx hb dX7_timesOut_10 rfl (lv_at hl 0 rfl) ?_
  refine lv_iconst (v := nI 2) hx hb dX7_timesOut_11 (by decide) ?_
  refine lv_iadd hx hb dX7_timesOut_12 ?_
  refine k_ti (show ((nI (1000 + 4 * (10 * o + d))) + (nI 2)) = (nI (1000 + 4 * (10 * o + d) + 2)) from nI_add _ _) ?_
  refine k_lald (v := lN 10) hx hb hK hP 1 1 rfl rfl (by omega) (by omega) (y9) dX7_timesOut_13 ?_
  refine lv_lstore (lv' := [(4, .long (lN 10)), (3, .int (nI (1000 + 4 * (10 * o + d)))), (0, .ref m0), (1, .int (nI o)), (2, .int (nI d))]) hx hb dX7_timesOut_14 hl (by decide) rfl (fun ls hl => ?_)
  refine lv_aload_n hx hb dX7_timesOut_16 rfl (lv_at hl 2 rfl) ?_
  refine va_get (D := D) (ci := 7) (v := .ref v) (C := RX7) (T := TX7) (N := 6) hx hb hts hin7 hown hK hP 0 rfl rfl 0 (by decide) (hts (.fieldLink RX7 8 "MeshRoutingModel" "v" "[J") (List.mem_cons_of_mem _ q_665)) (fun _ h9 => h9) rfl dX7_timesOut_17 ?_
  refine lv_bipush (v := nI 43) hx hb dX7_timesOut_20 (by decide) ?_
  refine k_lald (v := lN 5) hx hb hK hP 1 1 rfl rfl (by omega) (by omega) (((y3 43 (by omega) (by omega)).trans rfl)) dX7_timesOut_22 ?_
  refine lv_lstore (lv' := [(6, .long (lN 5)), (4, .long (lN 10)), (3, .int (nI (1000 + 4 * (10 * o + d)))), (0, .ref m0), (1, .int (nI o)), (2, .int (nI d))]) hx hb dX7_timesOut_23 hl (by decide) rfl (fun ls hl => ?_)
  refine lv_aload_n hx hb dX7_timesOut_25 rfl (lv_at hl 3 rfl) ?_
  refine va_get (D := D) (ci := 7) (v := .ref v) (C := RX7) (T := TX7) (N := 6) hx hb hts hin7 hown hK hP 0 rfl rfl 0 (by decide) (hts (.fieldLink RX7 8 "MeshRoutingModel" "v" "[J") (List.mem_cons_of_mem _ q_665)) (fun _ h9 => h9) rfl dX7_timesOut_26 ?_
  refine lv_iload_n hx hb dX7_timesOut_29 rfl (lv_at hl 2 rfl) ?_
  refine lv_iconst (v := nI 0) hx hb dX7_timesOut_30 (by decide) ?_
  refine lv_iadd hx hb dX7_timesOut_31 ?_
  refine k_ti (show ((nI (1000 + 4 * (10 * o + d))) + (nI 0)) = (nI (1000 + 4 * (10 * o + d) + 0)) from nI_add _ _) ?_
  refine k_lald (v := lN 1) hx hb hK hP 1 1 rfl rfl (by omega) (by omega) (y7) dX7_timesOut_32 ?_
  refine lv_ldc2 (v := 2) hx hb hown (by exact hts (.constantLong RX7 20 (2)) (List.mem_cons_of_mem _ q_719)) dX7_timesOut_33 ?_
  refine k_tl (show (2) = (lN 2) from by decide) ?_
  refine W.lcmp hx hb dX7_timesOut_36 ?_
  refine k_lif_ne (tgt := 66) hx hb dX7_timesOut_37 (by decide) (by omega) (by omega) (fun _ => ?_) (fun h9 => absurd h9 (by omega))
  refine lv_aload_n hx hb dX7_timesOut_66 rfl (lv_at hl 3 rfl) ?_
  refine va_get (D := D) (ci := 7) (v := .ref v) (C := RX7) (T := TX7) (N := 6) hx hb hts hin7 hown hK hP 0 rfl rfl 0 (by decide) (hts (.fieldLink RX7 8 "MeshRoutingModel" "v" "[J") (List.mem_cons_of_mem _ q_665)) (fun _ h9 => h9) rfl dX7_timesOut_67 ?_
  refine lv_iload_n hx hb dX7_timesOut_70 rfl (lv_at hl 2 rfl) ?_
  refine lv_iconst (v := nI 3) hx hb dX7_timesOut_71 (by decide) ?_
  refine lv_iadd hx hb dX7_timesOut_72 ?_
  refine k_ti (show ((nI (1000 + 4 * (10 * o + d))) + (nI 3)) = (nI (1000 + 4 * (10 * o + d) + 3)) from nI_add _ _) ?_
  refine k_lald (v := lN 2) hx hb hK hP 1 1 rfl rfl (by omega) (by omega) (y10) dX7_timesOut_73 ?_
  refine lv_lconst (v := lN 0) hx hb dX7_timesOut_74 (by decide) ?_
  refine W.lcmp hx hb dX7_timesOut_75 ?_
  refine k_lif_ne (tgt := 123) hx hb dX7_timesOut_76 (by decide) (by omega) (by omega) (fun _ => ?_) (fun h9 => absurd h9 (by omega))
  refine lv_aload_n hx hb dX7_timesOut_123 rfl (lv_at hl 3 rfl) ?_
  refine va_get (D := D) (ci := 7) (v := .ref v) (C := RX7) (T := TX7) (N := 6) hx hb hts hin7 hown hK hP 0 rfl rfl 0 (by decide) (hts (.fieldLink RX7 8 "MeshRoutingModel" "v" "[J") (List.mem_cons_of_mem _ q_665)) (fun _ h9 => h9) rfl dX7_timesOut_124 ?_
  refine lv_iload_n hx hb dX7_timesOut_127 rfl (lv_at hl 2 rfl) ?_
  refine lv_iconst (v := nI 3) hx hb dX7_timesOut_128 (by decide) ?_
  refine lv_iadd hx hb dX7_timesOut_129 ?_
  refine k_ti (show ((nI (1000 + 4 * (10 * o + d))) + (nI 3)) = (nI (1000 + 4 * (10 * o + d) + 3)) from nI_add _ _) ?_
  refine k_lald (v := lN 2) hx hb hK hP 1 1 rfl rfl (by omega) (by omega) (y10) dX7_timesOut_130 ?_
  refine lv_aload_n hx hb dX7_timesOut_131 rfl (lv_at hl 3 rfl) ?_
  refine va_get (D := D) (ci := 7) (v := .ref v) (C := RX7) (T := TX7) (N := 6) hx hb hts hin7 hown hK hP 0 rfl rfl 0 (by decide) (hts (.fieldLink RX7 8 "MeshRoutingModel" "v" "[J") (List.mem_cons_of_mem _ q_665)) (fun _ h9 => h9) rfl dX7_timesOut_132 ?_
  refine lv_bipush (v := nI 45) hx hb dX7_timesOut_135 (by decide) ?_
  refine k_lald (v := lN 2) hx hb hK hP 1 1 rfl rfl (by omega) (by omega) (((y3 45 (by omega) (by omega)).trans rfl)) dX7_timesOut_137 ?_
  refine W.lcmp hx hb dX7_timesOut_138 ?_
  refine k_lif_ge (tgt := 170) hx hb dX7_timesOut_139 (by decide) (by omega) (by omega) (fun _ => ?_) (fun h9 => absurd h9 (by omega))
  refine lv_aload_n hx hb dX7_timesOut_170 rfl (lv_at hl 3 rfl) ?_
  refine va_get (D := D) (ci := 7) (v := .ref v) (C := RX7) (T := TX7) (N := 6) hx hb hts hin7 hown hK hP 0 rfl rfl 0 (by decide) (hts (.fieldLink RX7 8 "MeshRoutingModel" "v" "[J") (List.mem_cons_of_mem _ q_665)) (fun _ h9 => h9) rfl dX7_timesOut_171 ?_
  refine lv_iload_n hx hb dX7_timesOut_174 rfl (lv_at hl 2 rfl) ?_
  refine lv_iconst (v := nI 0) hx hb dX7_timesOut_175 (by decide) ?_
  refine lv_iadd hx hb dX7_timesOut_176 ?_
  refine k_ti (show ((nI (1000 + 4 * (10 * o + d))) + (nI 0)) = (nI (1000 + 4 * (10 * o + d) + 0)) from nI_add _ _) ?_
  refine lv_lconst (v := lN 0) hx hb dX7_timesOut_177 (by decide) ?_
  refine k_last (f' := vp_updL f (1000 + 4 * (10 * o + d) + 0) (lN 0)) hx hb hK hP hD hS 1 1 rfl rfl (by omega) (by omega) (rfl) dX7_timesOut_178 (fun H locs hP hD hS => ?_)
  replace hP : va_P D vwCl [(m0, .inr (7, [.ref v, .ref a1, .ref a2, .int ik, .int th, .int en])), (v, .inl (cJ, 136800, .inr (.inl (vp_updL f (1000 + 4 * (10 * o + d) + 0) (lN 0)))))] H := hP
  replace hD : va_D A [(m0, .inr (7, [.ref v, .ref a1, .ref a2, .int ik, .int th, .int en])), (v, .inl (cJ, 136800, .inr (.inl (vp_updL f (1000 + 4 * (10 * o + d) + 0) (lN 0)))))] := hD
  refine lv_aload_n hx hb dX7_timesOut_179 rfl (lv_at hl 3 rfl) ?_
  refine lv_iload_n hx hb dX7_timesOut_180 rfl (lv_at hl 4 rfl) ?_
  refine lv_iload_n hx hb dX7_timesOut_181 rfl (lv_at hl 5 rfl) ?_
  refine lv_bipush (v := nI 11) hx hb dX7_timesOut_182 (by decide) ?_
  refine k_cV (wr := []) (w1 := fun u => [(m0, .inr (7, [.ref v, .ref a1, .ref a2, .int ik, .int th, .int en])), (v, .inl (cJ, 136800, .inr (.inl u)))]) (va_runV (As := [.int (nI o), .int (nI d), .int (nI 11)]) (rest := []) ⟨hx, hb, hml, hown, hts⟩ (c_X7_dropsAll l D cI cJ cM cG m0 v a1 a2 ik th en (vp_updL f (1000 + 4 * (10 * o + d) + 0) (lN 0)) o d 11 t H.size (ho) (hd) (by omega) (((pk_uLn (by omega)).trans y0)) (((pk_uLn (by omega)).trans y11)) (((pk_uLn (by omega)).trans y12))) (cwV 3 hts (kB_V (fun _ => List.mem_cons_of_mem _) q_868 q_869 q_870 q_670 (kB_c q_871)) rfl rfl rfl (by decide +kernel) ⟨Nat.le_of_ble_eq_true rfl, Nat.le_of_ble_eq_true rfl⟩) (k_preV (T := TX7) hP hD hK hKN [0, 1] rfl rfl (ci := 7) rfl (q0 := 0) rfl) rfl rfl hl.1 rfl (lv_room (Nat.le_of_ble_eq_true rfl)) dX7_timesOut_184 ⟨Nat.le_of_ble_eq_true rfl, Nat.le_of_ble_eq_true rfl⟩) hP hD hS hA [0, 1] [] rfl rfl rfl (by decide) (fun u184 H locs hw184 hP hD hS => ?_)
  replace hP : va_P D vwCl [(m0, .inr (7, [.ref v, .ref a1, .ref a2, .int ik, .int th, .int en])), (v, .inl (cJ, 136800, .inr (.inl u184)))] H := hP
  replace hD : va_D A [(m0, .inr (7, [.ref v, .ref a1, .ref a2, .int ik, .int th, .int en])), (v, .inl (cJ, 136800, .inr (.inl u184)))] := hD
  have hu184 := hw184
  have hP9 := hP.sub (ws' := [(m0, .inr (7, [.ref v, .ref a1, .ref a2, .int ik, .int th, .int en])), (v, .inl (cJ, 136800, .inr (.inl u184)))]) [0, 1] rfl
  have hD9 := hD.sub (ws' := [(m0, .inr (7, [.ref v, .ref a1, .ref a2, .int ik, .int th, .int en])), (v, .inl (cJ, 136800, .inr (.inl u184)))]) [0, 1] rfl rfl
  exact W.vret hx hb hr (fun t9 ht9 hW9 => ⟨⟨u184, rfl, mE_of ho hd hM rfl hu184, by rw [ht9]; exact hP9, hD9⟩, hS.F ht9⟩) hS.2.2 dX7_timesOut_187
