set_option maxHeartbeats 4000000 in
set_option maxRecDepth 100000 in
theorem c_X7_happens0 (l : Launch) (D : va_G) (cI cJ cM cG : ClassId) (m0 : Nat) (v : Nat) (a1 : Nat) (a2 : Nat) (ik : Int32) (th : Int32) (en : Int32) (f : Nat → Int64) (o : Nat) (d : Nat) (N : Nat) (z : Nat) (T9 : Nat) (k : Nat) (U : Nat) (sz : Nat) (ho : o < 10) (hd : d < 10) (hN : N ≤ 10) (hk : k < 60) (hz : z < 2 ^ 40) (hU : U < 2 ^ 40) (hTU : T9 ≤ U) (hM : mS f N o d z T9 1 0 k) : Met l yX7_happens (Cond.code yX7_happens cX7_happens 11 (some .int) :: kBig) ({ frames := 5, cells := 0, slots := 0, locals := 127 }) (va_Pc [.ref m0, .long (lN U)] (kP D [(cI, .int), (cJ, .long), (cM, .object "MeshRouting$Message"), (cG, .array .int)] [(m0, .inr (7, [.ref v, .ref a1, .ref a2, .int ik, .int th, .int en])), (v, .inl (cJ, 136800, .inr (.inl f)))] sz)) (va_Qi (fun (r : Int32) (u : Nat → Int64) => r = nI 4 ∧ (mS u N o d T9 (T9 + 20 * (3 + 1)) 3 0 (k + 1))) (fun u t9 => kB D (va_A [(m0, .inr (7, [.ref v, .ref a1, .ref a2, .int ik, .int th, .int en])), (v, .inl (cJ, 136800, .inr (.inl f)))] sz) [(m0, .inr (7, [.ref v, .ref a1, .ref a2, .int ik, .int th, .int en])), (v, .inl (cJ, 136800, .inr (.inl u)))] t9) (va_A [(m0, .inr (7, [.ref v, .ref a1, .ref a2, .int ik, .int th, .int en])), (v, .inl (cJ, 136800, .inr (.inl f)))] sz)) 0 0 (va_A [(m0, .inr (7, [.ref v, .ref a1, .ref a2, .int ik, .int th, .int en])), (v, .inl (cJ, 136800, .inr (.inl f)))] sz) := by
  refine Met.ofW (cc := cX7_happens) (maxL := 11) (ret := (some .int)) (by decide) rfl ?_
  intro p e s m args below meth c s₁ B hml hv
  obtain ⟨rfl, hsz, hP, hK, hD0, hKN⟩ := hv
  have hx := B.exec
  have hb := B.bytes
  have hr := B.returns
  have hts := atoms_spec (ws := (Cond.code yX7_happens cX7_happens 11 (some .int) :: kBig)) B.pre
  have hown : s.vm.findClass RX7 = some m.cls := findClass_of_methodNamed B.named
  have hlocks := B.notSynchronized
  have hin7 : ∀ w ∈ u_ws RX7 TX7 6, w ∈ (Cond.code yX7_happens cX7_happens 11 (some .int) :: kBig) := fun w h => List.mem_cons_of_mem _ (inb7 w h)
  subst hsz
  have hD := hD0.self (sz := s.heap.size)
  generalize hAe : va_A [(m0, .inr (7, [.ref v, .ref a1, .ref a2, .int ik, .int th, .int en])), (v, .inl (cJ, 136800, .inr (.inl f)))] s.heap.size = A at hD ⊢
  have hA : ∀ q : Nat, s.heap.size ≤ q → A q := fun q h => by rw [← hAe]; exact Or.inr h
  have hS : va_S A s.heap s.heap [] := va_S.rf
  have hl := lv_entry ([.ref m0, .long (lN U)]) (n := 11) (Nat.le_of_ble_eq_true rfl)
  rw [lg_entry_eq]
  generalize (lg_sl ([.ref m0, .long (lN U)]) ++ List.replicate (11 - (lg_sl ([.ref m0, .long (lN U)])).length) Slot.unset).toArray = ls at hl ⊢
  have hl : lv_has ls 11 [(0, .ref m0), (1, .long (lN U))] := hl
  obtain ⟨y0, y1, y2, y3, y4, y5, y6, y7, y8, y9, y10, y11, y12, y13⟩ := id hM
  refine lv_aload_n hx hb dX7_happens_0 rfl (lv_at hl 0 rfl) ?_
  refine k_cl (wr := []) (w1 := [(m0, .inr (7, [.ref v, .ref a1, .ref a2, .int ik, .int th, .int en])), (v, .inl (cJ, 136800, .inr (.inl f)))]) (va_runV (As := []) (rest := []) ⟨hx, hb, hml, hown, hts⟩ (c_X7_nextArrival l D cI cJ cM cG m0 v a1 a2 ik th en f z s.heap.size (y0) (hz) (y2)) (cwV 0 hts (kB_V (fun _ => List.mem_cons_of_mem _) q_815 q_816 q_817 q_670 (kB_c q_818)) rfl rfl rfl (by decide +kernel) ⟨Nat.le_of_ble_eq_true rfl, Nat.le_of_ble_eq_true rfl⟩) (k_preV (T := TX7) hP hD hK hKN [0, 1] rfl rfl (ci := 7) rfl (q0 := 0) rfl) rfl rfl hl.1 rfl (lv_room (Nat.le_of_ble_eq_true rfl)) dX7_happens_1 ⟨Nat.le_of_ble_eq_true rfl, Nat.le_of_ble_eq_true rfl⟩) hP hD hS hA [0, 1] [] rfl rfl rfl (by decide) (fun r1 H locs hw1 hP hD hS => ?_)
  replace hP : va_P D vwCl [(m0, .inr (7, [.ref v, .ref a1, .ref a2, .int ik, .int th, .int en])), (v, .inl (cJ, 136800, .inr (.inl f)))] H := hP
  replace hD : va_D A [(m0, .inr (7, [.ref v, .ref a1, .ref a2, .int ik, .int th, .int en])), (v, .inl (cJ, 136800, .inr (.inl f)))] := hD
  replace hw1 : r1 = (-1) := hw1
  refine k_tl hw1 ?_
  refine lv_lstore_n (lv' := [(3, .long (-1)), (0, .ref m0), (1, .long (lN U))]) hx hb dX7_happens_4 rfl hl (by decide) rfl (fun ls hl => ?_)
  refine lv_aload_n hx hb dX7_happens_5 rfl (lv_at hl 1 rfl) ?_
  refine k_ci (wr := []) (w1 := [(m0, .inr (7, [.ref v, .ref a1, .ref a2, .int ik, .int th, .int en])), (v, .inl (cJ, 136800, .inr (.inl f)))]) (va_runV (As := []) (rest := []) ⟨hx, hb, hml, hown, hts⟩ (c_X7_nextTimeout1 l D cI cJ cM cG m0 v a1 a2 ik th en f (10 * o + d) H.size (by omega) (y6) (y7)) (cwV 0 hts (kB_V (fun _ => List.mem_cons_of_mem _) q_819 q_820 q_821 q_670 (kB_c q_822)) rfl rfl rfl (by decide +kernel) ⟨Nat.le_of_ble_eq_true rfl, Nat.le_of_ble_eq_true rfl⟩) (k_preV (T := TX7) hP hD hK hKN [0, 1] rfl rfl (ci := 7) rfl (q0 := 0) rfl) rfl rfl hl.1 rfl (lv_room (Nat.le_of_ble_eq_true rfl)) dX7_happens_6 ⟨Nat.le_of_ble_eq_true rfl, Nat.le_of_ble_eq_true rfl⟩) hP hD hS hA [0, 1] [] rfl rfl rfl (by decide) (fun r6 H locs hw6 hP hD hS => ?_)
  replace hP : va_P D vwCl [(m0, .inr (7, [.ref v, .ref a1, .ref a2, .int ik, .int th, .int en])), (v, .inl (cJ, 136800, .inr (.inl f)))] H := hP
  replace hD : va_D A [(m0, .inr (7, [.ref v, .ref a1, .ref a2, .int ik, .int th, .int en])), (v, .inl (cJ, 136800, .inr (.inl f)))] := hD
  replace hw6 : r6 = nI (10 * o + d) := hw6
  refine k_ti hw6 ?_
  refine lv_istore (lv' := [(5, .int (nI (10 * o + d))), (3, .long (-1)), (0, .ref m0), (1, .long (lN U))]) hx hb dX7_happens_9 hl (by decide) rfl (fun ls hl => ?_)
  refine lv_iload hx hb dX7_happens_11 (lv_at hl 0 rfl) ?_
  refine k_if_ge (tgt := 22) hx hb dX7_happens_13 (by decide) (by omega) (fun _ => ?_) (fun h9 => absurd h9 (by omega))
  refine lv_aload_n hx hb dX7_happens_22 rfl (lv_at hl 2 rfl) ?_
  refine va_get (D := D) (ci := 7) (v := .ref v) (C := RX7) (T := TX7) (N := 6) hx hb hts hin7 hown hK hP 0 rfl rfl 0 (by decide) (hts (.fieldLink RX7 8 "MeshRoutingModel" "v" "[J") (List.mem_cons_of_mem _ q_665)) (fun _ h9 => h9) rfl dX7_happens_23 ?_
  refine lv_sipush (v := nI 1000) hx hb dX7_happens_26 (by decide) ?_
  refine lv_iconst (v := nI 4) hx hb dX7_happens_29 (by decide) ?_
  refine lv_iload hx hb dX7_happens_30 (lv_at hl 0 rfl) ?_
  refine lv_imul hx hb dX7_happens_32 ?_
  refine k_ti (show ((nI 4) * (nI (10 * o + d))) = (nI (4 * (10 * o + d))) from pk_mul _ _) ?_
  refine lv_iadd hx hb dX7_happens_33 ?_
  refine k_ti (show ((nI 1000) + (nI (4 * (10 * o + d)))) = (nI (1000 + 4 * (10 * o + d))) from nI_add _ _) ?_
  refine lv_iconst (v := nI 1) hx hb dX7_happens_34 (by decide) ?_
  refine lv_iadd hx hb dX7_happens_35 ?_
  refine k_ti (show ((nI (1000 + 4 * (10 * o + d))) + (nI 1)) = (nI (1000 + 4 * (10 * o + d) + 1)) from nI_add _ _) ?_
  refine k_lald (v := lN T9) hx hb hK hP 1 1 rfl rfl (by omega) (by omega) (y8) dX7_happens_36 ?_
  refine lv_lstore (lv' := [(6, .long (lN T9)), (5, .int (nI (10 * o + d))), (3, .long (-1)), (0, .ref m0), (1, .long (lN U))]) hx hb dX7_happens_37 hl (by decide) rfl (fun ls hl => ?_)
  refine lv_lload_n hx hb dX7_happens_39 rfl (lv_at hl 2 rfl) ?_
  refine lv_lconst (v := lN 0) hx hb dX7_happens_40 (by decide) ?_
  refine W.lcmp hx hb dX7_happens_41 ?_
  refine lv_if_lt (tgt := 63) hx hb dX7_happens_42 (by decide) (fun _ => ?_) (fun h9 => absurd (by decide) h9)
  refine lv_iconst (v := nI 0) hx hb dX7_happens_63 (by decide) ?_
  refine lv_istore (lv' := [(8, .int (nI 0)), (6, .long (lN T9)), (5, .int (nI (10 * o + d))), (3, .long (-1)), (0, .ref m0), (1, .long (lN U))]) hx hb dX7_happens_64 hl (by decide) rfl (fun ls hl => ?_)
  refine lv_iload hx hb dX7_happens_66 (lv_at hl 0 rfl) ?_
  refine k_if_eq (tgt := 75) hx hb dX7_happens_68 (by decide) (by omega) (fun _ => ?_) (fun h9 => absurd h9 (by omega))
  refine lv_lload hx hb dX7_happens_75 (lv_at hl 1 rfl) ?_
  refine lv_lstore (lv' := [(9, .long (lN T9)), (8, .int (nI 0)), (6, .long (lN T9)), (5, .int (nI (10 * o + d))), (3, .long (-1)), (0, .ref m0), (1, .long (lN U))]) hx hb dX7_happens_77 hl (by decide) rfl (fun ls hl => ?_)
  refine lv_lload hx hb dX7_happens_79 (lv_at hl 0 rfl) ?_
  refine lv_lconst (v := lN 0) hx hb dX7_happens_81 (by decide) ?_
  refine W.lcmp hx hb dX7_happens_82 ?_
  refine k_lif_lt (tgt := 93) hx hb dX7_happens_83 (by decide) (by omega) (by omega) (fun h9 => absurd h9 (by omega)) (fun _ => ?_)
  refine lv_lload hx hb dX7_happens_86 (lv_at hl 0 rfl) ?_
  refine lv_lload_n hx hb dX7_happens_88 rfl (lv_at hl 6 rfl) ?_
  refine W.lcmp hx hb dX7_happens_89 ?_
  refine k_lif_le (tgt := 95) hx hb dX7_happens_90 (by decide) (by omega) (by omega) (fun _ => ?_) (fun h9 => absurd h9 (by omega))
  refine lv_aload_n hx hb dX7_happens_95 rfl (lv_at hl 5 rfl) ?_
  refine va_get (D := D) (ci := 7) (v := .ref v) (C := RX7) (T := TX7) (N := 6) hx hb hts hin7 hown hK hP 0 rfl rfl 0 (by decide) (hts (.fieldLink RX7 8 "MeshRoutingModel" "v" "[J") (List.mem_cons_of_mem _ q_665)) (fun _ h9 => h9) rfl dX7_happens_96 ?_
  refine lv_iconst (v := nI 0) hx hb dX7_happens_99 (by decide) ?_
  refine lv_lload hx hb dX7_happens_100 (lv_at hl 0 rfl) ?_
  refine k_last (f' := vp_updL f 0 (lN T9)) hx hb hK hP hD hS 1 1 rfl rfl (by omega) (by omega) (rfl) dX7_happens_102 (fun H locs hP hD hS => ?_)
  replace hP : va_P D vwCl [(m0, .inr (7, [.ref v, .ref a1, .ref a2, .int ik, .int th, .int en])), (v, .inl (cJ, 136800, .inr (.inl (vp_updL f 0 (lN T9)))))] H := hP
  replace hD : va_D A [(m0, .inr (7, [.ref v, .ref a1, .ref a2, .int ik, .int th, .int en])), (v, .inl (cJ, 136800, .inr (.inl (vp_updL f 0 (lN T9)))))] := hD
  refine lv_iload hx hb dX7_happens_103 (lv_at hl 1 rfl) ?_
  refine k_if_eq (tgt := 120) hx hb dX7_happens_105 (by decide) (by omega) (fun _ => ?_) (fun h9 => absurd h9 (by omega))
  refine lv_aload_n hx hb dX7_happens_120 rfl (lv_at hl 5 rfl) ?_
  refine lv_iload hx hb dX7_happens_121 (lv_at hl 3 rfl) ?_
  refine lv_bipush (v := nI 10) hx hb dX7_happens_123 (by decide) ?_
  refine lv_idiv hx hb dX7_happens_125 (by decide) ?_
  refine k_ti (show ((nI (10 * o + d)) / (nI 10)) = (nI o) from (k_c10' ho hd).1) ?_
  refine lv_iload hx hb dX7_happens_126 (lv_at hl 3 rfl) ?_
  refine lv_bipush (v := nI 10) hx hb dX7_happens_128 (by decide) ?_
  refine lv_irem hx hb dX7_happens_130 (by decide) ?_
  refine k_ti (show ((nI (10 * o + d)) - (nI (10 * o + d)) / (nI 10) * (nI 10)) = (nI d) from (k_c10' ho hd).2) ?_
  refine k_cV (wr := []) (w1 := fun u => [(m0, .inr (7, [.ref v, .ref a1, .ref a2, .int ik, .int th, .int en])), (v, .inl (cJ, 136800, .inr (.inl u)))]) (va_runV (As := [.int (nI o), .int (nI d)]) (rest := []) ⟨hx, hb, hml, hown, hts⟩ (c_X7_timesOut0 l D cI cJ cM cG m0 v a1 a2 ik th en (vp_updL f 0 (lN T9)) o d N T9 k H.size (ho) (hd) (hN) (hk) (by omega) (mS_time ho hd hM)) (cwV 2 hts (kB_V (fun _ => List.mem_cons_of_mem _) q_864 q_865 q_866 q_670 (kB_c q_867)) rfl rfl rfl (by decide +kernel) ⟨Nat.le_of_ble_eq_true rfl, Nat.le_of_ble_eq_true rfl⟩) (k_preV (T := TX7) hP hD hK hKN [0, 1] rfl rfl (ci := 7) rfl (q0 := 0) rfl) rfl rfl hl.1 rfl (lv_room (Nat.le_of_ble_eq_true rfl)) dX7_happens_131 ⟨Nat.le_of_ble_eq_true rfl, Nat.le_of_ble_eq_true rfl⟩) hP hD hS hA [0, 1] [] rfl rfl rfl (by decide) (fun u131 H locs hw131 hP hD hS => ?_)
  replace hP : va_P D vwCl [(m0, .inr (7, [.ref v, .ref a1, .ref a2, .int ik, .int th, .int en])), (v, .inl (cJ, 136800, .inr (.inl u131)))] H := hP
  replace hD : va_D A [(m0, .inr (7, [.ref v, .ref a1, .ref a2, .int ik, .int th, .int en])), (v, .inl (cJ, 136800, .inr (.inl u131)))] := hD
  have hu131 := hw131
  refine lv_iconst (v := nI 4) hx hb dX7_happens_134 (by decide) ?_
  have hP9 := hP.sub (ws' := [(m0, .inr (7, [.ref v, .ref a1, .ref a2, .int ik, .int th, .int en])), (v, .inl (cJ, 136800, .inr (.inl u131)))]) [0, 1] rfl
  have hD9 := hD.sub (ws' := [(m0, .inr (7, [.ref v, .ref a1, .ref a2, .int ik, .int th, .int en])), (v, .inl (cJ, 136800, .inr (.inl u131)))]) [0, 1] rfl rfl
  exact W.iret (v := nI 4) hx hb hr (fun t9 ht9 hW9 => ⟨⟨nI 4, u131, rfl, ⟨rfl, hu131⟩, by rw [ht9]; exact hP9, hD9⟩, hS.F ht9⟩) hS.2.2 dX7_happens_135

set_option maxHeartbeats 4000000 in
set_option maxRecDepth 100000 in
theorem c_X7_happens1 (l : Launch) (D : va_G) (cI cJ cM cG : ClassId) (m0 : Nat) (v : Nat) (a1 : Nat) (a2 : Nat) (ik : Int32) (th : Int32) (en : Int32) (f : Nat → Int64) (o : Nat) (d : Nat) (N : Nat) (z : Nat) (T9 : Nat) (k : Nat) (U : Nat) (sz : Nat) (ho : o < 10) (hd : d < 10) (hN : N ≤ 10) (hk : k < 60) (hz : z < 2 ^ 40) (hU : U < 2 ^ 40) (hTU : T9 ≤ U) (hM : mS f N o d z T9 3 0 k) : Met l yX7_happens (Cond.code yX7_happens cX7_happens 11 (some .int) :: kBig) ({ frames := 5, cells := 0, slots := 0, locals := 127 }) (va_Pc [.ref m0, .long (lN U)] (kP D [(cI, .int), (cJ, .long), (cM, .object "MeshRouting$Message"), (cG, .array .int)] [(m0, .inr (7, [.ref v, .ref a1, .ref a2, .int ik, .int th, .int en])), (v, .inl (cJ, 136800, .inr (.inl f)))] sz)) (va_Qi (fun (r : Int32) (u : Nat → Int64) => r = nI 4 ∧ (mS u N o d T9 (T9 + 20 * (5 + 1)) 5 0 (k + 1))) (fun u t9 => kB D (va_A [(m0, .inr (7, [.ref v, .ref a1, .ref a2, .int ik, .int th, .int en])), (v, .inl (cJ, 136800, .inr (.inl f)))] sz) [(m0, .inr (7, [.ref v, .ref a1, .ref a2, .int ik, .int th, .int en])), (v, .inl (cJ, 136800, .inr (.inl u)))] t9) (va_A [(m0, .inr (7, [.ref v, .ref a1, .ref a2, .int ik, .int th, .int en])), (v, .inl (cJ, 136800, .inr (.inl f)))] sz)) 0 0 (va_A [(m0, .inr (7, [.ref v, .ref a1, .ref a2, .int ik, .int th, .int en])), (v, .inl (cJ, 136800, .inr (.inl f)))] sz) := by
  refine Met.ofW (cc := cX7_happens) (maxL := 11) (ret := (some .int)) (by decide) rfl ?_
  intro p e s m args below meth c s₁ B hml hv
  obtain ⟨rfl, hsz, hP, hK, hD0, hKN⟩ := hv
  have hx := B.exec
  have hb := B.bytes
  have hr := B.returns
  have hts := atoms_spec (ws := (Cond.code yX7_happens cX7_happens 11 (some .int) :: kBig)) B.pre
  have hown : s.vm.findClass RX7 = some m.cls := findClass_of_methodNamed B.named
  have hlocks := B.notSynchronized
  have hin7 : ∀ w ∈ u_ws RX7 TX7 6, w ∈ (Cond.code yX7_happens cX7_happens 11 (some .int) :: kBig) := fun w h => List.mem_cons_of_mem _ (inb7 w h)
  subst hsz
  have hD := hD0.self (sz := s.heap.size)
  generalize hAe : va_A [(m0, .inr (7, [.ref v, .ref a1, .ref a2, .int ik, .int th, .int en])), (v, .inl (cJ, 136800, .inr (.inl f)))] s.heap.size = A at hD ⊢
  have hA : ∀ q : Nat, s.heap.size ≤ q → A q := fun q h => by rw [← hAe]; exact Or.inr h
  have hS : va_S A s.heap s.heap [] := va_S.rf
  have hl := lv_entry ([.ref m0, .long (lN U)]) (n := 11) (Nat.le_of_ble_eq_true rfl)
  rw [lg_entry_eq]
  generalize (lg_sl ([.ref m0, .long (lN U)]) ++ List.replicate (11 - (lg_sl ([.ref m0, .long (lN U)])).length) Slot.unset).toArray = ls at hl ⊢
  have hl : lv_has ls 11 [(0, .ref m0), (1, .long (lN U))] := hl
  obtain ⟨y0, y1, y2, y3, y4, y5, y6, y7, y8, y9, y10, y11, y12, y13⟩ := id hM
  refine lv_aload_n hx hb dX7_happens_0 rfl (lv_at hl 0 rfl) ?_
  refine k_cl (wr := []) (w1 := [(m0, .inr (7, [.ref v, .ref a1, .ref a2, .int ik, .int th, .int en])), (v, .inl (cJ, 136800, .inr (.inl f)))]) (va_runV (As := []) (rest := []) ⟨hx, hb, hml, hown, hts⟩ (c_X7_nextArrival l D cI cJ cM cG m0 v a1 a2 ik th en f z s.heap.size (y0) (hz) (y2)) (cwV 0 hts (kB_V (fun _ => List.mem_cons_of_mem _) q_815 q_816 q_817 q_670 (kB_c q_818)) rfl rfl rfl (by decide +kernel) ⟨Nat.le_of_ble_eq_true rfl, Nat.le_of_ble_eq_true rfl⟩) (k_preV (T := TX7) hP hD hK hKN [0, 1] rfl rfl (ci := 7) rfl (q0 := 0) rfl) rfl rfl hl.1 rfl (lv_room (Nat.le_of_ble_eq_true rfl)) dX7_happens_1 ⟨Nat.le_of_ble_eq_true rfl, Nat.le_of_ble_eq_true rfl⟩) hP hD hS hA [0, 1] [] rfl rfl rfl (by decide) (fun r1 H locs hw1 hP hD hS => ?_)
  replace hP : va_P D vwCl [(m0, .inr (7, [.ref v, .ref a1, .ref a2, .int ik, .int th, .int en])), (v, .inl (cJ, 136800, .inr (.inl f)))] H := hP
  replace hD : va_D A [(m0, .inr (7, [.ref v, .ref a1, .ref a2, .int ik, .int th, .int en])), (v, .inl (cJ, 136800, .inr (.inl f)))] := hD
  replace hw1 : r1 = (-1) := hw1
  refine k_tl hw1 ?_
  refine lv_lstore_n (lv' := [(3, .long (-1)), (0, .ref m0), (1, .long (lN U))]) hx hb dX7_happens_4 rfl hl (by decide) rfl (fun ls hl => ?_)
  refine lv_aload_n hx hb dX7_happens_5 rfl (lv_at hl 1 rfl) ?_
  refine k_ci (wr := []) (w1 := [(m0, .inr (7, [.ref v, .ref a1, .ref a2, .int ik, .int th, .int en])), (v, .inl (cJ, 136800, .inr (.inl f)))]) (va_runV (As := []) (rest := []) ⟨hx, hb, hml, hown, hts⟩ (c_X7_nextTimeout1 l D cI cJ cM cG m0 v a1 a2 ik th en f (10 * o + d) H.size (by omega) (y6) (y7)) (cwV 0 hts (kB_V (fun _ => List.mem_cons_of_mem _) q_819 q_820 q_821 q_670 (kB_c q_822)) rfl rfl rfl (by decide +kernel) ⟨Nat.le_of_ble_eq_true rfl, Nat.le_of_ble_eq_true rfl⟩) (k_preV (T := TX7) hP hD hK hKN [0, 1] rfl rfl (ci := 7) rfl (q0 := 0) rfl) rfl rfl hl.1 rfl (lv_room (Nat.le_of_ble_eq_true rfl)) dX7_happens_6 ⟨Nat.le_of_ble_eq_true rfl, Nat.le_of_ble_eq_true rfl⟩) hP hD hS hA [0, 1] [] rfl rfl rfl (by decide) (fun r6 H locs hw6 hP hD hS => ?_)
  replace hP : va_P D vwCl [(m0, .inr (7, [.ref v, .ref a1, .ref a2, .int ik, .int th, .int en])), (v, .inl (cJ, 136800, .inr (.inl f)))] H := hP
  replace hD : va_D A [(m0, .inr (7, [.ref v, .ref a1, .ref a2, .int ik, .int th, .int en])), (v, .inl (cJ, 136800, .inr (.inl f)))] := hD
  replace hw6 : r6 = nI (10 * o + d) := hw6
  refine k_ti hw6 ?_
  refine lv_istore (lv' := [(5, .int (nI (10 * o + d))), (3, .long (-1)), (0, .ref m0), (1, .long (lN U))]) hx hb dX7_happens_9 hl (by decide) rfl (fun ls hl => ?_)
  refine lv_iload hx hb dX7_happens_11 (lv_at hl 0 rfl) ?_
  refine k_if_ge (tgt := 22) hx hb dX7_happens_13 (by decide) (by omega) (fun _ => ?_) (fun h9 => absurd h9 (by omega))
  refine lv_aload_n hx hb dX7_happens_22 rfl (lv_at hl 2 rfl) ?_
  refine va_get (D := D) (ci := 7) (v := .ref v) (C := RX7) (T := TX7) (N := 6) hx hb hts hin7 hown hK hP 0 rfl rfl 0 (by decide) (hts (.fieldLink RX7 8 "MeshRoutingModel" "v" "[J") (List.mem_cons_of_mem _ q_665)) (fun _ h9 => h9) rfl dX7_happens_23 ?_
  refine lv_sipush (v := nI 1000) hx hb dX7_happens_26 (by decide) ?_
  refine lv_iconst (v := nI 4) hx hb dX7_happens_29 (by decide) ?_
  refine lv_iload hx hb dX7_happens_30 (lv_at hl 0 rfl) ?_
  refine lv_imul hx hb dX7_happens_32 ?_
  refine k_ti (show ((nI 4) * (nI (10 * o + d))) = (nI (4 * (10 * o + d))) from pk_mul _ _) ?_
  refine lv_iadd hx hb dX7_happens_33 ?_
  refine k_ti (show ((nI 1000) + (nI (4 * (10 * o + d)))) = (nI (1000 + 4 * (10 * o + d))) from nI_add _ _) ?_
  refine lv_iconst (v := nI 1) hx hb dX7_happens_34 (by decide) ?_
  refine lv_iadd hx hb dX7_happens_35 ?_
  refine k_ti (show ((nI (1000 + 4 * (10 * o + d))) + (nI 1)) = (nI (1000 + 4 * (10 * o + d) + 1)) from nI_add _ _) ?_
  refine k_lald (v := lN T9) hx hb hK hP 1 1 rfl rfl (by omega) (by omega) (y8) dX7_happens_36 ?_
  refine lv_lstore (lv' := [(6, .long (lN T9)), (5, .int (nI (10 * o + d))), (3, .long (-1)), (0, .ref m0), (1, .long (lN U))]) hx hb dX7_happens_37 hl (by decide) rfl (fun ls hl => ?_)
  refine lv_lload_n hx hb dX7_happens_39 rfl (lv_at hl 2 rfl) ?_
  refine lv_lconst (v := lN 0) hx hb dX7_happens_40 (by decide) ?_
  refine W.lcmp hx hb dX7_happens_41 ?_
  refine lv_if_lt (tgt := 63) hx hb dX7_happens_42 (by decide) (fun _ => ?_) (fun h9 => absurd (by decide) h9)
  refine lv_iconst (v := nI 0) hx hb dX7_happens_63 (by decide) ?_
  refine lv_istore (lv' := [(8, .int (nI 0)), (6, .long (lN T9)), (5, .int (nI (10 * o + d))), (3, .long (-1)), (0, .ref m0), (1, .long (lN U))]) hx hb dX7_happens_64 hl (by decide) rfl (fun ls hl => ?_)
  refine lv_iload hx hb dX7_happens_66 (lv_at hl 0 rfl) ?_
  refine k_if_eq (tgt := 75) hx hb dX7_happens_68 (by decide) (by omega) (fun _ => ?_) (fun h9 => absurd h9 (by omega))
  refine lv_lload hx hb dX7_happens_75 (lv_at hl 1 rfl) ?_
  refine lv_lstore (lv' := [(9, .long (lN T9)), (8, .int (nI 0)), (6, .long (lN T9)), (5, .int (nI (10 * o + d))), (3, .long (-1)), (0, .ref m0), (1, .long (lN U))]) hx hb dX7_happens_77 hl (by decide) rfl (fun ls hl => ?_)
  refine lv_lload hx hb dX7_happens_79 (lv_at hl 0 rfl) ?_
  refine lv_lconst (v := lN 0) hx hb dX7_happens_81 (by decide) ?_
  refine W.lcmp hx hb dX7_happens_82 ?_
  refine k_lif_lt (tgt := 93) hx hb dX7_happens_83 (by decide) (by omega) (by omega) (fun h9 => absurd h9 (by omega)) (fun _ => ?_)
  refine lv_lload hx hb dX7_happens_86 (lv_at hl 0 rfl) ?_
  refine lv_lload_n hx hb dX7_happens_88 rfl (lv_at hl 6 rfl) ?_
  refine W.lcmp hx hb dX7_happens_89 ?_
  refine k_lif_le (tgt := 95) hx hb dX7_happens_90 (by decide) (by omega) (by omega) (fun _ => ?_) (fun h9 => absurd h9 (by omega))
  refine lv_aload_n hx hb dX7_happens_95 rfl (lv_at hl 5 rfl) ?_
  refine va_get (D := D) (ci := 7) (v := .ref v) (C := RX7) (T := TX7) (N := 6) hx hb hts hin7 hown hK hP 0 rfl rfl 0 (by decide) (hts (.fieldLink RX7 8 "MeshRoutingModel" "v" "[J") (List.mem_cons_of_mem _ q_665)) (fun _ h9 => h9) rfl dX7_happens_96 ?_
  refine lv_iconst (v := nI 0) hx hb dX7_happens_99 (by decide) ?_
  refine lv_lload hx hb dX7_happens_100 (lv_at hl 0 rfl) ?_
  refine k_last (f' := vp_updL f 0 (lN T9)) hx hb hK hP hD hS 1 1 rfl rfl (by omega) (by omega) (rfl) dX7_happens_102 (fun H locs hP hD hS => ?_)
  replace hP : va_P D vwCl [(m0, .inr (7, [.ref v, .ref a1, .ref a2, .int ik, .int th, .int en])), (v, .inl (cJ, 136800, .inr (.inl (vp_updL f 0 (lN T9)))))] H := hP
  replace hD : va_D A [(m0, .inr (7, [.ref v, .ref a1, .ref a2, .int ik, .int th, .int en])), (v, .inl (cJ, 136800, .inr (.inl (vp_updL f 0 (lN T9)))))] := hD
  refine lv_iload hx hb dX7_happens_103 (lv_at hl 1 rfl) ?_
  refine k_if_eq (tgt := 120) hx hb dX7_happens_105 (by decide) (by omega) (fun _ => ?_) (fun h9 => absurd h9 (by omega))
  refine lv_aload_n hx hb dX7_happens_120 rfl (lv_at hl 5 rfl) ?_
  refine lv_iload hx hb dX7_happens_121 (lv_at hl 3 rfl) ?_
  refine lv_bipush (v := nI 10) hx hb dX7_happens_123 (by decide) ?_
  refine lv_idiv hx hb dX7_happens_125 (by decide) ?_
  refine k_ti (show ((nI (10 * o + d)) / (nI 10)) = (nI o) from (k_c10' ho hd).1) ?_
  refine lv_iload hx hb dX7_happens_126 (lv_at hl 3 rfl) ?_
  refine lv_bipush (v := nI 10) hx hb dX7_happens_128 (by decide) ?_
  refine lv_irem hx hb dX7_happens_130 (by decide) ?_
  refine k_ti (show ((nI (10 * o + d)) - (nI (10 * o + d)) / (nI 10) * (nI 10)) = (nI d) from (k_c10' ho hd).2) ?_
  refine k_cV (wr := []) (w1 := fun u => [(m0, .inr (7, [.ref v, .ref a1, .ref a2, .int ik, .int th, .int en])), (v, .inl (cJ, 136800, .inr (.inl u)))]) (va_runV (As := [.int (nI o), .int (nI d)]) (rest := []) ⟨hx, hb, hml, hown, hts⟩ (c_X7_timesOut1 l D cI cJ cM cG m0 v a1 a2 ik th en (vp_updL f 0 (lN T9)) o d N T9 k H.size (ho) (hd) (hN) (hk) (by omega) (mS_time ho hd hM)) (cwV 2 hts (kB_V (fun _ => List.mem_cons_of_mem _) q_864 q_865 q_866 q_670 (kB_c q_867)) rfl rfl rfl (by decide +kernel) ⟨Nat.le_of_ble_eq_true rfl, Nat.le_of_ble_eq_true rfl⟩) (k_preV (T := TX7) hP hD hK hKN [0, 1] rfl rfl (ci := 7) rfl (q0 := 0) rfl) rfl rfl hl.1 rfl (lv_room (Nat.le_of_ble_eq_true rfl)) dX7_happens_131 ⟨Nat.le_of_ble_eq_true rfl, Nat.le_of_ble_eq_true rfl⟩) hP hD hS hA [0, 1] [] rfl rfl rfl (by decide) (fun u131 H locs hw131 hP hD hS => ?_)
  replace hP : va_P D vwCl [(m0, .inr (7, [.ref v, .ref a1, .ref a2, .int ik, .int th, .int en])), (v, .inl (cJ, 136800, .inr (.inl u131)))] H := hP
  replace hD : va_D A [(m0, .inr (7, [.ref v, .ref a1, .ref a2, .int ik, .int th, .int en])), (v, .inl (cJ, 136800, .inr (.inl u131)))] := hD
  have hu131 := hw131
  refine lv_iconst (v := nI 4) hx hb dX7_happens_134 (by decide) ?_
  have hP9 := hP.sub (ws' := [(m0, .inr (7, [.ref v, .ref a1, .ref a2, .int ik, .int th, .int en])), (v, .inl (cJ, 136800, .inr (.inl u131)))]) [0, 1] rfl
  have hD9 := hD.sub (ws' := [(m0, .inr (7, [.ref v, .ref a1, .ref a2, .int ik, .int th, .int en])), (v, .inl (cJ, 136800, .inr (.inl u131)))]) [0, 1] rfl rfl
  exact W.iret (v := nI 4) hx hb hr (fun t9 ht9 hW9 => ⟨⟨nI 4, u131, rfl, ⟨rfl, hu131⟩, by rw [ht9]; exact hP9, hD9⟩, hS.F ht9⟩) hS.2.2 dX7_happens_135

set_option maxHeartbeats 4000000 in
set_option maxRecDepth 100000 in
theorem c_X7_happens2 (l : Launch) (D : va_G) (cI cJ cM cG : ClassId) (m0 : Nat) (v : Nat) (a1 : Nat) (a2 : Nat) (ik : Int32) (th : Int32) (en : Int32) (f : Nat → Int64) (o : Nat) (d : Nat) (N : Nat) (z : Nat) (T9 : Nat) (k : Nat) (U : Nat) (sz : Nat) (ho : o < 10) (hd : d < 10) (hN : N ≤ 10) (hk : k < 60) (hz : z < 2 ^ 40) (hU : U < 2 ^ 40) (hTU : T9 ≤ U) (hM : mS f N o d z T9 5 0 k) : Met l yX7_happens (Cond.code yX7_happens cX7_happens 11 (some .int) :: kBig) ({ frames := 5, cells := 0, slots := 0, locals := 127 }) (va_Pc [.ref m0, .long (lN U)] (kP D [(cI, .int), (cJ, .long), (cM, .object "MeshRouting$Message"), (cG, .array .int)] [(m0, .inr (7, [.ref v, .ref a1, .ref a2, .int ik, .int th, .int en])), (v, .inl (cJ, 136800, .inr (.inl f)))] sz)) (va_Qi (fun (r : Int32) (u : Nat → Int64) => r = nI 4 ∧ (mS u N o d T9 (T9 + 20 * (10 + 1)) 10 1 (k + 1))) (fun u t9 => kB D (va_A [(m0, .inr (7, [.ref v, .ref a1, .ref a2, .int ik, .int th, .int en])), (v, .inl (cJ, 136800, .inr (.inl f)))] sz) [(m0, .inr (7, [.ref v, .ref a1, .ref a2, .int ik, .int th, .int en])), (v, .inl (cJ, 136800, .inr (.inl u)))] t9) (va_A [(m0, .inr (7, [.ref v, .ref a1, .ref a2, .int ik, .int th, .int en])), (v, .inl (cJ, 136800, .inr (.inl f)))] sz)) 0 0 (va_A [(m0, .inr (7, [.ref v, .ref a1, .ref a2, .int ik, .int th, .int en])), (v, .inl (cJ, 136800, .inr (.inl f)))] sz) := by
  refine Met.ofW (cc := cX7_happens) (maxL := 11) (ret := (some .int)) (by decide) rfl ?_
  intro p e s m args below meth c s₁ B hml hv
  obtain ⟨rfl, hsz, hP, hK, hD0, hKN⟩ := hv
  have hx := B.exec
  have hb := B.bytes
  have hr := B.returns
  have hts := atoms_spec (ws := (Cond.code yX7_happens cX7_happens 11 (some .int) :: kBig)) B.pre
  have hown : s.vm.findClass RX7 = some m.cls := findClass_of_methodNamed B.named
  have hlocks := B.notSynchronized
  have hin7 : ∀ w ∈ u_ws RX7 TX7 6, w ∈ (Cond.code yX7_happens cX7_happens 11 (some .int) :: kBig) := fun w h => List.mem_cons_of_mem _ (inb7 w h)
  subst hsz
  have hD := hD0.self (sz := s.heap.size)
  generalize hAe : va_A [(m0, .inr (7, [.ref v, .ref a1, .ref a2, .int ik, .int th, .int en])), (v, .inl (cJ, 136800, .inr (.inl f)))] s.heap.size = A at hD ⊢
  have hA : ∀ q : Nat, s.heap.size ≤ q → A q := fun q h => by rw [← hAe]; exact Or.inr h
  have hS : va_S A s.heap s.heap [] := va_S.rf
  have hl := lv_entry ([.ref m0, .long (lN U)]) (n := 11) (Nat.le_of_ble_eq_true rfl)
  rw [lg_entry_eq]
  generalize (lg_sl ([.ref m0, .long (lN U)]) ++ List.replicate (11 - (lg_sl ([.ref m0, .long (lN U)])).length) Slot.unset).toArray = ls at hl ⊢
  have hl : lv_has ls 11 [(0, .ref m0), (1, .long (lN U))] := hl
  obtain ⟨y0, y1, y2, y3, y4, y5, y6, y7, y8, y9, y10, y11, y12, y13⟩ := id hM
  refine lv_aload_n hx hb dX7_happens_0 rfl (lv_at hl 0 rfl) ?_
  refine k_cl (wr := []) (w1 := [(m0, .inr (7, [.ref v, .ref a1, .ref a2, .int ik, .int th, .int en])), (v, .inl (cJ, 136800, .inr (.inl f)))]) (va_runV (As := []) (rest := []) ⟨hx, hb, hml, hown, hts⟩ (c_X7_nextArrival l D cI cJ cM cG m0 v a1 a2 ik th en f z s.heap.size (y0) (hz) (y2)) (cwV 0 hts (kB_V (fun _ => List.mem_cons_of_mem _) q_815 q_816 q_817 q_670 (kB_c q_818)) rfl rfl rfl (by decide +kernel) ⟨Nat.le_of_ble_eq_true rfl, Nat.le_of_ble_eq_true rfl⟩) (k_preV (T := TX7) hP hD hK hKN [0, 1] rfl rfl (ci := 7) rfl (q0 := 0) rfl) rfl rfl hl.1 rfl (lv_room (Nat.le_of_ble_eq_true rfl)) dX7_happens_1 ⟨Nat.le_of_ble_eq_true rfl, Nat.le_of_ble_eq_true rfl⟩) hP hD hS hA [0, 1] [] rfl rfl rfl (by decide) (fun r1 H locs hw1 hP hD hS => ?_)
  replace hP : va_P D vwCl [(m0, .inr (7, [.ref v, .ref a1, .ref a2, .int ik, .int th, .int en])), (v, .inl (cJ, 136800, .inr (.inl f)))] H := hP
  replace hD : va_D A [(m0, .inr (7, [.ref v, .ref a1, .ref a2, .int ik, .int th, .int en])), (v, .inl (cJ, 136800, .inr (.inl f)))] := hD
  replace hw1 : r1 = (-1) := hw1
  refine k_tl hw1 ?_
  refine lv_lstore_n (lv' := [(3, .long (-1)), (0, .ref m0), (1, .long (lN U))]) hx hb dX7_happens_4 rfl hl (by decide) rfl (fun ls hl => ?_)
  refine lv_aload_n hx hb dX7_happens_5 rfl (lv_at hl 1 rfl) ?_
  refine k_ci (wr := []) (w1 := [(m0, .inr (7, [.ref v, .ref a1, .ref a2, .int ik, .int th, .int en])), (v, .inl (cJ, 136800, .inr (.inl f)))]) (va_runV (As := []) (rest := []) ⟨hx, hb, hml, hown, hts⟩ (c_X7_nextTimeout1 l D cI cJ cM cG m0 v a1 a2 ik th en f (10 * o + d) H.size (by omega) (y6) (y7)) (cwV 0 hts (kB_V (fun _ => List.mem_cons_of_mem _) q_819 q_820 q_821 q_670 (kB_c q_822)) rfl rfl rfl (by decide +kernel) ⟨Nat.le_of_ble_eq_true rfl, Nat.le_of_ble_eq_true rfl⟩) (k_preV (T := TX7) hP hD hK hKN [0, 1] rfl rfl (ci := 7) rfl (q0 := 0) rfl) rfl rfl hl.1 rfl (lv_room (Nat.le_of_ble_eq_true rfl)) dX7_happens_6 ⟨Nat.le_of_ble_eq_true rfl, Nat.le_of_ble_eq_true rfl⟩) hP hD hS hA [0, 1] [] rfl rfl rfl (by decide) (fun r6 H locs hw6 hP hD hS => ?_)
  replace hP : va_P D vwCl [(m0, .inr (7, [.ref v, .ref a1, .ref a2, .int ik, .int th, .int en])), (v, .inl (cJ, 136800, .inr (.inl f)))] H := hP
  replace hD : va_D A [(m0, .inr (7, [.ref v, .ref a1, .ref a2, .int ik, .int th, .int en])), (v, .inl (cJ, 136800, .inr (.inl f)))] := hD
  replace hw6 : r6 = nI (10 * o + d) := hw6
  refine k_ti hw6 ?_
  refine lv_istore (lv' := [(5, .int (nI (10 * o + d))), (3, .long (-1)), (0, .ref m0), (1, .long (lN U))]) hx hb dX7_happens_9 hl (by decide) rfl (fun ls hl => ?_)
  refine lv_iload hx hb dX7_happens_11 (lv_at hl 0 rfl) ?_
  refine k_if_ge (tgt := 22) hx hb dX7_happens_13 (by decide) (by omega) (fun _ => ?_) (fun h9 => absurd h9 (by omega))
  refine lv_aload_n hx hb dX7_happens_22 rfl (lv_at hl 2 rfl) ?_
  refine va_get (D := D) (ci := 7) (v := .ref v) (C := RX7) (T := TX7) (N := 6) hx hb hts hin7 hown hK hP 0 rfl rfl 0 (by decide) (hts (.fieldLink RX7 8 "MeshRoutingModel" "v" "[J") (List.mem_cons_of_mem _ q_665)) (fun _ h9 => h9) rfl dX7_happens_23 ?_
  refine lv_sipush (v := nI 1000) hx hb dX7_happens_26 (by decide) ?_
  refine lv_iconst (v := nI 4) hx hb dX7_happens_29 (by decide) ?_
  refine lv_iload hx hb dX7_happens_30 (lv_at hl 0 rfl) ?_
  refine lv_imul hx hb dX7_happens_32 ?_
  refine k_ti (show ((nI 4) * (nI (10 * o + d))) = (nI (4 * (10 * o + d))) from pk_mul _ _) ?_
  refine lv_iadd hx hb dX7_happens_33 ?_
  refine k_ti (show ((nI 1000) + (nI (4 * (10 * o + d)))) = (nI (1000 + 4 * (10 * o + d))) from nI_add _ _) ?_
  refine lv_iconst (v := nI 1) hx hb dX7_happens_34 (by decide) ?_
  refine lv_iadd hx hb dX7_happens_35 ?_
  refine k_ti (show ((nI (1000 + 4 * (10 * o + d))) + (nI 1)) = (nI (1000 + 4 * (10 * o + d) + 1)) from nI_add _ _) ?_
  refine k_lald (v := lN T9) hx hb hK hP 1 1 rfl rfl (by omega) (by omega) (y8) dX7_happens_36 ?_
  refine lv_lstore (lv' := [(6, .long (lN T9)), (5, .int (nI (10 * o + d))), (3, .long (-1)), (0, .ref m0), (1, .long (lN U))]) hx hb dX7_happens_37 hl (by decide) rfl (fun ls hl => ?_)
  refine lv_lload_n hx hb dX7_happens_39 rfl (lv_at hl 2 rfl) ?_
  refine lv_lconst (v := lN 0) hx hb dX7_happens_40 (by decide) ?_
  refine W.lcmp hx hb dX7_happens_41 ?_
  refine lv_if_lt (tgt := 63) hx hb dX7_happens_42 (by decide) (fun _ => ?_) (fun h9 => absurd (by decide) h9)
  refine lv_iconst (v := nI 0) hx hb dX7_happens_63 (by decide) ?_
  refine lv_istore (lv' := [(8, .int (nI 0)), (6, .long (lN T9)), (5, .int (nI (10 * o + d))), (3, .long (-1)), (0, .ref m0), (1, .long (lN U))]) hx hb dX7_happens_64 hl (by decide) rfl (fun ls hl => ?_)
  refine lv_iload hx hb dX7_happens_66 (lv_at hl 0 rfl) ?_
  refine k_if_eq (tgt := 75) hx hb dX7_happens_68 (by decide) (by omega) (fun _ => ?_) (fun h9 => absurd h9 (by omega))
  refine lv_lload hx hb dX7_happens_75 (lv_at hl 1 rfl) ?_
  refine lv_lstore (lv' := [(9, .long (lN T9)), (8, .int (nI 0)), (6, .long (lN T9)), (5, .int (nI (10 * o + d))), (3, .long (-1)), (0, .ref m0), (1, .long (lN U))]) hx hb dX7_happens_77 hl (by decide) rfl (fun ls hl => ?_)
  refine lv_lload hx hb dX7_happens_79 (lv_at hl 0 rfl) ?_
  refine lv_lconst (v := lN 0) hx hb dX7_happens_81 (by decide) ?_
  refine W.lcmp hx hb dX7_happens_82 ?_
  refine k_lif_lt (tgt := 93) hx hb dX7_happens_83 (by decide) (by omega) (by omega) (fun h9 => absurd h9 (by omega)) (fun _ => ?_)
  refine lv_lload hx hb dX7_happens_86 (lv_at hl 0 rfl) ?_
  refine lv_lload_n hx hb dX7_happens_88 rfl (lv_at hl 6 rfl) ?_
  refine W.lcmp hx hb dX7_happens_89 ?_
  refine k_lif_le (tgt := 95) hx hb dX7_happens_90 (by decide) (by omega) (by omega) (fun _ => ?_) (fun h9 => absurd h9 (by omega))
  refine lv_aload_n hx hb dX7_happens_95 rfl (lv_at hl 5 rfl) ?_
  refine va_get (D := D) (ci := 7) (v := .ref v) (C := RX7) (T := TX7) (N := 6) hx hb hts hin7 hown hK hP 0 rfl rfl 0 (by decide) (hts (.fieldLink RX7 8 "MeshRoutingModel" "v" "[J") (List.mem_cons_of_mem _ q_665)) (fun _ h9 => h9) rfl dX7_happens_96 ?_
  refine lv_iconst (v := nI 0) hx hb dX7_happens_99 (by decide) ?_
  refine lv_lload hx hb dX7_happens_100 (lv_at hl 0 rfl) ?_
  refine k_last (f' := vp_updL f 0 (lN T9)) hx hb hK hP hD hS 1 1 rfl rfl (by omega) (by omega) (rfl) dX7_happens_102 (fun H locs hP hD hS => ?_)
  replace hP : va_P D vwCl [(m0, .inr (7, [.ref v, .ref a1, .ref a2, .int ik, .int th, .int en])), (v, .inl (cJ, 136800, .inr (.inl (vp_updL f 0 (lN T9)))))] H := hP
  replace hD : va_D A [(m0, .inr (7, [.ref v, .ref a1, .ref a2, .int ik, .int th, .int en])), (v, .inl (cJ, 136800, .inr (.inl (vp_updL f 0 (lN T9)))))] := hD
  refine lv_iload hx hb dX7_happens_103 (lv_at hl 1 rfl) ?_
  refine k_if_eq (tgt := 120) hx hb dX7_happens_105 (by decide) (by omega) (fun _ => ?_) (fun h9 => absurd h9 (by omega))
  refine lv_aload_n hx hb dX7_happens_120 rfl (lv_at hl 5 rfl) ?_
  refine lv_iload hx hb dX7_happens_121 (lv_at hl 3 rfl) ?_
  refine lv_bipush (v := nI 10) hx hb dX7_happens_123 (by decide) ?_
  refine lv_idiv hx hb dX7_happens_125 (by decide) ?_
  refine k_ti (show ((nI (10 * o + d)) / (nI 10)) = (nI o) from (k_c10' ho hd).1) ?_
  refine lv_iload hx hb dX7_happens_126 (lv_at hl 3 rfl) ?_
  refine lv_bipush (v := nI 10) hx hb dX7_happens_128 (by decide) ?_
  refine lv_irem hx hb dX7_happens_130 (by decide) ?_
  refine k_ti (show ((nI (10 * o + d)) - (nI (10 * o + d)) / (nI 10) * (nI 10)) = (nI d) from (k_c10' ho hd).2) ?_
  refine k_cV (wr := []) (w1 := fun u => [(m0, .inr (7, [.ref v, .ref a1, .ref a2, .int ik, .int th, .int en])), (v, .inl (cJ, 136800, .inr (.inl u)))]) (va_runV (As := [.int (nI o), .int (nI d)]) (rest := []) ⟨hx, hb, hml, hown, hts⟩ (c_X7_timesOut2 l D cI cJ cM cG m0 v a1 a2 ik th en (vp_updL f 0 (lN T9)) o d N T9 k H.size (ho) (hd) (hN) (hk) (by omega) (mS_time ho hd hM)) (cwV 2 hts (kB_V (fun _ => List.mem_cons_of_mem _) q_864 q_865 q_866 q_670 (kB_c q_867)) rfl rfl rfl (by decide +kernel) ⟨Nat.le_of_ble_eq_true rfl, Nat.le_of_ble_eq_true rfl⟩) (k_preV (T := TX7) hP hD hK hKN [0, 1] rfl rfl (ci := 7) rfl (q0 := 0) rfl) rfl rfl hl.1 rfl (lv_room (Nat.le_of_ble_eq_true rfl)) dX7_happens_131 ⟨Nat.le_of_ble_eq_true rfl, Nat.le_of_ble_eq_true rfl⟩) hP hD hS hA [0, 1] [] rfl rfl rfl (by decide) (fun u131 H locs hw131 hP hD hS => ?_)
  replace hP : va_P D vwCl [(m0, .inr (7, [.ref v, .ref a1, .ref a2, .int ik, .int th, .int en])), (v, .inl (cJ, 136800, .inr (.inl u131)))] H := hP
  replace hD : va_D A [(m0, .inr (7, [.ref v, .ref a1, .ref a2, .int ik, .int th, .int en])), (v, .inl (cJ, 136800, .inr (.inl u131)))] := hD
  have hu131 := hw131
  refine lv_iconst (v := nI 4) hx hb dX7_happens_134 (by decide) ?_
  have hP9 := hP.sub (ws' := [(m0, .inr (7, [.ref v, .ref a1, .ref a2, .int ik, .int th, .int en])), (v, .inl (cJ, 136800, .inr (.inl u131)))]) [0, 1] rfl
  have hD9 := hD.sub (ws' := [(m0, .inr (7, [.ref v, .ref a1, .ref a2, .int ik, .int th, .int en])), (v, .inl (cJ, 136800, .inr (.inl u131)))]) [0, 1] rfl rfl
  exact W.iret (v := nI 4) hx hb hr (fun t9 ht9 hW9 => ⟨⟨nI 4, u131, rfl, ⟨rfl, hu131⟩, by rw [ht9]; exact hP9, hD9⟩, hS.F ht9⟩) hS.2.2 dX7_happens_135

set_option maxHeartbeats 4000000 in
set_option maxRecDepth 100000 in
theorem c_X7_happens3 (l : Launch) (D : va_G) (cI cJ cM cG : ClassId) (m0 : Nat) (v : Nat) (a1 : Nat) (a2 : Nat) (ik : Int32) (th : Int32) (en : Int32) (f : Nat → Int64) (o : Nat) (d : Nat) (N : Nat) (z : Nat) (T9 : Nat) (k : Nat) (U : Nat) (sz : Nat) (ho : o < 10) (hd : d < 10) (hN : N ≤ 10) (hk : k < 60) (hz : z < 2 ^ 40) (hU : U < 2 ^ 40) (hTU : T9 ≤ U) (hM : mS f N o d z T9 10 1 k) : Met l yX7_happens (Cond.code yX7_happens cX7_happens 11 (some .int) :: kBig) ({ frames := 5, cells := 0, slots := 0, locals := 127 }) (va_Pc [.ref m0, .long (lN U)] (kP D [(cI, .int), (cJ, .long), (cM, .object "MeshRouting$Message"), (cG, .array .int)] [(m0, .inr (7, [.ref v, .ref a1, .ref a2, .int ik, .int th, .int en])), (v, .inl (cJ, 136800, .inr (.inl f)))] sz)) (va_Qi (fun (r : Int32) (u : Nat → Int64) => r = nI 4 ∧ (mS u N o d T9 (T9 + 20 * (10 + 1)) 10 2 (k + 1))) (fun u t9 => kB D (va_A [(m0, .inr (7, [.ref v, .ref a1, .ref a2, .int ik, .int th, .int en])), (v, .inl (cJ, 136800, .inr (.inl f)))] sz) [(m0, .inr (7, [.ref v, .ref a1, .ref a2, .int ik, .int th, .int en])), (v, .inl (cJ, 136800, .inr (.inl u)))] t9) (va_A [(m0, .inr (7, [.ref v, .ref a1, .ref a2, .int ik, .int th, .int en])), (v, .inl (cJ, 136800, .inr (.inl f)))] sz)) 0 0 (va_A [(m0, .inr (7, [.ref v, .ref a1, .ref a2, .int ik, .int th, .int en])), (v, .inl (cJ, 136800, .inr (.inl f)))] sz) := by
  refine Met.ofW (cc := cX7_happens) (maxL := 11) (ret := (some .int)) (by decide) rfl ?_
  intro p e s m args below meth c s₁ B hml hv
  obtain ⟨rfl, hsz, hP, hK, hD0, hKN⟩ := hv
  have hx := B.exec
  have hb := B.bytes
  have hr := B.returns
  have hts := atoms_spec (ws := (Cond.code yX7_happens cX7_happens 11 (some .int) :: kBig)) B.pre
  have hown : s.vm.findClass RX7 = some m.cls := findClass_of_methodNamed B.named
  have hlocks := B.notSynchronized
  have hin7 : ∀ w ∈ u_ws RX7 TX7 6, w ∈ (Cond.code yX7_happens cX7_happens 11 (some .int) :: kBig) := fun w h => List.mem_cons_of_mem _ (inb7 w h)
  subst hsz
  have hD := hD0.self (sz := s.heap.size)
  generalize hAe : va_A [(m0, .inr (7, [.ref v, .ref a1, .ref a2, .int ik, .int th, .int en])), (v, .inl (cJ, 136800, .inr (.inl f)))] s.heap.size = A at hD ⊢
  have hA : ∀ q : Nat, s.heap.size ≤ q → A q := fun q h => by rw [← hAe]; exact Or.inr h
  have hS : va_S A s.heap s.heap [] := va_S.rf
  have hl := lv_entry ([.ref m0, .long (lN U)]) (n := 11) (Nat.le_of_ble_eq_true rfl)
  rw [lg_entry_eq]
  generalize (lg_sl ([.ref m0, .long (lN U)]) ++ List.replicate (11 - (lg_sl ([.ref m0, .long (lN U)])).length) Slot.unset).toArray = ls at hl ⊢
  have hl : lv_has ls 11 [(0, .ref m0), (1, .long (lN U))] := hl
  obtain ⟨y0, y1, y2, y3, y4, y5, y6, y7, y8, y9, y10, y11, y12, y13⟩ := id hM
  refine lv_aload_n hx hb dX7_happens_0 rfl (lv_at hl 0 rfl) ?_
  refine k_cl (wr := []) (w1 := [(m0, .inr (7, [.ref v, .ref a1, .ref a2, .int ik, .int th, .int en])), (v, .inl (cJ, 136800, .inr (.inl f)))]) (va_runV (As := []) (rest := []) ⟨hx, hb, hml, hown, hts⟩ (c_X7_nextArrival l D cI cJ cM cG m0 v a1 a2 ik th en f z s.heap.size (y0) (hz) (y2)) (cwV 0 hts (kB_V (fun _ => List.mem_cons_of_mem _) q_815 q_816 q_817 q_670 (kB_c q_818)) rfl rfl rfl (by decide +kernel) ⟨Nat.le_of_ble_eq_true rfl, Nat.le_of_ble_eq_true rfl⟩) (k_preV (T := TX7) hP hD hK hKN [0, 1] rfl rfl (ci := 7) rfl (q0 := 0) rfl) rfl rfl hl.1 rfl (lv_room (Nat.le_of_ble_eq_true rfl)) dX7_happens_1 ⟨Nat.le_of_ble_eq_true rfl, Nat.le_of_ble_eq_true rfl⟩) hP hD hS hA [0, 1] [] rfl rfl rfl (by decide) (fun r1 H locs hw1 hP hD hS => ?_)
  replace hP : va_P D vwCl [(m0, .inr (7, [.ref v, .ref a1, .ref a2, .int ik, .int th, .int en])), (v, .inl (cJ, 136800, .inr (.inl f)))] H := hP
  replace hD : va_D A [(m0, .inr (7, [.ref v, .ref a1, .ref a2, .int ik, .int th, .int en])), (v, .inl (cJ, 136800, .inr (.inl f)))] := hD
  replace hw1 : r1 = (-1) := hw1
  refine k_tl hw1 ?_
  refine lv_lstore_n (lv' := [(3, .long (-1)), (0, .ref m0), (1, .long (lN U))]) hx hb dX7_happens_4 rfl hl (by decide) rfl (fun ls hl => ?_)
  refine lv_aload_n hx hb dX7_happens_5 rfl (lv_at hl 1 rfl) ?_
  refine k_ci (wr := []) (w1 := [(m0, .inr (7, [.ref v, .ref a1, .ref a2, .int ik, .int th, .int en])), (v, .inl (cJ, 136800, .inr (.inl f)))]) (va_runV (As := []) (rest := []) ⟨hx, hb, hml, hown, hts⟩ (c_X7_nextTimeout1 l D cI cJ cM cG m0 v a1 a2 ik th en f (10 * o + d) H.size (by omega) (y6) (y7)) (cwV 0 hts (kB_V (fun _ => List.mem_cons_of_mem _) q_819 q_820 q_821 q_670 (kB_c q_822)) rfl rfl rfl (by decide +kernel) ⟨Nat.le_of_ble_eq_true rfl, Nat.le_of_ble_eq_true rfl⟩) (k_preV (T := TX7) hP hD hK hKN [0, 1] rfl rfl (ci := 7) rfl (q0 := 0) rfl) rfl rfl hl.1 rfl (lv_room (Nat.le_of_ble_eq_true rfl)) dX7_happens_6 ⟨Nat.le_of_ble_eq_true rfl, Nat.le_of_ble_eq_true rfl⟩) hP hD hS hA [0, 1] [] rfl rfl rfl (by decide) (fun r6 H locs hw6 hP hD hS => ?_)
  replace hP : va_P D vwCl [(m0, .inr (7, [.ref v, .ref a1, .ref a2, .int ik, .int th, .int en])), (v, .inl (cJ, 136800, .inr (.inl f)))] H := hP
  replace hD : va_D A [(m0, .inr (7, [.ref v, .ref a1, .ref a2, .int ik, .int th, .int en])), (v, .inl (cJ, 136800, .inr (.inl f)))] := hD
  replace hw6 : r6 = nI (10 * o + d) := hw6
  refine k_ti hw6 ?_
  refine lv_istore (lv' := [(5, .int (nI (10 * o + d))), (3, .long (-1)), (0, .ref m0), (1, .long (lN U))]) hx hb dX7_happens_9 hl (by decide) rfl (fun ls hl => ?_)
  refine lv_iload hx hb dX7_happens_11 (lv_at hl 0 rfl) ?_
  refine k_if_ge (tgt := 22) hx hb dX7_happens_13 (by decide) (by omega) (fun _ => ?_) (fun h9 => absurd h9 (by omega))
  refine lv_aload_n hx hb dX7_happens_22 rfl (lv_at hl 2 rfl) ?_
  refine va_get (D := D) (ci := 7) (v := .ref v) (C := RX7) (T := TX7) (N := 6) hx hb hts hin7 hown hK hP 0 rfl rfl 0 (by decide) (hts (.fieldLink RX7 8 "MeshRoutingModel" "v" "[J") (List.mem_cons_of_mem _ q_665)) (fun _ h9 => h9) rfl dX7_happens_23 ?_
  refine lv_sipush (v := nI 1000) hx hb dX7_happens_26 (by decide) ?_
  refine lv_iconst (v := nI 4) hx hb dX7_happens_29 (by decide) ?_
  refine lv_iload hx hb dX7_happens_30 (lv_at hl 0 rfl) ?_
  refine lv_imul hx hb dX7_happens_32 ?_
  refine k_ti (show ((nI 4) * (nI (10 * o + d))) = (nI (4 * (10 * o + d))) from pk_mul _ _) ?_
  refine lv_iadd hx hb dX7_happens_33 ?_
  refine k_ti (show ((nI 1000) + (nI (4 * (10 * o + d)))) = (nI (1000 + 4 * (10 * o + d))) from nI_add _ _) ?_
  refine lv_iconst (v := nI 1) hx hb dX7_happens_34 (by decide) ?_
  refine lv_iadd hx hb dX7_happens_35 ?_
  refine k_ti (show ((nI (1000 + 4 * (10 * o + d))) + (nI 1)) = (nI (1000 + 4 * (10 * o + d) + 1)) from nI_add _ _) ?_
  refine k_lald (v := lN T9) hx hb hK hP 1 1 rfl rfl (by omega) (by omega) (y8) dX7_happens_36 ?_
  refine lv_lstore (lv' := [(6, .long (lN T9)), (5, .int (nI (10 * o + d))), (3, .long (-1)), (0, .ref m0), (1, .long (lN U))]) hx hb dX7_happens_37 hl (by decide) rfl (fun ls hl => ?_)
  refine lv_lload_n hx hb dX7_happens_39 rfl (lv_at hl 2 rfl) ?_
  refine lv_lconst (v := lN 0) hx hb dX7_happens_40 (by decide) ?_
  refine W.lcmp hx hb dX7_happens_41 ?_
  refine lv_if_lt (tgt := 63) hx hb dX7_happens_42 (by decide) (fun _ => ?_) (fun h9 => absurd (by decide) h9)
  refine lv_iconst (v := nI 0) hx hb dX7_happens_63 (by decide) ?_
  refine lv_istore (lv' := [(8, .int (nI 0)), (6, .long (lN T9)), (5, .int (nI (10 * o + d))), (3, .long (-1)), (0, .ref m0), (1, .long (lN U))]) hx hb dX7_happens_64 hl (by decide) rfl (fun ls hl => ?_)
  refine lv_iload hx hb dX7_happens_66 (lv_at hl 0 rfl) ?_
  refine k_if_eq (tgt := 75) hx hb dX7_happens_68 (by decide) (by omega) (fun _ => ?_) (fun h9 => absurd h9 (by omega))
  refine lv_lload hx hb dX7_happens_75 (lv_at hl 1 rfl) ?_
  refine lv_lstore (lv' := [(9, .long (lN T9)), (8, .int (nI 0)), (6, .long (lN T9)), (5, .int (nI (10 * o + d))), (3, .long (-1)), (0, .ref m0), (1, .long (lN U))]) hx hb dX7_happens_77 hl (by decide) rfl (fun ls hl => ?_)
  refine lv_lload hx hb dX7_happens_79 (lv_at hl 0 rfl) ?_
  refine lv_lconst (v := lN 0) hx hb dX7_happens_81 (by decide) ?_
  refine W.lcmp hx hb dX7_happens_82 ?_
  refine k_lif_lt (tgt := 93) hx hb dX7_happens_83 (by decide) (by omega) (by omega) (fun h9 => absurd h9 (by omega)) (fun _ => ?_)
  refine lv_lload hx hb dX7_happens_86 (lv_at hl 0 rfl) ?_
  refine lv_lload_n hx hb dX7_happens_88 rfl (lv_at hl 6 rfl) ?_
  refine W.lcmp hx hb dX7_happens_89 ?_
  refine k_lif_le (tgt := 95) hx hb dX7_happens_90 (by decide) (by omega) (by omega) (fun _ => ?_) (fun h9 => absurd h9 (by omega))
  refine lv_aload_n hx hb dX7_happens_95 rfl (lv_at hl 5 rfl) ?_
  refine va_get (D := D) (ci := 7) (v := .ref v) (C := RX7) (T := TX7) (N := 6) hx hb hts hin7 hown hK hP 0 rfl rfl 0 (by decide) (hts (.fieldLink RX7 8 "MeshRoutingModel" "v" "[J") (List.mem_cons_of_mem _ q_665)) (fun _ h9 => h9) rfl dX7_happens_96 ?_
  refine lv_iconst (v := nI 0) hx hb dX7_happens_99 (by decide) ?_
  refine lv_lload hx hb dX7_happens_100 (lv_at hl 0 rfl) ?_
  refine k_last (f' := vp_updL f 0 (lN T9)) hx hb hK hP hD hS 1 1 rfl rfl (by omega) (by omega) (rfl) dX7_happens_102 (fun H locs hP hD hS => ?_)
  replace hP : va_P D vwCl [(m0, .inr (7, [.ref v, .ref a1, .ref a2, .int ik, .int th, .int en])), (v, .inl (cJ, 136800, .inr (.inl (vp_updL f 0 (lN T9)))))] H := hP
  replace hD : va_D A [(m0, .inr (7, [.ref v, .ref a1, .ref a2, .int ik, .int th, .int en])), (v, .inl (cJ, 136800, .inr (.inl (vp_updL f 0 (lN T9)))))] := hD
  refine lv_iload hx hb dX7_happens_103 (lv_at hl 1 rfl) ?_
  refine k_if_eq (tgt := 120) hx hb dX7_happens_105 (by decide) (by omega) (fun _ => ?_) (fun h9 => absurd h9 (by omega))
  refine lv_aload_n hx hb dX7_happens_120 rfl (lv_at hl 5 rfl) ?_
  refine lv_iload hx hb dX7_happens_121 (lv_at hl 3 rfl) ?_
  refine lv_bipush (v := nI 10) hx hb dX7_happens_123 (by decide) ?_
  refine lv_idiv hx hb dX7_happens_125 (by decide) ?_
  refine k_ti (show ((nI (10 * o + d)) / (nI 10)) = (nI o) from (k_c10' ho hd).1) ?_
  refine lv_iload hx hb dX7_happens_126 (lv_at hl 3 rfl) ?_
  refine lv_bipush (v := nI 10) hx hb dX7_happens_128 (by decide) ?_
  refine lv_irem hx hb dX7_happens_130 (by decide) ?_
  refine k_ti (show ((nI (10 * o + d)) - (nI (10 * o + d)) / (nI 10) * (nI 10)) = (nI d) from (k_c10' ho hd).2) ?_
  refine k_cV (wr := []) (w1 := fun u => [(m0, .inr (7, [.ref v, .ref a1, .ref a2, .int ik, .int th, .int en])), (v, .inl (cJ, 136800, .inr (.inl u)))]) (va_runV (As := [.int (nI o), .int (nI d)]) (rest := []) ⟨hx, hb, hml, hown, hts⟩ (c_X7_timesOut3 l D cI cJ cM cG m0 v a1 a2 ik th en (vp_updL f 0 (lN T9)) o d N T9 k H.size (ho) (hd) (hN) (hk) (by omega) (mS_time ho hd hM)) (cwV 2 hts (kB_V (fun _ => List.mem_cons_of_mem _) q_864 q_865 q_866 q_670 (kB_c q_867)) rfl rfl rfl (by decide +kernel) ⟨Nat.le_of_ble_eq_true rfl, Nat.le_of_ble_eq_true rfl⟩) (k_preV (T := TX7) hP hD hK hKN [0, 1] rfl rfl (ci := 7) rfl (q0 := 0) rfl) rfl rfl hl.1 rfl (lv_room (Nat.le_of_ble_eq_true rfl)) dX7_happens_131 ⟨Nat.le_of_ble_eq_true rfl, Nat.le_of_ble_eq_true rfl⟩) hP hD hS hA [0, 1] [] rfl rfl rfl (by decide) (fun u131 H locs hw131 hP hD hS => ?_)
  replace hP : va_P D vwCl [(m0, .inr (7, [.ref v, .ref a1, .ref a2, .int ik, .int th, .int en])), (v, .inl (cJ, 136800, .inr (.inl u131)))] H := hP
  replace hD : va_D A [(m0, .inr (7, [.ref v, .ref a1, .ref a2, .int ik, .int th, .int en])), (v, .inl (cJ, 136800, .inr (.inl u131)))] := hD
  have hu131 := hw131
  refine lv_iconst (v := nI 4) hx hb dX7_happens_134 (by decide) ?_
  have hP9 := hP.sub (ws' := [(m0, .inr (7, [.ref v, .ref a1, .ref a2, .int ik, .int th, .int en])), (v, .inl (cJ, 136800, .inr (.inl u131)))]) [0, 1] rfl
  have hD9 := hD.sub (ws' := [(m0, .inr (7, [.ref v, .ref a1, .ref a2, .int ik, .int th, .int en])), (v, .inl (cJ, 136800, .inr (.inl u131)))]) [0, 1] rfl rfl
  exact W.iret (v := nI 4) hx hb hr (fun t9 ht9 hW9 => ⟨⟨nI 4, u131, rfl, ⟨rfl, hu131⟩, by rw [ht9]; exact hP9, hD9⟩, hS.F ht9⟩) hS.2.2 dX7_happens_135

set_option maxHeartbeats 4000000 in
set_option maxRecDepth 100000 in
theorem c_X7_happens4 (l : Launch) (D : va_G) (cI cJ cM cG : ClassId) (m0 : Nat) (v : Nat) (a1 : Nat) (a2 : Nat) (ik : Int32) (th : Int32) (en : Int32) (f : Nat → Int64) (o : Nat) (d : Nat) (N : Nat) (z : Nat) (T9 : Nat) (k : Nat) (U : Nat) (sz : Nat) (ho : o < 10) (hd : d < 10) (hN : N ≤ 10) (hk : k < 60) (hz : z < 2 ^ 40) (hU : U < 2 ^ 40) (hTU : T9 ≤ U) (hM : mS f N o d z T9 10 2 k) : Met l yX7_happens (Cond.code yX7_happens cX7_happens 11 (some .int) :: kBig) ({ frames := 4, cells := 0, slots := 0, locals := 98 }) (va_Pc [.ref m0, .long (lN U)] (kP D [(cI, .int), (cJ, .long), (cM, .object "MeshRouting$Message"), (cG, .array .int)] [(m0, .inr (7, [.ref v, .ref a1, .ref a2, .int ik, .int th, .int en])), (v, .inl (cJ, 136800, .inr (.inl f)))] sz)) (va_Qi (fun (r : Int32) (u : Nat → Int64) => r = nI 4 ∧ (mE u N T9)) (fun u t9 => kB D (va_A [(m0, .inr (7, [.ref v, .ref a1, .ref a2, .int ik, .int th, .int en])), (v, .inl (cJ, 136800, .inr (.inl f)))] sz) [(m0, .inr (7, [.ref v, .ref a1, .ref a2, .int ik, .int th, .int en])), (v, .inl (cJ, 136800, .inr (.inl u)))] t9) (va_A [(m0, .inr (7, [.ref v, .ref a1, .ref a2, .int ik, .int th, .int en])), (v, .inl (cJ, 136800, .inr (.inl f)))] sz)) 0 0 (va_A [(m0, .inr (7, [.ref v, .ref a1, .ref a2, .int ik, .int th, .int en])), (v, .inl (cJ, 136800, .inr (.inl f)))] sz) := by
  refine Met.ofW (cc := cX7_happens) (maxL := 11) (ret := (some .int)) (by decide) rfl ?_
  intro p e s m args below meth c s₁ B hml hv
  obtain ⟨rfl, hsz, hP, hK, hD0, hKN⟩ := hv
  have hx := B.exec
  have hb := B.bytes
  have hr := B.returns
  have hts := atoms_spec (ws := (Cond.code yX7_happens cX7_happens 11 (some .int) :: kBig)) B.pre
  have hown : s.vm.findClass RX7 = some m.cls := findClass_of_methodNamed B.named
  have hlocks := B.notSynchronized
  have hin7 : ∀ w ∈ u_ws RX7 TX7 6, w ∈ (Cond.code yX7_happens cX7_happens 11 (some .int) :: kBig) := fun w h => List.mem_cons_of_mem _ (inb7 w h)
  subst hsz
  have hD := hD0.self (sz := s.heap.size)
  generalize hAe : va_A [(m0, .inr (7, [.ref v, .ref a1, .ref a2, .int ik, .int th, .int en])), (v, .inl (cJ, 136800, .inr (.inl f)))] s.heap.size = A at hD ⊢
  have hA : ∀ q : Nat, s.heap.size ≤ q → A q := fun q h => by rw [← hAe]; exact Or.inr h
  have hS : va_S A s.heap s.heap [] := va_S.rf
  have hl := lv_entry ([.ref m0, .long (lN U)]) (n := 11) (Nat.le_of_ble_eq_true rfl)
  rw [lg_entry_eq]
  generalize (lg_sl ([.ref m0, .long (lN U)]) ++ List.replicate (11 - (lg_sl ([.ref m0, .long (lN U)])).length) Slot.unset).toArray = ls at hl ⊢
  have hl : lv_has ls 11 [(0, .ref m0), (1, .long (lN U))] := hl
  obtain ⟨y0, y1, y2, y3, y4, y5, y6, y7, y8, y9, y10, y11, y12, y13⟩ := id hM
  refine lv_aload_n hx hb dX7_happens_0 rfl (lv_at hl 0 rfl) ?_
  refine k_cl (wr := []) (w1 := [(m0, .inr (7, [.ref v, .ref a1, .ref a2, .int ik, .int th, .int en])), (v, .inl (cJ, 136800, .inr (.inl f)))]) (va_runV (As := []) (rest := []) ⟨hx, hb, hml, hown, hts⟩ (c_X7_nextArrival l D cI cJ cM cG m0 v a1 a2 ik th en f z s.heap.size (y0) (hz) (y2)) (cwV 0 hts (kB_V (fun _ => List.mem_cons_of_mem _) q_815 q_816 q_817 q_670 (kB_c q_818)) rfl rfl rfl (by decide +kernel) ⟨Nat.le_of_ble_eq_true rfl, Nat.le_of_ble_eq_true rfl⟩) (k_preV (T := TX7) hP hD hK hKN [0, 1] rfl rfl (ci := 7) rfl (q0 := 0) rfl) rfl rfl hl.1 rfl (lv_room (Nat.le_of_ble_eq_true rfl)) dX7_happens_1 ⟨Nat.le_of_ble_eq_true rfl, Nat.le_of_ble_eq_true rfl⟩) hP hD hS hA [0, 1] [] rfl rfl rfl (by decide) (fun r1 H locs hw1 hP hD hS => ?_)
  replace hP : va_P D vwCl [(m0, .inr (7, [.ref v, .ref a1, .ref a2, .int ik, .int th, .int en])), (v, .inl (cJ, 136800, .inr (.inl f)))] H := hP
  replace hD : va_D A [(m0, .inr (7, [.ref v, .ref a1, .ref a2, .int ik, .int th, .int en])), (v, .inl (cJ, 136800, .inr (.inl f)))] := hD
  replace hw1 : r1 = (-1) := hw1
  refine k_tl hw1 ?_
  refine lv_lstore_n (lv' := [(3, .long (-1)), (0, .ref m0), (1, .long (lN U))]) hx hb dX7_happens_4 rfl hl (by decide) rfl (fun ls hl => ?_)
  refine lv_aload_n hx hb dX7_happens_5 rfl (lv_at hl 1 rfl) ?_
  refine k_ci (wr := []) (w1 := [(m0, .inr (7, [.ref v, .ref a1, .ref a2, .int ik, .int th, .int en])), (v, .inl (cJ, 136800, .inr (.inl f)))]) (va_runV (As := []) (rest := []) ⟨hx, hb, hml, hown, hts⟩ (c_X7_nextTimeout1 l D cI cJ cM cG m0 v a1 a2 ik th en f (10 * o + d) H.size (by omega) (y6) (y7)) (cwV 0 hts (kB_V (fun _ => List.mem_cons_of_mem _) q_819 q_820 q_821 q_670 (kB_c q_822)) rfl rfl rfl (by decide +kernel) ⟨Nat.le_of_ble_eq_true rfl, Nat.le_of_ble_eq_true rfl⟩) (k_preV (T := TX7) hP hD hK hKN [0, 1] rfl rfl (ci := 7) rfl (q0 := 0) rfl) rfl rfl hl.1 rfl (lv_room (Nat.le_of_ble_eq_true rfl)) dX7_happens_6 ⟨Nat.le_of_ble_eq_true rfl, Nat.le_of_ble_eq_true rfl⟩) hP hD hS hA [0, 1] [] rfl rfl rfl (by decide) (fun r6 H locs hw6 hP hD hS => ?_)
  replace hP : va_P D vwCl [(m0, .inr (7, [.ref v, .ref a1, .ref a2, .int ik, .int th, .int en])), (v, .inl (cJ, 136800, .inr (.inl f)))] H := hP
  replace hD : va_D A [(m0, .inr (7, [.ref v, .ref a1, .ref a2, .int ik, .int th, .int en])), (v, .inl (cJ, 136800, .inr (.inl f)))] := hD
  replace hw6 : r6 = nI (10 * o + d) := hw6
  refine k_ti hw6 ?_
  refine lv_istore (lv' := [(5, .int (nI (10 * o + d))), (3, .long (-1)), (0, .ref m0), (1, .long (lN U))]) hx hb dX7_happens_9 hl (by decide) rfl (fun ls hl => ?_)
  refine lv_iload hx hb dX7_happens_11 (lv_at hl 0 rfl) ?_
  refine k_if_ge (tgt := 22) hx hb dX7_happens_13 (by decide) (by omega) (fun _ => ?_) (fun h9 => absurd h9 (by omega))
  refine lv_aload_n hx hb dX7_happens_22 rfl (lv_at hl 2 rfl) ?_
  refine va_get (D := D) (ci := 7) (v := .ref v) (C := RX7) (T := TX7) (N := 6) hx hb hts hin7 hown hK hP 0 rfl rfl 0 (by decide) (hts (.fieldLink RX7 8 "MeshRoutingModel" "v" "[J") (List.mem_cons_of_mem _ q_665)) (fun _ h9 => h9) rfl dX7_happens_23 ?_
  refine lv_sipush (v := nI 1000) hx hb dX7_happens_26 (by decide) ?_
  refine lv_iconst (v := nI 4) hx hb dX7_happens_29 (by decide) ?_
  refine lv_iload hx hb dX7_happens_30 (lv_at hl 0 rfl) ?_
  refine lv_imul hx hb dX7_happens_32 ?_
  refine k_ti (show ((nI 4) * (nI (10 * o + d))) = (nI (4 * (10 * o + d))) from pk_mul _ _) ?_
  refine lv_iadd hx hb dX7_happens_33 ?_
  refine k_ti (show ((nI 1000) + (nI (4 * (10 * o + d)))) = (nI (1000 + 4 * (10 * o + d))) from nI_add _ _) ?_
  refine lv_iconst (v := nI 1) hx hb dX7_happens_34 (by decide) ?_
  refine lv_iadd hx hb dX7_happens_35 ?_
  refine k_ti (show ((nI (1000 + 4 * (10 * o + d))) + (nI 1)) = (nI (1000 + 4 * (10 * o + d) + 1)) from nI_add _ _) ?_
  refine k_lald (v := lN T9) hx hb hK hP 1 1 rfl rfl (by omega) (by omega) (y8) dX7_happens_36 ?_
  refine lv_lstore (lv' := [(6, .long (lN T9)), (5, .int (nI (10 * o + d))), (3, .long (-1)), (0, .ref m0), (1, .long (lN U))]) hx hb dX7_happens_37 hl (by decide) rfl (fun ls hl => ?_)
  refine lv_lload_n hx hb dX7_happens_39 rfl (lv_at hl 2 rfl) ?_
  refine lv_lconst (v := lN 0) hx hb dX7_happens_40 (by decide) ?_
  refine W.lcmp hx hb dX7_happens_41 ?_
  refine lv_if_lt (tgt := 63) hx hb dX7_happens_42 (by decide) (fun _ => ?_) (fun h9 => absurd (by decide) h9)
  refine lv_iconst (v := nI 0) hx hb dX7_happens_63 (by decide) ?_
  refine lv_istore (lv' := [(8, .int (nI 0)), (6, .long (lN T9)), (5, .int (nI (10 * o + d))), (3, .long (-1)), (0, .ref m0), (1, .long (lN U))]) hx hb dX7_happens_64 hl (by decide) rfl (fun ls hl => ?_)
  refine lv_iload hx hb dX7_happens_66 (lv_at hl 0 rfl) ?_
  refine k_if_eq (tgt := 75) hx hb dX7_happens_68 (by decide) (by omega) (fun _ => ?_) (fun h9 => absurd h9 (by omega))
  refine lv_lload hx hb dX7_happens_75 (lv_at hl 1 rfl) ?_
  refine lv_lstore (lv' := [(9, .long (lN T9)), (8, .int (nI 0)), (6, .long (lN T9)), (5, .int (nI (10 * o + d))), (3, .long (-1)), (0, .ref m0), (1, .long (lN U))]) hx hb dX7_happens_77 hl (by decide) rfl (fun ls hl => ?_)
  refine lv_lload hx hb dX7_happens_79 (lv_at hl 0 rfl) ?_
  refine lv_lconst (v := lN 0) hx hb dX7_happens_81 (by decide) ?_
  refine W.lcmp hx hb dX7_happens_82 ?_
  refine k_lif_lt (tgt := 93) hx hb dX7_happens_83 (by decide) (by omega) (by omega) (fun h9 => absurd h9 (by omega)) (fun _ => ?_)
  refine lv_lload hx hb dX7_happens_86 (lv_at hl 0 rfl) ?_
  refine lv_lload_n hx hb dX7_happens_88 rfl (lv_at hl 6 rfl) ?_
  refine W.lcmp hx hb dX7_happens_89 ?_
  refine k_lif_le (tgt := 95) hx hb dX7_happens_90 (by decide) (by omega) (by omega) (fun _ => ?_) (fun h9 => absurd h9 (by omega))
  refine lv_aload_n hx hb dX7_happens_95 rfl (lv_at hl 5 rfl) ?_
  refine va_get (D := D) (ci := 7) (v := .ref v) (C := RX7) (T := TX7) (N := 6) hx hb hts hin7 hown hK hP 0 rfl rfl 0 (by decide) (hts (.fieldLink RX7 8 "MeshRoutingModel" "v" "[J") (List.mem_cons_of_mem _ q_665)) (fun _ h9 => h9) rfl dX7_happens_96 ?_
  refine lv_iconst (v := nI 0) hx hb dX7_happens_99 (by decide) ?_
  refine lv_lload hx hb dX7_happens_100 (lv_at hl 0 rfl) ?_
  refine k_last (f' := vp_updL f 0 (lN T9)) hx hb hK hP hD hS 1 1 rfl rfl (by omega) (by omega) (rfl) dX7_happens_102 (fun H locs hP hD hS => ?_)
  replace hP : va_P D vwCl [(m0, .inr (7, [.ref v, .ref a1, .ref a2, .int ik, .int th, .int en])), (v, .inl (cJ, 136800, .inr (.inl (vp_updL f 0 (lN T9)))))] H := hP
  replace hD : va_D A [(m0, .inr (7, [.ref v, .ref a1, .ref a2, .int ik, .int th, .int en])), (v, .inl (cJ, 136800, .inr (.inl (vp_updL f 0 (lN T9)))))] := hD
  refine lv_iload hx hb dX7_happens_103 (lv_at hl 1 rfl) ?_
  refine k_if_eq (tgt := 120) hx hb dX7_happens_105 (by decide) (by omega) (fun _ => ?_) (fun h9 => absurd h9 (by omega))
  refine lv_aload_n hx hb dX7_happens_120 rfl (lv_at hl 5 rfl) ?_
  refine lv_iload hx hb dX7_happens_121 (lv_at hl 3 rfl) ?_
  refine lv_bipush (v := nI 10) hx hb dX7_happens_123 (by decide) ?_
  refine lv_idiv hx hb dX7_happens_125 (by decide) ?_
  refine k_ti (show ((nI (10 * o + d)) / (nI 10)) = (nI o) from (k_c10' ho hd).1) ?_
  refine lv_iload hx hb dX7_happens_126 (lv_at hl 3 rfl) ?_
  refine lv_bipush (v := nI 10) hx hb dX7_happens_128 (by decide) ?_
  refine lv_irem hx hb dX7_happens_130 (by decide) ?_
  refine k_ti (show ((nI (10 * o + d)) - (nI (10 * o + d)) / (nI 10) * (nI 10)) = (nI d) from (k_c10' ho hd).2) ?_
  refine k_cV (wr := []) (w1 := fun u => [(m0, .inr (7, [.ref v, .ref a1, .ref a2, .int ik, .int th, .int en])), (v, .inl (cJ, 136800, .inr (.inl u)))]) (va_runV (As := [.int (nI o), .int (nI d)]) (rest := []) ⟨hx, hb, hml, hown, hts⟩ (c_X7_timesOut4 l D cI cJ cM cG m0 v a1 a2 ik th en (vp_updL f 0 (lN T9)) o d N T9 k H.size (ho) (hd) (mS_time ho hd hM)) (cwV 2 hts (kB_V (fun _ => List.mem_cons_of_mem _) q_864 q_865 q_866 q_670 (kB_c q_867)) rfl rfl rfl (by decide +kernel) ⟨Nat.le_of_ble_eq_true rfl, Nat.le_of_ble_eq_true rfl⟩) (k_preV (T := TX7) hP hD hK hKN [0, 1] rfl rfl (ci := 7) rfl (q0 := 0) rfl) rfl rfl hl.1 rfl (lv_room (Nat.le_of_ble_eq_true rfl)) dX7_happens_131 ⟨Nat.le_of_ble_eq_true rfl, Nat.le_of_ble_eq_true rfl⟩) hP hD hS hA [0, 1] [] rfl rfl rfl (by decide) (fun u131 H locs hw131 hP hD hS => ?_)
  replace hP : va_P D vwCl [(m0, .inr (7, [.ref v, .ref a1, .ref a2, .int ik, .int th, .int en])), (v, .inl (cJ, 136800, .inr (.inl u131)))] H := hP
  replace hD : va_D A [(m0, .inr (7, [.ref v, .ref a1, .ref a2, .int ik, .int th, .int en])), (v, .inl (cJ, 136800, .inr (.inl u131)))] := hD
  have hu131 := hw131
  refine lv_iconst (v := nI 4) hx hb dX7_happens_134 (by decide) ?_
  have hP9 := hP.sub (ws' := [(m0, .inr (7, [.ref v, .ref a1, .ref a2, .int ik, .int th, .int en])), (v, .inl (cJ, 136800, .inr (.inl u131)))]) [0, 1] rfl
  have hD9 := hD.sub (ws' := [(m0, .inr (7, [.ref v, .ref a1, .ref a2, .int ik, .int th, .int en])), (v, .inl (cJ, 136800, .inr (.inl u131)))]) [0, 1] rfl rfl
  exact W.iret (v := nI 4) hx hb hr (fun t9 ht9 hW9 => ⟨⟨nI 4, u131, rfl, ⟨rfl, hu131⟩, by rw [ht9]; exact hP9, hD9⟩, hS.F ht9⟩) hS.2.2 dX7_happens_135

set_option maxHeartbeats 4000000 in
set_option maxRecDepth 100000 in
theorem c_X7_happensN (l : Launch) (D : va_G) (cI cJ cM cG : ClassId) (m0 : Nat) (v : Nat) (a1 : Nat) (a2 : Nat) (ik : Int32) (th : Int32) (en : Int32) (f : Nat → Int64) (o : Nat) (d : Nat) (N : Nat) (z : Nat) (T9 : Nat) (k : Nat) (U : Nat) (r : Nat) (w9 : Nat) (sz : Nat) (ho : o < 10) (hd : d < 10) (hz : z < 2 ^ 40) (hT : T9 < 2 ^ 40) (hU : U < 2 ^ 40) (hTU : U < T9) (hM : mS f N o d z T9 r w9 k) : Met l yX7_happens (Cond.code yX7_happens cX7_happens 11 (some .int) :: kBig) ({ frames := 1, cells := 0, slots := 0, locals := 23 }) (va_Pc [.ref m0, .long (lN U)] (kP D [(cI, .int), (cJ, .long), (cM, .object "MeshRouting$Message"), (cG, .array .int)] [(m0, .inr (7, [.ref v, .ref a1, .ref a2, .int ik, .int th, .int en])), (v, .inl (cJ, 136800, .inr (.inl f)))] sz)) (va_Qi (fun (r : Int32) (_ : Unit) => r = (-1)) (fun _ t9 => kB D (va_A [(m0, .inr (7, [.ref v, .ref a1, .ref a2, .int ik, .int th, .int en])), (v, .inl (cJ, 136800, .inr (.inl f)))] sz) [(m0, .inr (7, [.ref v, .ref a1, .ref a2, .int ik, .int th, .int en])), (v, .inl (cJ, 136800, .inr (.inl f)))] t9) (va_A [(m0, .inr (7, [.ref v, .ref a1, .ref a2, .int ik, .int th, .int en])), (v, .inl (cJ, 136800, .inr (.inl f)))] sz)) 0 0 (va_A [(m0, .inr (7, [.ref v, .ref a1, .ref a2, .int ik, .int th, .int en])), (v, .inl (cJ, 136800, .inr (.inl f)))] sz) := by
  refine Met.ofW (cc := cX7_happens) (maxL := 11) (ret := (some .int)) (by decide) rfl ?_
  intro p e s m args below meth c s₁ B hml hv
  obtain ⟨rfl, hsz, hP, hK, hD0, hKN⟩ := hv
  have hx := B.exec
  have hb := B.bytes
  have hr := B.returns
  have hts := atoms_spec (ws := (Cond.code yX7_happens cX7_happens 11 (some .int) :: kBig)) B.pre
  have hown : s.vm.findClass RX7 = some m.cls := findClass_of_methodNamed B.named
  have hlocks := B.notSynchronized
  have hin7 : ∀ w ∈ u_ws RX7 TX7 6, w ∈ (Cond.code yX7_happens cX7_happens 11 (some .int) :: kBig) := fun w h => List.mem_cons_of_mem _ (inb7 w h)
  subst hsz
  have hD := hD0.self (sz := s.heap.size)
  generalize hAe : va_A [(m0, .inr (7, [.ref v, .ref a1, .ref a2, .int ik, .int th, .int en])), (v, .inl (cJ, 136800, .inr (.inl f)))] s.heap.size = A at hD ⊢
  have hA : ∀ q : Nat, s.heap.size ≤ q → A q := fun q h => by rw [← hAe]; exact Or.inr h
  have hS : va_S A s.heap s.heap [] := va_S.rf
  have hl := lv_entry ([.ref m0, .long (lN U)]) (n := 11) (Nat.le_of_ble_eq_true rfl)
  rw [lg_entry_eq]
  generalize (lg_sl ([.ref m0, .long (lN U)]) ++ List.replicate (11 - (lg_sl ([.ref m0, .long (lN U)])).length) Slot.unset).toArray = ls at hl ⊢
  have hl : lv_has ls 11 [(0, .ref m0), (1, .long (lN U))] := hl
  obtain ⟨y0, y1, y2, y3, y4, y5, y6, y7, y8, y9, y10, y11, y12, y13⟩ := id hM
  refine lv_aload_n hx hb dX7_happens_0 rfl (lv_at hl 0 rfl) ?_
  refine k_cl (wr := []) (w1 := [(m0, .inr (7, [.ref v, .ref a1, .ref a2, .int ik, .int th, .int en])), (v, .inl (cJ, 136800, .inr (.inl f)))]) (va_runV (As := []) (rest := []) ⟨hx, hb, hml, hown, hts⟩ (c_X7_nextArrival l D cI cJ cM cG m0 v a1 a2 ik th en f z s.heap.size (y0) (hz) (y2)) (cwV 0 hts (kB_V (fun _ => List.mem_cons_of_mem _) q_815 q_816 q_817 q_670 (kB_c q_818)) rfl rfl rfl (by decide +kernel) ⟨Nat.le_of_ble_eq_true rfl, Nat.le_of_ble_eq_true rfl⟩) (k_preV (T := TX7) hP hD hK hKN [0, 1] rfl rfl (ci := 7) rfl (q0 := 0) rfl) rfl rfl hl.1 rfl (lv_room (Nat.le_of_ble_eq_true rfl)) dX7_happens_1 ⟨Nat.le_of_ble_eq_true rfl, Nat.le_of_ble_eq_true rfl⟩) hP hD hS hA [0, 1] [] rfl rfl rfl (by decide) (fun r1 H locs hw1 hP hD hS => ?_)
  replace hP : va_P D vwCl [(m0, .inr (7, [.ref v, .ref a1, .ref a2, .int ik, .int th, .int en])), (v, .inl (cJ, 136800, .inr (.inl f)))] H := hP
  replace hD : va_D A [(m0, .inr (7, [.ref v, .ref a1, .ref a2, .int ik, .int th, .int en])), (v, .inl (cJ, 136800, .inr (.inl f)))] := hD
  replace hw1 : r1 = (-1) := hw1
  refine k_tl hw1 ?_
  refine lv_lstore_n (lv' := [(3, .long (-1)), (0, .ref m0), (1, .long (lN U))]) hx hb dX7_happens_4 rfl hl (by decide) rfl (fun ls hl => ?_)
  refine lv_aload_n hx hb dX7_happens_5 rfl (lv_at hl 1 rfl) ?_
  refine k_ci (wr := []) (w1 := [(m0, .inr (7, [.ref v, .ref a1, .ref a2, .int ik, .int th, .int en])), (v, .inl (cJ, 136800, .inr (.inl f)))]) (va_runV (As := []) (rest := []) ⟨hx, hb, hml, hown, hts⟩ (c_X7_nextTimeout1 l D cI cJ cM cG m0 v a1 a2 ik th en f (10 * o + d) H.size (by omega) (y6) (y7)) (cwV 0 hts (kB_V (fun _ => List.mem_cons_of_mem _) q_819 q_820 q_821 q_670 (kB_c q_822)) rfl rfl rfl (by decide +kernel) ⟨Nat.le_of_ble_eq_true rfl, Nat.le_of_ble_eq_true rfl⟩) (k_preV (T := TX7) hP hD hK hKN [0, 1] rfl rfl (ci := 7) rfl (q0 := 0) rfl) rfl rfl hl.1 rfl (lv_room (Nat.le_of_ble_eq_true rfl)) dX7_happens_6 ⟨Nat.le_of_ble_eq_true rfl, Nat.le_of_ble_eq_true rfl⟩) hP hD hS hA [0, 1] [] rfl rfl rfl (by decide) (fun r6 H locs hw6 hP hD hS => ?_)
  replace hP : va_P D vwCl [(m0, .inr (7, [.ref v, .ref a1, .ref a2, .int ik, .int th, .int en])), (v, .inl (cJ, 136800, .inr (.inl f)))] H := hP
  replace hD : va_D A [(m0, .inr (7, [.ref v, .ref a1, .ref a2, .int ik, .int th, .int en])), (v, .inl (cJ, 136800, .inr (.inl f)))] := hD
  replace hw6 : r6 = nI (10 * o + d) := hw6
  refine k_ti hw6 ?_
  refine lv_istore (lv' := [(5, .int (nI (10 * o + d))), (3, .long (-1)), (0, .ref m0), (1, .long (lN U))]) hx hb dX7_happens_9 hl (by decide) rfl (fun ls hl => ?_)
  refine lv_iload hx hb dX7_happens_11 (lv_at hl 0 rfl) ?_
  refine k_if_ge (tgt := 22) hx hb dX7_happens_13 (by decide) (by omega) (fun _ => ?_) (fun h9 => absurd h9 (by omega))
  refine lv_aload_n hx hb dX7_happens_22 rfl (lv_at hl 2 rfl) ?_
  refine va_get (D := D) (ci := 7) (v := .ref v) (C := RX7) (T := TX7) (N := 6) hx hb hts hin7 hown hK hP 0 rfl rfl 0 (by decide) (hts (.fieldLink RX7 8 "MeshRoutingModel" "v" "[J") (List.mem_cons_of_mem _ q_665)) (fun _ h9 => h9) rfl dX7_happens_23 ?_
  refine lv_sipush (v := nI 1000) hx hb dX7_happens_26 (by decide) ?_
  refine lv_iconst (v := nI 4) hx hb dX7_happens_29 (by decide) ?_
  refine lv_iload hx hb dX7_happens_30 (lv_at hl 0 rfl) ?_
  refine lv_imul hx hb dX7_happens_32 ?_
  refine k_ti (show ((nI 4) * (nI (10 * o + d))) = (nI (4 * (10 * o + d))) from pk_mul _ _) ?_
  refine lv_iadd hx hb dX7_happens_33 ?_
  refine k_ti (show ((nI 1000) + (nI (4 * (10 * o + d)))) = (nI (1000 + 4 * (10 * o + d))) from nI_add _ _) ?_
  refine lv_iconst (v := nI 1) hx hb dX7_happens_34 (by decide) ?_
  refine lv_iadd hx hb dX7_happens_35 ?_
  refine k_ti (show ((nI (1000 + 4 * (10 * o + d))) + (nI 1)) = (nI (1000 + 4 * (10 * o + d) + 1)) from nI_add _ _) ?_
  refine k_lald (v := lN T9) hx hb hK hP 1 1 rfl rfl (by omega) (by omega) (y8) dX7_happens_36 ?_
  refine lv_lstore (lv' := [(6, .long (lN T9)), (5, .int (nI (10 * o + d))), (3, .long (-1)), (0, .ref m0), (1, .long (lN U))]) hx hb dX7_happens_37 hl (by decide) rfl (fun ls hl => ?_)
  refine lv_lload_n hx hb dX7_happens_39 rfl (lv_at hl 2 rfl) ?_
  refine lv_lconst (v := lN 0) hx hb dX7_happens_40 (by decide) ?_
  refine W.lcmp hx hb dX7_happens_41 ?_
  refine lv_if_lt (tgt := 63) hx hb dX7_happens_42 (by decide) (fun _ => ?_) (fun h9 => absurd (by decide) h9)
  refine lv_iconst (v := nI 0) hx hb dX7_happens_63 (by decide) ?_
  refine lv_istore (lv' := [(8, .int (nI 0)), (6, .long (lN T9)), (5, .int (nI (10 * o + d))), (3, .long (-1)), (0, .ref m0), (1, .long (lN U))]) hx hb dX7_happens_64 hl (by decide) rfl (fun ls hl => ?_)
  refine lv_iload hx hb dX7_happens_66 (lv_at hl 0 rfl) ?_
  refine k_if_eq (tgt := 75) hx hb dX7_happens_68 (by decide) (by omega) (fun _ => ?_) (fun h9 => absurd h9 (by omega))
  refine lv_lload hx hb dX7_happens_75 (lv_at hl 1 rfl) ?_
  refine lv_lstore (lv' := [(9, .long (lN T9)), (8, .int (nI 0)), (6, .long (lN T9)), (5, .int (nI (10 * o + d))), (3, .long (-1)), (0, .ref m0), (1, .long (lN U))]) hx hb dX7_happens_77 hl (by decide) rfl (fun ls hl => ?_)
  refine lv_lload hx hb dX7_happens_79 (lv_at hl 0 rfl) ?_
  refine lv_lconst (v := lN 0) hx hb dX7_happens_81 (by decide) ?_
  refine W.lcmp hx hb dX7_happens_82 ?_
  refine k_lif_lt (tgt := 93) hx hb dX7_happens_83 (by decide) (by omega) (by omega) (fun h9 => absurd h9 (by omega)) (fun _ => ?_)
  refine lv_lload hx hb dX7_happens_86 (lv_at hl 0 rfl) ?_
  refine lv_lload_n hx hb dX7_happens_88 rfl (lv_at hl 6 rfl) ?_
  refine W.lcmp hx hb dX7_happens_89 ?_
  refine k_lif_le (tgt := 95) hx hb dX7_happens_90 (by decide) (by omega) (by omega) (fun h9 => absurd h9 (by omega)) (fun _ => ?_)
  refine lv_iconst (v := (-1)) hx hb dX7_happens_93 (by decide) ?_
  have hP9 := hP.sub (ws' := [(m0, .inr (7, [.ref v, .ref a1, .ref a2, .int ik, .int th, .int en])), (v, .inl (cJ, 136800, .inr (.inl f)))]) [0, 1] rfl
  have hD9 := hD.sub (ws' := [(m0, .inr (7, [.ref v, .ref a1, .ref a2, .int ik, .int th, .int en])), (v, .inl (cJ, 136800, .inr (.inl f)))]) [0, 1] rfl rfl
  exact W.iret (v := (-1)) hx hb hr (fun t9 ht9 hW9 => ⟨⟨(-1), (), rfl, rfl, by rw [ht9]; exact hP9, hD9⟩, hS.F ht9⟩) hS.2.2 dX7_happens_94

set_option maxHeartbeats 4000000 in
set_option maxRecDepth 100000 in
theorem c_X7_happensE (l : Launch) (D : va_G) (cI cJ cM cG : ClassId) (m0 : Nat) (v : Nat) (a1 : Nat) (a2 : Nat) (ik : Int32) (th : Int32) (en : Int32) (f : Nat → Int64) (z : Nat) (U : Int64) (sz : Nat) (h0 : f 0 = lN z) (hz : z < 2 ^ 40) (hl2 : ∀ j, 20 ≤ j → j < 40 → f j = -1) (hk0 : ∀ q, q < 100 → f (1000 + 4 * q) = lN 0) : Met l yX7_happens (Cond.code yX7_happens cX7_happens 11 (some .int) :: kBig) ({ frames := 1, cells := 0, slots := 0, locals := 23 }) (va_Pc [.ref m0, .long U] (kP D [(cI, .int), (cJ, .long), (cM, .object "MeshRouting$Message"), (cG, .array .int)] [(m0, .inr (7, [.ref v, .ref a1, .ref a2, .int ik, .int th, .int en])), (v, .inl (cJ, 136800, .inr (.inl f)))] sz)) (va_Qi (fun (r : Int32) (_ : Unit) => r = (-1)) (fun _ t9 => kB D (va_A [(m0, .inr (7, [.ref v, .ref a1, .ref a2, .int ik, .int th, .int en])), (v, .inl (cJ, 136800, .inr (.inl f)))] sz) [(m0, .inr (7, [.ref v, .ref a1, .ref a2, .int ik, .int th, .int en])), (v, .inl (cJ, 136800, .inr (.inl f)))] t9) (va_A [(m0, .inr (7, [.ref v, .ref a1, .ref a2, .int ik, .int th, .int en])), (v, .inl (cJ, 136800, .inr (.inl f)))] sz)) 0 0 (va_A [(m0, .inr (7, [.ref v, .ref a1, .ref a2, .int ik, .int th, .int en])), (v, .inl (cJ, 136800, .inr (.inl f)))] sz) := by
  refine Met.ofW (cc := cX7_happens) (maxL := 11) (ret := (some .int)) (by decide) rfl ?_
  intro p e s m args below meth c s₁ B hml hv
  obtain ⟨rfl, hsz, hP, hK, hD0, hKN⟩ := hv
  have hx := B.exec
  have hb := B.bytes
  have hr := B.returns
  have hts := atoms_spec (ws := (Cond.code yX7_happens cX7_happens 11 (some .int) :: kBig)) B.pre
  have hown : s.vm.findClass RX7 = some m.cls := findClass_of_methodNamed B.named
  have hlocks := B.notSynchronized
  subst hsz
  have hD := hD0.self (sz := s.heap.size)
  generalize hAe : va_A [(m0, .inr (7, [.ref v, .ref a1, .ref a2, .int ik, .int th, .int en])), (v, .inl (cJ, 136800, .inr (.inl f)))] s.heap.size = A at hD ⊢
  have hA : ∀ q : Nat, s.heap.size ≤ q → A q := fun q h => by rw [← hAe]; exact Or.inr h
  have hS : va_S A s.heap s.heap [] := va_S.rf
  have hl := lv_entry ([.ref m0, .long U]) (n := 11) (Nat.le_of_ble_eq_true rfl)
  rw [lg_entry_eq]
  generalize (lg_sl ([.ref m0, .long U]) ++ List.replicate (11 - (lg_sl ([.ref m0, .long U])).length) Slot.unset).toArray = ls at hl ⊢
  have hl : lv_has ls 11 [(0, .ref m0), (1, .long U)] := hl
  refine lv_aload_n hx hb dX7_happens_0 rfl (lv_at hl 0 rfl) ?_
  refine k_cl (wr := []) (w1 := [(m0, .inr (7, [.ref v, .ref a1, .ref a2, .int ik, .int th, .int en])), (v, .inl (cJ, 136800, .inr (.inl f)))]) (va_runV (As := []) (rest := []) ⟨hx, hb, hml, hown, hts⟩ (c_X7_nextArrival l D cI cJ cM cG m0 v a1 a2 ik th en f z s.heap.size (h0) (hz) (hl2)) (cwV 0 hts (kB_V (fun _ => List.mem_cons_of_mem _) q_815 q_816 q_817 q_670 (kB_c q_818)) rfl rfl rfl (by decide +kernel) ⟨Nat.le_of_ble_eq_true rfl, Nat.le_of_ble_eq_true rfl⟩) (k_preV (T := TX7) hP hD hK hKN [0, 1] rfl rfl (ci := 7) rfl (q0 := 0) rfl) rfl rfl hl.1 rfl (lv_room (Nat.le_of_ble_eq_true rfl)) dX7_happens_1 ⟨Nat.le_of_ble_eq_true rfl, Nat.le_of_ble_eq_true rfl⟩) hP hD hS hA [0, 1] [] rfl rfl rfl (by decide) (fun r1 H locs hw1 hP hD hS => ?_)
  replace hP : va_P D vwCl [(m0, .inr (7, [.ref v, .ref a1, .ref a2, .int ik, .int th, .int en])), (v, .inl (cJ, 136800, .inr (.inl f)))] H := hP
  replace hD : va_D A [(m0, .inr (7, [.ref v, .ref a1, .ref a2, .int ik, .int th, .int en])), (v, .inl (cJ, 136800, .inr (.inl f)))] := hD
  replace hw1 : r1 = (-1) := hw1
  refine k_tl hw1 ?_
  refine lv_lstore_n (lv' := [(3, .long (-1)), (0, .ref m0), (1, .long U)]) hx hb dX7_happens_4 rfl hl (by decide) rfl (fun ls hl => ?_)
  refine lv_aload_n hx hb dX7_happens_5 rfl (lv_at hl 1 rfl) ?_
  refine k_ci (wr := []) (w1 := [(m0, .inr (7, [.ref v, .ref a1, .ref a2, .int ik, .int th, .int en])), (v, .inl (cJ, 136800, .inr (.inl f)))]) (va_runV (As := []) (rest := []) ⟨hx, hb, hml, hown, hts⟩ (c_X7_nextTimeout0 l D cI cJ cM cG m0 v a1 a2 ik th en f H.size (hk0)) (cwV 0 hts (kB_V (fun _ => List.mem_cons_of_mem _) q_819 q_820 q_821 q_670 (kB_c q_822)) rfl rfl rfl (by decide +kernel) ⟨Nat.le_of_ble_eq_true rfl, Nat.le_of_ble_eq_true rfl⟩) (k_preV (T := TX7) hP hD hK hKN [0, 1] rfl rfl (ci := 7) rfl (q0 := 0) rfl) rfl rfl hl.1 rfl (lv_room (Nat.le_of_ble_eq_true rfl)) dX7_happens_6 ⟨Nat.le_of_ble_eq_true rfl, Nat.le_of_ble_eq_true rfl⟩) hP hD hS hA [0, 1] [] rfl rfl rfl (by decide) (fun r6 H locs hw6 hP hD hS => ?_)
  replace hP : va_P D vwCl [(m0, .inr (7, [.ref v, .ref a1, .ref a2, .int ik, .int th, .int en])), (v, .inl (cJ, 136800, .inr (.inl f)))] H := hP
  replace hD : va_D A [(m0, .inr (7, [.ref v, .ref a1, .ref a2, .int ik, .int th, .int en])), (v, .inl (cJ, 136800, .inr (.inl f)))] := hD
  replace hw6 : r6 = (-1) := hw6
  refine k_ti hw6 ?_
  refine lv_istore (lv' := [(5, .int (-1)), (3, .long (-1)), (0, .ref m0), (1, .long U)]) hx hb dX7_happens_9 hl (by decide) rfl (fun ls hl => ?_)
  refine lv_iload hx hb dX7_happens_11 (lv_at hl 0 rfl) ?_
  refine lv_if_ge (tgt := 22) hx hb dX7_happens_13 (by decide) (fun h9 => absurd h9 (by decide)) (fun _ => ?_)
  refine lv_ldc2 (v := -1) hx hb hown (by exact hts (.constantLong RX7 24 (-1)) (List.mem_cons_of_mem _ q_666)) dX7_happens_16 ?_
  refine k_tl (show (-1) = ((-1)) from by decide) ?_
  refine lv_goto (tgt := 37) hx hb dX7_happens_19 (by decide) ?_
  refine lv_lstore (lv' := [(6, .long (-1)), (5, .int (-1)), (3, .long (-1)), (0, .ref m0), (1, .long U)]) hx hb dX7_happens_37 hl (by decide) rfl (fun ls hl => ?_)
  refine lv_lload_n hx hb dX7_happens_39 rfl (lv_at hl 2 rfl) ?_
  refine lv_lconst (v := lN 0) hx hb dX7_happens_40 (by decide) ?_
  refine W.lcmp hx hb dX7_happens_41 ?_
  refine lv_if_lt (tgt := 63) hx hb dX7_happens_42 (by decide) (fun _ => ?_) (fun h9 => absurd (by decide) h9)
  refine lv_iconst (v := nI 0) hx hb dX7_happens_63 (by decide) ?_
  refine lv_istore (lv' := [(8, .int (nI 0)), (6, .long (-1)), (5, .int (-1)), (3, .long (-1)), (0, .ref m0), (1, .long U)]) hx hb dX7_happens_64 hl (by decide) rfl (fun ls hl => ?_)
  refine lv_iload hx hb dX7_happens_66 (lv_at hl 0 rfl) ?_
  refine k_if_eq (tgt := 75) hx hb dX7_happens_68 (by decide) (by omega) (fun _ => ?_) (fun h9 => absurd h9 (by omega))
  refine lv_lload hx hb dX7_happens_75 (lv_at hl 1 rfl) ?_
  refine lv_lstore (lv' := [(9, .long (-1)), (8, .int (nI 0)), (6, .long (-1)), (5, .int (-1)), (3, .long (-1)), (0, .ref m0), (1, .long U)]) hx hb dX7_happens_77 hl (by decide) rfl (fun ls hl => ?_)
  refine lv_lload hx hb dX7_happens_79 (lv_at hl 0 rfl) ?_
  refine lv_lconst (v := lN 0) hx hb dX7_happens_81 (by decide) ?_
  refine W.lcmp hx hb dX7_happens_82 ?_
  refine lv_if_lt (tgt := 93) hx hb dX7_happens_83 (by decide) (fun _ => ?_) (fun h9 => absurd (by decide) h9)
  refine lv_iconst (v := (-1)) hx hb dX7_happens_93 (by decide) ?_
  have hP9 := hP.sub (ws' := [(m0, .inr (7, [.ref v, .ref a1, .ref a2, .int ik, .int th, .int en])), (v, .inl (cJ, 136800, .inr (.inl f)))]) [0, 1] rfl
  have hD9 := hD.sub (ws' := [(m0, .inr (7, [.ref v, .ref a1, .ref a2, .int ik, .int th, .int en])), (v, .inl (cJ, 136800, .inr (.inl f)))]) [0, 1] rfl rfl
  exact W.iret (v := (-1)) hx hb hr (fun t9 ht9 hW9 => ⟨⟨(-1), (), rfl, rfl, by rw [ht9]; exact hP9, hD9⟩, hS.F ht9⟩) hS.2.2 dX7_happens_94

set_option maxHeartbeats 4000000 in
set_option maxRecDepth 100000 in
theorem c_X7_passes0 (l : Launch) (D : va_G) (cI cJ cM cG : ClassId) (m0 : Nat) (v : Nat) (a1 : Nat) (a2 : Nat) (ik : Int32) (th : Int32) (en : Int32) (f : Nat → Int64) (z : Nat) (U : Int64) (sz : Nat) (h0 : f 0 = lN z) (hz : z < 2 ^ 40) (hl2 : ∀ j, 20 ≤ j → j < 40 → f j = -1) (hk0 : ∀ q, q < 100 → f (1000 + 4 * q) = lN 0) : Met l yX7_passes (Cond.code yX7_passes cX7_passes 4 (some .int) :: kBig) ({ frames := 2, cells := 0, slots := 0, locals := 53 }) (va_Pc [.ref m0, .long U] (kP D [(cI, .int), (cJ, .long), (cM, .object "MeshRouting$Message"), (cG, .array .int)] [(m0, .inr (7, [.ref v, .ref a1, .ref a2, .int ik, .int th, .int en])), (v, .inl (cJ, 136800, .inr (.inl f)))] sz)) (va_Qi (fun (r : Int32) (_ : Unit) => r = nI 0) (fun _ t9 => kB D (va_A [(m0, .inr (7, [.ref v, .ref a1, .ref a2, .int ik, .int th, .int en])), (v, .inl (cJ, 136800, .inr (.inl f)))] sz) [(m0, .inr (7, [.ref v, .ref a1, .ref a2, .int ik, .int th, .int en])), (v, .inl (cJ, 136800, .inr (.inl (vp_updL f 0 U))))] t9) (va_A [(m0, .inr (7, [.ref v, .ref a1, .ref a2, .int ik, .int th, .int en])), (v, .inl (cJ, 136800, .inr (.inl f)))] sz)) 0 0 (va_A [(m0, .inr (7, [.ref v, .ref a1, .ref a2, .int ik, .int th, .int en])), (v, .inl (cJ, 136800, .inr (.inl f)))] sz) := by
  refine Met.ofW (cc := cX7_passes) (maxL := 4) (ret := (some .int)) (by decide) rfl ?_
  intro p e s m args below meth c s₁ B hml hv
  obtain ⟨rfl, hsz, hP, hK, hD0, hKN⟩ := hv
  have hx := B.exec
  have hb := B.bytes
  have hr := B.returns
  have hts := atoms_spec (ws := (Cond.code yX7_passes cX7_passes 4 (some .int) :: kBig)) B.pre
  have hown : s.vm.findClass RX7 = some m.cls := findClass_of_methodNamed B.named
  have hlocks := B.notSynchronized
  have hin7 : ∀ w ∈ u_ws RX7 TX7 6, w ∈ (Cond.code yX7_passes cX7_passes 4 (some .int) :: kBig) := fun w h => List.mem_cons_of_mem _ (inb7 w h)
  subst hsz
  have hD := hD0.self (sz := s.heap.size)
  generalize hAe : va_A [(m0, .inr (7, [.ref v, .ref a1, .ref a2, .int ik, .int th, .int en])), (v, .inl (cJ, 136800, .inr (.inl f)))] s.heap.size = A at hD ⊢
  have hA : ∀ q : Nat, s.heap.size ≤ q → A q := fun q h => by rw [← hAe]; exact Or.inr h
  have hS : va_S A s.heap s.heap [] := va_S.rf
  have hl := lv_entry ([.ref m0, .long U]) (n := 4) (Nat.le_of_ble_eq_true rfl)
  rw [lg_entry_eq]
  generalize (lg_sl ([.ref m0, .long U]) ++ List.replicate (4 - (lg_sl ([.ref m0, .long U])).length) Slot.unset).toArray = ls at hl ⊢
  have hl : lv_has ls 4 [(0, .ref m0), (1, .long U)] := hl
  refine lv_iconst (v := nI 0) hx hb dX7_passes_0 (by decide) ?_
  refine lv_istore_n (lv' := [(3, .int (nI 0)), (0, .ref m0), (1, .long U)]) hx hb dX7_passes_1 rfl hl (by decide) rfl (fun ls hl => ?_)
  refine lv_aload_n hx hb dX7_passes_2 rfl (lv_at hl 1 rfl) ?_
  refine lv_lload_n hx hb dX7_passes_3 rfl (lv_at hl 2 rfl) ?_
  refine k_ci (wr := []) (w1 := [(m0, .inr (7, [.ref v, .ref a1, .ref a2, .int ik, .int th, .int en])), (v, .inl (cJ, 136800, .inr (.inl f)))]) (va_runV (As := [.long U]) (rest := []) ⟨hx, hb, hml, hown, hts⟩ (c_X7_happensE l D cI cJ cM cG m0 v a1 a2 ik th en f z U s.heap.size (h0) (hz) (hl2) (hk0)) (cwV 1 hts (kB_V (fun _ => List.mem_cons_of_mem _) q_811 q_812 q_813 q_670 (kB_c q_814)) rfl rfl rfl (by decide +kernel) ⟨Nat.le_of_ble_eq_true rfl, Nat.le_of_ble_eq_true rfl⟩) (k_preV (T := TX7) hP hD hK hKN [0, 1] rfl rfl (ci := 7) rfl (q0 := 0) rfl) rfl rfl hl.1 rfl (lv_room (Nat.le_of_ble_eq_true rfl)) dX7_passes_4 ⟨Nat.le_of_ble_eq_true rfl, Nat.le_of_ble_eq_true rfl⟩) hP hD hS hA [0, 1] [] rfl rfl rfl (by decide) (fun r4 H locs hw4 hP hD hS => ?_)
  replace hP : va_P D vwCl [(m0, .inr (7, [.ref v, .ref a1, .ref a2, .int ik, .int th, .int en])), (v, .inl (cJ, 136800, .inr (.inl f)))] H := hP
  replace hD : va_D A [(m0, .inr (7, [.ref v, .ref a1, .ref a2, .int ik, .int th, .int en])), (v, .inl (cJ, 136800, .inr (.inl f)))] := hD
  replace hw4 : r4 = (-1) := hw4
  refine k_ti hw4 ?_
  refine lv_if_lt (tgt := 16) hx hb dX7_passes_7 (by decide) (fun _ => ?_) (fun h9 => absurd (by decide) h9)
  refine lv_aload_n hx hb dX7_passes_16 rfl (lv_at hl 1 rfl) ?_
  refine va_get (D := D) (ci := 7) (v := .ref v) (C := RX7) (T := TX7) (N := 6) hx hb hts hin7 hown hK hP 0 rfl rfl 0 (by decide) (hts (.fieldLink RX7 8 "MeshRoutingModel" "v" "[J") (List.mem_cons_of_mem _ q_665)) (fun _ h9 => h9) rfl dX7_passes_17 ?_
  refine lv_iconst (v := nI 0) hx hb dX7_passes_20 (by decide) ?_
  refine lv_lload_n hx hb dX7_passes_21 rfl (lv_at hl 2 rfl) ?_
  refine k_last (f' := (vp_updL f 0 U)) hx hb hK hP hD hS 1 1 rfl rfl (by omega) (by omega) (rfl) dX7_passes_22 (fun H locs hP hD hS => ?_)
  replace hP : va_P D vwCl [(m0, .inr (7, [.ref v, .ref a1, .ref a2, .int ik, .int th, .int en])), (v, .inl (cJ, 136800, .inr (.inl (vp_updL f 0 U))))] H := hP
  replace hD : va_D A [(m0, .inr (7, [.ref v, .ref a1, .ref a2, .int ik, .int th, .int en])), (v, .inl (cJ, 136800, .inr (.inl (vp_updL f 0 U))))] := hD
  refine lv_iload_n hx hb dX7_passes_23 rfl (lv_at hl 0 rfl) ?_
  have hP9 := hP.sub (ws' := [(m0, .inr (7, [.ref v, .ref a1, .ref a2, .int ik, .int th, .int en])), (v, .inl (cJ, 136800, .inr (.inl (vp_updL f 0 U))))]) [0, 1] rfl
  have hD9 := hD.sub (ws' := [(m0, .inr (7, [.ref v, .ref a1, .ref a2, .int ik, .int th, .int en])), (v, .inl (cJ, 136800, .inr (.inl (vp_updL f 0 U))))]) [0, 1] rfl rfl
  exact W.iret (v := nI 0) hx hb hr (fun t9 ht9 hW9 => ⟨⟨nI 0, (), rfl, rfl, by rw [ht9]; exact hP9, hD9⟩, hS.F ht9⟩) hS.2.2 dX7_passes_24

set_option maxHeartbeats 4000000 in
set_option maxRecDepth 100000 in
theorem c_X7_passes1 (l : Launch) (D : va_G) (cI cJ cM cG : ClassId) (m0 : Nat) (v : Nat) (a1 : Nat) (a2 : Nat) (ik : Int32) (th : Int32) (en : Int32) (f : Nat → Int64) (o : Nat) (d : Nat) (N : Nat) (U : Nat) (sz : Nat) (ho : o < 10) (hd : d < 10) (hN : N ≤ 10) (hU : U < 2 ^ 40) (hM : mS f N o d 0 40 1 0 1) : Met l yX7_passes (Cond.code yX7_passes cX7_passes 4 (some .int) :: kBig) ({ frames := 6, cells := 0, slots := 0, locals := 157 }) (va_Pc [.ref m0, .long (lN U)] (kP D [(cI, .int), (cJ, .long), (cM, .object "MeshRouting$Message"), (cG, .array .int)] [(m0, .inr (7, [.ref v, .ref a1, .ref a2, .int ik, .int th, .int en])), (v, .inl (cJ, 136800, .inr (.inl f)))] sz)) (va_Qi (fun (r : Int32) (u : Nat → Int64) => (u 2302 = (if U < 680 then lN 0 else lN 3))) (fun u t9 => kB D (va_A [(m0, .inr (7, [.ref v, .ref a1, .ref a2, .int ik, .int th, .int en])), (v, .inl (cJ, 136800, .inr (.inl f)))] sz) [(m0, .inr (7, [.ref v, .ref a1, .ref a2, .int ik, .int th, .int en])), (v, .inl (cJ, 136800, .inr (.inl u)))] t9) (va_A [(m0, .inr (7, [.ref v, .ref a1, .ref a2, .int ik, .int th, .int en])), (v, .inl (cJ, 136800, .inr (.inl f)))] sz)) 0 0 (va_A [(m0, .inr (7, [.ref v, .ref a1, .ref a2, .int ik, .int th, .int en])), (v, .inl (cJ, 136800, .inr (.inl f)))] sz) := by
  refine Met.ofW (cc := cX7_passes) (maxL := 4) (ret := (some .int)) (by decide) rfl ?_
  intro p e s m args below meth c s₁ B hml hv
  obtain ⟨rfl, hsz, hP, hK, hD0, hKN⟩ := hv
  have hx := B.exec
  have hb := B.bytes
  have hr := B.returns
  have hts := atoms_spec (ws := (Cond.code yX7_passes cX7_passes 4 (some .int) :: kBig)) B.pre
  have hown : s.vm.findClass RX7 = some m.cls := findClass_of_methodNamed B.named
  have hlocks := B.notSynchronized
  have hin7 : ∀ w ∈ u_ws RX7 TX7 6, w ∈ (Cond.code yX7_passes cX7_passes 4 (some .int) :: kBig) := fun w h => List.mem_cons_of_mem _ (inb7 w h)
  subst hsz
  have hD := hD0.self (sz := s.heap.size)
  generalize hAe : va_A [(m0, .inr (7, [.ref v, .ref a1, .ref a2, .int ik, .int th, .int en])), (v, .inl (cJ, 136800, .inr (.inl f)))] s.heap.size = A at hD ⊢
  have hA : ∀ q : Nat, s.heap.size ≤ q → A q := fun q h => by rw [← hAe]; exact Or.inr h
  have hS : va_S A s.heap s.heap [] := va_S.rf
  have hl := lv_entry ([.ref m0, .long (lN U)]) (n := 4) (Nat.le_of_ble_eq_true rfl)
  rw [lg_entry_eq]
  generalize (lg_sl ([.ref m0, .long (lN U)]) ++ List.replicate (4 - (lg_sl ([.ref m0, .long (lN U)])).length) Slot.unset).toArray = ls at hl ⊢
  have hl : lv_has ls 4 [(0, .ref m0), (1, .long (lN U))] := hl
  refine lv_iconst (v := nI 0) hx hb dX7_passes_0 (by decide) ?_
  refine lv_istore_n (lv' := [(3, .int (nI 0)), (0, .ref m0), (1, .long (lN U))]) hx hb dX7_passes_1 rfl hl (by decide) rfl (fun ls hl => ?_)
  rcases Nat.lt_or_ge U 40 with ht0 | ht0
  · refine lv_aload_n hx hb dX7_passes_2 rfl (lv_at hl 1 rfl) ?_
    refine lv_lload_n hx hb dX7_passes_3 rfl (lv_at hl 2 rfl) ?_
    refine k_ci (wr := []) (w1 := [(m0, .inr (7, [.ref v, .ref a1, .ref a2, .int ik, .int th, .int en])), (v, .inl (cJ, 136800, .inr (.inl f)))]) (va_runV (As := [.long (lN U)]) (rest := []) ⟨hx, hb, hml, hown, hts⟩ (c_X7_happensN l D cI cJ cM cG m0 v a1 a2 ik th en f o d N 0 40 1 U 1 0 s.heap.size (ho) (hd) (by omega) (by omega) (hU) (by omega) (hM)) (cwV 1 hts (kB_V (fun _ => List.mem_cons_of_mem _) q_811 q_812 q_813 q_670 (kB_c q_814)) rfl rfl rfl (by decide +kernel) ⟨Nat.le_of_ble_eq_true rfl, Nat.le_of_ble_eq_true rfl⟩) (k_preV (T := TX7) hP hD hK hKN [0, 1] rfl rfl (ci := 7) rfl (q0 := 0) rfl) rfl rfl hl.1 rfl (lv_room (Nat.le_of_ble_eq_true rfl)) dX7_passes_4 ⟨Nat.le_of_ble_eq_true rfl, Nat.le_of_ble_eq_true rfl⟩) hP hD hS hA [0, 1] [] rfl rfl rfl (by decide) (fun r4 H locs hw4 hP hD hS => ?_)
    replace hP : va_P D vwCl [(m0, .inr (7, [.ref v, .ref a1, .ref a2, .int ik, .int th, .int en])), (v, .inl (cJ, 136800, .inr (.inl f)))] H := hP
    replace hD : va_D A [(m0, .inr (7, [.ref v, .ref a1, .ref a2, .int ik, .int th, .int en])), (v, .inl (cJ, 136800, .inr (.inl f)))] := hD
    replace hw4 : r4 = (-1) := hw4
    refine k_ti hw4 ?_
    refine lv_if_lt (tgt := 16) hx hb dX7_passes_7 (by decide) (fun _ => ?_) (fun h9 => absurd (by decide) h9)
    refine lv_aload_n hx hb dX7_passes_16 rfl (lv_at hl 1 rfl) ?_
    refine va_get (D := D) (ci := 7) (v := .ref v) (C := RX7) (T := TX7) (N := 6) hx hb hts hin7 hown hK hP 0 rfl rfl 0 (by decide) (hts (.fieldLink RX7 8 "MeshRoutingModel" "v" "[J") (List.mem_cons_of_mem _ q_665)) (fun _ h9 => h9) rfl dX7_passes_17 ?_
    refine lv_iconst (v := nI 0) hx hb dX7_passes_20 (by decide) ?_
    refine lv_lload_n hx hb dX7_passes_21 rfl (lv_at hl 2 rfl) ?_
    refine k_last (f' := vp_updL f 0 (lN U)) hx hb hK hP hD hS 1 1 rfl rfl (by omega) (by omega) (rfl) dX7_passes_22 (fun H locs hP hD hS => ?_)
    replace hP : va_P D vwCl [(m0, .inr (7, [.ref v, .ref a1, .ref a2, .int ik, .int th, .int en])), (v, .inl (cJ, 136800, .inr (.inl (vp_updL f 0 (lN U)))))] H := hP
    replace hD : va_D A [(m0, .inr (7, [.ref v, .ref a1, .ref a2, .int ik, .int th, .int en])), (v, .inl (cJ, 136800, .inr (.inl (vp_updL f 0 (lN U)))))] := hD
    refine lv_iload_n hx hb dX7_passes_23 rfl (lv_at hl 0 rfl) ?_
    have hP9 := hP.sub (ws' := [(m0, .inr (7, [.ref v, .ref a1, .ref a2, .int ik, .int th, .int en])), (v, .inl (cJ, 136800, .inr (.inl (vp_updL f 0 (lN U)))))]) [0, 1] rfl
    have hD9 := hD.sub (ws' := [(m0, .inr (7, [.ref v, .ref a1, .ref a2, .int ik, .int th, .int en])), (v, .inl (cJ, 136800, .inr (.inl (vp_updL f 0 (lN U)))))]) [0, 1] rfl rfl
    exact W.iret (v := nI 0) hx hb hr (fun t9 ht9 hW9 => ⟨⟨nI 0, vp_updL f 0 (lN U), rfl, (pk_uLn (by omega)).trans (hM.2.2.2.2.2.2.2.2.2.2.2.2.2.trans (if_pos (by omega)).symm), by rw [ht9]; exact hP9, hD9⟩, hS.F ht9⟩) hS.2.2 dX7_passes_24
  · refine lv_aload_n hx hb dX7_passes_2 rfl (lv_at hl 1 rfl) ?_
    refine lv_lload_n hx hb dX7_passes_3 rfl (lv_at hl 2 rfl) ?_
    refine k_ciS (wr := []) (w1 := fun u => [(m0, .inr (7, [.ref v, .ref a1, .ref a2, .int ik, .int th, .int en])), (v, .inl (cJ, 136800, .inr (.inl u)))]) (va_runV (As := [.long (lN U)]) (rest := []) ⟨hx, hb, hml, hown, hts⟩ (c_X7_happens0 l D cI cJ cM cG m0 v a1 a2 ik th en f o d N 0 40 1 U s.heap.size (ho) (hd) (hN) (by omega) (by omega) (hU) (by omega) (hM)) (cwV 1 hts (kB_V (fun _ => List.mem_cons_of_mem _) q_811 q_812 q_813 q_670 (kB_c q_814)) rfl rfl rfl (by decide +kernel) ⟨Nat.le_of_ble_eq_true rfl, Nat.le_of_ble_eq_true rfl⟩) (k_preV (T := TX7) hP hD hK hKN [0, 1] rfl rfl (ci := 7) rfl (q0 := 0) rfl) rfl rfl hl.1 rfl (lv_room (Nat.le_of_ble_eq_true rfl)) dX7_passes_4 ⟨Nat.le_of_ble_eq_true rfl, Nat.le_of_ble_eq_true rfl⟩) hP hD hS hA [0, 1] [] rfl rfl rfl (by decide) (fun r4 u4 H locs hw4 hP hD hS => ?_)
    replace hP : va_P D vwCl [(m0, .inr (7, [.ref v, .ref a1, .ref a2, .int ik, .int th, .int en])), (v, .inl (cJ, 136800, .inr (.inl u4)))] H := hP
    replace hD : va_D A [(m0, .inr (7, [.ref v, .ref a1, .ref a2, .int ik, .int th, .int en])), (v, .inl (cJ, 136800, .inr (.inl u4)))] := hD
    obtain ⟨hw4, hu4⟩ := hw4
    replace hw4 : r4 = nI 4 := hw4
    refine k_ti hw4 ?_
    obtain ⟨u4_0, hM1⟩ : ∃ g, g = u4 ∧ mS g N o d 40 120 3 0 2 := ⟨_, rfl, hu4⟩
    rw [← hM1.1] at hP hD
    replace hM1 := hM1.2
    refine k_if_lt (tgt := 16) hx hb dX7_passes_7 (by decide) (by omega) (fun h9 => absurd h9 (by omega)) (fun _ => ?_)
    refine lv_iinc (v := nI 1) (lv' := [(3, .int (nI 1)), (0, .ref m0), (1, .long (lN U))]) hx hb dX7_passes_10 hl (k := 0) rfl (by exact nI_add 0 1) (by decide) rfl (fun ls hl => ?_)
    refine lv_goto (tgt := 2) hx hb dX7_passes_13 (by decide) ?_
    rcases Nat.lt_or_ge U 120 with ht1 | ht1
    · refine lv_aload_n hx hb dX7_passes_2 rfl (lv_at hl 1 rfl) ?_
      refine lv_lload_n hx hb dX7_passes_3 rfl (lv_at hl 2 rfl) ?_
      refine k_ci (wr := []) (w1 := [(m0, .inr (7, [.ref v, .ref a1, .ref a2, .int ik, .int th, .int en])), (v, .inl (cJ, 136800, .inr (.inl u4_0)))]) (va_runV (As := [.long (lN U)]) (rest := []) ⟨hx, hb, hml, hown, hts⟩ (c_X7_happensN l D cI cJ cM cG m0 v a1 a2 ik th en u4_0 o d N 40 120 2 U 3 0 H.size (ho) (hd) (by omega) (by omega) (hU) (by omega) (hM1)) (cwV 1 hts (kB_V (fun _ => List.mem_cons_of_mem _) q_811 q_812 q_813 q_670 (kB_c q_814)) rfl rfl rfl (by decide +kernel) ⟨Nat.le_of_ble_eq_true rfl, Nat.le_of_ble_eq_true rfl⟩) (k_preV (T := TX7) hP hD hK hKN [0, 1] rfl rfl (ci := 7) rfl (q0 := 0) rfl) rfl rfl hl.1 rfl (lv_room (Nat.le_of_ble_eq_true rfl)) dX7_passes_4 ⟨Nat.le_of_ble_eq_true rfl, Nat.le_of_ble_eq_true rfl⟩) hP hD hS hA [0, 1] [] rfl rfl rfl (by decide) (fun r4 H locs hw4 hP hD hS => ?_)
      replace hP : va_P D vwCl [(m0, .inr (7, [.ref v, .ref a1, .ref a2, .int ik, .int th, .int en])), (v, .inl (cJ, 136800, .inr (.inl u4_0)))] H := hP
      replace hD : va_D A [(m0, .inr (7, [.ref v, .ref a1, .ref a2, .int ik, .int th, .int en])), (v, .inl (cJ, 136800, .inr (.inl u4_0)))] := hD
      replace hw4 : r4 = (-1) := hw4
      refine k_ti hw4 ?_
      refine lv_if_lt (tgt := 16) hx hb dX7_passes_7 (by decide) (fun _ => ?_) (fun h9 => absurd (by decide) h9)
      refine lv_aload_n hx hb dX7_passes_16 rfl (lv_at hl 1 rfl) ?_
      refine va_get (D := D) (ci := 7) (v := .ref v) (C := RX7) (T := TX7) (N := 6) hx hb hts hin7 hown hK hP 0 rfl rfl 0 (by decide) (hts (.fieldLink RX7 8 "MeshRoutingModel" "v" "[J") (List.mem_cons_of_mem _ q_665)) (fun _ h9 => h9) rfl dX7_passes_17 ?_
      refine lv_iconst (v := nI 0) hx hb dX7_passes_20 (by decide) ?_
      refine lv_lload_n hx hb dX7_passes_21 rfl (lv_at hl 2 rfl) ?_
      refine k_last (f' := vp_updL u4_0 0 (lN U)) hx hb hK hP hD hS 1 1 rfl rfl (by omega) (by omega) (rfl) dX7_passes_22 (fun H locs hP hD hS => ?_)
      replace hP : va_P D vwCl [(m0, .inr (7, [.ref v, .ref a1, .ref a2, .int ik, .int th, .int en])), (v, .inl (cJ, 136800, .inr (.inl (vp_updL u4_0 0 (lN U)))))] H := hP
      replace hD : va_D A [(m0, .inr (7, [.ref v, .ref a1, .ref a2, .int ik, .int th, .int en])), (v, .inl (cJ, 136800, .inr (.inl (vp_updL u4_0 0 (lN U)))))] := hD
      refine lv_iload_n hx hb dX7_passes_23 rfl (lv_at hl 0 rfl) ?_
      have hP9 := hP.sub (ws' := [(m0, .inr (7, [.ref v, .ref a1, .ref a2, .int ik, .int th, .int en])), (v, .inl (cJ, 136800, .inr (.inl (vp_updL u4_0 0 (lN U)))))]) [0, 1] rfl
      have hD9 := hD.sub (ws' := [(m0, .inr (7, [.ref v, .ref a1, .ref a2, .int ik, .int th, .int en])), (v, .inl (cJ, 136800, .inr (.inl (vp_updL u4_0 0 (lN U)))))]) [0, 1] rfl rfl
      exact W.iret (v := nI 1) hx hb hr (fun t9 ht9 hW9 => ⟨⟨nI 1, vp_updL u4_0 0 (lN U), rfl, (pk_uLn (by omega)).trans (hM1.2.2.2.2.2.2.2.2.2.2.2.2.2.trans (if_pos (by omega)).symm), by rw [ht9]; exact hP9, hD9⟩, hS.F ht9⟩) hS.2.2 dX7_passes_24
    · refine lv_aload_n hx hb dX7_passes_2 rfl (lv_at hl 1 rfl) ?_
      refine lv_lload_n hx hb dX7_passes_3 rfl (lv_at hl 2 rfl) ?_
      refine k_ciS (wr := []) (w1 := fun u => [(m0, .inr (7, [.ref v, .ref a1, .ref a2, .int ik, .int th, .int en])), (v, .inl (cJ, 136800, .inr (.inl u)))]) (va_runV (As := [.long (lN U)]) (rest := []) ⟨hx, hb, hml, hown, hts⟩ (c_X7_happens1 l D cI cJ cM cG m0 v a1 a2 ik th en u4_0 o d N 40 120 2 U H.size (ho) (hd) (hN) (by omega) (by omega) (hU) (by omega) (hM1)) (cwV 1 hts (kB_V (fun _ => List.mem_cons_of_mem _) q_811 q_812 q_813 q_670 (kB_c q_814)) rfl rfl rfl (by decide +kernel) ⟨Nat.le_of_ble_eq_true rfl, Nat.le_of_ble_eq_true rfl⟩) (k_preV (T := TX7) hP hD hK hKN [0, 1] rfl rfl (ci := 7) rfl (q0 := 0) rfl) rfl rfl hl.1 rfl (lv_room (Nat.le_of_ble_eq_true rfl)) dX7_passes_4 ⟨Nat.le_of_ble_eq_true rfl, Nat.le_of_ble_eq_true rfl⟩) hP hD hS hA [0, 1] [] rfl rfl rfl (by decide) (fun r4 u4 H locs hw4 hP hD hS => ?_)
      replace hP : va_P D vwCl [(m0, .inr (7, [.ref v, .ref a1, .ref a2, .int ik, .int th, .int en])), (v, .inl (cJ, 136800, .inr (.inl u4)))] H := hP
      replace hD : va_D A [(m0, .inr (7, [.ref v, .ref a1, .ref a2, .int ik, .int th, .int en])), (v, .inl (cJ, 136800, .inr (.inl u4)))] := hD
      obtain ⟨hw4, hu4⟩ := hw4
      replace hw4 : r4 = nI 4 := hw4
      refine k_ti hw4 ?_
      obtain ⟨u4_1, hM2⟩ : ∃ g, g = u4 ∧ mS g N o d 120 240 5 0 3 := ⟨_, rfl, hu4⟩
      rw [← hM2.1] at hP hD
      replace hM2 := hM2.2
      refine k_if_lt (tgt := 16) hx hb dX7_passes_7 (by decide) (by omega) (fun h9 => absurd h9 (by omega)) (fun _ => ?_)
      refine lv_iinc (v := nI 2) (lv' := [(3, .int (nI 2)), (0, .ref m0), (1, .long (lN U))]) hx hb dX7_passes_10 hl (k := 0) rfl (by exact nI_add 1 1) (by decide) rfl (fun ls hl => ?_)
      refine lv_goto (tgt := 2) hx hb dX7_passes_13 (by decide) ?_
      rcases Nat.lt_or_ge U 240 with ht2 | ht2
      · refine lv_aload_n hx hb dX7_passes_2 rfl (lv_at hl 1 rfl) ?_
        refine lv_lload_n hx hb dX7_passes_3 rfl (lv_at hl 2 rfl) ?_
        refine k_ci (wr := []) (w1 := [(m0, .inr (7, [.ref v, .ref a1, .ref a2, .int ik, .int th, .int en])), (v, .inl (cJ, 136800, .inr (.inl u4_1)))]) (va_runV (As := [.long (lN U)]) (rest := []) ⟨hx, hb, hml, hown, hts⟩ (c_X7_happensN l D cI cJ cM cG m0 v a1 a2 ik th en u4_1 o d N 120 240 3 U 5 0 H.size (ho) (hd) (by omega) (by omega) (hU) (by omega) (hM2)) (cwV 1 hts (kB_V (fun _ => List.mem_cons_of_mem _) q_811 q_812 q_813 q_670 (kB_c q_814)) rfl rfl rfl (by decide +kernel) ⟨Nat.le_of_ble_eq_true rfl, Nat.le_of_ble_eq_true rfl⟩) (k_preV (T := TX7) hP hD hK hKN [0, 1] rfl rfl (ci := 7) rfl (q0 := 0) rfl) rfl rfl hl.1 rfl (lv_room (Nat.le_of_ble_eq_true rfl)) dX7_passes_4 ⟨Nat.le_of_ble_eq_true rfl, Nat.le_of_ble_eq_true rfl⟩) hP hD hS hA [0, 1] [] rfl rfl rfl (by decide) (fun r4 H locs hw4 hP hD hS => ?_)
        replace hP : va_P D vwCl [(m0, .inr (7, [.ref v, .ref a1, .ref a2, .int ik, .int th, .int en])), (v, .inl (cJ, 136800, .inr (.inl u4_1)))] H := hP
        replace hD : va_D A [(m0, .inr (7, [.ref v, .ref a1, .ref a2, .int ik, .int th, .int en])), (v, .inl (cJ, 136800, .inr (.inl u4_1)))] := hD
        replace hw4 : r4 = (-1) := hw4
        refine k_ti hw4 ?_
        refine lv_if_lt (tgt := 16) hx hb dX7_passes_7 (by decide) (fun _ => ?_) (fun h9 => absurd (by decide) h9)
        refine lv_aload_n hx hb dX7_passes_16 rfl (lv_at hl 1 rfl) ?_
        refine va_get (D := D) (ci := 7) (v := .ref v) (C := RX7) (T := TX7) (N := 6) hx hb hts hin7 hown hK hP 0 rfl rfl 0 (by decide) (hts (.fieldLink RX7 8 "MeshRoutingModel" "v" "[J") (List.mem_cons_of_mem _ q_665)) (fun _ h9 => h9) rfl dX7_passes_17 ?_
        refine lv_iconst (v := nI 0) hx hb dX7_passes_20 (by decide) ?_
        refine lv_lload_n hx hb dX7_passes_21 rfl (lv_at hl 2 rfl) ?_
        refine k_last (f' := vp_updL u4_1 0 (lN U)) hx hb hK hP hD hS 1 1 rfl rfl (by omega) (by omega) (rfl) dX7_passes_22 (fun H locs hP hD hS => ?_)
        replace hP : va_P D vwCl [(m0, .inr (7, [.ref v, .ref a1, .ref a2, .int ik, .int th, .int en])), (v, .inl (cJ, 136800, .inr (.inl (vp_updL u4_1 0 (lN U)))))] H := hP
        replace hD : va_D A [(m0, .inr (7, [.ref v, .ref a1, .ref a2, .int ik, .int th, .int en])), (v, .inl (cJ, 136800, .inr (.inl (vp_updL u4_1 0 (lN U)))))] := hD
        refine lv_iload_n hx hb dX7_passes_23 rfl (lv_at hl 0 rfl) ?_
        have hP9 := hP.sub (ws' := [(m0, .inr (7, [.ref v, .ref a1, .ref a2, .int ik, .int th, .int en])), (v, .inl (cJ, 136800, .inr (.inl (vp_updL u4_1 0 (lN U)))))]) [0, 1] rfl
        have hD9 := hD.sub (ws' := [(m0, .inr (7, [.ref v, .ref a1, .ref a2, .int ik, .int th, .int en])), (v, .inl (cJ, 136800, .inr (.inl (vp_updL u4_1 0 (lN U)))))]) [0, 1] rfl rfl
        exact W.iret (v := nI 2) hx hb hr (fun t9 ht9 hW9 => ⟨⟨nI 2, vp_updL u4_1 0 (lN U), rfl, (pk_uLn (by omega)).trans (hM2.2.2.2.2.2.2.2.2.2.2.2.2.2.trans (if_pos (by omega)).symm), by rw [ht9]; exact hP9, hD9⟩, hS.F ht9⟩) hS.2.2 dX7_passes_24
      · refine lv_aload_n hx hb dX7_passes_2 rfl (lv_at hl 1 rfl) ?_
        refine lv_lload_n hx hb dX7_passes_3 rfl (lv_at hl 2 rfl) ?_
        refine k_ciS (wr := []) (w1 := fun u => [(m0, .inr (7, [.ref v, .ref a1, .ref a2, .int ik, .int th, .int en])), (v, .inl (cJ, 136800, .inr (.inl u)))]) (va_runV (As := [.long (lN U)]) (rest := []) ⟨hx, hb, hml, hown, hts⟩ (c_X7_happens2 l D cI cJ cM cG m0 v a1 a2 ik th en u4_1 o d N 120 240 3 U H.size (ho) (hd) (hN) (by omega) (by omega) (hU) (by omega) (hM2)) (cwV 1 hts (kB_V (fun _ => List.mem_cons_of_mem _) q_811 q_812 q_813 q_670 (kB_c q_814)) rfl rfl rfl (by decide +kernel) ⟨Nat.le_of_ble_eq_true rfl, Nat.le_of_ble_eq_true rfl⟩) (k_preV (T := TX7) hP hD hK hKN [0, 1] rfl rfl (ci := 7) rfl (q0 := 0) rfl) rfl rfl hl.1 rfl (lv_room (Nat.le_of_ble_eq_true rfl)) dX7_passes_4 ⟨Nat.le_of_ble_eq_true rfl, Nat.le_of_ble_eq_true rfl⟩) hP hD hS hA [0, 1] [] rfl rfl rfl (by decide) (fun r4 u4 H locs hw4 hP hD hS => ?_)
        replace hP : va_P D vwCl [(m0, .inr (7, [.ref v, .ref a1, .ref a2, .int ik, .int th, .int en])), (v, .inl (cJ, 136800, .inr (.inl u4)))] H := hP
        replace hD : va_D A [(m0, .inr (7, [.ref v, .ref a1, .ref a2, .int ik, .int th, .int en])), (v, .inl (cJ, 136800, .inr (.inl u4)))] := hD
        obtain ⟨hw4, hu4⟩ := hw4
        replace hw4 : r4 = nI 4 := hw4
        refine k_ti hw4 ?_
        obtain ⟨u4_2, hM3⟩ : ∃ g, g = u4 ∧ mS g N o d 240 460 10 1 4 := ⟨_, rfl, hu4⟩
        rw [← hM3.1] at hP hD
        replace hM3 := hM3.2
        refine k_if_lt (tgt := 16) hx hb dX7_passes_7 (by decide) (by omega) (fun h9 => absurd h9 (by omega)) (fun _ => ?_)
        refine lv_iinc (v := nI 3) (lv' := [(3, .int (nI 3)), (0, .ref m0), (1, .long (lN U))]) hx hb dX7_passes_10 hl (k := 0) rfl (by exact nI_add 2 1) (by decide) rfl (fun ls hl => ?_)
        refine lv_goto (tgt := 2) hx hb dX7_passes_13 (by decide) ?_
        rcases Nat.lt_or_ge U 460 with ht3 | ht3
        · refine lv_aload_n hx hb dX7_passes_2 rfl (lv_at hl 1 rfl) ?_
          refine lv_lload_n hx hb dX7_passes_3 rfl (lv_at hl 2 rfl) ?_
          refine k_ci (wr := []) (w1 := [(m0, .inr (7, [.ref v, .ref a1, .ref a2, .int ik, .int th, .int en])), (v, .inl (cJ, 136800, .inr (.inl u4_2)))]) (va_runV (As := [.long (lN U)]) (rest := []) ⟨hx, hb, hml, hown, hts⟩ (c_X7_happensN l D cI cJ cM cG m0 v a1 a2 ik th en u4_2 o d N 240 460 4 U 10 1 H.size (ho) (hd) (by omega) (by omega) (hU) (by omega) (hM3)) (cwV 1 hts (kB_V (fun _ => List.mem_cons_of_mem _) q_811 q_812 q_813 q_670 (kB_c q_814)) rfl rfl rfl (by decide +kernel) ⟨Nat.le_of_ble_eq_true rfl, Nat.le_of_ble_eq_true rfl⟩) (k_preV (T := TX7) hP hD hK hKN [0, 1] rfl rfl (ci := 7) rfl (q0 := 0) rfl) rfl rfl hl.1 rfl (lv_room (Nat.le_of_ble_eq_true rfl)) dX7_passes_4 ⟨Nat.le_of_ble_eq_true rfl, Nat.le_of_ble_eq_true rfl⟩) hP hD hS hA [0, 1] [] rfl rfl rfl (by decide) (fun r4 H locs hw4 hP hD hS => ?_)
          replace hP : va_P D vwCl [(m0, .inr (7, [.ref v, .ref a1, .ref a2, .int ik, .int th, .int en])), (v, .inl (cJ, 136800, .inr (.inl u4_2)))] H := hP
          replace hD : va_D A [(m0, .inr (7, [.ref v, .ref a1, .ref a2, .int ik, .int th, .int en])), (v, .inl (cJ, 136800, .inr (.inl u4_2)))] := hD
          replace hw4 : r4 = (-1) := hw4
          refine k_ti hw4 ?_
          refine lv_if_lt (tgt := 16) hx hb dX7_passes_7 (by decide) (fun _ => ?_) (fun h9 => absurd (by decide) h9)
          refine lv_aload_n hx hb dX7_passes_16 rfl (lv_at hl 1 rfl) ?_
          refine va_get (D := D) (ci := 7) (v := .ref v) (C := RX7) (T := TX7) (N := 6) hx hb hts hin7 hown hK hP 0 rfl rfl 0 (by decide) (hts (.fieldLink RX7 8 "MeshRoutingModel" "v" "[J") (List.mem_cons_of_mem _ q_665)) (fun _ h9 => h9) rfl dX7_passes_17 ?_
          refine lv_iconst (v := nI 0) hx hb dX7_passes_20 (by decide) ?_
          refine lv_lload_n hx hb dX7_passes_21 rfl (lv_at hl 2 rfl) ?_
          refine k_last (f' := vp_updL u4_2 0 (lN U)) hx hb hK hP hD hS 1 1 rfl rfl (by omega) (by omega) (rfl) dX7_passes_22 (fun H locs hP hD hS => ?_)
          replace hP : va_P D vwCl [(m0, .inr (7, [.ref v, .ref a1, .ref a2, .int ik, .int th, .int en])), (v, .inl (cJ, 136800, .inr (.inl (vp_updL u4_2 0 (lN U)))))] H := hP
          replace hD : va_D A [(m0, .inr (7, [.ref v, .ref a1, .ref a2, .int ik, .int th, .int en])), (v, .inl (cJ, 136800, .inr (.inl (vp_updL u4_2 0 (lN U)))))] := hD
          refine lv_iload_n hx hb dX7_passes_23 rfl (lv_at hl 0 rfl) ?_
          have hP9 := hP.sub (ws' := [(m0, .inr (7, [.ref v, .ref a1, .ref a2, .int ik, .int th, .int en])), (v, .inl (cJ, 136800, .inr (.inl (vp_updL u4_2 0 (lN U)))))]) [0, 1] rfl
          have hD9 := hD.sub (ws' := [(m0, .inr (7, [.ref v, .ref a1, .ref a2, .int ik, .int th, .int en])), (v, .inl (cJ, 136800, .inr (.inl (vp_updL u4_2 0 (lN U)))))]) [0, 1] rfl rfl
          exact W.iret (v := nI 3) hx hb hr (fun t9 ht9 hW9 => ⟨⟨nI 3, vp_updL u4_2 0 (lN U), rfl, (pk_uLn (by omega)).trans (hM3.2.2.2.2.2.2.2.2.2.2.2.2.2.trans (if_pos (by omega)).symm), by rw [ht9]; exact hP9, hD9⟩, hS.F ht9⟩) hS.2.2 dX7_passes_24
        · refine lv_aload_n hx hb dX7_passes_2 rfl (lv_at hl 1 rfl) ?_
          refine lv_lload_n hx hb dX7_passes_3 rfl (lv_at hl 2 rfl) ?_
          refine k_ciS (wr := []) (w1 := fun u => [(m0, .inr (7, [.ref v, .ref a1, .ref a2, .int ik, .int th, .int en])), (v, .inl (cJ, 136800, .inr (.inl u)))]) (va_runV (As := [.long (lN U)]) (rest := []) ⟨hx, hb, hml, hown, hts⟩ (c_X7_happens3 l D cI cJ cM cG m0 v a1 a2 ik th en u4_2 o d N 240 460 4 U H.size (ho) (hd) (hN) (by omega) (by omega) (hU) (by omega) (hM3)) (cwV 1 hts (kB_V (fun _ => List.mem_cons_of_mem _) q_811 q_812 q_813 q_670 (kB_c q_814)) rfl rfl rfl (by decide +kernel) ⟨Nat.le_of_ble_eq_true rfl, Nat.le_of_ble_eq_true rfl⟩) (k_preV (T := TX7) hP hD hK hKN [0, 1] rfl rfl (ci := 7) rfl (q0 := 0) rfl) rfl rfl hl.1 rfl (lv_room (Nat.le_of_ble_eq_true rfl)) dX7_passes_4 ⟨Nat.le_of_ble_eq_true rfl, Nat.le_of_ble_eq_true rfl⟩) hP hD hS hA [0, 1] [] rfl rfl rfl (by decide) (fun r4 u4 H locs hw4 hP hD hS => ?_)
          replace hP : va_P D vwCl [(m0, .inr (7, [.ref v, .ref a1, .ref a2, .int ik, .int th, .int en])), (v, .inl (cJ, 136800, .inr (.inl u4)))] H := hP
          replace hD : va_D A [(m0, .inr (7, [.ref v, .ref a1, .ref a2, .int ik, .int th, .int en])), (v, .inl (cJ, 136800, .inr (.inl u4)))] := hD
          obtain ⟨hw4, hu4⟩ := hw4
          replace hw4 : r4 = nI 4 := hw4
          refine k_ti hw4 ?_
          obtain ⟨u4_3, hM4⟩ : ∃ g, g = u4 ∧ mS g N o d 460 680 10 2 5 := ⟨_, rfl, hu4⟩
          rw [← hM4.1] at hP hD
          replace hM4 := hM4.2
          refine k_if_lt (tgt := 16) hx hb dX7_passes_7 (by decide) (by omega) (fun h9 => absurd h9 (by omega)) (fun _ => ?_)
          refine lv_iinc (v := nI 4) (lv' := [(3, .int (nI 4)), (0, .ref m0), (1, .long (lN U))]) hx hb dX7_passes_10 hl (k := 0) rfl (by exact nI_add 3 1) (by decide) rfl (fun ls hl => ?_)
          refine lv_goto (tgt := 2) hx hb dX7_passes_13 (by decide) ?_
          rcases Nat.lt_or_ge U 680 with ht4 | ht4
          · refine lv_aload_n hx hb dX7_passes_2 rfl (lv_at hl 1 rfl) ?_
            refine lv_lload_n hx hb dX7_passes_3 rfl (lv_at hl 2 rfl) ?_
            refine k_ci (wr := []) (w1 := [(m0, .inr (7, [.ref v, .ref a1, .ref a2, .int ik, .int th, .int en])), (v, .inl (cJ, 136800, .inr (.inl u4_3)))]) (va_runV (As := [.long (lN U)]) (rest := []) ⟨hx, hb, hml, hown, hts⟩ (c_X7_happensN l D cI cJ cM cG m0 v a1 a2 ik th en u4_3 o d N 460 680 5 U 10 2 H.size (ho) (hd) (by omega) (by omega) (hU) (by omega) (hM4)) (cwV 1 hts (kB_V (fun _ => List.mem_cons_of_mem _) q_811 q_812 q_813 q_670 (kB_c q_814)) rfl rfl rfl (by decide +kernel) ⟨Nat.le_of_ble_eq_true rfl, Nat.le_of_ble_eq_true rfl⟩) (k_preV (T := TX7) hP hD hK hKN [0, 1] rfl rfl (ci := 7) rfl (q0 := 0) rfl) rfl rfl hl.1 rfl (lv_room (Nat.le_of_ble_eq_true rfl)) dX7_passes_4 ⟨Nat.le_of_ble_eq_true rfl, Nat.le_of_ble_eq_true rfl⟩) hP hD hS hA [0, 1] [] rfl rfl rfl (by decide) (fun r4 H locs hw4 hP hD hS => ?_)
            replace hP : va_P D vwCl [(m0, .inr (7, [.ref v, .ref a1, .ref a2, .int ik, .int th, .int en])), (v, .inl (cJ, 136800, .inr (.inl u4_3)))] H := hP
            replace hD : va_D A [(m0, .inr (7, [.ref v, .ref a1, .ref a2, .int ik, .int th, .int en])), (v, .inl (cJ, 136800, .inr (.inl u4_3)))] := hD
            replace hw4 : r4 = (-1) := hw4
            refine k_ti hw4 ?_
            refine lv_if_lt (tgt := 16) hx hb dX7_passes_7 (by decide) (fun _ => ?_) (fun h9 => absurd (by decide) h9)
            refine lv_aload_n hx hb dX7_passes_16 rfl (lv_at hl 1 rfl) ?_
            refine va_get (D := D) (ci := 7) (v := .ref v) (C := RX7) (T := TX7) (N := 6) hx hb hts hin7 hown hK hP 0 rfl rfl 0 (by decide) (hts (.fieldLink RX7 8 "MeshRoutingModel" "v" "[J") (List.mem_cons_of_mem _ q_665)) (fun _ h9 => h9) rfl dX7_passes_17 ?_
            refine lv_iconst (v := nI 0) hx hb dX7_passes_20 (by decide) ?_
            refine lv_lload_n hx hb dX7_passes_21 rfl (lv_at hl 2 rfl) ?_
            refine k_last (f' := vp_updL u4_3 0 (lN U)) hx hb hK hP hD hS 1 1 rfl rfl (by omega) (by omega) (rfl) dX7_passes_22 (fun H locs hP hD hS => ?_)
            replace hP : va_P D vwCl [(m0, .inr (7, [.ref v, .ref a1, .ref a2, .int ik, .int th, .int en])), (v, .inl (cJ, 136800, .inr (.inl (vp_updL u4_3 0 (lN U)))))] H := hP
            replace hD : va_D A [(m0, .inr (7, [.ref v, .ref a1, .ref a2, .int ik, .int th, .int en])), (v, .inl (cJ, 136800, .inr (.inl (vp_updL u4_3 0 (lN U)))))] := hD
            refine lv_iload_n hx hb dX7_passes_23 rfl (lv_at hl 0 rfl) ?_
            have hP9 := hP.sub (ws' := [(m0, .inr (7, [.ref v, .ref a1, .ref a2, .int ik, .int th, .int en])), (v, .inl (cJ, 136800, .inr (.inl (vp_updL u4_3 0 (lN U)))))]) [0, 1] rfl
            have hD9 := hD.sub (ws' := [(m0, .inr (7, [.ref v, .ref a1, .ref a2, .int ik, .int th, .int en])), (v, .inl (cJ, 136800, .inr (.inl (vp_updL u4_3 0 (lN U)))))]) [0, 1] rfl rfl
            exact W.iret (v := nI 4) hx hb hr (fun t9 ht9 hW9 => ⟨⟨nI 4, vp_updL u4_3 0 (lN U), rfl, (pk_uLn (by omega)).trans (hM4.2.2.2.2.2.2.2.2.2.2.2.2.2.trans (if_pos (by omega)).symm), by rw [ht9]; exact hP9, hD9⟩, hS.F ht9⟩) hS.2.2 dX7_passes_24
          · refine lv_aload_n hx hb dX7_passes_2 rfl (lv_at hl 1 rfl) ?_
            refine lv_lload_n hx hb dX7_passes_3 rfl (lv_at hl 2 rfl) ?_
            refine k_ciS (wr := []) (w1 := fun u => [(m0, .inr (7, [.ref v, .ref a1, .ref a2, .int ik, .int th, .int en])), (v, .inl (cJ, 136800, .inr (.inl u)))]) (va_runV (As := [.long (lN U)]) (rest := []) ⟨hx, hb, hml, hown, hts⟩ (c_X7_happens4 l D cI cJ cM cG m0 v a1 a2 ik th en u4_3 o d N 460 680 5 U H.size (ho) (hd) (hN) (by omega) (by omega) (hU) (by omega) (hM4)) (cwV 1 hts (kB_V (fun _ => List.mem_cons_of_mem _) q_811 q_812 q_813 q_670 (kB_c q_814)) rfl rfl rfl (by decide +kernel) ⟨Nat.le_of_ble_eq_true rfl, Nat.le_of_ble_eq_true rfl⟩) (k_preV (T := TX7) hP hD hK hKN [0, 1] rfl rfl (ci := 7) rfl (q0 := 0) rfl) rfl rfl hl.1 rfl (lv_room (Nat.le_of_ble_eq_true rfl)) dX7_passes_4 ⟨Nat.le_of_ble_eq_true rfl, Nat.le_of_ble_eq_true rfl⟩) hP hD hS hA [0, 1] [] rfl rfl rfl (by decide) (fun r4 u4 H locs hw4 hP hD hS => ?_)
            replace hP : va_P D vwCl [(m0, .inr (7, [.ref v, .ref a1, .ref a2, .int ik, .int th, .int en])), (v, .inl (cJ, 136800, .inr (.inl u4)))] H := hP
            replace hD : va_D A [(m0, .inr (7, [.ref v, .ref a1, .ref a2, .int ik, .int th, .int en])), (v, .inl (cJ, 136800, .inr (.inl u4)))] := hD
            obtain ⟨hw4, hu4⟩ := hw4
            replace hw4 : r4 = nI 4 := hw4
            refine k_ti hw4 ?_
            obtain ⟨u4_4, hM5⟩ : ∃ g, g = u4 ∧ mE g N 680 := ⟨_, rfl, hu4⟩
            rw [← hM5.1] at hP hD
            replace hM5 := hM5.2
            refine k_if_lt (tgt := 16) hx hb dX7_passes_7 (by decide) (by omega) (fun h9 => absurd h9 (by omega)) (fun _ => ?_)
            refine lv_iinc (v := nI 5) (lv' := [(3, .int (nI 5)), (0, .ref m0), (1, .long (lN U))]) hx hb dX7_passes_10 hl (k := 0) rfl (by exact nI_add 4 1) (by decide) rfl (fun ls hl => ?_)
            refine lv_goto (tgt := 2) hx hb dX7_passes_13 (by decide) ?_
            refine lv_aload_n hx hb dX7_passes_2 rfl (lv_at hl 1 rfl) ?_
            refine lv_lload_n hx hb dX7_passes_3 rfl (lv_at hl 2 rfl) ?_
            refine k_ci (wr := []) (w1 := [(m0, .inr (7, [.ref v, .ref a1, .ref a2, .int ik, .int th, .int en])), (v, .inl (cJ, 136800, .inr (.inl u4_4)))]) (va_runV (As := [.long (lN U)]) (rest := []) ⟨hx, hb, hml, hown, hts⟩ (c_X7_happensE l D cI cJ cM cG m0 v a1 a2 ik th en u4_4 680 (lN U) H.size (hM5.1) (by omega) (hM5.2.2.1) (hM5.2.2.2.1)) (cwV 1 hts (kB_V (fun _ => List.mem_cons_of_mem _) q_811 q_812 q_813 q_670 (kB_c q_814)) rfl rfl rfl (by decide +kernel) ⟨Nat.le_of_ble_eq_true rfl, Nat.le_of_ble_eq_true rfl⟩) (k_preV (T := TX7) hP hD hK hKN [0, 1] rfl rfl (ci := 7) rfl (q0 := 0) rfl) rfl rfl hl.1 rfl (lv_room (Nat.le_of_ble_eq_true rfl)) dX7_passes_4 ⟨Nat.le_of_ble_eq_true rfl, Nat.le_of_ble_eq_true rfl⟩) hP hD hS hA [0, 1] [] rfl rfl rfl (by decide) (fun r4 H locs hw4 hP hD hS => ?_)
            replace hP : va_P D vwCl [(m0, .inr (7, [.ref v, .ref a1, .ref a2, .int ik, .int th, .int en])), (v, .inl (cJ, 136800, .inr (.inl u4_4)))] H := hP
            replace hD : va_D A [(m0, .inr (7, [.ref v, .ref a1, .ref a2, .int ik, .int th, .int en])), (v, .inl (cJ, 136800, .inr (.inl u4_4)))] := hD
            replace hw4 : r4 = (-1) := hw4
            refine k_ti hw4 ?_
            refine lv_if_lt (tgt := 16) hx hb dX7_passes_7 (by decide) (fun _ => ?_) (fun h9 => absurd (by decide) h9)
            refine lv_aload_n hx hb dX7_passes_16 rfl (lv_at hl 1 rfl) ?_
            refine va_get (D := D) (ci := 7) (v := .ref v) (C := RX7) (T := TX7) (N := 6) hx hb hts hin7 hown hK hP 0 rfl rfl 0 (by decide) (hts (.fieldLink RX7 8 "MeshRoutingModel" "v" "[J") (List.mem_cons_of_mem _ q_665)) (fun _ h9 => h9) rfl dX7_passes_17 ?_
            refine lv_iconst (v := nI 0) hx hb dX7_passes_20 (by decide) ?_
            refine lv_lload_n hx hb dX7_passes_21 rfl (lv_at hl 2 rfl) ?_
            refine k_last (f' := vp_updL u4_4 0 (lN U)) hx hb hK hP hD hS 1 1 rfl rfl (by omega) (by omega) (rfl) dX7_passes_22 (fun H locs hP hD hS => ?_)
            replace hP : va_P D vwCl [(m0, .inr (7, [.ref v, .ref a1, .ref a2, .int ik, .int th, .int en])), (v, .inl (cJ, 136800, .inr (.inl (vp_updL u4_4 0 (lN U)))))] H := hP
            replace hD : va_D A [(m0, .inr (7, [.ref v, .ref a1, .ref a2, .int ik, .int th, .int en])), (v, .inl (cJ, 136800, .inr (.inl (vp_updL u4_4 0 (lN U)))))] := hD
            refine lv_iload_n hx hb dX7_passes_23 rfl (lv_at hl 0 rfl) ?_
            have hP9 := hP.sub (ws' := [(m0, .inr (7, [.ref v, .ref a1, .ref a2, .int ik, .int th, .int en])), (v, .inl (cJ, 136800, .inr (.inl (vp_updL u4_4 0 (lN U)))))]) [0, 1] rfl
            have hD9 := hD.sub (ws' := [(m0, .inr (7, [.ref v, .ref a1, .ref a2, .int ik, .int th, .int en])), (v, .inl (cJ, 136800, .inr (.inl (vp_updL u4_4 0 (lN U)))))]) [0, 1] rfl rfl
            exact W.iret (v := nI 5) hx hb hr (fun t9 ht9 hW9 => ⟨⟨nI 5, vp_updL u4_4 0 (lN U), rfl, (pk_uLn (by omega)).trans (hM5.2.2.2.2.trans (if_neg (by omega)).symm), by rw [ht9]; exact hP9, hD9⟩, hS.F ht9⟩) hS.2.2 dX7_passes_24
