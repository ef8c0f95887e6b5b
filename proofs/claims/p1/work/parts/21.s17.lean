set_option maxHeartbeats 4000000 in
set_option maxRecDepth 100000 in
theorem c_X7_init (l : Launch) (D : va_G) (cI cJ cM cG : ClassId) (h0 : Nat) (x : Int32) (N : Nat) (sz : Nat) (hx9 : kNodes N x) : Met l yX7_init (Cond.code yX7_init cX7_init 3 none :: kBig) ({ frames := 1, cells := 3, slots := 410400, locals := 12 }) (va_Pc [.ref h0, .int x] (kP D [(cI, .int), (cJ, .long), (cM, .object "MeshRouting$Message"), (cG, .array .int)] [(h0, .inr (7, [.null, .null, .null, .int (nI 0), .int (nI 0), .int (nI 0)]))] sz)) (va_Qv (fun u : Nat → Nat => True) (fun u t9 => kB D (va_A [(h0, .inr (7, [.null, .null, .null, .int (nI 0), .int (nI 0), .int (nI 0)]))] sz) [(h0, .inr (7, [.ref (u 0), .ref (u 1), .ref (u 2), .int (nI 0), .int (nI 0), .int (nI 0)])), (u 0, .inl (cJ, 136800, .inr (.inl (mF N)))), (u 1, .inl (cJ, 136800, .inr (.inl (fun _ => 0)))), (u 2, .inl (cJ, 136800, .inr (.inl (fun _ => 0))))] t9) (va_A [(h0, .inr (7, [.null, .null, .null, .int (nI 0), .int (nI 0), .int (nI 0)]))] sz)) 3 410400 (va_A [(h0, .inr (7, [.null, .null, .null, .int (nI 0), .int (nI 0), .int (nI 0)]))] sz) := by
  refine Met.ofW (cc := cX7_init) (maxL := 3) (ret := none) (by decide) rfl ?_
  intro p e s m args below meth c s₁ B hml hv
  obtain ⟨rfl, hsz, hP, hK, hD0, hKN⟩ := hv
  have hx := B.exec
  have hb := B.bytes
  have hr := B.returns
  have hts := atoms_spec (ws := (Cond.code yX7_init cX7_init 3 none :: kBig)) B.pre
  have hown : s.vm.findClass RX7 = some m.cls := findClass_of_methodNamed B.named
  have hlocks := B.notSynchronized
  have hin : meth.name = "<init>" := (name_of_methodNamed B.named B.method).1
  have hin7 : ∀ w ∈ u_ws RX7 TX7 6, w ∈ (Cond.code yX7_init cX7_init 3 none :: kBig) := fun w h => List.mem_cons_of_mem _ (inb7 w h)
  subst hsz
  have hD := hD0.self (sz := s.heap.size)
  generalize hAe : va_A [(h0, .inr (7, [.null, .null, .null, .int (nI 0), .int (nI 0), .int (nI 0)]))] s.heap.size = A at hD ⊢
  have hA : ∀ q : Nat, s.heap.size ≤ q → A q := fun q h => by rw [← hAe]; exact Or.inr h
  have hS : va_S A s.heap s.heap [] := va_S.rf
  have hl := lv_entry ([.ref h0, .int x]) (n := 3) (Nat.le_of_ble_eq_true rfl)
  rw [lg_entry_eq]
  generalize (lg_sl ([.ref h0, .int x]) ++ List.replicate (3 - (lg_sl ([.ref h0, .int x])).length) Slot.unset).toArray = ls at hl ⊢
  have hl : lv_has ls 3 [(0, .ref h0), (1, .int x)] := hl
  refine lv_aload_n hx hb dX7_init_0 rfl (lv_at hl 0 rfl) ?_
  refine W.objInit hx hb hown (hts (.methodLink RX7 1 objectInit) (List.mem_cons_of_mem _ q_913)) (hts (.instanceMethod objectInit) (List.mem_cons_of_mem _ q_101)) (hts (.code objectInit ⟨#[0xb1]⟩ 1 none) (List.mem_cons_of_mem _ q_102)) rfl (by rw [hml]; exact hl.1) rfl dX7_init_1 (Nat.le_of_ble_eq_true rfl) (Nat.le_of_ble_eq_true rfl) ?_
  refine W.eq (g2 := F0 m 4 ls []) rfl ?_
  refine lv_aload_n hx hb dX7_init_4 rfl (lv_at hl 0 rfl) ?_
  refine lv_ldc (v := 136800) hx hb hown (by exact hts (.constant RX7 7 (136800)) (List.mem_cons_of_mem _ q_778)) dX7_init_5 ?_
  refine k_ti (show (136800) = (nI 136800) from by decide) ?_
  refine va_newa (atype := .long) (ty := .long) (N' := 136800) (a0 := (136800, .inr (.inl (fun _ => 0)))) hx hb (hts (.arrayClass .long) (List.mem_cons_of_mem _ q_914)) rfl hK hP hD hS hA (fun _ => rfl) (nI_pos (by omega)) (nI_clamp (by omega)) (show 136800 * 8 ≤ 536870912 by omega) (Nat.le_of_ble_eq_true rfl) (show 0 + 136800 ≤ 410400 by omega) dX7_init_7 (fun q7 cA H hK9 hP hD hS => ?_)
  have e9 : cA = cJ := k_cls hK9 (i := 4) (j := 1) rfl rfl
  rw [e9] at hP hD
  replace hP : va_P D vwCl [(h0, .inr (7, [.null, .null, .null, .int (nI 0), .int (nI 0), .int (nI 0)])), (q7, .inl (cJ, 136800, .inr (.inl (fun _ => 0))))] H := hP
  replace hD : va_D A [(h0, .inr (7, [.null, .null, .null, .int (nI 0), .int (nI 0), .int (nI 0)])), (q7, .inl (cJ, 136800, .inr (.inl (fun _ => 0))))] := hD
  refine W.widen (k := 1) (n := 136800) (Nat.le_refl _) (show _ + _ ≤ _ by omega) ?_
  refine va_putF (D := D) (ci := 7) (v := .ref q7) (ty := .array .long) (C := RX7) (T := TX7) (N := 6) hx hb hts hin7 tyX7 tyX7_ok nmX7 hown hK hP hD hS 0 rfl rfl 0 (by decide) (hts (.fieldLink RX7 8 "MeshRoutingModel" "v" "[J") (List.mem_cons_of_mem _ q_665)) (fun _ h9 => h9) rfl hin rfl (by decide +kernel) rfl rfl (Nat.le_of_ble_eq_true rfl) dX7_init_9 (fun H locs hP hD hS => ?_)
  replace hP : va_P D vwCl [(h0, .inr (7, [.ref q7, .null, .null, .int (nI 0), .int (nI 0), .int (nI 0)])), (q7, .inl (cJ, 136800, .inr (.inl (fun _ => 0))))] H := hP
  replace hD : va_D A [(h0, .inr (7, [.ref q7, .null, .null, .int (nI 0), .int (nI 0), .int (nI 0)])), (q7, .inl (cJ, 136800, .inr (.inl (fun _ => 0))))] := hD
  refine lv_aload_n hx hb dX7_init_12 rfl (lv_at hl 0 rfl) ?_
  refine lv_ldc (v := 136800) hx hb hown (by exact hts (.constant RX7 7 (136800)) (List.mem_cons_of_mem _ q_778)) dX7_init_13 ?_
  refine k_ti (show (136800) = (nI 136800) from by decide) ?_
  refine va_newa (atype := .long) (ty := .long) (N' := 136800) (a0 := (136800, .inr (.inl (fun _ => 0)))) hx hb (hts (.arrayClass .long) (List.mem_cons_of_mem _ q_914)) rfl hK hP hD hS hA (fun _ => rfl) (nI_pos (by omega)) (nI_clamp (by omega)) (show 136800 * 8 ≤ 536870912 by omega) (Nat.le_of_ble_eq_true rfl) (show 136800 + 136800 ≤ 410400 by omega) dX7_init_15 (fun q15 cA H hK9 hP hD hS => ?_)
  have e9 : cA = cJ := k_cls hK9 (i := 4) (j := 1) rfl rfl
  rw [e9] at hP hD
  replace hP : va_P D vwCl [(h0, .inr (7, [.ref q7, .null, .null, .int (nI 0), .int (nI 0), .int (nI 0)])), (q7, .inl (cJ, 136800, .inr (.inl (fun _ => 0)))), (q15, .inl (cJ, 136800, .inr (.inl (fun _ => 0))))] H := hP
  replace hD : va_D A [(h0, .inr (7, [.ref q7, .null, .null, .int (nI 0), .int (nI 0), .int (nI 0)])), (q7, .inl (cJ, 136800, .inr (.inl (fun _ => 0)))), (q15, .inl (cJ, 136800, .inr (.inl (fun _ => 0))))] := hD
  refine W.widen (k := 2) (n := 273600) (Nat.le_refl _) (show _ + _ ≤ _ by omega) ?_
  refine va_putF (D := D) (ci := 7) (v := .ref q15) (ty := .array .long) (C := RX7) (T := TX7) (N := 6) hx hb hts hin7 tyX7 tyX7_ok nmX7 hown hK hP hD hS 0 rfl rfl 1 (by decide) (hts (.fieldLink RX7 14 "MeshRoutingModel" "aside" "[J") (List.mem_cons_of_mem _ q_769)) (fun _ h9 => h9) rfl hin rfl (by decide +kernel) rfl rfl (Nat.le_of_ble_eq_true rfl) dX7_init_17 (fun H locs hP hD hS => ?_)
  replace hP : va_P D vwCl [(h0, .inr (7, [.ref q7, .ref q15, .null, .int (nI 0), .int (nI 0), .int (nI 0)])), (q7, .inl (cJ, 136800, .inr (.inl (fun _ => 0)))), (q15, .inl (cJ, 136800, .inr (.inl (fun _ => 0))))] H := hP
  replace hD : va_D A [(h0, .inr (7, [.ref q7, .ref q15, .null, .int (nI 0), .int (nI 0), .int (nI 0)])), (q7, .inl (cJ, 136800, .inr (.inl (fun _ => 0)))), (q15, .inl (cJ, 136800, .inr (.inl (fun _ => 0))))] := hD
  refine lv_aload_n hx hb dX7_init_20 rfl (lv_at hl 0 rfl) ?_
  refine lv_ldc (v := 136800) hx hb hown (by exact hts (.constant RX7 7 (136800)) (List.mem_cons_of_mem _ q_778)) dX7_init_21 ?_
  refine k_ti (show (136800) = (nI 136800) from by decide) ?_
  refine va_newa (atype := .long) (ty := .long) (N' := 136800) (a0 := (136800, .inr (.inl (fun _ => 0)))) hx hb (hts (.arrayClass .long) (List.mem_cons_of_mem _ q_914)) rfl hK hP hD hS hA (fun _ => rfl) (nI_pos (by omega)) (nI_clamp (by omega)) (show 136800 * 8 ≤ 536870912 by omega) (Nat.le_of_ble_eq_true rfl) (show 273600 + 136800 ≤ 410400 by omega) dX7_init_23 (fun q23 cA H hK9 hP hD hS => ?_)
  have e9 : cA = cJ := k_cls hK9 (i := 4) (j := 1) rfl rfl
  rw [e9] at hP hD
  replace hP : va_P D vwCl [(h0, .inr (7, [.ref q7, .ref q15, .null, .int (nI 0), .int (nI 0), .int (nI 0)])), (q7, .inl (cJ, 136800, .inr (.inl (fun _ => 0)))), (q15, .inl (cJ, 136800, .inr (.inl (fun _ => 0)))), (q23, .inl (cJ, 136800, .inr (.inl (fun _ => 0))))] H := hP
  replace hD : va_D A [(h0, .inr (7, [.ref q7, .ref q15, .null, .int (nI 0), .int (nI 0), .int (nI 0)])), (q7, .inl (cJ, 136800, .inr (.inl (fun _ => 0)))), (q15, .inl (cJ, 136800, .inr (.inl (fun _ => 0)))), (q23, .inl (cJ, 136800, .inr (.inl (fun _ => 0))))] := hD
  refine W.widen (k := 3) (n := 410400) (Nat.le_refl _) (show _ + _ ≤ _ by omega) ?_
  refine va_putF (D := D) (ci := 7) (v := .ref q23) (ty := .array .long) (C := RX7) (T := TX7) (N := 6) hx hb hts hin7 tyX7 tyX7_ok nmX7 hown hK hP hD hS 0 rfl rfl 2 (by decide) (hts (.fieldLink RX7 17 "MeshRoutingModel" "kept" "[J") (List.mem_cons_of_mem _ q_915)) (fun _ h9 => h9) rfl hin rfl (by decide +kernel) rfl rfl (Nat.le_of_ble_eq_true rfl) dX7_init_25 (fun H locs hP hD hS => ?_)
  replace hP : va_P D vwCl [(h0, .inr (7, [.ref q7, .ref q15, .ref q23, .int (nI 0), .int (nI 0), .int (nI 0)])), (q7, .inl (cJ, 136800, .inr (.inl (fun _ => 0)))), (q15, .inl (cJ, 136800, .inr (.inl (fun _ => 0)))), (q23, .inl (cJ, 136800, .inr (.inl (fun _ => 0))))] H := hP
  replace hD : va_D A [(h0, .inr (7, [.ref q7, .ref q15, .ref q23, .int (nI 0), .int (nI 0), .int (nI 0)])), (q7, .inl (cJ, 136800, .inr (.inl (fun _ => 0)))), (q15, .inl (cJ, 136800, .inr (.inl (fun _ => 0)))), (q23, .inl (cJ, 136800, .inr (.inl (fun _ => 0))))] := hD
  refine lv_aload_n hx hb dX7_init_28 rfl (lv_at hl 0 rfl) ?_
  refine va_get (D := D) (ci := 7) (v := .ref q7) (C := RX7) (T := TX7) (N := 6) hx hb hts hin7 hown hK hP 0 rfl rfl 0 (by decide) (hts (.fieldLink RX7 8 "MeshRoutingModel" "v" "[J") (List.mem_cons_of_mem _ q_665)) (fun _ h9 => h9) rfl dX7_init_29 ?_
  refine lv_iconst (v := nI 1) hx hb dX7_init_32 (by decide) ?_
  refine lv_iload_n hx hb dX7_init_33 rfl (lv_at hl 1 rfl) ?_
  refine lv_iconst (v := nI 2) hx hb dX7_init_34 (by decide) ?_
  rcases hx9 with ⟨hx8, rfl⟩ | ⟨hx8, rfl⟩ | ⟨rfl, hx8, hx7⟩
  · refine lv_icmp_ge (tgt := 44) hx hb dX7_init_35 (by decide) (fun h9 => absurd h9 (k_n2 hx8)) (fun _ => ?_)
    refine lv_ldc2 (v := 2) hx hb hown (by exact hts (.constantLong RX7 20 (2)) (List.mem_cons_of_mem _ q_719)) dX7_init_38 ?_
    refine k_tl (show (2) = (lN 2) from by decide) ?_
    refine lv_goto (tgt := 58) hx hb dX7_init_41 (by decide) ?_
    refine k_last (f' := vp_updL (fun _ => 0) 1 (lN 2)) hx hb hK hP hD hS 1 1 rfl rfl (by omega) (by omega) (rfl) dX7_init_58 (fun H locs hP hD hS => ?_)
    replace hP : va_P D vwCl [(h0, .inr (7, [.ref q7, .ref q15, .ref q23, .int (nI 0), .int (nI 0), .int (nI 0)])), (q7, .inl (cJ, 136800, .inr (.inl (vp_updL (fun _ => 0) 1 (lN 2))))), (q15, .inl (cJ, 136800, .inr (.inl (fun _ => 0)))), (q23, .inl (cJ, 136800, .inr (.inl (fun _ => 0))))] H := hP
    replace hD : va_D A [(h0, .inr (7, [.ref q7, .ref q15, .ref q23, .int (nI 0), .int (nI 0), .int (nI 0)])), (q7, .inl (cJ, 136800, .inr (.inl (vp_updL (fun _ => 0) 1 (lN 2))))), (q15, .inl (cJ, 136800, .inr (.inl (fun _ => 0)))), (q23, .inl (cJ, 136800, .inr (.inl (fun _ => 0))))] := hD
    refine lv_aload_n hx hb dX7_init_59 rfl (lv_at hl 0 rfl) ?_
    refine va_get (D := D) (ci := 7) (v := .ref q7) (C := RX7) (T := TX7) (N := 6) hx hb hts hin7 hown hK hP 0 rfl rfl 0 (by decide) (hts (.fieldLink RX7 8 "MeshRoutingModel" "v" "[J") (List.mem_cons_of_mem _ q_665)) (fun _ h9 => h9) rfl dX7_init_60 ?_
    refine lv_bipush (v := nI 11) hx hb dX7_init_63 (by decide) ?_
    refine lv_ldc2 (v := -1) hx hb hown (by exact hts (.constantLong RX7 24 (-1)) (List.mem_cons_of_mem _ q_666)) dX7_init_65 ?_
    refine k_tl (show (-1) = ((-1)) from by decide) ?_
    refine k_last (f' := vp_updL (vp_updL (fun _ => 0) 1 (lN 2)) 11 (-1)) hx hb hK hP hD hS 1 1 rfl rfl (by omega) (by omega) (rfl) dX7_init_68 (fun H locs hP hD hS => ?_)
    replace hP : va_P D vwCl [(h0, .inr (7, [.ref q7, .ref q15, .ref q23, .int (nI 0), .int (nI 0), .int (nI 0)])), (q7, .inl (cJ, 136800, .inr (.inl (vp_updL (vp_updL (fun _ => 0) 1 (lN 2)) 11 (-1))))), (q15, .inl (cJ, 136800, .inr (.inl (fun _ => 0)))), (q23, .inl (cJ, 136800, .inr (.inl (fun _ => 0))))] H := hP
    replace hD : va_D A [(h0, .inr (7, [.ref q7, .ref q15, .ref q23, .int (nI 0), .int (nI 0), .int (nI 0)])), (q7, .inl (cJ, 136800, .inr (.inl (vp_updL (vp_updL (fun _ => 0) 1 (lN 2)) 11 (-1))))), (q15, .inl (cJ, 136800, .inr (.inl (fun _ => 0)))), (q23, .inl (cJ, 136800, .inr (.inl (fun _ => 0))))] := hD
    refine lv_iconst (v := nI 0) hx hb dX7_init_69 (by decide) ?_
    refine lv_istore_n (lv' := [(2, .int (nI 0)), (0, .ref h0), (1, .int x)]) hx hb dX7_init_70 rfl hl (by decide) rfl (fun ls hl => ?_)
    replace hD := k_reD (q := 1) (e2 := .inl (cJ, 136800, .inr (.inl (gL (vp_updL (vp_updL (fun _ => 0) 1 (lN 2)) 11 (-1)) 0)))) hD rfl
    replace hP := k_reJ (q := 1) (g := (gL (vp_updL (vp_updL (fun _ => 0) 1 (lN 2)) 11 (-1)) 0)) hP rfl (fun j _ => congrFun gL_0 j)
    replace hP : va_P D vwCl [(h0, .inr (7, [.ref q7, .ref q15, .ref q23, .int (nI 0), .int (nI 0), .int (nI 0)])), (q7, .inl (cJ, 136800, .inr (.inl (gL (vp_updL (vp_updL (fun _ => 0) 1 (lN 2)) 11 (-1)) 0)))), (q15, .inl (cJ, 136800, .inr (.inl (fun _ => 0)))), (q23, .inl (cJ, 136800, .inr (.inl (fun _ => 0))))] _ := hP
    replace hD : va_D A [(h0, .inr (7, [.ref q7, .ref q15, .ref q23, .int (nI 0), .int (nI 0), .int (nI 0)])), (q7, .inl (cJ, 136800, .inr (.inl (gL (vp_updL (vp_updL (fun _ => 0) 1 (lN 2)) 11 (-1)) 0)))), (q15, .inl (cJ, 136800, .inr (.inl (fun _ => 0)))), (q23, .inl (cJ, 136800, .inr (.inl (fun _ => 0))))] := hD
    refine k_loop (nL := 3) (wf := fun k => [(h0, .inr (7, [.ref q7, .ref q15, .ref q23, .int (nI 0), .int (nI 0), .int (nI 0)])), (q7, .inl (cJ, 136800, .inr (.inl (gL (vp_updL (vp_updL (fun _ => 0) 1 (lN 2)) 11 (-1)) k)))), (q15, .inl (cJ, 136800, .inr (.inl (fun _ => 0)))), (q23, .inl (cJ, 136800, .inr (.inl (fun _ => 0))))]) (lvf := fun k => [(0, .ref h0), (1, .int x), (2, .int (nI k))]) (B := 10) 0 (Nat.zero_le _) hP hD hS (lv_sub hl [1, 2, 0] rfl) (fun H locs ls hP hD hS hl => ?_) (fun k hk9 hk ih H locs ls hP hD hS hl => ?_)
    · replace hP : va_P D vwCl [(h0, .inr (7, [.ref q7, .ref q15, .ref q23, .int (nI 0), .int (nI 0), .int (nI 0)])), (q7, .inl (cJ, 136800, .inr (.inl (gL (vp_updL (vp_updL (fun _ => 0) 1 (lN 2)) 11 (-1)) 10)))), (q15, .inl (cJ, 136800, .inr (.inl (fun _ => 0)))), (q23, .inl (cJ, 136800, .inr (.inl (fun _ => 0))))] H := hP
      replace hD : va_D A [(h0, .inr (7, [.ref q7, .ref q15, .ref q23, .int (nI 0), .int (nI 0), .int (nI 0)])), (q7, .inl (cJ, 136800, .inr (.inl (gL (vp_updL (vp_updL (fun _ => 0) 1 (lN 2)) 11 (-1)) 10)))), (q15, .inl (cJ, 136800, .inr (.inl (fun _ => 0)))), (q23, .inl (cJ, 136800, .inr (.inl (fun _ => 0))))] := hD
      replace hl : lv_has ls 3 [(0, .ref h0), (1, .int x), (2, .int (nI 10))] := hl
      refine lv_iload_n hx hb dX7_init_71 rfl (lv_at hl 2 rfl) ?_
      refine lv_bipush (v := nI 10) hx hb dX7_init_72 (by decide) ?_
      refine k_icmp_ge (tgt := 107) hx hb dX7_init_74 (by decide) (by omega) (by omega) (fun _ => ?_) (fun h9 => absurd h9 (by omega))
      refine lv_aload_n hx hb dX7_init_107 rfl (lv_at hl 0 rfl) ?_
      refine va_get (D := D) (ci := 7) (v := .ref q7) (C := RX7) (T := TX7) (N := 6) hx hb hts hin7 hown hK hP 0 rfl rfl 0 (by decide) (hts (.fieldLink RX7 8 "MeshRoutingModel" "v" "[J") (List.mem_cons_of_mem _ q_665)) (fun _ h9 => h9) rfl dX7_init_108 ?_
      refine lv_bipush (v := nI 40) hx hb dX7_init_111 (by decide) ?_
      refine lv_ldc2 (v := 60) hx hb hown (by exact hts (.constantLong RX7 26 (60)) (List.mem_cons_of_mem _ q_916)) dX7_init_113 ?_
      refine k_tl (show (60) = (lN 60) from by decide) ?_
      refine k_last (f' := vp_updL (gL (vp_updL (vp_updL (fun _ => 0) 1 (lN 2)) 11 (-1)) 10) 40 (lN 60)) hx hb hK hP hD hS 1 1 rfl rfl (by omega) (by omega) (rfl) dX7_init_116 (fun H locs hP hD hS => ?_)
      replace hP : va_P D vwCl [(h0, .inr (7, [.ref q7, .ref q15, .ref q23, .int (nI 0), .int (nI 0), .int (nI 0)])), (q7, .inl (cJ, 136800, .inr (.inl (vp_updL (gL (vp_updL (vp_updL (fun _ => 0) 1 (lN 2)) 11 (-1)) 10) 40 (lN 60))))), (q15, .inl (cJ, 136800, .inr (.inl (fun _ => 0)))), (q23, .inl (cJ, 136800, .inr (.inl (fun _ => 0))))] H := hP
      replace hD : va_D A [(h0, .inr (7, [.ref q7, .ref q15, .ref q23, .int (nI 0), .int (nI 0), .int (nI 0)])), (q7, .inl (cJ, 136800, .inr (.inl (vp_updL (gL (vp_updL (vp_updL (fun _ => 0) 1 (lN 2)) 11 (-1)) 10) 40 (lN 60))))), (q15, .inl (cJ, 136800, .inr (.inl (fun _ => 0)))), (q23, .inl (cJ, 136800, .inr (.inl (fun _ => 0))))] := hD
      refine lv_aload_n hx hb dX7_init_117 rfl (lv_at hl 0 rfl) ?_
      refine va_get (D := D) (ci := 7) (v := .ref q7) (C := RX7) (T := TX7) (N := 6) hx hb hts hin7 hown hK hP 0 rfl rfl 0 (by decide) (hts (.fieldLink RX7 8 "MeshRoutingModel" "v" "[J") (List.mem_cons_of_mem _ q_665)) (fun _ h9 => h9) rfl dX7_init_118 ?_
      refine lv_bipush (v := nI 41) hx hb dX7_init_121 (by decide) ?_
      refine lv_lconst (v := lN 1) hx hb dX7_init_123 (by decide) ?_
      refine k_last (f' := vp_updL (vp_updL (gL (vp_updL (vp_updL (fun _ => 0) 1 (lN 2)) 11 (-1)) 10) 40 (lN 60)) 41 (lN 1)) hx hb hK hP hD hS 1 1 rfl rfl (by omega) (by omega) (rfl) dX7_init_124 (fun H locs hP hD hS => ?_)
      replace hP : va_P D vwCl [(h0, .inr (7, [.ref q7, .ref q15, .ref q23, .int (nI 0), .int (nI 0), .int (nI 0)])), (q7, .inl (cJ, 136800, .inr (.inl (vp_updL (vp_updL (gL (vp_updL (vp_updL (fun _ => 0) 1 (lN 2)) 11 (-1)) 10) 40 (lN 60)) 41 (lN 1))))), (q15, .inl (cJ, 136800, .inr (.inl (fun _ => 0)))), (q23, .inl (cJ, 136800, .inr (.inl (fun _ => 0))))] H := hP
      replace hD : va_D A [(h0, .inr (7, [.ref q7, .ref q15, .ref q23, .int (nI 0), .int (nI 0), .int (nI 0)])), (q7, .inl (cJ, 136800, .inr (.inl (vp_updL (vp_updL (gL (vp_updL (vp_updL (fun _ => 0) 1 (lN 2)) 11 (-1)) 10) 40 (lN 60)) 41 (lN 1))))), (q15, .inl (cJ, 136800, .inr (.inl (fun _ => 0)))), (q23, .inl (cJ, 136800, .inr (.inl (fun _ => 0))))] := hD
      refine lv_aload_n hx hb dX7_init_125 rfl (lv_at hl 0 rfl) ?_
      refine va_get (D := D) (ci := 7) (v := .ref q7) (C := RX7) (T := TX7) (N := 6) hx hb hts hin7 hown hK hP 0 rfl rfl 0 (by decide) (hts (.fieldLink RX7 8 "MeshRoutingModel" "v" "[J") (List.mem_cons_of_mem _ q_665)) (fun _ h9 => h9) rfl dX7_init_126 ?_
      refine lv_bipush (v := nI 42) hx hb dX7_init_129 (by decide) ?_
      refine lv_ldc2 (v := 2) hx hb hown (by exact hts (.constantLong RX7 20 (2)) (List.mem_cons_of_mem _ q_719)) dX7_init_131 ?_
      refine k_tl (show (2) = (lN 2) from by decide) ?_
      refine k_last (f' := vp_updL (vp_updL (vp_updL (gL (vp_updL (vp_updL (fun _ => 0) 1 (lN 2)) 11 (-1)) 10) 40 (lN 60)) 41 (lN 1)) 42 (lN 2)) hx hb hK hP hD hS 1 1 rfl rfl (by omega) (by omega) (rfl) dX7_init_134 (fun H locs hP hD hS => ?_)
      replace hP : va_P D vwCl [(h0, .inr (7, [.ref q7, .ref q15, .ref q23, .int (nI 0), .int (nI 0), .int (nI 0)])), (q7, .inl (cJ, 136800, .inr (.inl (vp_updL (vp_updL (vp_updL (gL (vp_updL (vp_updL (fun _ => 0) 1 (lN 2)) 11 (-1)) 10) 40 (lN 60)) 41 (lN 1)) 42 (lN 2))))), (q15, .inl (cJ, 136800, .inr (.inl (fun _ => 0)))), (q23, .inl (cJ, 136800, .inr (.inl (fun _ => 0))))] H := hP
      replace hD : va_D A [(h0, .inr (7, [.ref q7, .ref q15, .ref q23, .int (nI 0), .int (nI 0), .int (nI 0)])), (q7, .inl (cJ, 136800, .inr (.inl (vp_updL (vp_updL (vp_updL (gL (vp_updL (vp_updL (fun _ => 0) 1 (lN 2)) 11 (-1)) 10) 40 (lN 60)) 41 (lN 1)) 42 (lN 2))))), (q15, .inl (cJ, 136800, .inr (.inl (fun _ => 0)))), (q23, .inl (cJ, 136800, .inr (.inl (fun _ => 0))))] := hD
      refine lv_aload_n hx hb dX7_init_135 rfl (lv_at hl 0 rfl) ?_
      refine va_get (D := D) (ci := 7) (v := .ref q7) (C := RX7) (T := TX7) (N := 6) hx hb hts hin7 hown hK hP 0 rfl rfl 0 (by decide) (hts (.fieldLink RX7 8 "MeshRoutingModel" "v" "[J") (List.mem_cons_of_mem _ q_665)) (fun _ h9 => h9) rfl dX7_init_136 ?_
      refine lv_bipush (v := nI 43) hx hb dX7_init_139 (by decide) ?_
      refine lv_ldc2 (v := 5) hx hb hown (by exact hts (.constantLong RX7 28 (5)) (List.mem_cons_of_mem _ q_917)) dX7_init_141 ?_
      refine k_tl (show (5) = (lN 5) from by decide) ?_
      refine k_last (f' := vp_updL (vp_updL (vp_updL (vp_updL (gL (vp_updL (vp_updL (fun _ => 0) 1 (lN 2)) 11 (-1)) 10) 40 (lN 60)) 41 (lN 1)) 42 (lN 2)) 43 (lN 5)) hx hb hK hP hD hS 1 1 rfl rfl (by omega) (by omega) (rfl) dX7_init_144 (fun H locs hP hD hS => ?_)
      replace hP : va_P D vwCl [(h0, .inr (7, [.ref q7, .ref q15, .ref q23, .int (nI 0), .int (nI 0), .int (nI 0)])), (q7, .inl (cJ, 136800, .inr (.inl (vp_updL (vp_updL (vp_updL (vp_updL (gL (vp_updL (vp_updL (fun _ => 0) 1 (lN 2)) 11 (-1)) 10) 40 (lN 60)) 41 (lN 1)) 42 (lN 2)) 43 (lN 5))))), (q15, .inl (cJ, 136800, .inr (.inl (fun _ => 0)))), (q23, .inl (cJ, 136800, .inr (.inl (fun _ => 0))))] H := hP
      replace hD : va_D A [(h0, .inr (7, [.ref q7, .ref q15, .ref q23, .int (nI 0), .int (nI 0), .int (nI 0)])), (q7, .inl (cJ, 136800, .inr (.inl (vp_updL (vp_updL (vp_updL (vp_updL (gL (vp_updL (vp_updL (fun _ => 0) 1 (lN 2)) 11 (-1)) 10) 40 (lN 60)) 41 (lN 1)) 42 (lN 2)) 43 (lN 5))))), (q15, .inl (cJ, 136800, .inr (.inl (fun _ => 0)))), (q23, .inl (cJ, 136800, .inr (.inl (fun _ => 0))))] := hD
      refine lv_aload_n hx hb dX7_init_145 rfl (lv_at hl 0 rfl) ?_
      refine va_get (D := D) (ci := 7) (v := .ref q7) (C := RX7) (T := TX7) (N := 6) hx hb hts hin7 hown hK hP 0 rfl rfl 0 (by decide) (hts (.fieldLink RX7 8 "MeshRoutingModel" "v" "[J") (List.mem_cons_of_mem _ q_665)) (fun _ h9 => h9) rfl dX7_init_146 ?_
      refine lv_bipush (v := nI 44) hx hb dX7_init_149 (by decide) ?_
      refine lv_ldc2 (v := 10) hx hb hown (by exact hts (.constantLong RX7 22 (10)) (List.mem_cons_of_mem _ q_702)) dX7_init_151 ?_
      refine k_tl (show (10) = (lN 10) from by decide) ?_
      refine k_last (f' := vp_updL (vp_updL (vp_updL (vp_updL (vp_updL (gL (vp_updL (vp_updL (fun _ => 0) 1 (lN 2)) 11 (-1)) 10) 40 (lN 60)) 41 (lN 1)) 42 (lN 2)) 43 (lN 5)) 44 (lN 10)) hx hb hK hP hD hS 1 1 rfl rfl (by omega) (by omega) (rfl) dX7_init_154 (fun H locs hP hD hS => ?_)
      replace hP : va_P D vwCl [(h0, .inr (7, [.ref q7, .ref q15, .ref q23, .int (nI 0), .int (nI 0), .int (nI 0)])), (q7, .inl (cJ, 136800, .inr (.inl (vp_updL (vp_updL (vp_updL (vp_updL (vp_updL (gL (vp_updL (vp_updL (fun _ => 0) 1 (lN 2)) 11 (-1)) 10) 40 (lN 60)) 41 (lN 1)) 42 (lN 2)) 43 (lN 5)) 44 (lN 10))))), (q15, .inl (cJ, 136800, .inr (.inl (fun _ => 0)))), (q23, .inl (cJ, 136800, .inr (.inl (fun _ => 0))))] H := hP
      replace hD : va_D A [(h0, .inr (7, [.ref q7, .ref q15, .ref q23, .int (nI 0), .int (nI 0), .int (nI 0)])), (q7, .inl (cJ, 136800, .inr (.inl (vp_updL (vp_updL (vp_updL (vp_updL (vp_updL (gL (vp_updL (vp_updL (fun _ => 0) 1 (lN 2)) 11 (-1)) 10) 40 (lN 60)) 41 (lN 1)) 42 (lN 2)) 43 (lN 5)) 44 (lN 10))))), (q15, .inl (cJ, 136800, .inr (.inl (fun _ => 0)))), (q23, .inl (cJ, 136800, .inr (.inl (fun _ => 0))))] := hD
      refine lv_aload_n hx hb dX7_init_155 rfl (lv_at hl 0 rfl) ?_
      refine va_get (D := D) (ci := 7) (v := .ref q7) (C := RX7) (T := TX7) (N := 6) hx hb hts hin7 hown hK hP 0 rfl rfl 0 (by decide) (hts (.fieldLink RX7 8 "MeshRoutingModel" "v" "[J") (List.mem_cons_of_mem _ q_665)) (fun _ h9 => h9) rfl dX7_init_156 ?_
      refine lv_bipush (v := nI 45) hx hb dX7_init_159 (by decide) ?_
      refine lv_ldc2 (v := 2) hx hb hown (by exact hts (.constantLong RX7 20 (2)) (List.mem_cons_of_mem _ q_719)) dX7_init_161 ?_
      refine k_tl (show (2) = (lN 2) from by decide) ?_
      refine k_last (f' := vp_updL (vp_updL (vp_updL (vp_updL (vp_updL (vp_updL (gL (vp_updL (vp_updL (fun _ => 0) 1 (lN 2)) 11 (-1)) 10) 40 (lN 60)) 41 (lN 1)) 42 (lN 2)) 43 (lN 5)) 44 (lN 10)) 45 (lN 2)) hx hb hK hP hD hS 1 1 rfl rfl (by omega) (by omega) (rfl) dX7_init_164 (fun H locs hP hD hS => ?_)
      replace hP : va_P D vwCl [(h0, .inr (7, [.ref q7, .ref q15, .ref q23, .int (nI 0), .int (nI 0), .int (nI 0)])), (q7, .inl (cJ, 136800, .inr (.inl (vp_updL (vp_updL (vp_updL (vp_updL (vp_updL (vp_updL (gL (vp_updL (vp_updL (fun _ => 0) 1 (lN 2)) 11 (-1)) 10) 40 (lN 60)) 41 (lN 1)) 42 (lN 2)) 43 (lN 5)) 44 (lN 10)) 45 (lN 2))))), (q15, .inl (cJ, 136800, .inr (.inl (fun _ => 0)))), (q23, .inl (cJ, 136800, .inr (.inl (fun _ => 0))))] H := hP
      replace hD : va_D A [(h0, .inr (7, [.ref q7, .ref q15, .ref q23, .int (nI 0), .int (nI 0), .int (nI 0)])), (q7, .inl (cJ, 136800, .inr (.inl (vp_updL (vp_updL (vp_updL (vp_updL (vp_updL (vp_updL (gL (vp_updL (vp_updL (fun _ => 0) 1 (lN 2)) 11 (-1)) 10) 40 (lN 60)) 41 (lN 1)) 42 (lN 2)) 43 (lN 5)) 44 (lN 10)) 45 (lN 2))))), (q15, .inl (cJ, 136800, .inr (.inl (fun _ => 0)))), (q23, .inl (cJ, 136800, .inr (.inl (fun _ => 0))))] := hD
      refine lv_aload_n hx hb dX7_init_165 rfl (lv_at hl 0 rfl) ?_
      refine va_get (D := D) (ci := 7) (v := .ref q7) (C := RX7) (T := TX7) (N := 6) hx hb hts hin7 hown hK hP 0 rfl rfl 0 (by decide) (hts (.fieldLink RX7 8 "MeshRoutingModel" "v" "[J") (List.mem_cons_of_mem _ q_665)) (fun _ h9 => h9) rfl dX7_init_166 ?_
      refine lv_bipush (v := nI 46) hx hb dX7_init_169 (by decide) ?_
      refine lv_ldc2 (v := 20) hx hb hown (by exact hts (.constantLong RX7 30 (20)) (List.mem_cons_of_mem _ q_918)) dX7_init_171 ?_
      refine k_tl (show (20) = (lN 20) from by decide) ?_
      refine k_last (f' := vp_updL (vp_updL (vp_updL (vp_updL (vp_updL (vp_updL (vp_updL (gL (vp_updL (vp_updL (fun _ => 0) 1 (lN 2)) 11 (-1)) 10) 40 (lN 60)) 41 (lN 1)) 42 (lN 2)) 43 (lN 5)) 44 (lN 10)) 45 (lN 2)) 46 (lN 20)) hx hb hK hP hD hS 1 1 rfl rfl (by omega) (by omega) (rfl) dX7_init_174 (fun H locs hP hD hS => ?_)
      replace hP : va_P D vwCl [(h0, .inr (7, [.ref q7, .ref q15, .ref q23, .int (nI 0), .int (nI 0), .int (nI 0)])), (q7, .inl (cJ, 136800, .inr (.inl (vp_updL (vp_updL (vp_updL (vp_updL (vp_updL (vp_updL (vp_updL (gL (vp_updL (vp_updL (fun _ => 0) 1 (lN 2)) 11 (-1)) 10) 40 (lN 60)) 41 (lN 1)) 42 (lN 2)) 43 (lN 5)) 44 (lN 10)) 45 (lN 2)) 46 (lN 20))))), (q15, .inl (cJ, 136800, .inr (.inl (fun _ => 0)))), (q23, .inl (cJ, 136800, .inr (.inl (fun _ => 0))))] H := hP
      replace hD : va_D A [(h0, .inr (7, [.ref q7, .ref q15, .ref q23, .int (nI 0), .int (nI 0), .int (nI 0)])), (q7, .inl (cJ, 136800, .inr (.inl (vp_updL (vp_updL (vp_updL (vp_updL (vp_updL (vp_updL (vp_updL (gL (vp_updL (vp_updL (fun _ => 0) 1 (lN 2)) 11 (-1)) 10) 40 (lN 60)) 41 (lN 1)) 42 (lN 2)) 43 (lN 5)) 44 (lN 10)) 45 (lN 2)) 46 (lN 20))))), (q15, .inl (cJ, 136800, .inr (.inl (fun _ => 0)))), (q23, .inl (cJ, 136800, .inr (.inl (fun _ => 0))))] := hD
      refine lv_aload_n hx hb dX7_init_175 rfl (lv_at hl 0 rfl) ?_
      refine va_get (D := D) (ci := 7) (v := .ref q7) (C := RX7) (T := TX7) (N := 6) hx hb hts hin7 hown hK hP 0 rfl rfl 0 (by decide) (hts (.fieldLink RX7 8 "MeshRoutingModel" "v" "[J") (List.mem_cons_of_mem _ q_665)) (fun _ h9 => h9) rfl dX7_init_176 ?_
      refine lv_bipush (v := nI 47) hx hb dX7_init_179 (by decide) ?_
      refine lv_ldc2 (v := 3) hx hb hown (by exact hts (.constantLong RX7 32 (3)) (List.mem_cons_of_mem _ q_791)) dX7_init_181 ?_
      refine k_tl (show (3) = (lN 3) from by decide) ?_
      refine k_last (f' := vp_updL (vp_updL (vp_updL (vp_updL (vp_updL (vp_updL (vp_updL (vp_updL (gL (vp_updL (vp_updL (fun _ => 0) 1 (lN 2)) 11 (-1)) 10) 40 (lN 60)) 41 (lN 1)) 42 (lN 2)) 43 (lN 5)) 44 (lN 10)) 45 (lN 2)) 46 (lN 20)) 47 (lN 3)) hx hb hK hP hD hS 1 1 rfl rfl (by omega) (by omega) (rfl) dX7_init_184 (fun H locs hP hD hS => ?_)
      replace hP : va_P D vwCl [(h0, .inr (7, [.ref q7, .ref q15, .ref q23, .int (nI 0), .int (nI 0), .int (nI 0)])), (q7, .inl (cJ, 136800, .inr (.inl (vp_updL (vp_updL (vp_updL (vp_updL (vp_updL (vp_updL (vp_updL (vp_updL (gL (vp_updL (vp_updL (fun _ => 0) 1 (lN 2)) 11 (-1)) 10) 40 (lN 60)) 41 (lN 1)) 42 (lN 2)) 43 (lN 5)) 44 (lN 10)) 45 (lN 2)) 46 (lN 20)) 47 (lN 3))))), (q15, .inl (cJ, 136800, .inr (.inl (fun _ => 0)))), (q23, .inl (cJ, 136800, .inr (.inl (fun _ => 0))))] H := hP
      replace hD : va_D A [(h0, .inr (7, [.ref q7, .ref q15, .ref q23, .int (nI 0), .int (nI 0), .int (nI 0)])), (q7, .inl (cJ, 136800, .inr (.inl (vp_updL (vp_updL (vp_updL (vp_updL (vp_updL (vp_updL (vp_updL (vp_updL (gL (vp_updL (vp_updL (fun _ => 0) 1 (lN 2)) 11 (-1)) 10) 40 (lN 60)) 41 (lN 1)) 42 (lN 2)) 43 (lN 5)) 44 (lN 10)) 45 (lN 2)) 46 (lN 20)) 47 (lN 3))))), (q15, .inl (cJ, 136800, .inr (.inl (fun _ => 0)))), (q23, .inl (cJ, 136800, .inr (.inl (fun _ => 0))))] := hD
      replace hD := k_reD (q := 1) (e2 := .inl (cJ, 136800, .inr (.inl (mF 2)))) hD rfl
      replace hP := k_reJ (q := 1) (g := (mF 2)) hP rfl (fun j _ => k_mF j)
      replace hP : va_P D vwCl [(h0, .inr (7, [.ref q7, .ref q15, .ref q23, .int (nI 0), .int (nI 0), .int (nI 0)])), (q7, .inl (cJ, 136800, .inr (.inl (mF 2)))), (q15, .inl (cJ, 136800, .inr (.inl (fun _ => 0)))), (q23, .inl (cJ, 136800, .inr (.inl (fun _ => 0))))] _ := hP
      replace hD : va_D A [(h0, .inr (7, [.ref q7, .ref q15, .ref q23, .int (nI 0), .int (nI 0), .int (nI 0)])), (q7, .inl (cJ, 136800, .inr (.inl (mF 2)))), (q15, .inl (cJ, 136800, .inr (.inl (fun _ => 0)))), (q23, .inl (cJ, 136800, .inr (.inl (fun _ => 0))))] := hD
      have hP9 := hP.sub (ws' := [(h0, .inr (7, [.ref q7, .ref q15, .ref q23, .int (nI 0), .int (nI 0), .int (nI 0)])), (q7, .inl (cJ, 136800, .inr (.inl (mF 2)))), (q15, .inl (cJ, 136800, .inr (.inl (fun _ => 0)))), (q23, .inl (cJ, 136800, .inr (.inl (fun _ => 0))))]) [0, 1, 2, 3] rfl
      have hD9 := hD.sub (ws' := [(h0, .inr (7, [.ref q7, .ref q15, .ref q23, .int (nI 0), .int (nI 0), .int (nI 0)])), (q7, .inl (cJ, 136800, .inr (.inl (mF 2)))), (q15, .inl (cJ, 136800, .inr (.inl (fun _ => 0)))), (q23, .inl (cJ, 136800, .inr (.inl (fun _ => 0))))]) [0, 1, 2, 3] rfl rfl
      exact W.vret hx hb hr (fun t9 ht9 hW9 => ⟨⟨(fun k => match k with | 0 => q7 | 1 => q15 | 2 => q23 | _ => 0), rfl, trivial, by rw [ht9]; exact hP9, hD9⟩, hS.F ht9⟩) hS.2.2 dX7_init_185
    · replace hP : va_P D vwCl [(h0, .inr (7, [.ref q7, .ref q15, .ref q23, .int (nI 0), .int (nI 0), .int (nI 0)])), (q7, .inl (cJ, 136800, .inr (.inl (gL (vp_updL (vp_updL (fun _ => 0) 1 (lN 2)) 11 (-1)) k)))), (q15, .inl (cJ, 136800, .inr (.inl (fun _ => 0)))), (q23, .inl (cJ, 136800, .inr (.inl (fun _ => 0))))] H := hP
      replace hD : va_D A [(h0, .inr (7, [.ref q7, .ref q15, .ref q23, .int (nI 0), .int (nI 0), .int (nI 0)])), (q7, .inl (cJ, 136800, .inr (.inl (gL (vp_updL (vp_updL (fun _ => 0) 1 (lN 2)) 11 (-1)) k)))), (q15, .inl (cJ, 136800, .inr (.inl (fun _ => 0)))), (q23, .inl (cJ, 136800, .inr (.inl (fun _ => 0))))] := hD
      replace hl : lv_has ls 3 [(0, .ref h0), (1, .int x), (2, .int (nI k))] := hl
      refine lv_iload_n hx hb dX7_init_71 rfl (lv_at hl 2 rfl) ?_
      refine lv_bipush (v := nI 10) hx hb dX7_init_72 (by decide) ?_
      refine k_icmp_ge (tgt := 107) hx hb dX7_init_74 (by decide) (by omega) (by omega) (fun h9 => absurd h9 (by omega)) (fun _ => ?_)
      refine lv_aload_n hx hb dX7_init_77 rfl (lv_at hl 0 rfl) ?_
      refine va_get (D := D) (ci := 7) (v := .ref q7) (C := RX7) (T := TX7) (N := 6) hx hb hts hin7 hown hK hP 0 rfl rfl 0 (by decide) (hts (.fieldLink RX7 8 "MeshRoutingModel" "v" "[J") (List.mem_cons_of_mem _ q_665)) (fun _ h9 => h9) rfl dX7_init_78 ?_
      refine lv_bipush (v := nI 20) hx hb dX7_init_81 (by decide) ?_
      refine lv_iload_n hx hb dX7_init_83 rfl (lv_at hl 2 rfl) ?_
      refine lv_iadd hx hb dX7_init_84 ?_
      refine k_ti (show ((nI 20) + (nI k)) = (nI (20 + k)) from nI_add _ _) ?_
      refine lv_ldc2 (v := -1) hx hb hown (by exact hts (.constantLong RX7 24 (-1)) (List.mem_cons_of_mem _ q_666)) dX7_init_85 ?_
      refine k_tl (show (-1) = ((-1)) from by decide) ?_
      refine k_last (f' := vp_updL (gL (vp_updL (vp_updL (fun _ => 0) 1 (lN 2)) 11 (-1)) k) (20 + k) (-1)) hx hb hK hP hD hS 1 1 rfl rfl (by omega) (by omega) (rfl) dX7_init_88 (fun H locs hP hD hS => ?_)
      replace hP : va_P D vwCl [(h0, .inr (7, [.ref q7, .ref q15, .ref q23, .int (nI 0), .int (nI 0), .int (nI 0)])), (q7, .inl (cJ, 136800, .inr (.inl (vp_updL (gL (vp_updL (vp_updL (fun _ => 0) 1 (lN 2)) 11 (-1)) k) (20 + k) (-1))))), (q15, .inl (cJ, 136800, .inr (.inl (fun _ => 0)))), (q23, .inl (cJ, 136800, .inr (.inl (fun _ => 0))))] H := hP
      replace hD : va_D A [(h0, .inr (7, [.ref q7, .ref q15, .ref q23, .int (nI 0), .int (nI 0), .int (nI 0)])), (q7, .inl (cJ, 136800, .inr (.inl (vp_updL (gL (vp_updL (vp_updL (fun _ => 0) 1 (lN 2)) 11 (-1)) k) (20 + k) (-1))))), (q15, .inl (cJ, 136800, .inr (.inl (fun _ => 0)))), (q23, .inl (cJ, 136800, .inr (.inl (fun _ => 0))))] := hD
      refine lv_aload_n hx hb dX7_init_89 rfl (lv_at hl 0 rfl) ?_
      refine va_get (D := D) (ci := 7) (v := .ref q7) (C := RX7) (T := TX7) (N := 6) hx hb hts hin7 hown hK hP 0 rfl rfl 0 (by decide) (hts (.fieldLink RX7 8 "MeshRoutingModel" "v" "[J") (List.mem_cons_of_mem _ q_665)) (fun _ h9 => h9) rfl dX7_init_90 ?_
      refine lv_bipush (v := nI 30) hx hb dX7_init_93 (by decide) ?_
      refine lv_iload_n hx hb dX7_init_95 rfl (lv_at hl 2 rfl) ?_
      refine lv_iadd hx hb dX7_init_96 ?_
      refine k_ti (show ((nI 30) + (nI k)) = (nI (30 + k)) from nI_add _ _) ?_
      refine lv_ldc2 (v := -1) hx hb hown (by exact hts (.constantLong RX7 24 (-1)) (List.mem_cons_of_mem _ q_666)) dX7_init_97 ?_
      refine k_tl (show (-1) = ((-1)) from by decide) ?_
      refine k_last (f' := gL (vp_updL (vp_updL (fun _ => 0) 1 (lN 2)) 11 (-1)) (k + 1)) hx hb hK hP hD hS 1 1 rfl rfl (by omega) (by omega) (gL_s (by omega)) dX7_init_100 (fun H locs hP hD hS => ?_)
      replace hP : va_P D vwCl [(h0, .inr (7, [.ref q7, .ref q15, .ref q23, .int (nI 0), .int (nI 0), .int (nI 0)])), (q7, .inl (cJ, 136800, .inr (.inl (gL (vp_updL (vp_updL (fun _ => 0) 1 (lN 2)) 11 (-1)) (k + 1))))), (q15, .inl (cJ, 136800, .inr (.inl (fun _ => 0)))), (q23, .inl (cJ, 136800, .inr (.inl (fun _ => 0))))] H := hP
      replace hD : va_D A [(h0, .inr (7, [.ref q7, .ref q15, .ref q23, .int (nI 0), .int (nI 0), .int (nI 0)])), (q7, .inl (cJ, 136800, .inr (.inl (gL (vp_updL (vp_updL (fun _ => 0) 1 (lN 2)) 11 (-1)) (k + 1))))), (q15, .inl (cJ, 136800, .inr (.inl (fun _ => 0)))), (q23, .inl (cJ, 136800, .inr (.inl (fun _ => 0))))] := hD
      refine lv_iinc (v := nI (k + 1)) (lv' := [(2, .int (nI (k + 1))), (0, .ref h0), (1, .int x)]) hx hb dX7_init_101 hl (k := 2) rfl (by exact nI_add k 1) (by decide) rfl (fun ls hl => ?_)
      refine lv_goto (tgt := 71) hx hb dX7_init_104 (by decide) ?_
      exact ih _ _ _ hP hD hS (lv_sub hl [1, 2, 0] rfl)
  · refine lv_icmp_ge (tgt := 44) hx hb dX7_init_35 (by decide) (fun _ => ?_) (fun h9 => absurd ((k_n10 hx8).1) h9)
    refine lv_iload_n hx hb dX7_init_44 rfl (lv_at hl 1 rfl) ?_
    refine lv_bipush (v := nI 10) hx hb dX7_init_45 (by decide) ?_
    refine lv_icmp_le (tgt := 56) hx hb dX7_init_47 (by decide) (fun h9 => absurd h9 ((k_n10 hx8).2)) (fun _ => ?_)
    refine lv_ldc2 (v := 10) hx hb hown (by exact hts (.constantLong RX7 22 (10)) (List.mem_cons_of_mem _ q_702)) dX7_init_50 ?_
    refine k_tl (show (10) = (lN 10) from by decide) ?_
    refine lv_goto (tgt := 58) hx hb dX7_init_53 (by decide) ?_
    refine k_last (f' := vp_updL (fun _ => 0) 1 (lN 10)) hx hb hK hP hD hS 1 1 rfl rfl (by omega) (by omega) (rfl) dX7_init_58 (fun H locs hP hD hS => ?_)
    replace hP : va_P D vwCl [(h0, .inr (7, [.ref q7, .ref q15, .ref q23, .int (nI 0), .int (nI 0), .int (nI 0)])), (q7, .inl (cJ, 136800, .inr (.inl (vp_updL (fun _ => 0) 1 (lN 10))))), (q15, .inl (cJ, 136800, .inr (.inl (fun _ => 0)))), (q23, .inl (cJ, 136800, .inr (.inl (fun _ => 0))))] H := hP
    replace hD : va_D A [(h0, .inr (7, [.ref q7, .ref q15, .ref q23, .int (nI 0), .int (nI 0), .int (nI 0)])), (q7, .inl (cJ, 136800, .inr (.inl (vp_updL (fun _ => 0) 1 (lN 10))))), (q15, .inl (cJ, 136800, .inr (.inl (fun _ => 0)))), (q23, .inl (cJ, 136800, .inr (.inl (fun _ => 0))))] := hD
    refine lv_aload_n hx hb dX7_init_59 rfl (lv_at hl 0 rfl) ?_
    refine va_get (D := D) (ci := 7) (v := .ref q7) (C := RX7) (T := TX7) (N := 6) hx hb hts hin7 hown hK hP 0 rfl rfl 0 (by decide) (hts (.fieldLink RX7 8 "MeshRoutingModel" "v" "[J") (List.mem_cons_of_mem _ q_665)) (fun _ h9 => h9) rfl dX7_init_60 ?_
    refine lv_bipush (v := nI 11) hx hb dX7_init_63 (by decide) ?_
    refine lv_ldc2 (v := -1) hx hb hown (by exact hts (.constantLong RX7 24 (-1)) (List.mem_cons_of_mem _ q_666)) dX7_init_65 ?_
    refine k_tl (show (-1) = ((-1)) from by decide) ?_
    refine k_last (f' := vp_updL (vp_updL (fun _ => 0) 1 (lN 10)) 11 (-1)) hx hb hK hP hD hS 1 1 rfl rfl (by omega) (by omega) (rfl) dX7_init_68 (fun H locs hP hD hS => ?_)
    replace hP : va_P D vwCl [(h0, .inr (7, [.ref q7, .ref q15, .ref q23, .int (nI 0), .int (nI 0), .int (nI 0)])), (q7, .inl (cJ, 136800, .inr (.inl (vp_updL (vp_updL (fun _ => 0) 1 (lN 10)) 11 (-1))))), (q15, .inl (cJ, 136800, .inr (.inl (fun _ => 0)))), (q23, .inl (cJ, 136800, .inr (.inl (fun _ => 0))))] H := hP
    replace hD : va_D A [(h0, .inr (7, [.ref q7, .ref q15, .ref q23, .int (nI 0), .int (nI 0), .int (nI 0)])), (q7, .inl (cJ, 136800, .inr (.inl (vp_updL (vp_updL (fun _ => 0) 1 (lN 10)) 11 (-1))))), (q15, .inl (cJ, 136800, .inr (.inl (fun _ => 0)))), (q23, .inl (cJ, 136800, .inr (.inl (fun _ => 0))))] := hD
    refine lv_iconst (v := nI 0) hx hb dX7_init_69 (by decide) ?_
    refine lv_istore_n (lv' := [(2, .int (nI 0)), (0, .ref h0), (1, .int x)]) hx hb dX7_init_70 rfl hl (by decide) rfl (fun ls hl => ?_)
    replace hD := k_reD (q := 1) (e2 := .inl (cJ, 136800, .inr (.inl (gL (vp_updL (vp_updL (fun _ => 0) 1 (lN 10)) 11 (-1)) 0)))) hD rfl
    replace hP := k_reJ (q := 1) (g := (gL (vp_updL (vp_updL (fun _ => 0) 1 (lN 10)) 11 (-1)) 0)) hP rfl (fun j _ => congrFun gL_0 j)
    replace hP : va_P D vwCl [(h0, .inr (7, [.ref q7, .ref q15, .ref q23, .int (nI 0), .int (nI 0), .int (nI 0)])), (q7, .inl (cJ, 136800, .inr (.inl (gL (vp_updL (vp_updL (fun _ => 0) 1 (lN 10)) 11 (-1)) 0)))), (q15, .inl (cJ, 136800, .inr (.inl (fun _ => 0)))), (q23, .inl (cJ, 136800, .inr (.inl (fun _ => 0))))] _ := hP
    replace hD : va_D A [(h0, .inr (7, [.ref q7, .ref q15, .ref q23, .int (nI 0), .int (nI 0), .int (nI 0)])), (q7, .inl (cJ, 136800, .inr (.inl (gL (vp_updL (vp_updL (fun _ => 0) 1 (lN 10)) 11 (-1)) 0)))), (q15, .inl (cJ, 136800, .inr (.inl (fun _ => 0)))), (q23, .inl (cJ, 136800, .inr (.inl (fun _ => 0))))] := hD
    refine k_loop (nL := 3) (wf := fun k => [(h0, .inr (7, [.ref q7, .ref q15, .ref q23, .int (nI 0), .int (nI 0), .int (nI 0)])), (q7, .inl (cJ, 136800, .inr (.inl (gL (vp_updL (vp_updL (fun _ => 0) 1 (lN 10)) 11 (-1)) k)))), (q15, .inl (cJ, 136800, .inr (.inl (fun _ => 0)))), (q23, .inl (cJ, 136800, .inr (.inl (fun _ => 0))))]) (lvf := fun k => [(0, .ref h0), (1, .int x), (2, .int (nI k))]) (B := 10) 0 (Nat.zero_le _) hP hD hS (lv_sub hl [1, 2, 0] rfl) (fun H locs ls hP hD hS hl => ?_) (fun k hk9 hk ih H locs ls hP hD hS hl => ?_)
    · replace hP : va_P D vwCl [(h0, .inr (7, [.ref q7, .ref q15, .ref q23, .int (nI 0), .int (nI 0), .int (nI 0)])), (q7, .inl (cJ, 136800, .inr (.inl (gL (vp_updL (vp_updL (fun _ => 0) 1 (lN 10)) 11 (-1)) 10)))), (q15, .inl (cJ, 136800, .inr (.inl (fun _ => 0)))), (q23, .inl (cJ, 136800, .inr (.inl (fun _ => 0))))] H := hP
      replace hD : va_D A [(h0, .inr (7, [.ref q7, .ref q15, .ref q23, .int (nI 0), .int (nI 0), .int (nI 0)])), (q7, .inl (cJ, 136800, .inr (.inl (gL (vp_updL (vp_updL (fun _ => 0) 1 (lN 10)) 11 (-1)) 10)))), (q15, .inl (cJ, 136800, .inr (.inl (fun _ => 0)))), (q23, .inl (cJ, 136800, .inr (.inl (fun _ => 0))))] := hD
      replace hl : lv_has ls 3 [(0, .ref h0), (1, .int x), (2, .int (nI 10))] := hl
      refine lv_iload_n hx hb dX7_init_71 rfl (lv_at hl 2 rfl) ?_
      refine lv_bipush (v := nI 10) hx hb dX7_init_72 (by decide) ?_
      refine k_icmp_ge (tgt := 107) hx hb dX7_init_74 (by decide) (by omega) (by omega) (fun _ => ?_) (fun h9 => absurd h9 (by omega))
      refine lv_aload_n hx hb dX7_init_107 rfl (lv_at hl 0 rfl) ?_
      refine va_get (D := D) (ci := 7) (v := .ref q7) (C := RX7) (T := TX7) (N := 6) hx hb hts hin7 hown hK hP 0 rfl rfl 0 (by decide) (hts (.fieldLink RX7 8 "MeshRoutingModel" "v" "[J") (List.mem_cons_of_mem _ q_665)) (fun _ h9 => h9) rfl dX7_init_108 ?_
      refine lv_bipush (v := nI 40) hx hb dX7_init_111 (by decide) ?_
      refine lv_ldc2 (v := 60) hx hb hown (by exact hts (.constantLong RX7 26 (60)) (List.mem_cons_of_mem _ q_916)) dX7_init_113 ?_
      refine k_tl (show (60) = (lN 60) from by decide) ?_
      refine k_last (f' := vp_updL (gL (vp_updL (vp_updL (fun _ => 0) 1 (lN 10)) 11 (-1)) 10) 40 (lN 60)) hx hb hK hP hD hS 1 1 rfl rfl (by omega) (by omega) (rfl) dX7_init_116 (fun H locs hP hD hS => ?_)
      replace hP : va_P D vwCl [(h0, .inr (7, [.ref q7, .ref q15, .ref q23, .int (nI 0), .int (nI 0), .int (nI 0)])), (q7, .inl (cJ, 136800, .inr (.inl (vp_updL (gL (vp_updL (vp_updL (fun _ => 0) 1 (lN 10)) 11 (-1)) 10) 40 (lN 60))))), (q15, .inl (cJ, 136800, .inr (.inl (fun _ => 0)))), (q23, .inl (cJ, 136800, .inr (.inl (fun _ => 0))))] H := hP
      replace hD : va_D A [(h0, .inr (7, [.ref q7, .ref q15, .ref q23, .int (nI 0), .int (nI 0), .int (nI 0)])), (q7, .inl (cJ, 136800, .inr (.inl (vp_updL (gL (vp_updL (vp_updL (fun _ => 0) 1 (lN 10)) 11 (-1)) 10) 40 (lN 60))))), (q15, .inl (cJ, 136800, .inr (.inl (fun _ => 0)))), (q23, .inl (cJ, 136800, .inr (.inl (fun _ => 0))))] := hD
      refine lv_aload_n hx hb dX7_init_117 rfl (lv_at hl 0 rfl) ?_
      refine va_get (D := D) (ci := 7) (v := .ref q7) (C := RX7) (T := TX7) (N := 6) hx hb hts hin7 hown hK hP 0 rfl rfl 0 (by decide) (hts (.fieldLink RX7 8 "MeshRoutingModel" "v" "[J") (List.mem_cons_of_mem _ q_665)) (fun _ h9 => h9) rfl dX7_init_118 ?_
      refine lv_bipush (v := nI 41) hx hb dX7_init_121 (by decide) ?_
      refine lv_lconst (v := lN 1) hx hb dX7_init_123 (by decide) ?_
      refine k_last (f' := vp_updL (vp_updL (gL (vp_updL (vp_updL (fun _ => 0) 1 (lN 10)) 11 (-1)) 10) 40 (lN 60)) 41 (lN 1)) hx hb hK hP hD hS 1 1 rfl rfl (by omega) (by omega) (rfl) dX7_init_124 (fun H locs hP hD hS => ?_)
      replace hP : va_P D vwCl [(h0, .inr (7, [.ref q7, .ref q15, .ref q23, .int (nI 0), .int (nI 0), .int (nI 0)])), (q7, .inl (cJ, 136800, .inr (.inl (vp_updL (vp_updL (gL (vp_updL (vp_updL (fun _ => 0) 1 (lN 10)) 11 (-1)) 10) 40 (lN 60)) 41 (lN 1))))), (q15, .inl (cJ, 136800, .inr (.inl (fun _ => 0)))), (q23, .inl (cJ, 136800, .inr (.inl (fun _ => 0))))] H := hP
      replace hD : va_D A [(h0, .inr (7, [.ref q7, .ref q15, .ref q23, .int (nI 0), .int (nI 0), .int (nI 0)])), (q7, .inl (cJ, 136800, .inr (.inl (vp_updL (vp_updL (gL (vp_updL (vp_updL (fun _ => 0) 1 (lN 10)) 11 (-1)) 10) 40 (lN 60)) 41 (lN 1))))), (q15, .inl (cJ, 136800, .inr (.inl (fun _ => 0)))), (q23, .inl (cJ, 136800, .inr (.inl (fun _ => 0))))] := hD
      refine lv_aload_n hx hb dX7_init_125 rfl (lv_at hl 0 rfl) ?_
      refine va_get (D := D) (ci := 7) (v := .ref q7) (C := RX7) (T := TX7) (N := 6) hx hb hts hin7 hown hK hP 0 rfl rfl 0 (by decide) (hts (.fieldLink RX7 8 "MeshRoutingModel" "v" "[J") (List.mem_cons_of_mem _ q_665)) (fun _ h9 => h9) rfl dX7_init_126 ?_
      refine lv_bipush (v := nI 42) hx hb dX7_init_129 (by decide) ?_
      refine lv_ldc2 (v := 2) hx hb hown (by exact hts (.constantLong RX7 20 (2)) (List.mem_cons_of_mem _ q_719)) dX7_init_131 ?_
      refine k_tl (show (2) = (lN 2) from by decide) ?_
      refine k_last (f' := vp_updL (vp_updL (vp_updL (gL (vp_updL (vp_updL (fun _ => 0) 1 (lN 10)) 11 (-1)) 10) 40 (lN 60)) 41 (lN 1)) 42 (lN 2)) hx hb hK hP hD hS 1 1 rfl rfl (by omega) (by omega) (rfl) dX7_init_134 (fun H locs hP hD hS => ?_)
      replace hP : va_P D vwCl [(h0, .inr (7, [.ref q7, .ref q15, .ref q23, .int (nI 0), .int (nI 0), .int (nI 0)])), (q7, .inl (cJ, 136800, .inr (.inl (vp_updL (vp_updL (vp_updL (gL (vp_updL (vp_updL (fun _ => 0) 1 (lN 10)) 11 (-1)) 10) 40 (lN 60)) 41 (lN 1)) 42 (lN 2))))), (q15, .inl (cJ, 136800, .inr (.inl (fun _ => 0)))), (q23, .inl (cJ, 136800, .inr (.inl (fun _ => 0))))] H := hP
      replace hD : va_D A [(h0, .inr (7, [.ref q7, .ref q15, .ref q23, .int (nI 0), .int (nI 0), .int (nI 0)])), (q7, .inl (cJ, 136800, .inr (.inl (vp_updL (vp_updL (vp_updL (gL (vp_updL (vp_updL (fun _ => 0) 1 (lN 10)) 11 (-1)) 10) 40 (lN 60)) 41 (lN 1)) 42 (lN 2))))), (q15, .inl (cJ, 136800, .inr (.inl (fun _ => 0)))), (q23, .inl (cJ, 136800, .inr (.inl (fun _ => 0))))] := hD
      refine lv_aload_n hx hb dX7_init_135 rfl (lv_at hl 0 rfl) ?_
      refine va_get (D := D) (ci := 7) (v := .ref q7) (C := RX7) (T := TX7) (N := 6) hx hb hts hin7 hown hK hP 0 rfl rfl 0 (by decide) (hts (.fieldLink RX7 8 "MeshRoutingModel" "v" "[J") (List.mem_cons_of_mem _ q_665)) (fun _ h9 => h9) rfl dX7_init_136 ?_
      refine lv_bipush (v := nI 43) hx hb dX7_init_139 (by decide) ?_
      refine lv_ldc2 (v := 5) hx hb hown (by exact hts (.constantLong RX7 28 (5)) (List.mem_cons_of_mem _ q_917)) dX7_init_141 ?_
      refine k_tl (show (5) = (lN 5) from by decide) ?_
      refine k_last (f' := vp_updL (vp_updL (vp_updL (vp_updL (gL (vp_updL (vp_updL (fun _ => 0) 1 (lN 10)) 11 (-1)) 10) 40 (lN 60)) 41 (lN 1)) 42 (lN 2)) 43 (lN 5)) hx hb hK hP hD hS 1 1 rfl rfl (by omega) (by omega) (rfl) dX7_init_144 (fun H locs hP hD hS => ?_)
      replace hP : va_P D vwCl [(h0, .inr (7, [.ref q7, .ref q15, .ref q23, .int (nI 0), .int (nI 0), .int (nI 0)])), (q7, .inl (cJ, 136800, .inr (.inl (vp_updL (vp_updL (vp_updL (vp_updL (gL (vp_updL (vp_updL (fun _ => 0) 1 (lN 10)) 11 (-1)) 10) 40 (lN 60)) 41 (lN 1)) 42 (lN 2)) 43 (lN 5))))), (q15, .inl (cJ, 136800, .inr (.inl (fun _ => 0)))), (q23, .inl (cJ, 136800, .inr (.inl (fun _ => 0))))] H := hP
      replace hD : va_D A [(h0, .inr (7, [.ref q7, .ref q15, .ref q23, .int (nI 0), .int (nI 0), .int (nI 0)])), (q7, .inl (cJ, 136800, .inr (.inl (vp_updL (vp_updL (vp_updL (vp_updL (gL (vp_updL (vp_updL (fun _ => 0) 1 (lN 10)) 11 (-1)) 10) 40 (lN 60)) 41 (lN 1)) 42 (lN 2)) 43 (lN 5))))), (q15, .inl (cJ, 136800, .inr (.inl (fun _ => 0)))), (q23, .inl (cJ, 136800, .inr (.inl (fun _ => 0))))] := hD
      refine lv_aload_n hx hb dX7_init_145 rfl (lv_at hl 0 rfl) ?_
      refine va_get (D := D) (ci := 7) (v := .ref q7) (C := RX7) (T := TX7) (N := 6) hx hb hts hin7 hown hK hP 0 rfl rfl 0 (by decide) (hts (.fieldLink RX7 8 "MeshRoutingModel" "v" "[J") (List.mem_cons_of_mem _ q_665)) (fun _ h9 => h9) rfl dX7_init_146 ?_
      refine lv_bipush (v := nI 44) hx hb dX7_init_149 (by decide) ?_
      refine lv_ldc2 (v := 10) hx hb hown (by exact hts (.constantLong RX7 22 (10)) (List.mem_cons_of_mem _ q_702)) dX7_init_151 ?_
      refine k_tl (show (10) = (lN 10) from by decide) ?_
      refine k_last (f' := vp_updL (vp_updL (vp_updL (vp_updL (vp_updL (gL (vp_updL (vp_updL (fun _ => 0) 1 (lN 10)) 11 (-1)) 10) 40 (lN 60)) 41 (lN 1)) 42 (lN 2)) 43 (lN 5)) 44 (lN 10)) hx hb hK hP hD hS 1 1 rfl rfl (by omega) (by omega) (rfl) dX7_init_154 (fun H locs hP hD hS => ?_)
      replace hP : va_P D vwCl [(h0, .inr (7, [.ref q7, .ref q15, .ref q23, .int (nI 0), .int (nI 0), .int (nI 0)])), (q7, .inl (cJ, 136800, .inr (.inl (vp_updL (vp_updL (vp_updL (vp_updL (vp_updL (gL (vp_updL (vp_updL (fun _ => 0) 1 (lN 10)) 11 (-1)) 10) 40 (lN 60)) 41 (lN 1)) 42 (lN 2)) 43 (lN 5)) 44 (lN 10))))), (q15, .inl (cJ, 136800, .inr (.inl (fun _ => 0)))), (q23, .inl (cJ, 136800, .inr (.inl (fun _ => 0))))] H := hP
      replace hD : va_D A [(h0, .inr (7, [.ref q7, .ref q15, .ref q23, .int (nI 0), .int (nI 0), .int (nI 0)])), (q7, .inl (cJ, 136800, .inr (.inl (vp_updL (vp_updL (vp_updL (vp_updL (vp_updL (gL (vp_updL (vp_updL (fun _ => 0) 1 (lN 10)) 11 (-1)) 10) 40 (lN 60)) 41 (lN 1)) 42 (lN 2)) 43 (lN 5)) 44 (lN 10))))), (q15, .inl (cJ, 136800, .inr (.inl (fun _ => 0)))), (q23, .inl (cJ, 136800, .inr (.inl (fun _ => 0))))] := hD
      refine lv_aload_n hx hb dX7_init_155 rfl (lv_at hl 0 rfl) ?_
      refine va_get (D := D) (ci := 7) (v := .ref q7) (C := RX7) (T := TX7) (N := 6) hx hb hts hin7 hown hK hP 0 rfl rfl 0 (by decide) (hts (.fieldLink RX7 8 "MeshRoutingModel" "v" "[J") (List.mem_cons_of_mem _ q_665)) (fun _ h9 => h9) rfl dX7_init_156 ?_
      refine lv_bipush (v := nI 45) hx hb dX7_init_159 (by decide) ?_
      refine lv_ldc2 (v := 2) hx hb hown (by exact hts (.constantLong RX7 20 (2)) (List.mem_cons_of_mem _ q_719)) dX7_init_161 ?_
      refine k_tl (show (2) = (lN 2) from by decide) ?_
      refine k_last (f' := vp_updL (vp_updL (vp_updL (vp_updL (vp_updL (vp_updL (gL (vp_updL (vp_updL (fun _ => 0) 1 (lN 10)) 11 (-1)) 10) 40 (lN 60)) 41 (lN 1)) 42 (lN 2)) 43 (lN 5)) 44 (lN 10)) 45 (lN 2)) hx hb hK hP hD hS 1 1 rfl rfl (by omega) (by omega) (rfl) dX7_init_164 (fun H locs hP hD hS => ?_)
      replace hP : va_P D vwCl [(h0, .inr (7, [.ref q7, .ref q15, .ref q23, .int (nI 0), .int (nI 0), .int (nI 0)])), (q7, .inl (cJ, 136800, .inr (.inl (vp_updL (vp_updL (vp_updL (vp_updL (vp_updL (vp_updL (gL (vp_updL (vp_updL (fun _ => 0) 1 (lN 10)) 11 (-1)) 10) 40 (lN 60)) 41 (lN 1)) 42 (lN 2)) 43 (lN 5)) 44 (lN 10)) 45 (lN 2))))), (q15, .inl (cJ, 136800, .inr (.inl (fun _ => 0)))), (q23, .inl (cJ, 136800, .inr (.inl (fun _ => 0))))] H := hP
      replace hD : va_D A [(h0, .inr (7, [.ref q7, .ref q15, .ref q23, .int (nI 0), .int (nI 0), .int (nI 0)])), (q7, .inl (cJ, 136800, .inr (.inl (vp_updL (vp_updL (vp_updL (vp_updL (vp_updL (vp_updL (gL (vp_updL (vp_updL (fun _ => 0) 1 (lN 10)) 11 (-1)) 10) 40 (lN 60)) 41 (lN 1)) 42 (lN 2)) 43 (lN 5)) 44 (lN 10)) 45 (lN 2))))), (q15, .inl (cJ, 136800, .inr (.inl (fun _ => 0)))), (q23, .inl (cJ, 136800, .inr (.inl (fun _ => 0))))] := hD
      refine lv_aload_n hx hb dX7_init_165 rfl (lv_at hl 0 rfl) ?_
      refine va_get (D := D) (ci := 7) (v := .ref q7) (C := RX7) (T := TX7) (N := 6) hx hb hts hin7 hown hK hP 0 rfl rfl 0 (by decide) (hts (.fieldLink RX7 8 "MeshRoutingModel" "v" "[J") (List.mem_cons_of_mem _ q_665)) (fun _ h9 => h9) rfl dX7_init_166 ?_
      refine lv_bipush (v := nI 46) hx hb dX7_init_169 (by decide) ?_
      refine lv_ldc2 (v := 20) hx hb hown (by exact hts (.constantLong RX7 30 (20)) (List.mem_cons_of_mem _ q_918)) dX7_init_171 ?_
      refine k_tl (show (20) = (lN 20) from by decide) ?_
      refine k_last (f' := vp_updL (vp_updL (vp_updL (vp_updL (vp_updL (vp_updL (vp_updL (gL (vp_updL (vp_updL (fun _ => 0) 1 (lN 10)) 11 (-1)) 10) 40 (lN 60)) 41 (lN 1)) 42 (lN 2)) 43 (lN 5)) 44 (lN 10)) 45 (lN 2)) 46 (lN 20)) hx hb hK hP hD hS 1 1 rfl rfl (by omega) (by omega) (rfl) dX7_init_174 (fun H locs hP hD hS => ?_)
      replace hP : va_P D vwCl [(h0, .inr (7, [.ref q7, .ref q15, .ref q23, .int (nI 0), .int (nI 0), .int (nI 0)])), (q7, .inl (cJ, 136800, .inr (.inl (vp_updL (vp_updL (vp_updL (vp_updL (vp_updL (vp_updL (vp_updL (gL (vp_updL (vp_updL (fun _ => 0) 1 (lN 10)) 11 (-1)) 10) 40 (lN 60)) 41 (lN 1)) 42 (lN 2)) 43 (lN 5)) 44 (lN 10)) 45 (lN 2)) 46 (lN 20))))), (q15, .inl (cJ, 136800, .inr (.inl (fun _ => 0)))), (q23, .inl (cJ, 136800, .inr (.inl (fun _ => 0))))] H := hP
      replace hD : va_D A [(h0, .inr (7, [.ref q7, .ref q15, .ref q23, .int (nI 0), .int (nI 0), .int (nI 0)])), (q7, .inl (cJ, 136800, .inr (.inl (vp_updL (vp_updL (vp_updL (vp_updL (vp_updL (vp_updL (vp_updL (gL (vp_updL (vp_updL (fun _ => 0) 1 (lN 10)) 11 (-1)) 10) 40 (lN 60)) 41 (lN 1)) 42 (lN 2)) 43 (lN 5)) 44 (lN 10)) 45 (lN 2)) 46 (lN 20))))), (q15, .inl (cJ, 136800, .inr (.inl (fun _ => 0)))), (q23, .inl (cJ, 136800, .inr (.inl (fun _ => 0))))] := hD
      refine lv_aload_n hx hb dX7_init_175 rfl (lv_at hl 0 rfl) ?_
      refine va_get (D := D) (ci := 7) (v := .ref q7) (C := RX7) (T := TX7) (N := 6) hx hb hts hin7 hown hK hP 0 rfl rfl 0 (by decide) (hts (.fieldLink RX7 8 "MeshRoutingModel" "v" "[J") (List.mem_cons_of_mem _ q_665)) (fun _ h9 => h9) rfl dX7_init_176 ?_
      refine lv_bipush (v := nI 47) hx hb dX7_init_179 (by decide) ?_
      refine lv_ldc2 (v := 3) hx hb hown (by exact hts (.constantLong RX7 32 (3)) (List.mem_cons_of_mem _ q_791)) dX7_init_181 ?_
      refine k_tl (show (3) = (lN 3) from by decide) ?_
      refine k_last (f' := vp_updL (vp_updL (vp_updL (vp_updL (vp_updL (vp_updL (vp_updL (vp_updL (gL (vp_updL (vp_updL (fun _ => 0) 1 (lN 10)) 11 (-1)) 10) 40 (lN 60)) 41 (lN 1)) 42 (lN 2)) 43 (lN 5)) 44 (lN 10)) 45 (lN 2)) 46 (lN 20)) 47 (lN 3)) hx hb hK hP hD hS 1 1 rfl rfl (by omega) (by omega) (rfl) dX7_init_184 (fun H locs hP hD hS => ?_)
      replace hP : va_P D vwCl [(h0, .inr (7, [.ref q7, .ref q15, .ref q23, .int (nI 0), .int (nI 0), .int (nI 0)])), (q7, .inl (cJ, 136800, .inr (.inl (vp_updL (vp_updL (vp_updL (vp_updL (vp_updL (vp_updL (vp_updL (vp_updL (gL (vp_updL (vp_updL (fun _ => 0) 1 (lN 10)) 11 (-1)) 10) 40 (lN 60)) 41 (lN 1)) 42 (lN 2)) 43 (lN 5)) 44 (lN 10)) 45 (lN 2)) 46 (lN 20)) 47 (lN 3))))), (q15, .inl (cJ, 136800, .inr (.inl (fun _ => 0)))), (q23, .inl (cJ, 136800, .inr (.inl (fun _ => 0))))] H := hP
      replace hD : va_D A [(h0, .inr (7, [.ref q7, .ref q15, .ref q23, .int (nI 0), .int (nI 0), .int (nI 0)])), (q7, .inl (cJ, 136800, .inr (.inl (vp_updL (vp_updL (vp_updL (vp_updL (vp_updL (vp_updL (vp_updL (vp_updL (gL (vp_updL (vp_updL (fun _ => 0) 1 (lN 10)) 11 (-1)) 10) 40 (lN 60)) 41 (lN 1)) 42 (lN 2)) 43 (lN 5)) 44 (lN 10)) 45 (lN 2)) 46 (lN 20)) 47 (lN 3))))), (q15, .inl (cJ, 136800, .inr (.inl (fun _ => 0)))), (q23, .inl (cJ, 136800, .inr (.inl (fun _ => 0))))] := hD
      replace hD := k_reD (q := 1) (e2 := .inl (cJ, 136800, .inr (.inl (mF 10)))) hD rfl
      replace hP := k_reJ (q := 1) (g := (mF 10)) hP rfl (fun j _ => k_mF j)
      replace hP : va_P D vwCl [(h0, .inr (7, [.ref q7, .ref q15, .ref q23, .int (nI 0), .int (nI 0), .int (nI 0)])), (q7, .inl (cJ, 136800, .inr (.inl (mF 10)))), (q15, .inl (cJ, 136800, .inr (.inl (fun _ => 0)))), (q23, .inl (cJ, 136800, .inr (.inl (fun _ => 0))))] _ := hP
      replace hD : va_D A [(h0, .inr (7, [.ref q7, .ref q15, .ref q23, .int (nI 0), .int (nI 0), .int (nI 0)])), (q7, .inl (cJ, 136800, .inr (.inl (mF 10)))), (q15, .inl (cJ, 136800, .inr (.inl (fun _ => 0)))), (q23, .inl (cJ, 136800, .inr (.inl (fun _ => 0))))] := hD
      have hP9 := hP.sub (ws' := [(h0, .inr (7, [.ref q7, .ref q15, .ref q23, .int (nI 0), .int (nI 0), .int (nI 0)])), (q7, .inl (cJ, 136800, .inr (.inl (mF 10)))), (q15, .inl (cJ, 136800, .inr (.inl (fun _ => 0)))), (q23, .inl (cJ, 136800, .inr (.inl (fun _ => 0))))]) [0, 1, 2, 3] rfl
      have hD9 := hD.sub (ws' := [(h0, .inr (7, [.ref q7, .ref q15, .ref q23, .int (nI 0), .int (nI 0), .int (nI 0)])), (q7, .inl (cJ, 136800, .inr (.inl (mF 10)))), (q15, .inl (cJ, 136800, .inr (.inl (fun _ => 0)))), (q23, .inl (cJ, 136800, .inr (.inl (fun _ => 0))))]) [0, 1, 2, 3] rfl rfl
      exact W.vret hx hb hr (fun t9 ht9 hW9 => ⟨⟨(fun k => match k with | 0 => q7 | 1 => q15 | 2 => q23 | _ => 0), rfl, trivial, by rw [ht9]; exact hP9, hD9⟩, hS.F ht9⟩) hS.2.2 dX7_init_185
    · replace hP : va_P D vwCl [(h0, .inr (7, [.ref q7, .ref q15, .ref q23, .int (nI 0), .int (nI 0), .int (nI 0)])), (q7, .inl (cJ, 136800, .inr (.inl (gL (vp_updL (vp_updL (fun _ => 0) 1 (lN 10)) 11 (-1)) k)))), (q15, .inl (cJ, 136800, .inr (.inl (fun _ => 0)))), (q23, .inl (cJ, 136800, .inr (.inl (fun _ => 0))))] H := hP
      replace hD : va_D A [(h0, .inr (7, [.ref q7, .ref q15, .ref q23, .int (nI 0), .int (nI 0), .int (nI 0)])), (q7, .inl (cJ, 136800, .inr (.inl (gL (vp_updL (vp_updL (fun _ => 0) 1 (lN 10)) 11 (-1)) k)))), (q15, .inl (cJ, 136800, .inr (.inl (fun _ => 0)))), (q23, .inl (cJ, 136800, .inr (.inl (fun _ => 0))))] := hD
      replace hl : lv_has ls 3 [(0, .ref h0), (1, .int x), (2, .int (nI k))] := hl
      refine lv_iload_n hx hb dX7_init_71 rfl (lv_at hl 2 rfl) ?_
      refine lv_bipush (v := nI 10) hx hb dX7_init_72 (by decide) ?_
      refine k_icmp_ge (tgt := 107) hx hb dX7_init_74 (by decide) (by omega) (by omega) (fun h9 => absurd h9 (by omega)) (fun _ => ?_)
      refine lv_aload_n hx hb dX7_init_77 rfl (lv_at hl 0 rfl) ?_
      refine va_get (D := D) (ci := 7) (v := .ref q7) (C := RX7) (T := TX7) (N := 6) hx hb hts hin7 hown hK hP 0 rfl rfl 0 (by decide) (hts (.fieldLink RX7 8 "MeshRoutingModel" "v" "[J") (List.mem_cons_of_mem _ q_665)) (fun _ h9 => h9) rfl dX7_init_78 ?_
      refine lv_bipush (v := nI 20) hx hb dX7_init_81 (by decide) ?_
      refine lv_iload_n hx hb dX7_init_83 rfl (lv_at hl 2 rfl) ?_
      refine lv_iadd hx hb dX7_init_84 ?_
      refine k_ti (show ((nI 20) + (nI k)) = (nI (20 + k)) from nI_add _ _) ?_
      refine lv_ldc2 (v := -1) hx hb hown (by exact hts (.constantLong RX7 24 (-1)) (List.mem_cons_of_mem _ q_666)) dX7_init_85 ?_
      refine k_tl (show (-1) = ((-1)) from by decide) ?_
      refine k_last (f' := vp_updL (gL (vp_updL (vp_updL (fun _ => 0) 1 (lN 10)) 11 (-1)) k) (20 + k) (-1)) hx hb hK hP hD hS 1 1 rfl rfl (by omega) (by omega) (rfl) dX7_init_88 (fun H locs hP hD hS => ?_)
      replace hP : va_P D vwCl [(h0, .inr (7, [.ref q7, .ref q15, .ref q23, .int (nI 0), .int (nI 0), .int (nI 0)])), (q7, .inl (cJ, 136800, .inr (.inl (vp_updL (gL (vp_updL (vp_updL (fun _ => 0) 1 (lN 10)) 11 (-1)) k) (20 + k) (-1))))), (q15, .inl (cJ, 136800, .inr (.inl (fun _ => 0)))), (q23, .inl (cJ, 136800, .inr (.inl (fun _ => 0))))] H := hP
      replace hD : va_D A [(h0, .inr (7, [.ref q7, .ref q15, .ref q23, .int (nI 0), .int (nI 0), .int (nI 0)])), (q7, .inl (cJ, 136800, .inr (.inl (vp_updL (gL (vp_updL (vp_updL (fun _ => 0) 1 (lN 10)) 11 (-1)) k) (20 + k) (-1))))), (q15, .inl (cJ, 136800, .inr (.inl (fun _ => 0)))), (q23, .inl (cJ, 136800, .inr (.inl (fun _ => 0))))] := hD
      refine lv_aload_n hx hb dX7_init_89 rfl (lv_at hl 0 rfl) ?_
      refine va_get (D := D) (ci := 7) (v := .ref q7) (C := RX7) (T := TX7) (N := 6) hx hb hts hin7 hown hK hP 0 rfl rfl 0 (by decide) (hts (.fieldLink RX7 8 "MeshRoutingModel" "v" "[J") (List.mem_cons_of_mem _ q_665)) (fun _ h9 => h9) rfl dX7_init_90 ?_
      refine lv_bipush (v := nI 30) hx hb dX7_init_93 (by decide) ?_
      refine lv_iload_n hx hb dX7_init_95 rfl (lv_at hl 2 rfl) ?_
      refine lv_iadd hx hb dX7_init_96 ?_
      refine k_ti (show ((nI 30) + (nI k)) = (nI (30 + k)) from nI_add _ _) ?_
      refine lv_ldc2 (v := -1) hx hb hown (by exact hts (.constantLong RX7 24 (-1)) (List.mem_cons_of_mem _ q_666)) dX7_init_97 ?_
      refine k_tl (show (-1) = ((-1)) from by decide) ?_
      refine k_last (f' := gL (vp_updL (vp_updL (fun _ => 0) 1 (lN 10)) 11 (-1)) (k + 1)) hx hb hK hP hD hS 1 1 rfl rfl (by omega) (by omega) (gL_s (by omega)) dX7_init_100 (fun H locs hP hD hS => ?_)
      replace hP : va_P D vwCl [(h0, .inr (7, [.ref q7, .ref q15, .ref q23, .int (nI 0), .int (nI 0), .int (nI 0)])), (q7, .inl (cJ, 136800, .inr (.inl (gL (vp_updL (vp_updL (fun _ => 0) 1 (lN 10)) 11 (-1)) (k + 1))))), (q15, .inl (cJ, 136800, .inr (.inl (fun _ => 0)))), (q23, .inl (cJ, 136800, .inr (.inl (fun _ => 0))))] H := hP
      replace hD : va_D A [(h0, .inr (7, [.ref q7, .ref q15, .ref q23, .int (nI 0), .int (nI 0), .int (nI 0)])), (q7, .inl (cJ, 136800, .inr (.inl (gL (vp_updL (vp_updL (fun _ => 0) 1 (lN 10)) 11 (-1)) (k + 1))))), (q15, .inl (cJ, 136800, .inr (.inl (fun _ => 0)))), (q23, .inl (cJ, 136800, .inr (.inl (fun _ => 0))))] := hD
      refine lv_iinc (v := nI (k + 1)) (lv' := [(2, .int (nI (k + 1))), (0, .ref h0), (1, .int x)]) hx hb dX7_init_101 hl (k := 2) rfl (by exact nI_add k 1) (by decide) rfl (fun ls hl => ?_)
      refine lv_goto (tgt := 71) hx hb dX7_init_104 (by decide) ?_
      exact ih _ _ _ hP hD hS (lv_sub hl [1, 2, 0] rfl)
  · refine k_icmp_ge (tgt := 44) hx hb dX7_init_35 (by decide) (by omega) (by omega) (fun _ => ?_) (fun h9 => absurd h9 (by omega))
    refine lv_iload_n hx hb dX7_init_44 rfl (lv_at hl 1 rfl) ?_
    refine lv_bipush (v := nI 10) hx hb dX7_init_45 (by decide) ?_
    refine k_icmp_le (tgt := 56) hx hb dX7_init_47 (by decide) (by omega) (by omega) (fun _ => ?_) (fun h9 => absurd h9 (by omega))
    refine lv_iload_n hx hb dX7_init_56 rfl (lv_at hl 1 rfl) ?_
    refine lv_i2l (v := lN N) hx hb dX7_init_57 (by exact nI_l (by omega)) ?_
    refine k_last (f' := vp_updL (fun _ => 0) 1 (lN N)) hx hb hK hP hD hS 1 1 rfl rfl (by omega) (by omega) (rfl) dX7_init_58 (fun H locs hP hD hS => ?_)
    replace hP : va_P D vwCl [(h0, .inr (7, [.ref q7, .ref q15, .ref q23, .int (nI 0), .int (nI 0), .int (nI 0)])), (q7, .inl (cJ, 136800, .inr (.inl (vp_updL (fun _ => 0) 1 (lN N))))), (q15, .inl (cJ, 136800, .inr (.inl (fun _ => 0)))), (q23, .inl (cJ, 136800, .inr (.inl (fun _ => 0))))] H := hP
    replace hD : va_D A [(h0, .inr (7, [.ref q7, .ref q15, .ref q23, .int (nI 0), .int (nI 0), .int (nI 0)])), (q7, .inl (cJ, 136800, .inr (.inl (vp_updL (fun _ => 0) 1 (lN N))))), (q15, .inl (cJ, 136800, .inr (.inl (fun _ => 0)))), (q23, .inl (cJ, 136800, .inr (.inl (fun _ => 0))))] := hD
    refine lv_aload_n hx hb dX7_init_59 rfl (lv_at hl 0 rfl) ?_
    refine va_get (D := D) (ci := 7) (v := .ref q7) (C := RX7) (T := TX7) (N := 6) hx hb hts hin7 hown hK hP 0 rfl rfl 0 (by decide) (hts (.fieldLink RX7 8 "MeshRoutingModel" "v" "[J") (List.mem_cons_of_mem _ q_665)) (fun _ h9 => h9) rfl dX7_init_60 ?_
    refine lv_bipush (v := nI 11) hx hb dX7_init_63 (by decide) ?_
    refine lv_ldc2 (v := -1) hx hb hown (by exact hts (.constantLong RX7 24 (-1)) (List.mem_cons_of_mem _ q_666)) dX7_init_65 ?_
    refine k_tl (show (-1) = ((-1)) from by decide) ?_
    refine k_last (f' := vp_updL (vp_updL (fun _ => 0) 1 (lN N)) 11 (-1)) hx hb hK hP hD hS 1 1 rfl rfl (by omega) (by omega) (rfl) dX7_init_68 (fun H locs hP hD hS => ?_)
    replace hP : va_P D vwCl [(h0, .inr (7, [.ref q7, .ref q15, .ref q23, .int (nI 0), .int (nI 0), .int (nI 0)])), (q7, .inl (cJ, 136800, .inr (.inl (vp_updL (vp_updL (fun _ => 0) 1 (lN N)) 11 (-1))))), (q15, .inl (cJ, 136800, .inr (.inl (fun _ => 0)))), (q23, .inl (cJ, 136800, .inr (.inl (fun _ => 0))))] H := hP
    replace hD : va_D A [(h0, .inr (7, [.ref q7, .ref q15, .ref q23, .int (nI 0), .int (nI 0), .int (nI 0)])), (q7, .inl (cJ, 136800, .inr (.inl (vp_updL (vp_updL (fun _ => 0) 1 (lN N)) 11 (-1))))), (q15, .inl (cJ, 136800, .inr (.inl (fun _ => 0)))), (q23, .inl (cJ, 136800, .inr (.inl (fun _ => 0))))] := hD
    refine lv_iconst (v := nI 0) hx hb dX7_init_69 (by decide) ?_
    refine lv_istore_n (lv' := [(2, .int (nI 0)), (0, .ref h0), (1, .int (nI N))]) hx hb dX7_init_70 rfl hl (by decide) rfl (fun ls hl => ?_)
    replace hD := k_reD (q := 1) (e2 := .inl (cJ, 136800, .inr (.inl (gL (vp_updL (vp_updL (fun _ => 0) 1 (lN N)) 11 (-1)) 0)))) hD rfl
    replace hP := k_reJ (q := 1) (g := (gL (vp_updL (vp_updL (fun _ => 0) 1 (lN N)) 11 (-1)) 0)) hP rfl (fun j _ => congrFun gL_0 j)
    replace hP : va_P D vwCl [(h0, .inr (7, [.ref q7, .ref q15, .ref q23, .int (nI 0), .int (nI 0), .int (nI 0)])), (q7, .inl (cJ, 136800, .inr (.inl (gL (vp_updL (vp_updL (fun _ => 0) 1 (lN N)) 11 (-1)) 0)))), (q15, .inl (cJ, 136800, .inr (.inl (fun _ => 0)))), (q23, .inl (cJ, 136800, .inr (.inl (fun _ => 0))))] _ := hP
    replace hD : va_D A [(h0, .inr (7, [.ref q7, .ref q15, .ref q23, .int (nI 0), .int (nI 0), .int (nI 0)])), (q7, .inl (cJ, 136800, .inr (.inl (gL (vp_updL (vp_updL (fun _ => 0) 1 (lN N)) 11 (-1)) 0)))), (q15, .inl (cJ, 136800, .inr (.inl (fun _ => 0)))), (q23, .inl (cJ, 136800, .inr (.inl (fun _ => 0))))] := hD
    refine k_loop (nL := 3) (wf := fun k => [(h0, .inr (7, [.ref q7, .ref q15, .ref q23, .int (nI 0), .int (nI 0), .int (nI 0)])), (q7, .inl (cJ, 136800, .inr (.inl (gL (vp_updL (vp_updL (fun _ => 0) 1 (lN N)) 11 (-1)) k)))), (q15, .inl (cJ, 136800, .inr (.inl (fun _ => 0)))), (q23, .inl (cJ, 136800, .inr (.inl (fun _ => 0))))]) (lvf := fun k => [(0, .ref h0), (1, .int (nI N)), (2, .int (nI k))]) (B := 10) 0 (Nat.zero_le _) hP hD hS (lv_sub hl [1, 2, 0] rfl) (fun H locs ls hP hD hS hl => ?_) (fun k hk9 hk ih H locs ls hP hD hS hl => ?_)
    · replace hP : va_P D vwCl [(h0, .inr (7, [.ref q7, .ref q15, .ref q23, .int (nI 0), .int (nI 0), .int (nI 0)])), (q7, .inl (cJ, 136800, .inr (.inl (gL (vp_updL (vp_updL (fun _ => 0) 1 (lN N)) 11 (-1)) 10)))), (q15, .inl (cJ, 136800, .inr (.inl (fun _ => 0)))), (q23, .inl (cJ, 136800, .inr (.inl (fun _ => 0))))] H := hP
      replace hD : va_D A [(h0, .inr (7, [.ref q7, .ref q15, .ref q23, .int (nI 0), .int (nI 0), .int (nI 0)])), (q7, .inl (cJ, 136800, .inr (.inl (gL (vp_updL (vp_updL (fun _ => 0) 1 (lN N)) 11 (-1)) 10)))), (q15, .inl (cJ, 136800, .inr (.inl (fun _ => 0)))), (q23, .inl (cJ, 136800, .inr (.inl (fun _ => 0))))] := hD
      replace hl : lv_has ls 3 [(0, .ref h0), (1, .int (nI N)), (2, .int (nI 10))] := hl
      refine lv_iload_n hx hb dX7_init_71 rfl (lv_at hl 2 rfl) ?_
      refine lv_bipush (v := nI 10) hx hb dX7_init_72 (by decide) ?_
      refine k_icmp_ge (tgt := 107) hx hb dX7_init_74 (by decide) (by omega) (by omega) (fun _ => ?_) (fun h9 => absurd h9 (by omega))
      refine lv_aload_n hx hb dX7_init_107 rfl (lv_at hl 0 rfl) ?_
      refine va_get (D := D) (ci := 7) (v := .ref q7) (C := RX7) (T := TX7) (N := 6) hx hb hts hin7 hown hK hP 0 rfl rfl 0 (by decide) (hts (.fieldLink RX7 8 "MeshRoutingModel" "v" "[J") (List.mem_cons_of_mem _ q_665)) (fun _ h9 => h9) rfl dX7_init_108 ?_
      refine lv_bipush (v := nI 40) hx hb dX7_init_111 (by decide) ?_
      refine lv_ldc2 (v := 60) hx hb hown (by exact hts (.constantLong RX7 26 (60)) (List.mem_cons_of_mem _ q_916)) dX7_init_113 ?_
      refine k_tl (show (60) = (lN 60) from by decide) ?_
      refine k_last (f' := vp_updL (gL (vp_updL (vp_updL (fun _ => 0) 1 (lN N)) 11 (-1)) 10) 40 (lN 60)) hx hb hK hP hD hS 1 1 rfl rfl (by omega) (by omega) (rfl) dX7_init_116 (fun H locs hP hD hS => ?_)
      replace hP : va_P D vwCl [(h0, .inr (7, [.ref q7, .ref q15, .ref q23, .int (nI 0), .int (nI 0), .int (nI 0)])), (q7, .inl (cJ, 136800, .inr (.inl (vp_updL (gL (vp_updL (vp_updL (fun _ => 0) 1 (lN N)) 11 (-1)) 10) 40 (lN 60))))), (q15, .inl (cJ, 136800, .inr (.inl (fun _ => 0)))), (q23, .inl (cJ, 136800, .inr (.inl (fun _ => 0))))] H := hP
      replace hD : va_D A [(h0, .inr (7, [.ref q7, .ref q15, .ref q23, .int (nI 0), .int (nI 0), .int (nI 0)])), (q7, .inl (cJ, 136800, .inr (.inl (vp_updL (gL (vp_updL (vp_updL (fun _ => 0) 1 (lN N)) 11 (-1)) 10) 40 (lN 60))))), (q15, .inl (cJ, 136800, .inr (.inl (fun _ => 0)))), (q23, .inl (cJ, 136800, .inr (.inl (fun _ => 0))))] := hD
      refine lv_aload_n hx hb dX7_init_117 rfl (lv_at hl 0 rfl) ?_
      refine va_get (D := D) (ci := 7) (v := .ref q7) (C := RX7) (T := TX7) (N := 6) hx hb hts hin7 hown hK hP 0 rfl rfl 0 (by decide) (hts (.fieldLink RX7 8 "MeshRoutingModel" "v" "[J") (List.mem_cons_of_mem _ q_665)) (fun _ h9 => h9) rfl dX7_init_118 ?_
      refine lv_bipush (v := nI 41) hx hb dX7_init_121 (by decide) ?_
      refine lv_lconst (v := lN 1) hx hb dX7_init_123 (by decide) ?_
      refine k_last (f' := vp_updL (vp_updL (gL (vp_updL (vp_updL (fun _ => 0) 1 (lN N)) 11 (-1)) 10) 40 (lN 60)) 41 (lN 1)) hx hb hK hP hD hS 1 1 rfl rfl (by omega) (by omega) (rfl) dX7_init_124 (fun H locs hP hD hS => ?_)
      replace hP : va_P D vwCl [(h0, .inr (7, [.ref q7, .ref q15, .ref q23, .int (nI 0), .int (nI 0), .int (nI 0)])), (q7, .inl (cJ, 136800, .inr (.inl (vp_updL (vp_updL (gL (vp_updL (vp_updL (fun _ => 0) 1 (lN N)) 11 (-1)) 10) 40 (lN 60)) 41 (lN 1))))), (q15, .inl (cJ, 136800, .inr (.inl (fun _ => 0)))), (q23, .inl (cJ, 136800, .inr (.inl (fun _ => 0))))] H := hP
      replace hD : va_D A [(h0, .inr (7, [.ref q7, .ref q15, .ref q23, .int (nI 0), .int (nI 0), .int (nI 0)])), (q7, .inl (cJ, 136800, .inr (.inl (vp_updL (vp_updL (gL (vp_updL (vp_updL (fun _ => 0) 1 (lN N)) 11 (-1)) 10) 40 (lN 60)) 41 (lN 1))))), (q15, .inl (cJ, 136800, .inr (.inl (fun _ => 0)))), (q23, .inl (cJ, 136800, .inr (.inl (fun _ => 0))))] := hD
      refine lv_aload_n hx hb dX7_init_125 rfl (lv_at hl 0 rfl) ?_
      refine va_get (D := D) (ci := 7) (v := .ref q7) (C := RX7) (T := TX7) (N := 6) hx hb hts hin7 hown hK hP 0 rfl rfl 0 (by decide) (hts (.fieldLink RX7 8 "MeshRoutingModel" "v" "[J") (List.mem_cons_of_mem _ q_665)) (fun _ h9 => h9) rfl dX7_init_126 ?_
      refine lv_bipush (v := nI 42) hx hb dX7_init_129 (by decide) ?_
      refine lv_ldc2 (v := 2) hx hb hown (by exact hts (.constantLong RX7 20 (2)) (List.mem_cons_of_mem _ q_719)) dX7_init_131 ?_
      refine k_tl (show (2) = (lN 2) from by decide) ?_
      refine k_last (f' := vp_updL (vp_updL (vp_updL (gL (vp_updL (vp_updL (fun _ => 0) 1 (lN N)) 11 (-1)) 10) 40 (lN 60)) 41 (lN 1)) 42 (lN 2)) hx hb hK hP hD hS 1 1 rfl rfl (by omega) (by omega) (rfl) dX7_init_134 (fun H locs hP hD hS => ?_)
      replace hP : va_P D vwCl [(h0, .inr (7, [.ref q7, .ref q15, .ref q23, .int (nI 0), .int (nI 0), .int (nI 0)])), (q7, .inl (cJ, 136800, .inr (.inl (vp_updL (vp_updL (vp_updL (gL (vp_updL (vp_updL (fun _ => 0) 1 (lN N)) 11 (-1)) 10) 40 (lN 60)) 41 (lN 1)) 42 (lN 2))))), (q15, .inl (cJ, 136800, .inr (.inl (fun _ => 0)))), (q23, .inl (cJ, 136800, .inr (.inl (fun _ => 0))))] H := hP
      replace hD : va_D A [(h0, .inr (7, [.ref q7, .ref q15, .ref q23, .int (nI 0), .int (nI 0), .int (nI 0)])), (q7, .inl (cJ, 136800, .inr (.inl (vp_updL (vp_updL (vp_updL (gL (vp_updL (vp_updL (fun _ => 0) 1 (lN N)) 11 (-1)) 10) 40 (lN 60)) 41 (lN 1)) 42 (lN 2))))), (q15, .inl (cJ, 136800, .inr (.inl (fun _ => 0)))), (q23, .inl (cJ, 136800, .inr (.inl (fun _ => 0))))] := hD
      refine lv_aload_n hx hb dX7_init_135 rfl (lv_at hl 0 rfl) ?_
      refine va_get (D := D) (ci := 7) (v := .ref q7) (C := RX7) (T := TX7) (N := 6) hx hb hts hin7 hown hK hP 0 rfl rfl 0 (by decide) (hts (.fieldLink RX7 8 "MeshRoutingModel" "v" "[J") (List.mem_cons_of_mem _ q_665)) (fun _ h9 => h9) rfl dX7_init_136 ?_
      refine lv_bipush (v := nI 43) hx hb dX7_init_139 (by decide) ?_
      refine lv_ldc2 (v := 5) hx hb hown (by exact hts (.constantLong RX7 28 (5)) (List.mem_cons_of_mem _ q_917)) dX7_init_141 ?_
      refine k_tl (show (5) = (lN 5) from by decide) ?_
      refine k_last (f' := vp_updL (vp_updL (vp_updL (vp_updL (gL (vp_updL (vp_updL (fun _ => 0) 1 (lN N)) 11 (-1)) 10) 40 (lN 60)) 41 (lN 1)) 42 (lN 2)) 43 (lN 5)) hx hb hK hP hD hS 1 1 rfl rfl (by omega) (by omega) (rfl) dX7_init_144 (fun H locs hP hD hS => ?_)
      replace hP : va_P D vwCl [(h0, .inr (7, [.ref q7, .ref q15, .ref q23, .int (nI 0), .int (nI 0), .int (nI 0)])), (q7, .inl (cJ, 136800, .inr (.inl (vp_updL (vp_updL (vp_updL (vp_updL (gL (vp_updL (vp_updL (fun _ => 0) 1 (lN N)) 11 (-1)) 10) 40 (lN 60)) 41 (lN 1)) 42 (lN 2)) 43 (lN 5))))), (q15, .inl (cJ, 136800, .inr (.inl (fun _ => 0)))), (q23, .inl (cJ, 136800, .inr (.inl (fun _ => 0))))] H := hP
      replace hD : va_D A [(h0, .inr (7, [.ref q7, .ref q15, .ref q23, .int (nI 0), .int (nI 0), .int (nI 0)])), (q7, .inl (cJ, 136800, .inr (.inl (vp_updL (vp_updL (vp_updL (vp_updL (gL (vp_updL (vp_updL (fun _ => 0) 1 (lN N)) 11 (-1)) 10) 40 (lN 60)) 41 (lN 1)) 42 (lN 2)) 43 (lN 5))))), (q15, .inl (cJ, 136800, .inr (.inl (fun _ => 0)))), (q23, .inl (cJ, 136800, .inr (.inl (fun _ => 0))))] := hD
      refine lv_aload_n hx hb dX7_init_145 rfl (lv_at hl 0 rfl) ?_
      refine va_get (D := D) (ci := 7) (v := .ref q7) (C := RX7) (T := TX7) (N := 6) hx hb hts hin7 hown hK hP 0 rfl rfl 0 (by decide) (hts (.fieldLink RX7 8 "MeshRoutingModel" "v" "[J") (List.mem_cons_of_mem _ q_665)) (fun _ h9 => h9) rfl dX7_init_146 ?_
      refine lv_bipush (v := nI 44) hx hb dX7_init_149 (by decide) ?_
      refine lv_ldc2 (v := 10) hx hb hown (by exact hts (.constantLong RX7 22 (10)) (List.mem_cons_of_mem _ q_702)) dX7_init_151 ?_
      refine k_tl (show (10) = (lN 10) from by decide) ?_
      refine k_last (f' := vp_updL (vp_updL (vp_updL (vp_updL (vp_updL (gL (vp_updL (vp_updL (fun _ => 0) 1 (lN N)) 11 (-1)) 10) 40 (lN 60)) 41 (lN 1)) 42 (lN 2)) 43 (lN 5)) 44 (lN 10)) hx hb hK hP hD hS 1 1 rfl rfl (by omega) (by omega) (rfl) dX7_init_154 (fun H locs hP hD hS => ?_)
      replace hP : va_P D vwCl [(h0, .inr (7, [.ref q7, .ref q15, .ref q23, .int (nI 0), .int (nI 0), .int (nI 0)])), (q7, .inl (cJ, 136800, .inr (.inl (vp_updL (vp_updL (vp_updL (vp_updL (vp_updL (gL (vp_updL (vp_updL (fun _ => 0) 1 (lN N)) 11 (-1)) 10) 40 (lN 60)) 41 (lN 1)) 42 (lN 2)) 43 (lN 5)) 44 (lN 10))))), (q15, .inl (cJ, 136800, .inr (.inl (fun _ => 0)))), (q23, .inl (cJ, 136800, .inr (.inl (fun _ => 0))))] H := hP
      replace hD : va_D A [(h0, .inr (7, [.ref q7, .ref q15, .ref q23, .int (nI 0), .int (nI 0), .int (nI 0)])), (q7, .inl (cJ, 136800, .inr (.inl (vp_updL (vp_updL (vp_updL (vp_updL (vp_updL (gL (vp_updL (vp_updL (fun _ => 0) 1 (lN N)) 11 (-1)) 10) 40 (lN 60)) 41 (lN 1)) 42 (lN 2)) 43 (lN 5)) 44 (lN 10))))), (q15, .inl (cJ, 136800, .inr (.inl (fun _ => 0)))), (q23, .inl (cJ, 136800, .inr (.inl (fun _ => 0))))] := hD
      refine lv_aload_n hx hb dX7_init_155 rfl (lv_at hl 0 rfl) ?_
      refine va_get (D := D) (ci := 7) (v := .ref q7) (C := RX7) (T := TX7) (N := 6) hx hb hts hin7 hown hK hP 0 rfl rfl 0 (by decide) (hts (.fieldLink RX7 8 "MeshRoutingModel" "v" "[J") (List.mem_cons_of_mem _ q_665)) (fun _ h9 => h9) rfl dX7_init_156 ?_
      refine lv_bipush (v := nI 45) hx hb dX7_init_159 (by decide) ?_
      refine lv_ldc2 (v := 2) hx hb hown (by exact hts (.constantLong RX7 20 (2)) (List.mem_cons_of_mem _ q_719)) dX7_init_161 ?_
      refine k_tl (show (2) = (lN 2) from by decide) ?_
      refine k_last (f' := vp_updL (vp_updL (vp_updL (vp_updL (vp_updL (vp_updL (gL (vp_updL (vp_updL (fun _ => 0) 1 (lN N)) 11 (-1)) 10) 40 (lN 60)) 41 (lN 1)) 42 (lN 2)) 43 (lN 5)) 44 (lN 10)) 45 (lN 2)) hx hb hK hP hD hS 1 1 rfl rfl (by omega) (by omega) (rfl) dX7_init_164 (fun H locs hP hD hS => ?_)
      replace hP : va_P D vwCl [(h0, .inr (7, [.ref q7, .ref q15, .ref q23, .int (nI 0), .int (nI 0), .int (nI 0)])), (q7, .inl (cJ, 136800, .inr (.inl (vp_updL (vp_updL (vp_updL (vp_updL (vp_updL (vp_updL (gL (vp_updL (vp_updL (fun _ => 0) 1 (lN N)) 11 (-1)) 10) 40 (lN 60)) 41 (lN 1)) 42 (lN 2)) 43 (lN 5)) 44 (lN 10)) 45 (lN 2))))), (q15, .inl (cJ, 136800, .inr (.inl (fun _ => 0)))), (q23, .inl (cJ, 136800, .inr (.inl (fun _ => 0))))] H := hP
      replace hD : va_D A [(h0, .inr (7, [.ref q7, .ref q15, .ref q23, .int (nI 0), .int (nI 0), .int (nI 0)])), (q7, .inl (cJ, 136800, .inr (.inl (vp_updL (vp_updL (vp_updL (vp_updL (vp_updL (vp_updL (gL (vp_updL (vp_updL (fun _ => 0) 1 (lN N)) 11 (-1)) 10) 40 (lN 60)) 41 (lN 1)) 42 (lN 2)) 43 (lN 5)) 44 (lN 10)) 45 (lN 2))))), (q15, .inl (cJ, 136800, .inr (.inl (fun _ => 0)))), (q23, .inl (cJ, 136800, .inr (.inl (fun _ => 0))))] := hD
      refine lv_aload_n hx hb dX7_init_165 rfl (lv_at hl 0 rfl) ?_
      refine va_get (D := D) (ci := 7) (v := .ref q7) (C := RX7) (T := TX7) (N := 6) hx hb hts hin7 hown hK hP 0 rfl rfl 0 (by decide) (hts (.fieldLink RX7 8 "MeshRoutingModel" "v" "[J") (List.mem_cons_of_mem _ q_665)) (fun _ h9 => h9) rfl dX7_init_166 ?_
      refine lv_bipush (v := nI 46) hx hb dX7_init_169 (by decide) ?_
      refine lv_ldc2 (v := 20) hx hb hown (by exact hts (.constantLong RX7 30 (20)) (List.mem_cons_of_mem _ q_918)) dX7_init_171 ?_
      refine k_tl (show (20) = (lN 20) from by decide) ?_
      refine k_last (f' := vp_updL (vp_updL (vp_updL (vp_updL (vp_updL (vp_updL (vp_updL (gL (vp_updL (vp_updL (fun _ => 0) 1 (lN N)) 11 (-1)) 10) 40 (lN 60)) 41 (lN 1)) 42 (lN 2)) 43 (lN 5)) 44 (lN 10)) 45 (lN 2)) 46 (lN 20)) hx hb hK hP hD hS 1 1 rfl rfl (by omega) (by omega) (rfl) dX7_init_174 (fun H locs hP hD hS => ?_)
      replace hP : va_P D vwCl [(h0, .inr (7, [.ref q7, .ref q15, .ref q23, .int (nI 0), .int (nI 0), .int (nI 0)])), (q7, .inl (cJ, 136800, .inr (.inl (vp_updL (vp_updL (vp_updL (vp_updL (vp_updL (vp_updL (vp_updL (gL (vp_updL (vp_updL (fun _ => 0) 1 (lN N)) 11 (-1)) 10) 40 (lN 60)) 41 (lN 1)) 42 (lN 2)) 43 (lN 5)) 44 (lN 10)) 45 (lN 2)) 46 (lN 20))))), (q15, .inl (cJ, 136800, .inr (.inl (fun _ => 0)))), (q23, .inl (cJ, 136800, .inr (.inl (fun _ => 0))))] H := hP
      replace hD : va_D A [(h0, .inr (7, [.ref q7, .ref q15, .ref q23, .int (nI 0), .int (nI 0), .int (nI 0)])), (q7, .inl (cJ, 136800, .inr (.inl (vp_updL (vp_updL (vp_updL (vp_updL (vp_updL (vp_updL (vp_updL (gL (vp_updL (vp_updL (fun _ => 0) 1 (lN N)) 11 (-1)) 10) 40 (lN 60)) 41 (lN 1)) 42 (lN 2)) 43 (lN 5)) 44 (lN 10)) 45 (lN 2)) 46 (lN 20))))), (q15, .inl (cJ, 136800, .inr (.inl (fun _ => 0)))), (q23, .inl (cJ, 136800, .inr (.inl (fun _ => 0))))] := hD
      refine lv_aload_n hx hb dX7_init_175 rfl (lv_at hl 0 rfl) ?_
      refine va_get (D := D) (ci := 7) (v := .ref q7) (C := RX7) (T := TX7) (N := 6) hx hb hts hin7 hown hK hP 0 rfl rfl 0 (by decide) (hts (.fieldLink RX7 8 "MeshRoutingModel" "v" "[J") (List.mem_cons_of_mem _ q_665)) (fun _ h9 => h9) rfl dX7_init_176 ?_
      refine lv_bipush (v := nI 47) hx hb dX7_init_179 (by decide) ?_
      refine lv_ldc2 (v := 3) hx hb hown (by exact hts (.constantLong RX7 32 (3)) (List.mem_cons_of_mem _ q_791)) dX7_init_181 ?_
      refine k_tl (show (3) = (lN 3) from by decide) ?_
      refine k_last (f' := vp_updL (vp_updL (vp_updL (vp_updL (vp_updL (vp_updL (vp_updL (vp_updL (gL (vp_updL (vp_updL (fun _ => 0) 1 (lN N)) 11 (-1)) 10) 40 (lN 60)) 41 (lN 1)) 42 (lN 2)) 43 (lN 5)) 44 (lN 10)) 45 (lN 2)) 46 (lN 20)) 47 (lN 3)) hx hb hK hP hD hS 1 1 rfl rfl (by omega) (by omega) (rfl) dX7_init_184 (fun H locs hP hD hS => ?_)
      replace hP : va_P D vwCl [(h0, .inr (7, [.ref q7, .ref q15, .ref q23, .int (nI 0), .int (nI 0), .int (nI 0)])), (q7, .inl (cJ, 136800, .inr (.inl (vp_updL (vp_updL (vp_updL (vp_updL (vp_updL (vp_updL (vp_updL (vp_updL (gL (vp_updL (vp_updL (fun _ => 0) 1 (lN N)) 11 (-1)) 10) 40 (lN 60)) 41 (lN 1)) 42 (lN 2)) 43 (lN 5)) 44 (lN 10)) 45 (lN 2)) 46 (lN 20)) 47 (lN 3))))), (q15, .inl (cJ, 136800, .inr (.inl (fun _ => 0)))), (q23, .inl (cJ, 136800, .inr (.inl (fun _ => 0))))] H := hP
      replace hD : va_D A [(h0, .inr (7, [.ref q7, .ref q15, .ref q23, .int (nI 0), .int (nI 0), .int (nI 0)])), (q7, .inl (cJ, 136800, .inr (.inl (vp_updL (vp_updL (vp_updL (vp_updL (vp_updL (vp_updL (vp_updL (vp_updL (gL (vp_updL (vp_updL (fun _ => 0) 1 (lN N)) 11 (-1)) 10) 40 (lN 60)) 41 (lN 1)) 42 (lN 2)) 43 (lN 5)) 44 (lN 10)) 45 (lN 2)) 46 (lN 20)) 47 (lN 3))))), (q15, .inl (cJ, 136800, .inr (.inl (fun _ => 0)))), (q23, .inl (cJ, 136800, .inr (.inl (fun _ => 0))))] := hD
      replace hD := k_reD (q := 1) (e2 := .inl (cJ, 136800, .inr (.inl (mF N)))) hD rfl
      replace hP := k_reJ (q := 1) (g := (mF N)) hP rfl (fun j _ => k_mF j)
      replace hP : va_P D vwCl [(h0, .inr (7, [.ref q7, .ref q15, .ref q23, .int (nI 0), .int (nI 0), .int (nI 0)])), (q7, .inl (cJ, 136800, .inr (.inl (mF N)))), (q15, .inl (cJ, 136800, .inr (.inl (fun _ => 0)))), (q23, .inl (cJ, 136800, .inr (.inl (fun _ => 0))))] _ := hP
      replace hD : va_D A [(h0, .inr (7, [.ref q7, .ref q15, .ref q23, .int (nI 0), .int (nI 0), .int (nI 0)])), (q7, .inl (cJ, 136800, .inr (.inl (mF N)))), (q15, .inl (cJ, 136800, .inr (.inl (fun _ => 0)))), (q23, .inl (cJ, 136800, .inr (.inl (fun _ => 0))))] := hD
      have hP9 := hP.sub (ws' := [(h0, .inr (7, [.ref q7, .ref q15, .ref q23, .int (nI 0), .int (nI 0), .int (nI 0)])), (q7, .inl (cJ, 136800, .inr (.inl (mF N)))), (q15, .inl (cJ, 136800, .inr (.inl (fun _ => 0)))), (q23, .inl (cJ, 136800, .inr (.inl (fun _ => 0))))]) [0, 1, 2, 3] rfl
      have hD9 := hD.sub (ws' := [(h0, .inr (7, [.ref q7, .ref q15, .ref q23, .int (nI 0), .int (nI 0), .int (nI 0)])), (q7, .inl (cJ, 136800, .inr (.inl (mF N)))), (q15, .inl (cJ, 136800, .inr (.inl (fun _ => 0)))), (q23, .inl (cJ, 136800, .inr (.inl (fun _ => 0))))]) [0, 1, 2, 3] rfl rfl
      exact W.vret hx hb hr (fun t9 ht9 hW9 => ⟨⟨(fun k => match k with | 0 => q7 | 1 => q15 | 2 => q23 | _ => 0), rfl, trivial, by rw [ht9]; exact hP9, hD9⟩, hS.F ht9⟩) hS.2.2 dX7_init_185
    · replace hP : va_P D vwCl [(h0, .inr (7, [.ref q7, .ref q15, .ref q23, .int (nI 0), .int (nI 0), .int (nI 0)])), (q7, .inl (cJ, 136800, .inr (.inl (gL (vp_updL (vp_updL (fun _ => 0) 1 (lN N)) 11 (-1)) k)))), (q15, .inl (cJ, 136800, .inr (.inl (fun _ => 0)))), (q23, .inl (cJ, 136800, .inr (.inl (fun _ => 0))))] H := hP
      replace hD : va_D A [(h0, .inr (7, [.ref q7, .ref q15, .ref q23, .int (nI 0), .int (nI 0), .int (nI 0)])), (q7, .inl (cJ, 136800, .inr (.inl (gL (vp_updL (vp_updL (fun _ => 0) 1 (lN N)) 11 (-1)) k)))), (q15, .inl (cJ, 136800, .inr (.inl (fun _ => 0)))), (q23, .inl (cJ, 136800, .inr (.inl (fun _ => 0))))] := hD
      replace hl : lv_has ls 3 [(0, .ref h0), (1, .int (nI N)), (2, .int (nI k))] := hl
      refine lv_iload_n hx hb dX7_init_71 rfl (lv_at hl 2 rfl) ?_
      refine lv_bipush (v := nI 10) hx hb dX7_init_72 (by decide) ?_
      refine k_icmp_ge (tgt := 107) hx hb dX7_init_74 (by decide) (by omega) (by omega) (fun h9 => absurd h9 (by omega)) (fun _ => ?_)
      refine lv_aload_n hx hb dX7_init_77 rfl (lv_at hl 0 rfl) ?_
      refine va_get (D := D) (ci := 7) (v := .ref q7) (C := RX7) (T := TX7) (N := 6) hx hb hts hin7 hown hK hP 0 rfl rfl 0 (by decide) (hts (.fieldLink RX7 8 "MeshRoutingModel" "v" "[J") (List.mem_cons_of_mem _ q_665)) (fun _ h9 => h9) rfl dX7_init_78 ?_
      refine lv_bipush (v := nI 20) hx hb dX7_init_81 (by decide) ?_
      refine lv_iload_n hx hb dX7_init_83 rfl (lv_at hl 2 rfl) ?_
      refine lv_iadd hx hb dX7_init_84 ?_
      refine k_ti (show ((nI 20) + (nI k)) = (nI (20 + k)) from nI_add _ _) ?_
      refine lv_ldc2 (v := -1) hx hb hown (by exact hts (.constantLong RX7 24 (-1)) (List.mem_cons_of_mem _ q_666)) dX7_init_85 ?_
      refine k_tl (show (-1) = ((-1)) from by decide) ?_
      refine k_last (f' := vp_updL (gL (vp_updL (vp_updL (fun _ => 0) 1 (lN N)) 11 (-1)) k) (20 + k) (-1)) hx hb hK hP hD hS 1 1 rfl rfl (by omega) (by omega) (rfl) dX7_init_88 (fun H locs hP hD hS => ?_)
      replace hP : va_P D vwCl [(h0, .inr (7, [.ref q7, .ref q15, .ref q23, .int (nI 0), .int (nI 0), .int (nI 0)])), (q7, .inl (cJ, 136800, .inr (.inl (vp_updL (gL (vp_updL (vp_updL (fun _ => 0) 1 (lN N)) 11 (-1)) k) (20 + k) (-1))))), (q15, .inl (cJ, 136800, .inr (.inl (fun _ => 0)))), (q23, .inl (cJ, 136800, .inr (.inl (fun _ => 0))))] H := hP
      replace hD : va_D A [(h0, .inr (7, [.ref q7, .ref q15, .ref q23, .int (nI 0), .int (nI 0), .int (nI 0)])), (q7, .inl (cJ, 136800, .inr (.inl (vp_updL (gL (vp_updL (vp_updL (fun _ => 0) 1 (lN N)) 11 (-1)) k) (20 + k) (-1))))), (q15, .inl (cJ, 136800, .inr (.inl (fun _ => 0)))), (q23, .inl (cJ, 136800, .inr (.inl (fun _ => 0))))] := hD
      refine lv_aload_n hx hb dX7_init_89 rfl (lv_at hl 0 rfl) ?_
      refine va_get (D := D) (ci := 7) (v := .ref q7) (C := RX7) (T := TX7) (N := 6) hx hb hts hin7 hown hK hP 0 rfl rfl 0 (by decide) (hts (.fieldLink RX7 8 "MeshRoutingModel" "v" "[J") (List.mem_cons_of_mem _ q_665)) (fun _ h9 => h9) rfl dX7_init_90 ?_
      refine lv_bipush (v := nI 30) hx hb dX7_init_93 (by decide) ?_
      refine lv_iload_n hx hb dX7_init_95 rfl (lv_at hl 2 rfl) ?_
      refine lv_iadd hx hb dX7_init_96 ?_
      refine k_ti (show ((nI 30) + (nI k)) = (nI (30 + k)) from nI_add _ _) ?_
      refine lv_ldc2 (v := -1) hx hb hown (by exact hts (.constantLong RX7 24 (-1)) (List.mem_cons_of_mem _ q_666)) dX7_init_97 ?_
      refine k_tl (show (-1) = ((-1)) from by decide) ?_
      refine k_last (f' := gL (vp_updL (vp_updL (fun _ => 0) 1 (lN N)) 11 (-1)) (k + 1)) hx hb hK hP hD hS 1 1 rfl rfl (by omega) (by omega) (gL_s (by omega)) dX7_init_100 (fun H locs hP hD hS => ?_)
      replace hP : va_P D vwCl [(h0, .inr (7, [.ref q7, .ref q15, .ref q23, .int (nI 0), .int (nI 0), .int (nI 0)])), (q7, .inl (cJ, 136800, .inr (.inl (gL (vp_updL (vp_updL (fun _ => 0) 1 (lN N)) 11 (-1)) (k + 1))))), (q15, .inl (cJ, 136800, .inr (.inl (fun _ => 0)))), (q23, .inl (cJ, 136800, .inr (.inl (fun _ => 0))))] H := hP
      replace hD : va_D A [(h0, .inr (7, [.ref q7, .ref q15, .ref q23, .int (nI 0), .int (nI 0), .int (nI 0)])), (q7, .inl (cJ, 136800, .inr (.inl (gL (vp_updL (vp_updL (fun _ => 0) 1 (lN N)) 11 (-1)) (k + 1))))), (q15, .inl (cJ, 136800, .inr (.inl (fun _ => 0)))), (q23, .inl (cJ, 136800, .inr (.inl (fun _ => 0))))] := hD
      refine lv_iinc (v := nI (k + 1)) (lv' := [(2, .int (nI (k + 1))), (0, .ref h0), (1, .int (nI N))]) hx hb dX7_init_101 hl (k := 2) rfl (by exact nI_add k 1) (by decide) rfl (fun ls hl => ?_)
      refine lv_goto (tgt := 71) hx hb dX7_init_104 (by decide) ?_
      exact ih _ _ _ hP hD hS (lv_sub hl [1, 2, 0] rfl)
