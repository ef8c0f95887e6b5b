set_option maxHeartbeats 4000000 in
set_option maxRecDepth 100000 in
theorem c_X6_cellOf (l : Launch) (D : va_G) (cI cJ cM cG : ClassId) (i : Nat) (d : Nat) (sz : Nat)  : Met l yX6_cellOf (Cond.code yX6_cellOf cX6_cellOf 2 (some .int) :: kBig) ({ frames := 0, cells := 0, slots := 0, locals := 0 }) (va_Pc [.int (nI i), .int (nI d)] (kP D [(cI, .int), (cJ, .long), (cM, .object "MeshRouting$Message"), (cG, .array .int)] [] sz)) (va_Qi (fun (r : Int32) (_ : Unit) => r = nI (i * 10 + d)) (fun _ t9 => kB D (va_A [] sz) [] t9) (va_A [] sz)) 0 0 (va_A [] sz) := by
  refine Met.ofW (cc := cX6_cellOf) (maxL := 2) (ret := (some .int)) (by decide) rfl ?_
  intro p e s m args below meth c s₁ B hml hv
  obtain ⟨rfl, hsz, hP, hK, hD0, hKN⟩ := hv
  have hx := B.exec
  have hb := B.bytes
  have hr := B.returns
  have hts := atoms_spec (ws := (Cond.code yX6_cellOf cX6_cellOf 2 (some .int) :: kBig)) B.pre
  have hown : s.vm.findClass RX6 = some m.cls := findClass_of_methodNamed B.named
  have hlocks := B.notSynchronized
  subst hsz
  have hD := hD0.self (sz := s.heap.size)
  generalize hAe : va_A [] s.heap.size = A at hD ⊢
  have hA : ∀ q : Nat, s.heap.size ≤ q → A q := fun q h => by rw [← hAe]; exact Or.inr h
  have hS : va_S A s.heap s.heap [] := va_S.rf
  have hl := lv_entry ([.int (nI i), .int (nI d)]) (n := 2) (Nat.le_of_ble_eq_true rfl)
  rw [lg_entry_eq]
  generalize (lg_sl ([.int (nI i), .int (nI d)]) ++ List.replicate (2 - (lg_sl ([.int (nI i), .int (nI d)])).length) Slot.unset).toArray = ls at hl ⊢
  have hl : lv_has ls 2 [(0, .int (nI i)), (1, .int (nI d))] := hl
  refine lv_iload_n hx hb dX6_cellOf_0 rfl (lv_at hl 0 rfl) ?_
  refine lv_bipush (v := nI 10) hx hb dX6_cellOf_1 (by decide) ?_
  refine lv_imul hx hb dX6_cellOf_3 ?_
  refine k_ti (show ((nI i) * (nI 10)) = (nI (i * 10)) from pk_mul _ _) ?_
  refine lv_iload_n hx hb dX6_cellOf_4 rfl (lv_at hl 1 rfl) ?_
  refine lv_iadd hx hb dX6_cellOf_5 ?_
  refine k_ti (show ((nI (i * 10)) + (nI d)) = (nI (i * 10 + d)) from nI_add _ _) ?_
  have hP9 := hP.sub (ws' := []) [] rfl
  have hD9 := hD.sub (ws' := []) [] rfl rfl
  exact W.iret (v := nI (i * 10 + d)) hx hb hr (fun t9 ht9 hW9 => ⟨⟨nI (i * 10 + d), (), rfl, rfl, by rw [ht9]; exact hP9, hD9⟩, hS.F ht9⟩) hS.2.2 dX6_cellOf_6

set_option maxHeartbeats 4000000 in
set_option maxRecDepth 100000 in
theorem c_J7_fill (l : Launch) (D : va_G) (cI cJ cM cG : ClassId) (a : Nat) (v : Int32) (n : Nat) (f : Nat → Int32) (sz : Nat) (hn : n < 2 ^ 31) : Met l yJ7_fill_53178 (Cond.code yJ7_fill_53178 cJ7_fill_53178 4 none :: kBig) ({ frames := 0, cells := 0, slots := 0, locals := 0 }) (va_Pc [.ref a, .int v] (kP D [(cI, .int), (cJ, .long), (cM, .object "MeshRouting$Message"), (cG, .array .int)] [(a, .inl (cI, n, .inl f))] sz)) (va_Qv (fun _ : Unit => True) (fun _ t9 => kB D (va_A [(a, .inl (cI, n, .inl f))] sz) [(a, .inl (cI, n, .inl (fun j => if j < n then v else f j)))] t9) (va_A [(a, .inl (cI, n, .inl f))] sz)) 0 0 (va_A [(a, .inl (cI, n, .inl f))] sz) := by
  refine Met.ofW (cc := cJ7_fill_53178) (maxL := 4) (ret := none) (by decide) rfl ?_
  intro p e s m args below meth c s₁ B hml hv
  obtain ⟨rfl, hsz, hP, hK, hD0, hKN⟩ := hv
  have hx := B.exec
  have hb := B.bytes
  have hr := B.returns
  have hts := atoms_spec (ws := (Cond.code yJ7_fill_53178 cJ7_fill_53178 4 none :: kBig)) B.pre
  have hown : s.vm.findClass RJ7 = some m.cls := findClass_of_methodNamed B.named
  have hlocks := B.notSynchronized
  subst hsz
  have hD := hD0.self (sz := s.heap.size)
  generalize hAe : va_A [(a, .inl (cI, n, .inl f))] s.heap.size = A at hD ⊢
  have hA : ∀ q : Nat, s.heap.size ≤ q → A q := fun q h => by rw [← hAe]; exact Or.inr h
  have hS : va_S A s.heap s.heap [] := va_S.rf
  have hl := lv_entry ([.ref a, .int v]) (n := 4) (Nat.le_of_ble_eq_true rfl)
  rw [lg_entry_eq]
  generalize (lg_sl ([.ref a, .int v]) ++ List.replicate (4 - (lg_sl ([.ref a, .int v])).length) Slot.unset).toArray = ls at hl ⊢
  have hl : lv_has ls 4 [(0, .ref a), (1, .int v)] := hl
  refine lv_iconst (v := nI 0) hx hb dJ7_fill_53178_0 (by decide) ?_
  refine lv_istore_n (lv' := [(2, .int (nI 0)), (0, .ref a), (1, .int v)]) hx hb dJ7_fill_53178_1 rfl hl (by decide) rfl (fun ls hl => ?_)
  refine lv_aload_n hx hb dJ7_fill_53178_2 rfl (lv_at hl 1 rfl) ?_
  refine va_alen (v := nI n) hx hb hK hP 0 0 rfl rfl (by first | rfl | decide) dJ7_fill_53178_3 ?_
  refine lv_istore_n (lv' := [(3, .int (nI n)), (2, .int (nI 0)), (0, .ref a), (1, .int v)]) hx hb dJ7_fill_53178_4 rfl hl (by decide) rfl (fun ls hl => ?_)
  have hc1 : f = (fun j => if j < 0 then v else f j) := kf_0
  rw [hc1] at hP hD
  refine k_loop (nL := 4) (wf := fun k => [(a, .inl (cI, n, .inl (fun j => if j < k then v else f j)))]) (lvf := fun k => [(0, .ref a), (1, .int v), (2, .int (nI k)), (3, .int (nI n))]) (B := n) 0 (Nat.zero_le _) hP hD hS (lv_sub hl [2, 3, 1, 0] rfl) (fun H locs ls hP hD hS hl => ?_) (fun k hk9 hk ih H locs ls hP hD hS hl => ?_)
  · replace hP : va_P D vwCl [(a, .inl (cI, n, .inl (fun j => if j < n then v else f j)))] H := hP
    replace hD : va_D A [(a, .inl (cI, n, .inl (fun j => if j < n then v else f j)))] := hD
    replace hl : lv_has ls 4 [(0, .ref a), (1, .int v), (2, .int (nI n)), (3, .int (nI n))] := hl
    refine lv_iload_n hx hb dJ7_fill_53178_5 rfl (lv_at hl 2 rfl) ?_
    refine lv_iload_n hx hb dJ7_fill_53178_6 rfl (lv_at hl 3 rfl) ?_
    refine k_icmp_ge (tgt := 20) hx hb dJ7_fill_53178_7 (by decide) (by omega) (by omega) (fun _ => ?_) (fun h9 => absurd h9 (by omega))
    have hP9 := hP.sub (ws' := [(a, .inl (cI, n, .inl (fun j => if j < n then v else f j)))]) [0] rfl
    have hD9 := hD.sub (ws' := [(a, .inl (cI, n, .inl (fun j => if j < n then v else f j)))]) [0] rfl rfl
    exact W.vret hx hb hr (fun t9 ht9 hW9 => ⟨⟨(), rfl, trivial, by rw [ht9]; exact hP9, hD9⟩, hS.F ht9⟩) hS.2.2 dJ7_fill_53178_20
  · replace hP : va_P D vwCl [(a, .inl (cI, n, .inl (fun j => if j < k then v else f j)))] H := hP
    replace hD : va_D A [(a, .inl (cI, n, .inl (fun j => if j < k then v else f j)))] := hD
    replace hl : lv_has ls 4 [(0, .ref a), (1, .int v), (2, .int (nI k)), (3, .int (nI n))] := hl
    refine lv_iload_n hx hb dJ7_fill_53178_5 rfl (lv_at hl 2 rfl) ?_
    refine lv_iload_n hx hb dJ7_fill_53178_6 rfl (lv_at hl 3 rfl) ?_
    refine k_icmp_ge (tgt := 20) hx hb dJ7_fill_53178_7 (by decide) (by omega) (by omega) (fun h9 => absurd h9 (by omega)) (fun _ => ?_)
    refine lv_aload_n hx hb dJ7_fill_53178_10 rfl (lv_at hl 0 rfl) ?_
    refine lv_iload_n hx hb dJ7_fill_53178_11 rfl (lv_at hl 2 rfl) ?_
    refine lv_iload_n hx hb dJ7_fill_53178_12 rfl (lv_at hl 1 rfl) ?_
    refine k_iast (f' := (fun j => if j < k + 1 then v else f j)) hx hb hK hP hD hS 0 0 rfl rfl (by omega) (by omega) (kf_s) dJ7_fill_53178_13 (fun H locs hP hD hS => ?_)
    replace hP : va_P D vwCl [(a, .inl (cI, n, .inl (fun j => if j < k + 1 then v else f j)))] H := hP
    replace hD : va_D A [(a, .inl (cI, n, .inl (fun j => if j < k + 1 then v else f j)))] := hD
    refine lv_iinc (v := nI (k + 1)) (lv' := [(2, .int (nI (k + 1))), (0, .ref a), (1, .int v), (3, .int (nI n))]) hx hb dJ7_fill_53178_14 hl (k := 2) rfl (by exact nI_add k 1) (by decide) rfl (fun ls hl => ?_)
    refine lv_goto (tgt := 5) hx hb dJ7_fill_53178_17 (by decide) ?_
    exact ih _ _ _ hP hD hS (lv_sub hl [1, 2, 0, 3] rfl)

set_option maxHeartbeats 4000000 in
set_option maxRecDepth 100000 in
theorem c_J9_floorMod (l : Launch) (D : va_G) (cI cJ cM cG : ClassId) (a : Nat) (sz : Nat) (ha : a < 2 ^ 30) : Met l yJ9_floorMod_7cf53 (Cond.code yJ9_floorMod_7cf53 cJ9_floorMod_7cf53 3 (some .int) :: kBig) ({ frames := 0, cells := 0, slots := 0, locals := 0 }) (va_Pc [.int (nI a), .int (nI 10)] (kP D [(cI, .int), (cJ, .long), (cM, .object "MeshRouting$Message"), (cG, .array .int)] [] sz)) (va_Qi (fun (r : Int32) (_ : Unit) => r = nI (a % 10)) (fun _ t9 => kB D (va_A [] sz) [] t9) (va_A [] sz)) 0 0 (va_A [] sz) := by
  refine k_ofWF (cc := cJ9_floorMod_7cf53) (maxL := 3) (ret := (some .int)) (by decide +kernel) rfl ?_
  intro p e s m args below meth c s₁ B hml hv
  obtain ⟨rfl, hsz, hP, hK, hD0, hKN⟩ := hv
  have hx := B.exec
  have hb := B.bytes
  have hr := B.returns
  have hts := atoms_spec (ws := (Cond.code yJ9_floorMod_7cf53 cJ9_floorMod_7cf53 3 (some .int) :: kBig)) B.pre
  have hown : s.vm.findClass RJ9 = some m.cls := findClass_of_methodNamed B.named
  have hlocks := B.notSynchronized
  subst hsz
  have hD := hD0.self (sz := s.heap.size)
  generalize hAe : va_A [] s.heap.size = A at hD ⊢
  have hA : ∀ q : Nat, s.heap.size ≤ q → A q := fun q h => by rw [← hAe]; exact Or.inr h
  have hS : va_S A s.heap s.heap [] := va_S.rf
  have hl := lv_entry ([.int (nI a), .int (nI 10)]) (n := 3) (Nat.le_of_ble_eq_true rfl)
  rw [lg_entry_eq]
  generalize (lg_sl ([.int (nI a), .int (nI 10)]) ++ List.replicate (3 - (lg_sl ([.int (nI a), .int (nI 10)])).length) Slot.unset).toArray = ls at hl ⊢
  have hl : lv_has ls 3 [(0, .int (nI a)), (1, .int (nI 10))] := hl
  refine lv_iload_n hx hb dJ9_floorMod_7cf53_0 rfl (lv_at hl 0 rfl) ?_
  refine lv_iload_n hx hb dJ9_floorMod_7cf53_1 rfl (lv_at hl 1 rfl) ?_
  refine lv_irem hx hb dJ9_floorMod_7cf53_2 (by decide) ?_
  refine k_ti (show ((nI a) - (nI a) / (nI 10) * (nI 10)) = (nI (a % 10)) from pk_rem (by omega) (by omega) (by omega)) ?_
  refine lv_istore_n (lv' := [(2, .int (nI (a % 10))), (0, .int (nI a)), (1, .int (nI 10))]) hx hb dJ9_floorMod_7cf53_3 rfl hl (by decide) rfl (fun ls hl => ?_)
  refine lv_iload_n hx hb dJ9_floorMod_7cf53_4 rfl (lv_at hl 1 rfl) ?_
  refine lv_iload_n hx hb dJ9_floorMod_7cf53_5 rfl (lv_at hl 2 rfl) ?_
  refine lv_ixor hx hb dJ9_floorMod_7cf53_6 ?_
  refine k_ti (show ((nI a) ^^^ (nI 10)) = (nI a ^^^ nI 10) from rfl) ?_
  refine lv_if_ge (tgt := 18) hx hb dJ9_floorMod_7cf53_7 (by decide) (fun _ => ?_) (fun h9 => absurd (k_xor10 ha) h9)
  refine lv_iload_n hx hb dJ9_floorMod_7cf53_18 rfl (lv_at hl 0 rfl) ?_
  have hP9 := hP.sub (ws' := []) [] rfl
  have hD9 := hD.sub (ws' := []) [] rfl rfl
  exact W.iret (v := nI (a % 10)) hx hb hr (fun t9 ht9 hW9 => ⟨⟨nI (a % 10), (), rfl, rfl, by rw [ht9]; exact hP9, hD9⟩, hS.F ht9⟩) hS.2.2 dJ9_floorMod_7cf53_19

set_option maxHeartbeats 4000000 in
set_option maxRecDepth 100000 in
theorem c_X5_isIdle (l : Launch) (D : va_G) (cI cJ cM cG : ClassId) (n : Nat → Nat) (k : Nat) (f : Nat → Int32) (du : Int32) (sz : Nat) (hk : k < 100) (hf : f k = nI 0) : Met l yX5_isIdle (Cond.code yX5_isIdle cX5_isIdle 2 (some .boolean) :: kBig) ({ frames := 0, cells := 0, slots := 0, locals := 0 }) (va_Pc [.ref (n 16), .int (nI k)] (kP D [(cI, .int), (cJ, .long), (cM, .object "MeshRouting$Message"), (cG, .array .int)] [(n 16, .inr (5, [.ref (n 17), .ref (n 18), .ref (n 19), .ref (n 20), .ref (n 21), .ref (n 22), .int du])), (n 17, .inl (cI, 100, .inl f))] sz)) (va_Qi (fun (r : Int32) (_ : Unit) => r = nI 1) (fun _ t9 => kB D (va_A [(n 16, .inr (5, [.ref (n 17), .ref (n 18), .ref (n 19), .ref (n 20), .ref (n 21), .ref (n 22), .int du])), (n 17, .inl (cI, 100, .inl f))] sz) [(n 16, .inr (5, [.ref (n 17), .ref (n 18), .ref (n 19), .ref (n 20), .ref (n 21), .ref (n 22), .int du])), (n 17, .inl (cI, 100, .inl f))] t9) (va_A [(n 16, .inr (5, [.ref (n 17), .ref (n 18), .ref (n 19), .ref (n 20), .ref (n 21), .ref (n 22), .int du])), (n 17, .inl (cI, 100, .inl f))] sz)) 0 0 (va_A [(n 16, .inr (5, [.ref (n 17), .ref (n 18), .ref (n 19), .ref (n 20), .ref (n 21), .ref (n 22), .int du])), (n 17, .inl (cI, 100, .inl f))] sz) := by
  refine Met.ofW (cc := cX5_isIdle) (maxL := 2) (ret := (some .boolean)) (by decide) rfl ?_
  intro p e s m args below meth c s₁ B hml hv
  obtain ⟨rfl, hsz, hP, hK, hD0, hKN⟩ := hv
  have hx := B.exec
  have hb := B.bytes
  have hr := B.returns
  have hts := atoms_spec (ws := (Cond.code yX5_isIdle cX5_isIdle 2 (some .boolean) :: kBig)) B.pre
  have hown : s.vm.findClass RX5 = some m.cls := findClass_of_methodNamed B.named
  have hlocks := B.notSynchronized
  have hin5 : ∀ w ∈ u_ws RX5 TX5 7, w ∈ (Cond.code yX5_isIdle cX5_isIdle 2 (some .boolean) :: kBig) := fun w h => List.mem_cons_of_mem _ (inb5 w h)
  subst hsz
  have hD := hD0.self (sz := s.heap.size)
  generalize hAe : va_A [(n 16, .inr (5, [.ref (n 17), .ref (n 18), .ref (n 19), .ref (n 20), .ref (n 21), .ref (n 22), .int du])), (n 17, .inl (cI, 100, .inl f))] s.heap.size = A at hD ⊢
  have hA : ∀ q : Nat, s.heap.size ≤ q → A q := fun q h => by rw [← hAe]; exact Or.inr h
  have hS : va_S A s.heap s.heap [] := va_S.rf
  have hl := lv_entry ([.ref (n 16), .int (nI k)]) (n := 2) (Nat.le_of_ble_eq_true rfl)
  rw [lg_entry_eq]
  generalize (lg_sl ([.ref (n 16), .int (nI k)]) ++ List.replicate (2 - (lg_sl ([.ref (n 16), .int (nI k)])).length) Slot.unset).toArray = ls at hl ⊢
  have hl : lv_has ls 2 [(0, .ref (n 16)), (1, .int (nI k))] := hl
  refine lv_aload_n hx hb dX5_isIdle_0 rfl (lv_at hl 0 rfl) ?_
  refine va_get (D := D) (ci := 5) (v := .ref (n 17)) (C := RX5) (T := TX5) (N := 7) hx hb hts hin5 hown hK hP 0 rfl rfl 0 (by decide) (hts (.fieldLink RX5 9 "MeshRouting$Searches" "activities" "[I") (List.mem_cons_of_mem _ q_135)) (fun _ h9 => h9) rfl dX5_isIdle_1 ?_
  refine lv_iload_n hx hb dX5_isIdle_4 rfl (lv_at hl 1 rfl) ?_
  refine k_iald (v := nI 0) hx hb hK hP 1 0 rfl rfl (by omega) (by omega) (hf) dX5_isIdle_5 ?_
  refine k_if_ne (tgt := 13) hx hb dX5_isIdle_6 (by decide) (by omega) (fun h9 => absurd h9 (by omega)) (fun _ => ?_)
  refine lv_iconst (v := nI 1) hx hb dX5_isIdle_9 (by decide) ?_
  refine lv_goto (tgt := 14) hx hb dX5_isIdle_10 (by decide) ?_
  have hP9 := hP.sub (ws' := [(n 16, .inr (5, [.ref (n 17), .ref (n 18), .ref (n 19), .ref (n 20), .ref (n 21), .ref (n 22), .int du])), (n 17, .inl (cI, 100, .inl f))]) [0, 1] rfl
  have hD9 := hD.sub (ws' := [(n 16, .inr (5, [.ref (n 17), .ref (n 18), .ref (n 19), .ref (n 20), .ref (n 21), .ref (n 22), .int du])), (n 17, .inl (cI, 100, .inl f))]) [0, 1] rfl rfl
  exact W.zret (v := nI 1) hx hb hr (by decide) (fun t9 ht9 hW9 => ⟨⟨nI 1, (), rfl, rfl, by rw [ht9]; exact hP9, hD9⟩, hS.F ht9⟩) hS.2.2 dX5_isIdle_14

set_option maxHeartbeats 4000000 in
set_option maxRecDepth 100000 in
theorem c_X5_begin (l : Launch) (D : va_G) (cI cJ cM cG : ClassId) (n : Nat → Nat) (k : Nat) (v : Int32) (du : Int32) (sz : Nat) (hk : k < 100) : Met l yX5_begin (Cond.code yX5_begin cX5_begin 3 none :: kBig) ({ frames := 0, cells := 0, slots := 0, locals := 0 }) (va_Pc [.ref (n 16), .int (nI k), .int v] (kP D [(cI, .int), (cJ, .long), (cM, .object "MeshRouting$Message"), (cG, .array .int)] [(n 16, .inr (5, [.ref (n 17), .ref (n 18), .ref (n 19), .ref (n 20), .ref (n 21), .ref (n 22), .int du])), (n 17, .inl (cI, 100, .inl (fun _ => 0))), (n 20, .inl (cI, 100, .inl (fun _ => 0)))] sz)) (va_Qv (fun _ : Unit => True) (fun _ t9 => kB D (va_A [(n 16, .inr (5, [.ref (n 17), .ref (n 18), .ref (n 19), .ref (n 20), .ref (n 21), .ref (n 22), .int du])), (n 17, .inl (cI, 100, .inl (fun _ => 0))), (n 20, .inl (cI, 100, .inl (fun _ => 0)))] sz) [(n 16, .inr (5, [.ref (n 17), .ref (n 18), .ref (n 19), .ref (n 20), .ref (n 21), .ref (n 22), .int du])), (n 17, .inl (cI, 100, .inl (upd (fun _ => 0) k v))), (n 20, .inl (cI, 100, .inl (fun _ => 0)))] t9) (va_A [(n 16, .inr (5, [.ref (n 17), .ref (n 18), .ref (n 19), .ref (n 20), .ref (n 21), .ref (n 22), .int du])), (n 17, .inl (cI, 100, .inl (fun _ => 0))), (n 20, .inl (cI, 100, .inl (fun _ => 0)))] sz)) 0 0 (va_A [(n 16, .inr (5, [.ref (n 17), .ref (n 18), .ref (n 19), .ref (n 20), .ref (n 21), .ref (n 22), .int du])), (n 17, .inl (cI, 100, .inl (fun _ => 0))), (n 20, .inl (cI, 100, .inl (fun _ => 0)))] sz) := by
  refine Met.ofW (cc := cX5_begin) (maxL := 3) (ret := none) (by decide) rfl ?_
  intro p e s m args below meth c s₁ B hml hv
  obtain ⟨rfl, hsz, hP, hK, hD0, hKN⟩ := hv
  have hx := B.exec
  have hb := B.bytes
  have hr := B.returns
  have hts := atoms_spec (ws := (Cond.code yX5_begin cX5_begin 3 none :: kBig)) B.pre
  have hown : s.vm.findClass RX5 = some m.cls := findClass_of_methodNamed B.named
  have hlocks := B.notSynchronized
  have hin5 : ∀ w ∈ u_ws RX5 TX5 7, w ∈ (Cond.code yX5_begin cX5_begin 3 none :: kBig) := fun w h => List.mem_cons_of_mem _ (inb5 w h)
  subst hsz
  have hD := hD0.self (sz := s.heap.size)
  generalize hAe : va_A [(n 16, .inr (5, [.ref (n 17), .ref (n 18), .ref (n 19), .ref (n 20), .ref (n 21), .ref (n 22), .int du])), (n 17, .inl (cI, 100, .inl (fun _ => 0))), (n 20, .inl (cI, 100, .inl (fun _ => 0)))] s.heap.size = A at hD ⊢
  have hA : ∀ q : Nat, s.heap.size ≤ q → A q := fun q h => by rw [← hAe]; exact Or.inr h
  have hS : va_S A s.heap s.heap [] := va_S.rf
  have hl := lv_entry ([.ref (n 16), .int (nI k), .int v]) (n := 3) (Nat.le_of_ble_eq_true rfl)
  rw [lg_entry_eq]
  generalize (lg_sl ([.ref (n 16), .int (nI k), .int v]) ++ List.replicate (3 - (lg_sl ([.ref (n 16), .int (nI k), .int v])).length) Slot.unset).toArray = ls at hl ⊢
  have hl : lv_has ls 3 [(0, .ref (n 16)), (1, .int (nI k)), (2, .int v)] := hl
  refine lv_aload_n hx hb dX5_begin_0 rfl (lv_at hl 0 rfl) ?_
  refine va_get (D := D) (ci := 5) (v := .ref (n 17)) (C := RX5) (T := TX5) (N := 7) hx hb hts hin5 hown hK hP 0 rfl rfl 0 (by decide) (hts (.fieldLink RX5 9 "MeshRouting$Searches" "activities" "[I") (List.mem_cons_of_mem _ q_135)) (fun _ h9 => h9) rfl dX5_begin_1 ?_
  refine lv_iload_n hx hb dX5_begin_4 rfl (lv_at hl 1 rfl) ?_
  refine lv_iload_n hx hb dX5_begin_5 rfl (lv_at hl 2 rfl) ?_
  refine k_iast (f' := (upd (fun _ => 0) k v)) hx hb hK hP hD hS 1 0 rfl rfl (by omega) (by omega) (rfl) dX5_begin_6 (fun H locs hP hD hS => ?_)
  replace hP : va_P D vwCl [(n 16, .inr (5, [.ref (n 17), .ref (n 18), .ref (n 19), .ref (n 20), .ref (n 21), .ref (n 22), .int du])), (n 17, .inl (cI, 100, .inl (upd (fun _ => 0) k v))), (n 20, .inl (cI, 100, .inl (fun _ => 0)))] H := hP
  replace hD : va_D A [(n 16, .inr (5, [.ref (n 17), .ref (n 18), .ref (n 19), .ref (n 20), .ref (n 21), .ref (n 22), .int du])), (n 17, .inl (cI, 100, .inl (upd (fun _ => 0) k v))), (n 20, .inl (cI, 100, .inl (fun _ => 0)))] := hD
  refine lv_aload_n hx hb dX5_begin_7 rfl (lv_at hl 0 rfl) ?_
  refine va_get (D := D) (ci := 5) (v := .ref (n 20)) (C := RX5) (T := TX5) (N := 7) hx hb hts hin5 hown hK hP 0 rfl rfl 3 (by decide) (hts (.fieldLink RX5 25 "MeshRouting$Searches" "widestAsks" "[I") (List.mem_cons_of_mem _ q_138)) (fun _ h9 => h9) rfl dX5_begin_8 ?_
  refine lv_iload_n hx hb dX5_begin_11 rfl (lv_at hl 1 rfl) ?_
  refine lv_iconst (v := nI 0) hx hb dX5_begin_12 (by decide) ?_
  refine k_iast (f' := (fun _ => 0)) hx hb hK hP hD hS 2 0 rfl rfl (by omega) (by omega) (k_u0) dX5_begin_13 (fun H locs hP hD hS => ?_)
  replace hP : va_P D vwCl [(n 16, .inr (5, [.ref (n 17), .ref (n 18), .ref (n 19), .ref (n 20), .ref (n 21), .ref (n 22), .int du])), (n 17, .inl (cI, 100, .inl (upd (fun _ => 0) k v))), (n 20, .inl (cI, 100, .inl (fun _ => 0)))] H := hP
  replace hD : va_D A [(n 16, .inr (5, [.ref (n 17), .ref (n 18), .ref (n 19), .ref (n 20), .ref (n 21), .ref (n 22), .int du])), (n 17, .inl (cI, 100, .inl (upd (fun _ => 0) k v))), (n 20, .inl (cI, 100, .inl (fun _ => 0)))] := hD
  have hP9 := hP.sub (ws' := [(n 16, .inr (5, [.ref (n 17), .ref (n 18), .ref (n 19), .ref (n 20), .ref (n 21), .ref (n 22), .int du])), (n 17, .inl (cI, 100, .inl (upd (fun _ => 0) k v))), (n 20, .inl (cI, 100, .inl (fun _ => 0)))]) [0, 1, 2] rfl
  have hD9 := hD.sub (ws' := [(n 16, .inr (5, [.ref (n 17), .ref (n 18), .ref (n 19), .ref (n 20), .ref (n 21), .ref (n 22), .int du])), (n 17, .inl (cI, 100, .inl (upd (fun _ => 0) k v))), (n 20, .inl (cI, 100, .inl (fun _ => 0)))]) [0, 1, 2] rfl rfl
  exact W.vret hx hb hr (fun t9 ht9 hW9 => ⟨⟨(), rfl, trivial, by rw [ht9]; exact hP9, hD9⟩, hS.F ht9⟩) hS.2.2 dX5_begin_14

set_option maxHeartbeats 4000000 in
set_option maxRecDepth 100000 in
theorem c_X5_findDue1 (l : Launch) (D : va_G) (cI cJ cM cG : ClassId) (n : Nat → Nat) (c0 : Nat) (t : Nat) (f : Nat → Int32) (du : Int32) (sz : Nat) (hc : c0 < 100) (hf : f c0 = nI t) (ht : t < 2 ^ 31) (ho : ∀ j, j ≠ c0 → f j = -1) : Met l yX5_findDue (Cond.code yX5_findDue cX5_findDue 2 none :: kBig) ({ frames := 0, cells := 0, slots := 0, locals := 0 }) (va_Pc [.ref (n 16)] (kP D [(cI, .int), (cJ, .long), (cM, .object "MeshRouting$Message"), (cG, .array .int)] [(n 16, .inr (5, [.ref (n 17), .ref (n 18), .ref (n 19), .ref (n 20), .ref (n 21), .ref (n 22), .int du])), (n 18, .inl (cI, 100, .inl f))] sz)) (va_Qv (fun _ : Unit => True) (fun _ t9 => kB D (va_A [(n 16, .inr (5, [.ref (n 17), .ref (n 18), .ref (n 19), .ref (n 20), .ref (n 21), .ref (n 22), .int du])), (n 18, .inl (cI, 100, .inl f))] sz) [(n 16, .inr (5, [.ref (n 17), .ref (n 18), .ref (n 19), .ref (n 20), .ref (n 21), .ref (n 22), .int (nI c0)])), (n 18, .inl (cI, 100, .inl f))] t9) (va_A [(n 16, .inr (5, [.ref (n 17), .ref (n 18), .ref (n 19), .ref (n 20), .ref (n 21), .ref (n 22), .int du])), (n 18, .inl (cI, 100, .inl f))] sz)) 0 0 (va_A [(n 16, .inr (5, [.ref (n 17), .ref (n 18), .ref (n 19), .ref (n 20), .ref (n 21), .ref (n 22), .int du])), (n 18, .inl (cI, 100, .inl f))] sz) := by
  refine Met.ofW (cc := cX5_findDue) (maxL := 2) (ret := none) (by decide) rfl ?_
  intro p e s m args below meth c s₁ B hml hv
  obtain ⟨rfl, hsz, hP, hK, hD0, hKN⟩ := hv
  have hx := B.exec
  have hb := B.bytes
  have hr := B.returns
  have hts := atoms_spec (ws := (Cond.code yX5_findDue cX5_findDue 2 none :: kBig)) B.pre
  have hown : s.vm.findClass RX5 = some m.cls := findClass_of_methodNamed B.named
  have hlocks := B.notSynchronized
  have hin5 : ∀ w ∈ u_ws RX5 TX5 7, w ∈ (Cond.code yX5_findDue cX5_findDue 2 none :: kBig) := fun w h => List.mem_cons_of_mem _ (inb5 w h)
  subst hsz
  have hD := hD0.self (sz := s.heap.size)
  generalize hAe : va_A [(n 16, .inr (5, [.ref (n 17), .ref (n 18), .ref (n 19), .ref (n 20), .ref (n 21), .ref (n 22), .int du])), (n 18, .inl (cI, 100, .inl f))] s.heap.size = A at hD ⊢
  have hA : ∀ q : Nat, s.heap.size ≤ q → A q := fun q h => by rw [← hAe]; exact Or.inr h
  have hS : va_S A s.heap s.heap [] := va_S.rf
  have hl := lv_entry ([.ref (n 16)]) (n := 2) (Nat.le_of_ble_eq_true rfl)
  rw [lg_entry_eq]
  generalize (lg_sl ([.ref (n 16)]) ++ List.replicate (2 - (lg_sl ([.ref (n 16)])).length) Slot.unset).toArray = ls at hl ⊢
  have hl : lv_has ls 2 [(0, .ref (n 16))] := hl
  refine lv_aload_n hx hb dX5_findDue_0 rfl (lv_at hl 0 rfl) ?_
  refine lv_iconst (v := (-1)) hx hb dX5_findDue_1 (by decide) ?_
  refine va_put (D := D) (ci := 5) (v := .int (-1)) (ty := .int) (C := RX5) (T := TX5) (N := 7) hx hb hts hin5 tyX5 tyX5_ok nmX5 hown hK hP hD hS 0 rfl rfl 6 (by decide) (hts (.fieldLink RX5 34 "MeshRouting$Searches" "due" "I") (List.mem_cons_of_mem _ q_141)) (fun _ h9 => h9) rfl (by decide +kernel) rfl rfl (Nat.le_of_ble_eq_true rfl) dX5_findDue_2 (fun H locs hP hD hS => ?_)
  replace hP : va_P D vwCl [(n 16, .inr (5, [.ref (n 17), .ref (n 18), .ref (n 19), .ref (n 20), .ref (n 21), .ref (n 22), .int (-1)])), (n 18, .inl (cI, 100, .inl f))] H := hP
  replace hD : va_D A [(n 16, .inr (5, [.ref (n 17), .ref (n 18), .ref (n 19), .ref (n 20), .ref (n 21), .ref (n 22), .int (-1)])), (n 18, .inl (cI, 100, .inl f))] := hD
  refine lv_iconst (v := nI 0) hx hb dX5_findDue_5 (by decide) ?_
  refine lv_istore_n (lv' := [(1, .int (nI 0)), (0, .ref (n 16))]) hx hb dX5_findDue_6 rfl hl (by decide) rfl (fun ls hl => ?_)
  have hdue0 : (-1 : Int32) = (if c0 < 0 then nI c0 else -1) := (if_neg (Nat.not_lt_zero c0)).symm
  rw [hdue0] at hP hD
  refine k_loop (nL := 2) (wf := fun k => [(n 16, .inr (5, [.ref (n 17), .ref (n 18), .ref (n 19), .ref (n 20), .ref (n 21), .ref (n 22), .int (if c0 < k then nI c0 else -1)])), (n 18, .inl (cI, 100, .inl f))]) (lvf := fun k => [(0, .ref (n 16)), (1, .int (nI k))]) (B := 100) 0 (Nat.zero_le _) hP hD hS (lv_sub hl [1, 0] rfl) (fun H locs ls hP hD hS hl => ?_) (fun k hk9 hk ih H locs ls hP hD hS hl => ?_)
  · replace hP : va_P D vwCl [(n 16, .inr (5, [.ref (n 17), .ref (n 18), .ref (n 19), .ref (n 20), .ref (n 21), .ref (n 22), .int (if c0 < 100 then nI c0 else -1)])), (n 18, .inl (cI, 100, .inl f))] H := hP
    replace hD : va_D A [(n 16, .inr (5, [.ref (n 17), .ref (n 18), .ref (n 19), .ref (n 20), .ref (n 21), .ref (n 22), .int (if c0 < 100 then nI c0 else -1)])), (n 18, .inl (cI, 100, .inl f))] := hD
    replace hl : lv_has ls 2 [(0, .ref (n 16)), (1, .int (nI 100))] := hl
    have hd1 : (if c0 < 100 then nI c0 else -1) = nI c0 := if_pos hc
    rw [hd1] at hP hD
    refine lv_iload_n hx hb dX5_findDue_7 rfl (lv_at hl 1 rfl) ?_
    refine lv_bipush (v := nI 100) hx hb dX5_findDue_8 (by decide) ?_
    refine k_icmp_ge (tgt := 60) hx hb dX5_findDue_10 (by decide) (by omega) (by omega) (fun _ => ?_) (fun h9 => absurd h9 (by omega))
    have hP9 := hP.sub (ws' := [(n 16, .inr (5, [.ref (n 17), .ref (n 18), .ref (n 19), .ref (n 20), .ref (n 21), .ref (n 22), .int (nI c0)])), (n 18, .inl (cI, 100, .inl f))]) [0, 1] rfl
    have hD9 := hD.sub (ws' := [(n 16, .inr (5, [.ref (n 17), .ref (n 18), .ref (n 19), .ref (n 20), .ref (n 21), .ref (n 22), .int (nI c0)])), (n 18, .inl (cI, 100, .inl f))]) [0, 1] rfl rfl
    exact W.vret hx hb hr (fun t9 ht9 hW9 => ⟨⟨(), rfl, trivial, by rw [ht9]; exact hP9, hD9⟩, hS.F ht9⟩) hS.2.2 dX5_findDue_60
  · replace hP : va_P D vwCl [(n 16, .inr (5, [.ref (n 17), .ref (n 18), .ref (n 19), .ref (n 20), .ref (n 21), .ref (n 22), .int (if c0 < k then nI c0 else -1)])), (n 18, .inl (cI, 100, .inl f))] H := hP
    replace hD : va_D A [(n 16, .inr (5, [.ref (n 17), .ref (n 18), .ref (n 19), .ref (n 20), .ref (n 21), .ref (n 22), .int (if c0 < k then nI c0 else -1)])), (n 18, .inl (cI, 100, .inl f))] := hD
    replace hl : lv_has ls 2 [(0, .ref (n 16)), (1, .int (nI k))] := hl
    refine lv_iload_n hx hb dX5_findDue_7 rfl (lv_at hl 1 rfl) ?_
    refine lv_bipush (v := nI 100) hx hb dX5_findDue_8 (by decide) ?_
    refine k_icmp_ge (tgt := 60) hx hb dX5_findDue_10 (by decide) (by omega) (by omega) (fun h9 => absurd h9 (by omega)) (fun _ => ?_)
    by_cases hkc : k = c0
    · have hd1 : (if c0 < k then nI c0 else -1) = (-1 : Int32) := if_neg (by omega)
      rw [hd1] at hP hD
      refine lv_aload_n hx hb dX5_findDue_13 rfl (lv_at hl 0 rfl) ?_
      refine va_get (D := D) (ci := 5) (v := .ref (n 18)) (C := RX5) (T := TX5) (N := 7) hx hb hts hin5 hown hK hP 0 rfl rfl 1 (by decide) (hts (.fieldLink RX5 19 "MeshRouting$Searches" "deadlines" "[I") (List.mem_cons_of_mem _ q_136)) (fun _ h9 => h9) rfl dX5_findDue_14 ?_
      refine lv_iload_n hx hb dX5_findDue_17 rfl (lv_at hl 1 rfl) ?_
      refine k_iald (v := nI t) hx hb hK hP 1 0 rfl rfl (by omega) (by omega) (by rw [hkc]; exact hf) dX5_findDue_18 ?_
      refine lv_iconst (v := (-1)) hx hb dX5_findDue_19 (by decide) ?_
      refine lv_icmp_eq (tgt := 54) hx hb dX5_findDue_20 (by decide) (fun h9 => absurd h9 (k_nm1 ht)) (fun _ => ?_)
      refine lv_aload_n hx hb dX5_findDue_23 rfl (lv_at hl 0 rfl) ?_
      refine va_get (D := D) (ci := 5) (v := .int (-1)) (C := RX5) (T := TX5) (N := 7) hx hb hts hin5 hown hK hP 0 rfl rfl 6 (by decide) (hts (.fieldLink RX5 34 "MeshRouting$Searches" "due" "I") (List.mem_cons_of_mem _ q_141)) (fun _ h9 => h9) rfl dX5_findDue_24 ?_
      refine lv_iconst (v := (-1)) hx hb dX5_findDue_27 (by decide) ?_
      refine lv_icmp_eq (tgt := 49) hx hb dX5_findDue_28 (by decide) (fun _ => ?_) (fun h9 => absurd (by decide) h9)
      refine lv_aload_n hx hb dX5_findDue_49 rfl (lv_at hl 0 rfl) ?_
      refine lv_iload_n hx hb dX5_findDue_50 rfl (lv_at hl 1 rfl) ?_
      refine k_ti (show (nI k) = (if c0 < k + 1 then nI c0 else -1) from by rw [if_pos (by omega), hkc]) ?_
      refine va_put (D := D) (ci := 5) (v := .int (if c0 < k + 1 then nI c0 else -1)) (ty := .int) (C := RX5) (T := TX5) (N := 7) hx hb hts hin5 tyX5 tyX5_ok nmX5 hown hK hP hD hS 0 rfl rfl 6 (by decide) (hts (.fieldLink RX5 34 "MeshRouting$Searches" "due" "I") (List.mem_cons_of_mem _ q_141)) (fun _ h9 => h9) rfl (by decide +kernel) rfl rfl (Nat.le_of_ble_eq_true rfl) dX5_findDue_51 (fun H locs hP hD hS => ?_)
      replace hP : va_P D vwCl [(n 16, .inr (5, [.ref (n 17), .ref (n 18), .ref (n 19), .ref (n 20), .ref (n 21), .ref (n 22), .int (if c0 < k + 1 then nI c0 else -1)])), (n 18, .inl (cI, 100, .inl f))] H := hP
      replace hD : va_D A [(n 16, .inr (5, [.ref (n 17), .ref (n 18), .ref (n 19), .ref (n 20), .ref (n 21), .ref (n 22), .int (if c0 < k + 1 then nI c0 else -1)])), (n 18, .inl (cI, 100, .inl f))] := hD
      refine lv_iinc (v := nI (k + 1)) (lv' := [(1, .int (nI (k + 1))), (0, .ref (n 16))]) hx hb dX5_findDue_54 hl (k := 1) rfl (by exact nI_add k 1) (by decide) rfl (fun ls hl => ?_)
      refine lv_goto (tgt := 7) hx hb dX5_findDue_57 (by decide) ?_
      exact ih _ _ _ hP hD hS (lv_sub hl [1, 0] rfl)
    · have hd1 : (if c0 < k then nI c0 else -1) = (if c0 < k + 1 then nI c0 else -1 : Int32) := by
        by_cases h : c0 < k
        · rw [if_pos h, if_pos (by omega)]
        · rw [if_neg h, if_neg (by omega)]
      rw [hd1] at hP hD
      refine lv_aload_n hx hb dX5_findDue_13 rfl (lv_at hl 0 rfl) ?_
      refine va_get (D := D) (ci := 5) (v := .ref (n 18)) (C := RX5) (T := TX5) (N := 7) hx hb hts hin5 hown hK hP 0 rfl rfl 1 (by decide) (hts (.fieldLink RX5 19 "MeshRouting$Searches" "deadlines" "[I") (List.mem_cons_of_mem _ q_136)) (fun _ h9 => h9) rfl dX5_findDue_14 ?_
      refine lv_iload_n hx hb dX5_findDue_17 rfl (lv_at hl 1 rfl) ?_
      refine k_iald (v := (-1)) hx hb hK hP 1 0 rfl rfl (by omega) (by omega) (ho k hkc) dX5_findDue_18 ?_
      refine lv_iconst (v := (-1)) hx hb dX5_findDue_19 (by decide) ?_
      refine lv_icmp_eq (tgt := 54) hx hb dX5_findDue_20 (by decide) (fun _ => ?_) (fun h9 => absurd (rfl) h9)
      refine lv_iinc (v := nI (k + 1)) (lv' := [(1, .int (nI (k + 1))), (0, .ref (n 16))]) hx hb dX5_findDue_54 hl (k := 1) rfl (by exact nI_add k 1) (by decide) rfl (fun ls hl => ?_)
      refine lv_goto (tgt := 7) hx hb dX5_findDue_57 (by decide) ?_
      exact ih _ _ _ hP hD hS (lv_sub hl [1, 0] rfl)

set_option maxHeartbeats 4000000 in
set_option maxRecDepth 100000 in
theorem c_X5_findDue0 (l : Launch) (D : va_G) (cI cJ cM cG : ClassId) (n : Nat → Nat) (du : Int32) (sz : Nat)  : Met l yX5_findDue (Cond.code yX5_findDue cX5_findDue 2 none :: kBig) ({ frames := 0, cells := 0, slots := 0, locals := 0 }) (va_Pc [.ref (n 16)] (kP D [(cI, .int), (cJ, .long), (cM, .object "MeshRouting$Message"), (cG, .array .int)] [(n 16, .inr (5, [.ref (n 17), .ref (n 18), .ref (n 19), .ref (n 20), .ref (n 21), .ref (n 22), .int du])), (n 18, .inl (cI, 100, .inl (fun _ => -1)))] sz)) (va_Qv (fun _ : Unit => True) (fun _ t9 => kB D (va_A [(n 16, .inr (5, [.ref (n 17), .ref (n 18), .ref (n 19), .ref (n 20), .ref (n 21), .ref (n 22), .int du])), (n 18, .inl (cI, 100, .inl (fun _ => -1)))] sz) [(n 16, .inr (5, [.ref (n 17), .ref (n 18), .ref (n 19), .ref (n 20), .ref (n 21), .ref (n 22), .int (-1)])), (n 18, .inl (cI, 100, .inl (fun _ => -1)))] t9) (va_A [(n 16, .inr (5, [.ref (n 17), .ref (n 18), .ref (n 19), .ref (n 20), .ref (n 21), .ref (n 22), .int du])), (n 18, .inl (cI, 100, .inl (fun _ => -1)))] sz)) 0 0 (va_A [(n 16, .inr (5, [.ref (n 17), .ref (n 18), .ref (n 19), .ref (n 20), .ref (n 21), .ref (n 22), .int du])), (n 18, .inl (cI, 100, .inl (fun _ => -1)))] sz) := by
  refine Met.ofW (cc := cX5_findDue) (maxL := 2) (ret := none) (by decide) rfl ?_
  intro p e s m args below meth c s₁ B hml hv
  obtain ⟨rfl, hsz, hP, hK, hD0, hKN⟩ := hv
  have hx := B.exec
  have hb := B.bytes
  have hr := B.returns
  have hts := atoms_spec (ws := (Cond.code yX5_findDue cX5_findDue 2 none :: kBig)) B.pre
  have hown : s.vm.findClass RX5 = some m.cls := findClass_of_methodNamed B.named
  have hlocks := B.notSynchronized
  have hin5 : ∀ w ∈ u_ws RX5 TX5 7, w ∈ (Cond.code yX5_findDue cX5_findDue 2 none :: kBig) := fun w h => List.mem_cons_of_mem _ (inb5 w h)
  subst hsz
  have hD := hD0.self (sz := s.heap.size)
  generalize hAe : va_A [(n 16, .inr (5, [.ref (n 17), .ref (n 18), .ref (n 19), .ref (n 20), .ref (n 21), .ref (n 22), .int du])), (n 18, .inl (cI, 100, .inl (fun _ => -1)))] s.heap.size = A at hD ⊢
  have hA : ∀ q : Nat, s.heap.size ≤ q → A q := fun q h => by rw [← hAe]; exact Or.inr h
  have hS : va_S A s.heap s.heap [] := va_S.rf
  have hl := lv_entry ([.ref (n 16)]) (n := 2) (Nat.le_of_ble_eq_true rfl)
  rw [lg_entry_eq]
  generalize (lg_sl ([.ref (n 16)]) ++ List.replicate (2 - (lg_sl ([.ref (n 16)])).length) Slot.unset).toArray = ls at hl ⊢
  have hl : lv_has ls 2 [(0, .ref (n 16))] := hl
  refine lv_aload_n hx hb dX5_findDue_0 rfl (lv_at hl 0 rfl) ?_
  refine lv_iconst (v := (-1)) hx hb dX5_findDue_1 (by decide) ?_
  refine va_put (D := D) (ci := 5) (v := .int (-1)) (ty := .int) (C := RX5) (T := TX5) (N := 7) hx hb hts hin5 tyX5 tyX5_ok nmX5 hown hK hP hD hS 0 rfl rfl 6 (by decide) (hts (.fieldLink RX5 34 "MeshRouting$Searches" "due" "I") (List.mem_cons_of_mem _ q_141)) (fun _ h9 => h9) rfl (by decide +kernel) rfl rfl (Nat.le_of_ble_eq_true rfl) dX5_findDue_2 (fun H locs hP hD hS => ?_)
  replace hP : va_P D vwCl [(n 16, .inr (5, [.ref (n 17), .ref (n 18), .ref (n 19), .ref (n 20), .ref (n 21), .ref (n 22), .int (-1)])), (n 18, .inl (cI, 100, .inl (fun _ => -1)))] H := hP
  replace hD : va_D A [(n 16, .inr (5, [.ref (n 17), .ref (n 18), .ref (n 19), .ref (n 20), .ref (n 21), .ref (n 22), .int (-1)])), (n 18, .inl (cI, 100, .inl (fun _ => -1)))] := hD
  refine lv_iconst (v := nI 0) hx hb dX5_findDue_5 (by decide) ?_
  refine lv_istore_n (lv' := [(1, .int (nI 0)), (0, .ref (n 16))]) hx hb dX5_findDue_6 rfl hl (by decide) rfl (fun ls hl => ?_)
  refine k_loop (nL := 2) (wf := fun k => [(n 16, .inr (5, [.ref (n 17), .ref (n 18), .ref (n 19), .ref (n 20), .ref (n 21), .ref (n 22), .int (-1)])), (n 18, .inl (cI, 100, .inl (fun _ => -1)))]) (lvf := fun k => [(0, .ref (n 16)), (1, .int (nI k))]) (B := 100) 0 (Nat.zero_le _) hP hD hS (lv_sub hl [1, 0] rfl) (fun H locs ls hP hD hS hl => ?_) (fun k hk9 hk ih H locs ls hP hD hS hl => ?_)
  · replace hP : va_P D vwCl [(n 16, .inr (5, [.ref (n 17), .ref (n 18), .ref (n 19), .ref (n 20), .ref (n 21), .ref (n 22), .int (-1)])), (n 18, .inl (cI, 100, .inl (fun _ => -1)))] H := hP
    replace hD : va_D A [(n 16, .inr (5, [.ref (n 17), .ref (n 18), .ref (n 19), .ref (n 20), .ref (n 21), .ref (n 22), .int (-1)])), (n 18, .inl (cI, 100, .inl (fun _ => -1)))] := hD
    replace hl : lv_has ls 2 [(0, .ref (n 16)), (1, .int (nI 100))] := hl
    refine lv_iload_n hx hb dX5_findDue_7 rfl (lv_at hl 1 rfl) ?_
    refine lv_bipush (v := nI 100) hx hb dX5_findDue_8 (by decide) ?_
    refine k_icmp_ge (tgt := 60) hx hb dX5_findDue_10 (by decide) (by omega) (by omega) (fun _ => ?_) (fun h9 => absurd h9 (by omega))
    have hP9 := hP.sub (ws' := [(n 16, .inr (5, [.ref (n 17), .ref (n 18), .ref (n 19), .ref (n 20), .ref (n 21), .ref (n 22), .int (-1)])), (n 18, .inl (cI, 100, .inl (fun _ => -1)))]) [0, 1] rfl
    have hD9 := hD.sub (ws' := [(n 16, .inr (5, [.ref (n 17), .ref (n 18), .ref (n 19), .ref (n 20), .ref (n 21), .ref (n 22), .int (-1)])), (n 18, .inl (cI, 100, .inl (fun _ => -1)))]) [0, 1] rfl rfl
    exact W.vret hx hb hr (fun t9 ht9 hW9 => ⟨⟨(), rfl, trivial, by rw [ht9]; exact hP9, hD9⟩, hS.F ht9⟩) hS.2.2 dX5_findDue_60
  · replace hP : va_P D vwCl [(n 16, .inr (5, [.ref (n 17), .ref (n 18), .ref (n 19), .ref (n 20), .ref (n 21), .ref (n 22), .int (-1)])), (n 18, .inl (cI, 100, .inl (fun _ => -1)))] H := hP
    replace hD : va_D A [(n 16, .inr (5, [.ref (n 17), .ref (n 18), .ref (n 19), .ref (n 20), .ref (n 21), .ref (n 22), .int (-1)])), (n 18, .inl (cI, 100, .inl (fun _ => -1)))] := hD
    replace hl : lv_has ls 2 [(0, .ref (n 16)), (1, .int (nI k))] := hl
    refine lv_iload_n hx hb dX5_findDue_7 rfl (lv_at hl 1 rfl) ?_
    refine lv_bipush (v := nI 100) hx hb dX5_findDue_8 (by decide) ?_
    refine k_icmp_ge (tgt := 60) hx hb dX5_findDue_10 (by decide) (by omega) (by omega) (fun h9 => absurd h9 (by omega)) (fun _ => ?_)
    refine lv_aload_n hx hb dX5_findDue_13 rfl (lv_at hl 0 rfl) ?_
    refine va_get (D := D) (ci := 5) (v := .ref (n 18)) (C := RX5) (T := TX5) (N := 7) hx hb hts hin5 hown hK hP 0 rfl rfl 1 (by decide) (hts (.fieldLink RX5 19 "MeshRouting$Searches" "deadlines" "[I") (List.mem_cons_of_mem _ q_136)) (fun _ h9 => h9) rfl dX5_findDue_14 ?_
    refine lv_iload_n hx hb dX5_findDue_17 rfl (lv_at hl 1 rfl) ?_
    refine k_iald (v := (-1)) hx hb hK hP 1 0 rfl rfl (by omega) (by omega) (rfl) dX5_findDue_18 ?_
    refine lv_iconst (v := (-1)) hx hb dX5_findDue_19 (by decide) ?_
    refine lv_icmp_eq (tgt := 54) hx hb dX5_findDue_20 (by decide) (fun _ => ?_) (fun h9 => absurd (rfl) h9)
    refine lv_iinc (v := nI (k + 1)) (lv' := [(1, .int (nI (k + 1))), (0, .ref (n 16))]) hx hb dX5_findDue_54 hl (k := 1) rfl (by exact nI_add k 1) (by decide) rfl (fun ls hl => ?_)
    refine lv_goto (tgt := 7) hx hb dX5_findDue_57 (by decide) ?_
    exact ih _ _ _ hP hD hS (lv_sub hl [1, 0] rfl)

set_option maxHeartbeats 4000000 in
set_option maxRecDepth 100000 in
theorem c_X5_waitUntil (l : Launch) (D : va_G) (cI cJ cM cG : ClassId) (n : Nat → Nat) (k : Nat) (r : Nat) (t : Nat) (lr0 : Nat → Int32) (dl0 : Nat → Int32) (du : Int32) (sz : Nat) (hk : k < 100) (ht : t < 2 ^ 31) (hl0 : ∀ x, upd lr0 k x = upd (fun _ => 0) k x) (hd0 : ∀ x, upd dl0 k x = upd (fun _ => -1) k x) : Met l yX5_waitUntil (Cond.code yX5_waitUntil cX5_waitUntil 4 none :: kBig) ({ frames := 1, cells := 0, slots := 0, locals := 21 }) (va_Pc [.ref (n 16), .int (nI k), .int (nI r), .int (nI t)] (kP D [(cI, .int), (cJ, .long), (cM, .object "MeshRouting$Message"), (cG, .array .int)] [(n 16, .inr (5, [.ref (n 17), .ref (n 18), .ref (n 19), .ref (n 20), .ref (n 21), .ref (n 22), .int du])), (n 18, .inl (cI, 100, .inl dl0)), (n 19, .inl (cI, 100, .inl lr0))] sz)) (va_Qv (fun _ : Unit => True) (fun _ t9 => kB D (va_A [(n 16, .inr (5, [.ref (n 17), .ref (n 18), .ref (n 19), .ref (n 20), .ref (n 21), .ref (n 22), .int du])), (n 18, .inl (cI, 100, .inl dl0)), (n 19, .inl (cI, 100, .inl lr0))] sz) [(n 16, .inr (5, [.ref (n 17), .ref (n 18), .ref (n 19), .ref (n 20), .ref (n 21), .ref (n 22), .int (nI k)])), (n 18, .inl (cI, 100, .inl (upd (fun _ => -1) k (nI t)))), (n 19, .inl (cI, 100, .inl (upd (fun _ => 0) k (nI r))))] t9) (va_A [(n 16, .inr (5, [.ref (n 17), .ref (n 18), .ref (n 19), .ref (n 20), .ref (n 21), .ref (n 22), .int du])), (n 18, .inl (cI, 100, .inl dl0)), (n 19, .inl (cI, 100, .inl lr0))] sz)) 0 0 (va_A [(n 16, .inr (5, [.ref (n 17), .ref (n 18), .ref (n 19), .ref (n 20), .ref (n 21), .ref (n 22), .int du])), (n 18, .inl (cI, 100, .inl dl0)), (n 19, .inl (cI, 100, .inl lr0))] sz) := by
  refine Met.ofW (cc := cX5_waitUntil) (maxL := 4) (ret := none) (by decide) rfl ?_
  intro p e s m args below meth c s₁ B hml hv
  obtain ⟨rfl, hsz, hP, hK, hD0, hKN⟩ := hv
  have hx := B.exec
  have hb := B.bytes
  have hr := B.returns
  have hts := atoms_spec (ws := (Cond.code yX5_waitUntil cX5_waitUntil 4 none :: kBig)) B.pre
  have hown : s.vm.findClass RX5 = some m.cls := findClass_of_methodNamed B.named
  have hlocks := B.notSynchronized
  have hin5 : ∀ w ∈ u_ws RX5 TX5 7, w ∈ (Cond.code yX5_waitUntil cX5_waitUntil 4 none :: kBig) := fun w h => List.mem_cons_of_mem _ (inb5 w h)
  subst hsz
  have hD := hD0.self (sz := s.heap.size)
  generalize hAe : va_A [(n 16, .inr (5, [.ref (n 17), .ref (n 18), .ref (n 19), .ref (n 20), .ref (n 21), .ref (n 22), .int du])), (n 18, .inl (cI, 100, .inl dl0)), (n 19, .inl (cI, 100, .inl lr0))] s.heap.size = A at hD ⊢
  have hA : ∀ q : Nat, s.heap.size ≤ q → A q := fun q h => by rw [← hAe]; exact Or.inr h
  have hS : va_S A s.heap s.heap [] := va_S.rf
  have hl := lv_entry ([.ref (n 16), .int (nI k), .int (nI r), .int (nI t)]) (n := 4) (Nat.le_of_ble_eq_true rfl)
  rw [lg_entry_eq]
  generalize (lg_sl ([.ref (n 16), .int (nI k), .int (nI r), .int (nI t)]) ++ List.replicate (4 - (lg_sl ([.ref (n 16), .int (nI k), .int (nI r), .int (nI t)])).length) Slot.unset).toArray = ls at hl ⊢
  have hl : lv_has ls 4 [(0, .ref (n 16)), (1, .int (nI k)), (2, .int (nI r)), (3, .int (nI t))] := hl
  refine lv_aload_n hx hb dX5_waitUntil_0 rfl (lv_at hl 0 rfl) ?_
  refine va_get (D := D) (ci := 5) (v := .ref (n 19)) (C := RX5) (T := TX5) (N := 7) hx hb hts hin5 hown hK hP 0 rfl rfl 2 (by decide) (hts (.fieldLink RX5 22 "MeshRouting$Searches" "lastRanges" "[I") (List.mem_cons_of_mem _ q_137)) (fun _ h9 => h9) rfl dX5_waitUntil_1 ?_
  refine lv_iload_n hx hb dX5_waitUntil_4 rfl (lv_at hl 1 rfl) ?_
  refine lv_iload_n hx hb dX5_waitUntil_5 rfl (lv_at hl 2 rfl) ?_
  refine k_iast (f' := (upd (fun _ => 0) k (nI r))) hx hb hK hP hD hS 2 0 rfl rfl (by omega) (by omega) (hl0 _) dX5_waitUntil_6 (fun H locs hP hD hS => ?_)
  replace hP : va_P D vwCl [(n 16, .inr (5, [.ref (n 17), .ref (n 18), .ref (n 19), .ref (n 20), .ref (n 21), .ref (n 22), .int du])), (n 18, .inl (cI, 100, .inl dl0)), (n 19, .inl (cI, 100, .inl (upd (fun _ => 0) k (nI r))))] H := hP
  replace hD : va_D A [(n 16, .inr (5, [.ref (n 17), .ref (n 18), .ref (n 19), .ref (n 20), .ref (n 21), .ref (n 22), .int du])), (n 18, .inl (cI, 100, .inl dl0)), (n 19, .inl (cI, 100, .inl (upd (fun _ => 0) k (nI r))))] := hD
  refine lv_aload_n hx hb dX5_waitUntil_7 rfl (lv_at hl 0 rfl) ?_
  refine va_get (D := D) (ci := 5) (v := .ref (n 18)) (C := RX5) (T := TX5) (N := 7) hx hb hts hin5 hown hK hP 0 rfl rfl 1 (by decide) (hts (.fieldLink RX5 19 "MeshRouting$Searches" "deadlines" "[I") (List.mem_cons_of_mem _ q_136)) (fun _ h9 => h9) rfl dX5_waitUntil_8 ?_
  refine lv_iload_n hx hb dX5_waitUntil_11 rfl (lv_at hl 1 rfl) ?_
  refine lv_iload_n hx hb dX5_waitUntil_12 rfl (lv_at hl 3 rfl) ?_
  refine k_iast (f' := (upd (fun _ => -1) k (nI t))) hx hb hK hP hD hS 1 0 rfl rfl (by omega) (by omega) (hd0 _) dX5_waitUntil_13 (fun H locs hP hD hS => ?_)
  replace hP : va_P D vwCl [(n 16, .inr (5, [.ref (n 17), .ref (n 18), .ref (n 19), .ref (n 20), .ref (n 21), .ref (n 22), .int du])), (n 18, .inl (cI, 100, .inl (upd (fun _ => -1) k (nI t)))), (n 19, .inl (cI, 100, .inl (upd (fun _ => 0) k (nI r))))] H := hP
  replace hD : va_D A [(n 16, .inr (5, [.ref (n 17), .ref (n 18), .ref (n 19), .ref (n 20), .ref (n 21), .ref (n 22), .int du])), (n 18, .inl (cI, 100, .inl (upd (fun _ => -1) k (nI t)))), (n 19, .inl (cI, 100, .inl (upd (fun _ => 0) k (nI r))))] := hD
  refine lv_aload_n hx hb dX5_waitUntil_14 rfl (lv_at hl 0 rfl) ?_
  refine k_cv (wr := [(n 19, .inl (cI, 100, .inl (upd (fun _ => 0) k (nI r))))]) (w1 := [(n 16, .inr (5, [.ref (n 17), .ref (n 18), .ref (n 19), .ref (n 20), .ref (n 21), .ref (n 22), .int (nI k)])), (n 18, .inl (cI, 100, .inl (upd (fun _ => -1) k (nI t))))]) (va_runV (As := []) (rest := []) ⟨hx, hb, hml, hown, hts⟩ (c_X5_findDue1 l D cI cJ cM cG n k t (upd (fun _ => -1) k (nI t)) du H.size (hk) (pk_us) (ht) (fun j hj => pk_un hj)) (cwV 0 hts (kB_V (fun _ => List.mem_cons_of_mem _) q_264 q_265 q_266 q_133 (kB_c q_267)) rfl rfl rfl (by decide +kernel) ⟨Nat.le_of_ble_eq_true rfl, Nat.le_of_ble_eq_true rfl⟩) (k_preV (T := TX5) hP hD hK hKN [0, 1] rfl rfl (ci := 5) rfl (q0 := 0) rfl) rfl rfl hl.1 rfl (lv_room (Nat.le_of_ble_eq_true rfl)) dX5_waitUntil_15 ⟨Nat.le_of_ble_eq_true rfl, Nat.le_of_ble_eq_true rfl⟩) hP hD hS hA [0, 1] [2] rfl rfl rfl (by decide) (fun H locs hw15 hP hD hS => ?_)
  replace hP : va_P D vwCl [(n 19, .inl (cI, 100, .inl (upd (fun _ => 0) k (nI r)))), (n 16, .inr (5, [.ref (n 17), .ref (n 18), .ref (n 19), .ref (n 20), .ref (n 21), .ref (n 22), .int (nI k)])), (n 18, .inl (cI, 100, .inl (upd (fun _ => -1) k (nI t))))] H := hP
  replace hD : va_D A [(n 19, .inl (cI, 100, .inl (upd (fun _ => 0) k (nI r)))), (n 16, .inr (5, [.ref (n 17), .ref (n 18), .ref (n 19), .ref (n 20), .ref (n 21), .ref (n 22), .int (nI k)])), (n 18, .inl (cI, 100, .inl (upd (fun _ => -1) k (nI t))))] := hD
  have hP9 := hP.sub (ws' := [(n 16, .inr (5, [.ref (n 17), .ref (n 18), .ref (n 19), .ref (n 20), .ref (n 21), .ref (n 22), .int (nI k)])), (n 18, .inl (cI, 100, .inl (upd (fun _ => -1) k (nI t)))), (n 19, .inl (cI, 100, .inl (upd (fun _ => 0) k (nI r))))]) [1, 2, 0] rfl
  have hD9 := hD.sub (ws' := [(n 16, .inr (5, [.ref (n 17), .ref (n 18), .ref (n 19), .ref (n 20), .ref (n 21), .ref (n 22), .int (nI k)])), (n 18, .inl (cI, 100, .inl (upd (fun _ => -1) k (nI t)))), (n 19, .inl (cI, 100, .inl (upd (fun _ => 0) k (nI r))))]) [1, 2, 0] rfl rfl
  exact W.vret hx hb hr (fun t9 ht9 hW9 => ⟨⟨(), rfl, trivial, by rw [ht9]; exact hP9, hD9⟩, hS.F ht9⟩) hS.2.2 dX5_waitUntil_18

set_option maxHeartbeats 4000000 in
set_option maxRecDepth 100000 in
theorem c_X5_end (l : Launch) (D : va_G) (cI cJ cM cG : ClassId) (n : Nat → Nat) (k : Nat) (a : Int32) (t : Int32) (du : Int32) (sz : Nat) (hk : k < 100) : Met l yX5_end (Cond.code yX5_end cX5_end 2 none :: kBig) ({ frames := 1, cells := 0, slots := 0, locals := 21 }) (va_Pc [.ref (n 16), .int (nI k)] (kP D [(cI, .int), (cJ, .long), (cM, .object "MeshRouting$Message"), (cG, .array .int)] [(n 16, .inr (5, [.ref (n 17), .ref (n 18), .ref (n 19), .ref (n 20), .ref (n 21), .ref (n 22), .int du])), (n 17, .inl (cI, 100, .inl (upd (fun _ => 0) k a))), (n 18, .inl (cI, 100, .inl (upd (fun _ => -1) k t)))] sz)) (va_Qv (fun _ : Unit => True) (fun _ t9 => kB D (va_A [(n 16, .inr (5, [.ref (n 17), .ref (n 18), .ref (n 19), .ref (n 20), .ref (n 21), .ref (n 22), .int du])), (n 17, .inl (cI, 100, .inl (upd (fun _ => 0) k a))), (n 18, .inl (cI, 100, .inl (upd (fun _ => -1) k t)))] sz) [(n 16, .inr (5, [.ref (n 17), .ref (n 18), .ref (n 19), .ref (n 20), .ref (n 21), .ref (n 22), .int (-1)])), (n 17, .inl (cI, 100, .inl (fun _ => 0))), (n 18, .inl (cI, 100, .inl (fun _ => -1)))] t9) (va_A [(n 16, .inr (5, [.ref (n 17), .ref (n 18), .ref (n 19), .ref (n 20), .ref (n 21), .ref (n 22), .int du])), (n 17, .inl (cI, 100, .inl (upd (fun _ => 0) k a))), (n 18, .inl (cI, 100, .inl (upd (fun _ => -1) k t)))] sz)) 0 0 (va_A [(n 16, .inr (5, [.ref (n 17), .ref (n 18), .ref (n 19), .ref (n 20), .ref (n 21), .ref (n 22), .int du])), (n 17, .inl (cI, 100, .inl (upd (fun _ => 0) k a))), (n 18, .inl (cI, 100, .inl (upd (fun _ => -1) k t)))] sz) := by
  refine Met.ofW (cc := cX5_end) (maxL := 2) (ret := none) (by decide) rfl ?_
  intro p e s m args below meth c s₁ B hml hv
  obtain ⟨rfl, hsz, hP, hK, hD0, hKN⟩ := hv
  have hx := B.exec
  have hb := B.bytes
  have hr := B.returns
  have hts := atoms_spec (ws := (Cond.code yX5_end cX5_end 2 none :: kBig)) B.pre
  have hown : s.vm.findClass RX5 = some m.cls := findClass_of_methodNamed B.named
  have hlocks := B.notSynchronized
  have hin5 : ∀ w ∈ u_ws RX5 TX5 7, w ∈ (Cond.code yX5_end cX5_end 2 none :: kBig) := fun w h => List.mem_cons_of_mem _ (inb5 w h)
  subst hsz
  have hD := hD0.self (sz := s.heap.size)
  generalize hAe : va_A [(n 16, .inr (5, [.ref (n 17), .ref (n 18), .ref (n 19), .ref (n 20), .ref (n 21), .ref (n 22), .int du])), (n 17, .inl (cI, 100, .inl (upd (fun _ => 0) k a))), (n 18, .inl (cI, 100, .inl (upd (fun _ => -1) k t)))] s.heap.size = A at hD ⊢
  have hA : ∀ q : Nat, s.heap.size ≤ q → A q := fun q h => by rw [← hAe]; exact Or.inr h
  have hS : va_S A s.heap s.heap [] := va_S.rf
  have hl := lv_entry ([.ref (n 16), .int (nI k)]) (n := 2) (Nat.le_of_ble_eq_true rfl)
  rw [lg_entry_eq]
  generalize (lg_sl ([.ref (n 16), .int (nI k)]) ++ List.replicate (2 - (lg_sl ([.ref (n 16), .int (nI k)])).length) Slot.unset).toArray = ls at hl ⊢
  have hl : lv_has ls 2 [(0, .ref (n 16)), (1, .int (nI k))] := hl
  refine lv_aload_n hx hb dX5_end_0 rfl (lv_at hl 0 rfl) ?_
  refine va_get (D := D) (ci := 5) (v := .ref (n 17)) (C := RX5) (T := TX5) (N := 7) hx hb hts hin5 hown hK hP 0 rfl rfl 0 (by decide) (hts (.fieldLink RX5 9 "MeshRouting$Searches" "activities" "[I") (List.mem_cons_of_mem _ q_135)) (fun _ h9 => h9) rfl dX5_end_1 ?_
  refine lv_iload_n hx hb dX5_end_4 rfl (lv_at hl 1 rfl) ?_
  refine lv_iconst (v := nI 0) hx hb dX5_end_5 (by decide) ?_
  refine k_iast (f' := (fun _ => 0)) hx hb hK hP hD hS 1 0 rfl rfl (by omega) (by omega) ((k_uu.trans k_u0)) dX5_end_6 (fun H locs hP hD hS => ?_)
  replace hP : va_P D vwCl [(n 16, .inr (5, [.ref (n 17), .ref (n 18), .ref (n 19), .ref (n 20), .ref (n 21), .ref (n 22), .int du])), (n 17, .inl (cI, 100, .inl (fun _ => 0))), (n 18, .inl (cI, 100, .inl (upd (fun _ => -1) k t)))] H := hP
  replace hD : va_D A [(n 16, .inr (5, [.ref (n 17), .ref (n 18), .ref (n 19), .ref (n 20), .ref (n 21), .ref (n 22), .int du])), (n 17, .inl (cI, 100, .inl (fun _ => 0))), (n 18, .inl (cI, 100, .inl (upd (fun _ => -1) k t)))] := hD
  refine lv_aload_n hx hb dX5_end_7 rfl (lv_at hl 0 rfl) ?_
  refine va_get (D := D) (ci := 5) (v := .ref (n 18)) (C := RX5) (T := TX5) (N := 7) hx hb hts hin5 hown hK hP 0 rfl rfl 1 (by decide) (hts (.fieldLink RX5 19 "MeshRouting$Searches" "deadlines" "[I") (List.mem_cons_of_mem _ q_136)) (fun _ h9 => h9) rfl dX5_end_8 ?_
  refine lv_iload_n hx hb dX5_end_11 rfl (lv_at hl 1 rfl) ?_
  refine lv_iconst (v := (-1)) hx hb dX5_end_12 (by decide) ?_
  refine k_iast (f' := (fun _ => -1)) hx hb hK hP hD hS 2 0 rfl rfl (by omega) (by omega) ((k_uu.trans k_uc)) dX5_end_13 (fun H locs hP hD hS => ?_)
  replace hP : va_P D vwCl [(n 16, .inr (5, [.ref (n 17), .ref (n 18), .ref (n 19), .ref (n 20), .ref (n 21), .ref (n 22), .int du])), (n 17, .inl (cI, 100, .inl (fun _ => 0))), (n 18, .inl (cI, 100, .inl (fun _ => -1)))] H := hP
  replace hD : va_D A [(n 16, .inr (5, [.ref (n 17), .ref (n 18), .ref (n 19), .ref (n 20), .ref (n 21), .ref (n 22), .int du])), (n 17, .inl (cI, 100, .inl (fun _ => 0))), (n 18, .inl (cI, 100, .inl (fun _ => -1)))] := hD
  refine lv_aload_n hx hb dX5_end_14 rfl (lv_at hl 0 rfl) ?_
  refine k_cv (wr := [(n 17, .inl (cI, 100, .inl (fun _ => 0)))]) (w1 := [(n 16, .inr (5, [.ref (n 17), .ref (n 18), .ref (n 19), .ref (n 20), .ref (n 21), .ref (n 22), .int (-1)])), (n 18, .inl (cI, 100, .inl (fun _ => -1)))]) (va_runV (As := []) (rest := []) ⟨hx, hb, hml, hown, hts⟩ (c_X5_findDue0 l D cI cJ cM cG n du H.size) (cwV 0 hts (kB_V (fun _ => List.mem_cons_of_mem _) q_264 q_265 q_266 q_133 (kB_c q_267)) rfl rfl rfl (by decide +kernel) ⟨Nat.le_of_ble_eq_true rfl, Nat.le_of_ble_eq_true rfl⟩) (k_preV (T := TX5) hP hD hK hKN [0, 2] rfl rfl (ci := 5) rfl (q0 := 0) rfl) rfl rfl hl.1 rfl (lv_room (Nat.le_of_ble_eq_true rfl)) dX5_end_15 ⟨Nat.le_of_ble_eq_true rfl, Nat.le_of_ble_eq_true rfl⟩) hP hD hS hA [0, 2] [1] rfl rfl rfl (by decide) (fun H locs hw15 hP hD hS => ?_)
  replace hP : va_P D vwCl [(n 17, .inl (cI, 100, .inl (fun _ => 0))), (n 16, .inr (5, [.ref (n 17), .ref (n 18), .ref (n 19), .ref (n 20), .ref (n 21), .ref (n 22), .int (-1)])), (n 18, .inl (cI, 100, .inl (fun _ => -1)))] H := hP
  replace hD : va_D A [(n 17, .inl (cI, 100, .inl (fun _ => 0))), (n 16, .inr (5, [.ref (n 17), .ref (n 18), .ref (n 19), .ref (n 20), .ref (n 21), .ref (n 22), .int (-1)])), (n 18, .inl (cI, 100, .inl (fun _ => -1)))] := hD
  have hP9 := hP.sub (ws' := [(n 16, .inr (5, [.ref (n 17), .ref (n 18), .ref (n 19), .ref (n 20), .ref (n 21), .ref (n 22), .int (-1)])), (n 17, .inl (cI, 100, .inl (fun _ => 0))), (n 18, .inl (cI, 100, .inl (fun _ => -1)))]) [1, 0, 2] rfl
  have hD9 := hD.sub (ws' := [(n 16, .inr (5, [.ref (n 17), .ref (n 18), .ref (n 19), .ref (n 20), .ref (n 21), .ref (n 22), .int (-1)])), (n 17, .inl (cI, 100, .inl (fun _ => 0))), (n 18, .inl (cI, 100, .inl (fun _ => -1)))]) [1, 0, 2] rfl rfl
  exact W.vret hx hb hr (fun t9 ht9 hW9 => ⟨⟨(), rfl, trivial, by rw [ht9]; exact hP9, hD9⟩, hS.F ht9⟩) hS.2.2 dX5_end_18

set_option maxHeartbeats 4000000 in
set_option maxRecDepth 100000 in
theorem c_X5_nextDeadline1 (l : Launch) (D : va_G) (cI cJ cM cG : ClassId) (n : Nat → Nat) (c0 : Nat) (t : Nat) (f : Nat → Int32) (sz : Nat) (hc : c0 < 100) (hf : f c0 = nI t) : Met l yX5_nextDeadline (Cond.code yX5_nextDeadline cX5_nextDeadline 1 (some .int) :: kBig) ({ frames := 0, cells := 0, slots := 0, locals := 0 }) (va_Pc [.ref (n 16)] (kP D [(cI, .int), (cJ, .long), (cM, .object "MeshRouting$Message"), (cG, .array .int)] [(n 16, .inr (5, [.ref (n 17), .ref (n 18), .ref (n 19), .ref (n 20), .ref (n 21), .ref (n 22), .int (nI c0)])), (n 18, .inl (cI, 100, .inl f))] sz)) (va_Qi (fun (r : Int32) (_ : Unit) => r = nI t) (fun _ t9 => kB D (va_A [(n 16, .inr (5, [.ref (n 17), .ref (n 18), .ref (n 19), .ref (n 20), .ref (n 21), .ref (n 22), .int (nI c0)])), (n 18, .inl (cI, 100, .inl f))] sz) [(n 16, .inr (5, [.ref (n 17), .ref (n 18), .ref (n 19), .ref (n 20), .ref (n 21), .ref (n 22), .int (nI c0)])), (n 18, .inl (cI, 100, .inl f))] t9) (va_A [(n 16, .inr (5, [.ref (n 17), .ref (n 18), .ref (n 19), .ref (n 20), .ref (n 21), .ref (n 22), .int (nI c0)])), (n 18, .inl (cI, 100, .inl f))] sz)) 0 0 (va_A [(n 16, .inr (5, [.ref (n 17), .ref (n 18), .ref (n 19), .ref (n 20), .ref (n 21), .ref (n 22), .int (nI c0)])), (n 18, .inl (cI, 100, .inl f))] sz) := by
  refine Met.ofW (cc := cX5_nextDeadline) (maxL := 1) (ret := (some .int)) (by decide) rfl ?_
  intro p e s m args below meth c s₁ B hml hv
  obtain ⟨rfl, hsz, hP, hK, hD0, hKN⟩ := hv
  have hx := B.exec
  have hb := B.bytes
  have hr := B.returns
  have hts := atoms_spec (ws := (Cond.code yX5_nextDeadline cX5_nextDeadline 1 (some .int) :: kBig)) B.pre
  have hown : s.vm.findClass RX5 = some m.cls := findClass_of_methodNamed B.named
  have hlocks := B.notSynchronized
  have hin5 : ∀ w ∈ u_ws RX5 TX5 7, w ∈ (Cond.code yX5_nextDeadline cX5_nextDeadline 1 (some .int) :: kBig) := fun w h => List.mem_cons_of_mem _ (inb5 w h)
  subst hsz
  have hD := hD0.self (sz := s.heap.size)
  generalize hAe : va_A [(n 16, .inr (5, [.ref (n 17), .ref (n 18), .ref (n 19), .ref (n 20), .ref (n 21), .ref (n 22), .int (nI c0)])), (n 18, .inl (cI, 100, .inl f))] s.heap.size = A at hD ⊢
  have hA : ∀ q : Nat, s.heap.size ≤ q → A q := fun q h => by rw [← hAe]; exact Or.inr h
  have hS : va_S A s.heap s.heap [] := va_S.rf
  have hl := lv_entry ([.ref (n 16)]) (n := 1) (Nat.le_of_ble_eq_true rfl)
  rw [lg_entry_eq]
  generalize (lg_sl ([.ref (n 16)]) ++ List.replicate (1 - (lg_sl ([.ref (n 16)])).length) Slot.unset).toArray = ls at hl ⊢
  have hl : lv_has ls 1 [(0, .ref (n 16))] := hl
  refine lv_aload_n hx hb dX5_nextDeadline_0 rfl (lv_at hl 0 rfl) ?_
  refine va_get (D := D) (ci := 5) (v := .int (nI c0)) (C := RX5) (T := TX5) (N := 7) hx hb hts hin5 hown hK hP 0 rfl rfl 6 (by decide) (hts (.fieldLink RX5 34 "MeshRouting$Searches" "due" "I") (List.mem_cons_of_mem _ q_141)) (fun _ h9 => h9) rfl dX5_nextDeadline_1 ?_
  refine lv_iconst (v := (-1)) hx hb dX5_nextDeadline_4 (by decide) ?_
  refine lv_icmp_ne (tgt := 12) hx hb dX5_nextDeadline_5 (by decide) (fun _ => ?_) (fun h9 => absurd h9 (k_nm1 (by omega)))
  refine lv_aload_n hx hb dX5_nextDeadline_12 rfl (lv_at hl 0 rfl) ?_
  refine va_get (D := D) (ci := 5) (v := .ref (n 18)) (C := RX5) (T := TX5) (N := 7) hx hb hts hin5 hown hK hP 0 rfl rfl 1 (by decide) (hts (.fieldLink RX5 19 "MeshRouting$Searches" "deadlines" "[I") (List.mem_cons_of_mem _ q_136)) (fun _ h9 => h9) rfl dX5_nextDeadline_13 ?_
  refine lv_aload_n hx hb dX5_nextDeadline_16 rfl (lv_at hl 0 rfl) ?_
  refine va_get (D := D) (ci := 5) (v := .int (nI c0)) (C := RX5) (T := TX5) (N := 7) hx hb hts hin5 hown hK hP 0 rfl rfl 6 (by decide) (hts (.fieldLink RX5 34 "MeshRouting$Searches" "due" "I") (List.mem_cons_of_mem _ q_141)) (fun _ h9 => h9) rfl dX5_nextDeadline_17 ?_
  refine k_iald (v := nI t) hx hb hK hP 1 0 rfl rfl (by omega) (by omega) (hf) dX5_nextDeadline_20 ?_
  have hP9 := hP.sub (ws' := [(n 16, .inr (5, [.ref (n 17), .ref (n 18), .ref (n 19), .ref (n 20), .ref (n 21), .ref (n 22), .int (nI c0)])), (n 18, .inl (cI, 100, .inl f))]) [0, 1] rfl
  have hD9 := hD.sub (ws' := [(n 16, .inr (5, [.ref (n 17), .ref (n 18), .ref (n 19), .ref (n 20), .ref (n 21), .ref (n 22), .int (nI c0)])), (n 18, .inl (cI, 100, .inl f))]) [0, 1] rfl rfl
  exact W.iret (v := nI t) hx hb hr (fun t9 ht9 hW9 => ⟨⟨nI t, (), rfl, rfl, by rw [ht9]; exact hP9, hD9⟩, hS.F ht9⟩) hS.2.2 dX5_nextDeadline_21

set_option maxHeartbeats 4000000 in
set_option maxRecDepth 100000 in
theorem c_X5_nextDeadline0 (l : Launch) (D : va_G) (cI cJ cM cG : ClassId) (n : Nat → Nat) (sz : Nat)  : Met l yX5_nextDeadline (Cond.code yX5_nextDeadline cX5_nextDeadline 1 (some .int) :: kBig) ({ frames := 0, cells := 0, slots := 0, locals := 0 }) (va_Pc [.ref (n 16)] (kP D [(cI, .int), (cJ, .long), (cM, .object "MeshRouting$Message"), (cG, .array .int)] [(n 16, .inr (5, [.ref (n 17), .ref (n 18), .ref (n 19), .ref (n 20), .ref (n 21), .ref (n 22), .int (-1)]))] sz)) (va_Qi (fun (r : Int32) (_ : Unit) => r = (-1)) (fun _ t9 => kB D (va_A [(n 16, .inr (5, [.ref (n 17), .ref (n 18), .ref (n 19), .ref (n 20), .ref (n 21), .ref (n 22), .int (-1)]))] sz) [(n 16, .inr (5, [.ref (n 17), .ref (n 18), .ref (n 19), .ref (n 20), .ref (n 21), .ref (n 22), .int (-1)]))] t9) (va_A [(n 16, .inr (5, [.ref (n 17), .ref (n 18), .ref (n 19), .ref (n 20), .ref (n 21), .ref (n 22), .int (-1)]))] sz)) 0 0 (va_A [(n 16, .inr (5, [.ref (n 17), .ref (n 18), .ref (n 19), .ref (n 20), .ref (n 21), .ref (n 22), .int (-1)]))] sz) := by
  refine Met.ofW (cc := cX5_nextDeadline) (maxL := 1) (ret := (some .int)) (by decide) rfl ?_
  intro p e s m args below meth c s₁ B hml hv
  obtain ⟨rfl, hsz, hP, hK, hD0, hKN⟩ := hv
  have hx := B.exec
  have hb := B.bytes
  have hr := B.returns
  have hts := atoms_spec (ws := (Cond.code yX5_nextDeadline cX5_nextDeadline 1 (some .int) :: kBig)) B.pre
  have hown : s.vm.findClass RX5 = some m.cls := findClass_of_methodNamed B.named
  have hlocks := B.notSynchronized
  have hin5 : ∀ w ∈ u_ws RX5 TX5 7, w ∈ (Cond.code yX5_nextDeadline cX5_nextDeadline 1 (some .int) :: kBig) := fun w h => List.mem_cons_of_mem _ (inb5 w h)
  subst hsz
  have hD := hD0.self (sz := s.heap.size)
  generalize hAe : va_A [(n 16, .inr (5, [.ref (n 17), .ref (n 18), .ref (n 19), .ref (n 20), .ref (n 21), .ref (n 22), .int (-1)]))] s.heap.size = A at hD ⊢
  have hA : ∀ q : Nat, s.heap.size ≤ q → A q := fun q h => by rw [← hAe]; exact Or.inr h
  have hS : va_S A s.heap s.heap [] := va_S.rf
  have hl := lv_entry ([.ref (n 16)]) (n := 1) (Nat.le_of_ble_eq_true rfl)
  rw [lg_entry_eq]
  generalize (lg_sl ([.ref (n 16)]) ++ List.replicate (1 - (lg_sl ([.ref (n 16)])).length) Slot.unset).toArray = ls at hl ⊢
  have hl : lv_has ls 1 [(0, .ref (n 16))] := hl
  refine lv_aload_n hx hb dX5_nextDeadline_0 rfl (lv_at hl 0 rfl) ?_
  refine va_get (D := D) (ci := 5) (v := .int (-1)) (C := RX5) (T := TX5) (N := 7) hx hb hts hin5 hown hK hP 0 rfl rfl 6 (by decide) (hts (.fieldLink RX5 34 "MeshRouting$Searches" "due" "I") (List.mem_cons_of_mem _ q_141)) (fun _ h9 => h9) rfl dX5_nextDeadline_1 ?_
  refine lv_iconst (v := (-1)) hx hb dX5_nextDeadline_4 (by decide) ?_
  refine lv_icmp_ne (tgt := 12) hx hb dX5_nextDeadline_5 (by decide) (fun h9 => absurd (rfl) h9) (fun _ => ?_)
  refine lv_iconst (v := (-1)) hx hb dX5_nextDeadline_8 (by decide) ?_
  refine lv_goto (tgt := 21) hx hb dX5_nextDeadline_9 (by decide) ?_
  have hP9 := hP.sub (ws' := [(n 16, .inr (5, [.ref (n 17), .ref (n 18), .ref (n 19), .ref (n 20), .ref (n 21), .ref (n 22), .int (-1)]))]) [0] rfl
  have hD9 := hD.sub (ws' := [(n 16, .inr (5, [.ref (n 17), .ref (n 18), .ref (n 19), .ref (n 20), .ref (n 21), .ref (n 22), .int (-1)]))]) [0] rfl rfl
  exact W.iret (v := (-1)) hx hb hr (fun t9 ht9 hW9 => ⟨⟨(-1), (), rfl, rfl, by rw [ht9]; exact hP9, hD9⟩, hS.F ht9⟩) hS.2.2 dX5_nextDeadline_21

set_option maxHeartbeats 4000000 in
set_option maxRecDepth 100000 in
theorem c_X5_isFull (l : Launch) (D : va_G) (cI cJ cM cG : ClassId) (n : Nat → Nat) (k : Nat) (v : Nat) (f : Nat → Int32) (du : Int32) (sz : Nat) (hk : k < 100) (hf : f k = nI v) (hv : v < 4) : Met l yX5_isFull (Cond.code yX5_isFull cX5_isFull 2 (some .boolean) :: kBig) ({ frames := 0, cells := 0, slots := 0, locals := 0 }) (va_Pc [.ref (n 16), .int (nI k)] (kP D [(cI, .int), (cJ, .long), (cM, .object "MeshRouting$Message"), (cG, .array .int)] [(n 16, .inr (5, [.ref (n 17), .ref (n 18), .ref (n 19), .ref (n 20), .ref (n 21), .ref (n 22), .int du])), (n 21, .inl (cI, 100, .inl f))] sz)) (va_Qi (fun (r : Int32) (_ : Unit) => r = nI 0) (fun _ t9 => kB D (va_A [(n 16, .inr (5, [.ref (n 17), .ref (n 18), .ref (n 19), .ref (n 20), .ref (n 21), .ref (n 22), .int du])), (n 21, .inl (cI, 100, .inl f))] sz) [(n 16, .inr (5, [.ref (n 17), .ref (n 18), .ref (n 19), .ref (n 20), .ref (n 21), .ref (n 22), .int du])), (n 21, .inl (cI, 100, .inl f))] t9) (va_A [(n 16, .inr (5, [.ref (n 17), .ref (n 18), .ref (n 19), .ref (n 20), .ref (n 21), .ref (n 22), .int du])), (n 21, .inl (cI, 100, .inl f))] sz)) 0 0 (va_A [(n 16, .inr (5, [.ref (n 17), .ref (n 18), .ref (n 19), .ref (n 20), .ref (n 21), .ref (n 22), .int du])), (n 21, .inl (cI, 100, .inl f))] sz) := by
  refine Met.ofW (cc := cX5_isFull) (maxL := 2) (ret := (some .boolean)) (by decide) rfl ?_
  intro p e s m args below meth c s₁ B hml hv
  obtain ⟨rfl, hsz, hP, hK, hD0, hKN⟩ := hv
  have hx := B.exec
  have hb := B.bytes
  have hr := B.returns
  have hts := atoms_spec (ws := (Cond.code yX5_isFull cX5_isFull 2 (some .boolean) :: kBig)) B.pre
  have hown : s.vm.findClass RX5 = some m.cls := findClass_of_methodNamed B.named
  have hlocks := B.notSynchronized
  have hin5 : ∀ w ∈ u_ws RX5 TX5 7, w ∈ (Cond.code yX5_isFull cX5_isFull 2 (some .boolean) :: kBig) := fun w h => List.mem_cons_of_mem _ (inb5 w h)
  subst hsz
  have hD := hD0.self (sz := s.heap.size)
  generalize hAe : va_A [(n 16, .inr (5, [.ref (n 17), .ref (n 18), .ref (n 19), .ref (n 20), .ref (n 21), .ref (n 22), .int du])), (n 21, .inl (cI, 100, .inl f))] s.heap.size = A at hD ⊢
  have hA : ∀ q : Nat, s.heap.size ≤ q → A q := fun q h => by rw [← hAe]; exact Or.inr h
  have hS : va_S A s.heap s.heap [] := va_S.rf
  have hl := lv_entry ([.ref (n 16), .int (nI k)]) (n := 2) (Nat.le_of_ble_eq_true rfl)
  rw [lg_entry_eq]
  generalize (lg_sl ([.ref (n 16), .int (nI k)]) ++ List.replicate (2 - (lg_sl ([.ref (n 16), .int (nI k)])).length) Slot.unset).toArray = ls at hl ⊢
  have hl : lv_has ls 2 [(0, .ref (n 16)), (1, .int (nI k))] := hl
  refine lv_aload_n hx hb dX5_isFull_0 rfl (lv_at hl 0 rfl) ?_
  refine va_get (D := D) (ci := 5) (v := .ref (n 21)) (C := RX5) (T := TX5) (N := 7) hx hb hts hin5 hown hK hP 0 rfl rfl 4 (by decide) (hts (.fieldLink RX5 28 "MeshRouting$Searches" "waiting" "[I") (List.mem_cons_of_mem _ q_139)) (fun _ h9 => h9) rfl dX5_isFull_1 ?_
  refine lv_iload_n hx hb dX5_isFull_4 rfl (lv_at hl 1 rfl) ?_
  refine k_iald (v := nI v) hx hb hK hP 1 0 rfl rfl (by omega) (by omega) (hf) dX5_isFull_5 ?_
  refine lv_iconst (v := nI 4) hx hb dX5_isFull_6 (by decide) ?_
  refine k_icmp_lt (tgt := 14) hx hb dX5_isFull_7 (by decide) (by omega) (by omega) (fun _ => ?_) (fun h9 => absurd h9 (by omega))
  refine lv_iconst (v := nI 0) hx hb dX5_isFull_14 (by decide) ?_
  have hP9 := hP.sub (ws' := [(n 16, .inr (5, [.ref (n 17), .ref (n 18), .ref (n 19), .ref (n 20), .ref (n 21), .ref (n 22), .int du])), (n 21, .inl (cI, 100, .inl f))]) [0, 1] rfl
  have hD9 := hD.sub (ws' := [(n 16, .inr (5, [.ref (n 17), .ref (n 18), .ref (n 19), .ref (n 20), .ref (n 21), .ref (n 22), .int du])), (n 21, .inl (cI, 100, .inl f))]) [0, 1] rfl rfl
  exact W.zret (v := nI 0) hx hb hr (by decide) (fun t9 ht9 hW9 => ⟨⟨nI 0, (), rfl, rfl, by rw [ht9]; exact hP9, hD9⟩, hS.F ht9⟩) hS.2.2 dX5_isFull_15

set_option maxHeartbeats 4000000 in
set_option maxRecDepth 100000 in
theorem c_X5_hold (l : Launch) (D : va_G) (cI cJ cM cG : ClassId) (n : Nat → Nat) (k : Nat) (du : Int32) (sz : Nat) (hk : k < 100) : Met l yX5_hold (Cond.code yX5_hold cX5_hold 3 none :: kBig) ({ frames := 1, cells := 0, slots := 0, locals := 21 }) (va_Pc [.ref (n 16), .int (nI k), .int (nI 0)] (kP D [(cI, .int), (cJ, .long), (cM, .object "MeshRouting$Message"), (cG, .array .int)] [(n 16, .inr (5, [.ref (n 17), .ref (n 18), .ref (n 19), .ref (n 20), .ref (n 21), .ref (n 22), .int du])), (n 21, .inl (cI, 100, .inl (fun _ => 0))), (n 22, .inl (cI, 400, .inl (fun _ => 0)))] sz)) (va_Qv (fun _ : Unit => True) (fun _ t9 => kB D (va_A [(n 16, .inr (5, [.ref (n 17), .ref (n 18), .ref (n 19), .ref (n 20), .ref (n 21), .ref (n 22), .int du])), (n 21, .inl (cI, 100, .inl (fun _ => 0))), (n 22, .inl (cI, 400, .inl (fun _ => 0)))] sz) [(n 16, .inr (5, [.ref (n 17), .ref (n 18), .ref (n 19), .ref (n 20), .ref (n 21), .ref (n 22), .int du])), (n 21, .inl (cI, 100, .inl (upd (fun _ => 0) k (nI 1)))), (n 22, .inl (cI, 400, .inl (fun _ => 0)))] t9) (va_A [(n 16, .inr (5, [.ref (n 17), .ref (n 18), .ref (n 19), .ref (n 20), .ref (n 21), .ref (n 22), .int du])), (n 21, .inl (cI, 100, .inl (fun _ => 0))), (n 22, .inl (cI, 400, .inl (fun _ => 0)))] sz)) 0 0 (va_A [(n 16, .inr (5, [.ref (n 17), .ref (n 18), .ref (n 19), .ref (n 20), .ref (n 21), .ref (n 22), .int du])), (n 21, .inl (cI, 100, .inl (fun _ => 0))), (n 22, .inl (cI, 400, .inl (fun _ => 0)))] sz) := by
  refine Met.ofW (cc := cX5_hold) (maxL := 3) (ret := none) (by decide) rfl ?_
  intro p e s m args below meth c s₁ B hml hv
  obtain ⟨rfl, hsz, hP, hK, hD0, hKN⟩ := hv
  have hx := B.exec
  have hb := B.bytes
  have hr := B.returns
  have hts := atoms_spec (ws := (Cond.code yX5_hold cX5_hold 3 none :: kBig)) B.pre
  have hown : s.vm.findClass RX5 = some m.cls := findClass_of_methodNamed B.named
  have hlocks := B.notSynchronized
  have hin5 : ∀ w ∈ u_ws RX5 TX5 7, w ∈ (Cond.code yX5_hold cX5_hold 3 none :: kBig) := fun w h => List.mem_cons_of_mem _ (inb5 w h)
  subst hsz
  have hD := hD0.self (sz := s.heap.size)
  generalize hAe : va_A [(n 16, .inr (5, [.ref (n 17), .ref (n 18), .ref (n 19), .ref (n 20), .ref (n 21), .ref (n 22), .int du])), (n 21, .inl (cI, 100, .inl (fun _ => 0))), (n 22, .inl (cI, 400, .inl (fun _ => 0)))] s.heap.size = A at hD ⊢
  have hA : ∀ q : Nat, s.heap.size ≤ q → A q := fun q h => by rw [← hAe]; exact Or.inr h
  have hS : va_S A s.heap s.heap [] := va_S.rf
  have hl := lv_entry ([.ref (n 16), .int (nI k), .int (nI 0)]) (n := 3) (Nat.le_of_ble_eq_true rfl)
  rw [lg_entry_eq]
  generalize (lg_sl ([.ref (n 16), .int (nI k), .int (nI 0)]) ++ List.replicate (3 - (lg_sl ([.ref (n 16), .int (nI k), .int (nI 0)])).length) Slot.unset).toArray = ls at hl ⊢
  have hl : lv_has ls 3 [(0, .ref (n 16)), (1, .int (nI k)), (2, .int (nI 0))] := hl
  refine lv_aload_n hx hb dX5_hold_0 rfl (lv_at hl 0 rfl) ?_
  refine lv_iload_n hx hb dX5_hold_1 rfl (lv_at hl 1 rfl) ?_
  refine k_ci (wr := [(n 22, .inl (cI, 400, .inl (fun _ => 0)))]) (w1 := [(n 16, .inr (5, [.ref (n 17), .ref (n 18), .ref (n 19), .ref (n 20), .ref (n 21), .ref (n 22), .int du])), (n 21, .inl (cI, 100, .inl (fun _ => 0)))]) (va_runV (As := [.int (nI k)]) (rest := []) ⟨hx, hb, hml, hown, hts⟩ (c_X5_isFull l D cI cJ cM cG n k 0 (fun _ => 0) du s.heap.size (hk) (nI_0.symm) (by omega)) (cwV 1 hts (kB_V (fun _ => List.mem_cons_of_mem _) q_406 q_399 q_400 q_133 (kB_c q_401)) rfl rfl rfl (by decide +kernel) ⟨Nat.le_of_ble_eq_true rfl, Nat.le_of_ble_eq_true rfl⟩) (k_preV (T := TX5) hP hD hK hKN [0, 1] rfl rfl (ci := 5) rfl (q0 := 0) rfl) rfl rfl hl.1 rfl (lv_room (Nat.le_of_ble_eq_true rfl)) dX5_hold_2 ⟨Nat.le_of_ble_eq_true rfl, Nat.le_of_ble_eq_true rfl⟩) hP hD hS hA [0, 1] [2] rfl rfl rfl (by decide) (fun r2 H locs hw2 hP hD hS => ?_)
  replace hP : va_P D vwCl [(n 22, .inl (cI, 400, .inl (fun _ => 0))), (n 16, .inr (5, [.ref (n 17), .ref (n 18), .ref (n 19), .ref (n 20), .ref (n 21), .ref (n 22), .int du])), (n 21, .inl (cI, 100, .inl (fun _ => 0)))] H := hP
  replace hD : va_D A [(n 22, .inl (cI, 400, .inl (fun _ => 0))), (n 16, .inr (5, [.ref (n 17), .ref (n 18), .ref (n 19), .ref (n 20), .ref (n 21), .ref (n 22), .int du])), (n 21, .inl (cI, 100, .inl (fun _ => 0)))] := hD
  replace hw2 : r2 = nI 0 := hw2
  refine k_ti hw2 ?_
  refine k_if_ne (tgt := 34) hx hb dX5_hold_5 (by decide) (by omega) (fun h9 => absurd h9 (by omega)) (fun _ => ?_)
  refine lv_aload_n hx hb dX5_hold_8 rfl (lv_at hl 0 rfl) ?_
  refine va_get (D := D) (ci := 5) (v := .ref (n 22)) (C := RX5) (T := TX5) (N := 7) hx hb hts hin5 hown hK hP 1 rfl rfl 5 (by decide) (hts (.fieldLink RX5 31 "MeshRouting$Searches" "buffers" "[I") (List.mem_cons_of_mem _ q_140)) (fun _ h9 => h9) rfl dX5_hold_9 ?_
  refine lv_iload_n hx hb dX5_hold_12 rfl (lv_at hl 1 rfl) ?_
  refine lv_iconst (v := nI 4) hx hb dX5_hold_13 (by decide) ?_
  refine lv_imul hx hb dX5_hold_14 ?_
  refine k_ti (show ((nI k) * (nI 4)) = (nI (k * 4)) from pk_mul _ _) ?_
  refine lv_aload_n hx hb dX5_hold_15 rfl (lv_at hl 0 rfl) ?_
  refine va_get (D := D) (ci := 5) (v := .ref (n 21)) (C := RX5) (T := TX5) (N := 7) hx hb hts hin5 hown hK hP 1 rfl rfl 4 (by decide) (hts (.fieldLink RX5 28 "MeshRouting$Searches" "waiting" "[I") (List.mem_cons_of_mem _ q_139)) (fun _ h9 => h9) rfl dX5_hold_16 ?_
  refine lv_iload_n hx hb dX5_hold_19 rfl (lv_at hl 1 rfl) ?_
  refine k_iald (v := nI 0) hx hb hK hP 2 0 rfl rfl (by omega) (by omega) (nI_0.symm) dX5_hold_20 ?_
  refine lv_iadd hx hb dX5_hold_21 ?_
  refine k_ti (show ((nI (k * 4)) + (nI 0)) = (nI (k * 4 + 0)) from nI_add _ _) ?_
  refine lv_iload_n hx hb dX5_hold_22 rfl (lv_at hl 2 rfl) ?_
  refine k_iast (f' := (fun _ => 0)) hx hb hK hP hD hS 0 0 rfl rfl (by omega) (by omega) (k_u0) dX5_hold_23 (fun H locs hP hD hS => ?_)
  replace hP : va_P D vwCl [(n 22, .inl (cI, 400, .inl (fun _ => 0))), (n 16, .inr (5, [.ref (n 17), .ref (n 18), .ref (n 19), .ref (n 20), .ref (n 21), .ref (n 22), .int du])), (n 21, .inl (cI, 100, .inl (fun _ => 0)))] H := hP
  replace hD : va_D A [(n 22, .inl (cI, 400, .inl (fun _ => 0))), (n 16, .inr (5, [.ref (n 17), .ref (n 18), .ref (n 19), .ref (n 20), .ref (n 21), .ref (n 22), .int du])), (n 21, .inl (cI, 100, .inl (fun _ => 0)))] := hD
  refine lv_aload_n hx hb dX5_hold_24 rfl (lv_at hl 0 rfl) ?_
  refine va_get (D := D) (ci := 5) (v := .ref (n 21)) (C := RX5) (T := TX5) (N := 7) hx hb hts hin5 hown hK hP 1 rfl rfl 4 (by decide) (hts (.fieldLink RX5 28 "MeshRouting$Searches" "waiting" "[I") (List.mem_cons_of_mem _ q_139)) (fun _ h9 => h9) rfl dX5_hold_25 ?_
  refine lv_iload_n hx hb dX5_hold_28 rfl (lv_at hl 1 rfl) ?_
  refine lv_dup2_11 hx hb dX5_hold_29 rfl rfl ?_
  refine k_iald (v := nI 0) hx hb hK hP 2 0 rfl rfl (by omega) (by omega) (nI_0.symm) dX5_hold_30 ?_
  refine lv_iconst (v := nI 1) hx hb dX5_hold_31 (by decide) ?_
  refine lv_iadd hx hb dX5_hold_32 ?_
  refine k_ti (show ((nI 0) + (nI 1)) = (nI 1) from by decide) ?_
  refine k_iast (f' := (upd (fun _ => 0) k (nI 1))) hx hb hK hP hD hS 2 0 rfl rfl (by omega) (by omega) (rfl) dX5_hold_33 (fun H locs hP hD hS => ?_)
  replace hP : va_P D vwCl [(n 22, .inl (cI, 400, .inl (fun _ => 0))), (n 16, .inr (5, [.ref (n 17), .ref (n 18), .ref (n 19), .ref (n 20), .ref (n 21), .ref (n 22), .int du])), (n 21, .inl (cI, 100, .inl (upd (fun _ => 0) k (nI 1))))] H := hP
  replace hD : va_D A [(n 22, .inl (cI, 400, .inl (fun _ => 0))), (n 16, .inr (5, [.ref (n 17), .ref (n 18), .ref (n 19), .ref (n 20), .ref (n 21), .ref (n 22), .int du])), (n 21, .inl (cI, 100, .inl (upd (fun _ => 0) k (nI 1))))] := hD
  have hP9 := hP.sub (ws' := [(n 16, .inr (5, [.ref (n 17), .ref (n 18), .ref (n 19), .ref (n 20), .ref (n 21), .ref (n 22), .int du])), (n 21, .inl (cI, 100, .inl (upd (fun _ => 0) k (nI 1)))), (n 22, .inl (cI, 400, .inl (fun _ => 0)))]) [1, 2, 0] rfl
  have hD9 := hD.sub (ws' := [(n 16, .inr (5, [.ref (n 17), .ref (n 18), .ref (n 19), .ref (n 20), .ref (n 21), .ref (n 22), .int du])), (n 21, .inl (cI, 100, .inl (upd (fun _ => 0) k (nI 1)))), (n 22, .inl (cI, 400, .inl (fun _ => 0)))]) [1, 2, 0] rfl rfl
  exact W.vret hx hb hr (fun t9 ht9 hW9 => ⟨⟨(), rfl, trivial, by rw [ht9]; exact hP9, hD9⟩, hS.F ht9⟩) hS.2.2 dX5_hold_34

set_option maxHeartbeats 4000000 in
set_option maxRecDepth 100000 in
theorem c_X5_takeOldest (l : Launch) (D : va_G) (cI cJ cM cG : ClassId) (n : Nat → Nat) (k : Nat) (du : Int32) (sz : Nat) (hk : k < 100) : Met l yX5_takeOldest (Cond.code yX5_takeOldest cX5_takeOldest 4 (some .int) :: kBig) ({ frames := 1, cells := 0, slots := 0, locals := 60 }) (va_Pc [.ref (n 16), .int (nI k)] (kP D [(cI, .int), (cJ, .long), (cM, .object "MeshRouting$Message"), (cG, .array .int)] [(n 16, .inr (5, [.ref (n 17), .ref (n 18), .ref (n 19), .ref (n 20), .ref (n 21), .ref (n 22), .int du])), (n 21, .inl (cI, 100, .inl (upd (fun _ => 0) k (nI 1)))), (n 22, .inl (cI, 400, .inl (fun _ => 0)))] sz)) (va_Qi (fun (r : Int32) (_ : Unit) => r = nI 0) (fun _ t9 => kB D (va_A [(n 16, .inr (5, [.ref (n 17), .ref (n 18), .ref (n 19), .ref (n 20), .ref (n 21), .ref (n 22), .int du])), (n 21, .inl (cI, 100, .inl (upd (fun _ => 0) k (nI 1)))), (n 22, .inl (cI, 400, .inl (fun _ => 0)))] sz) [(n 16, .inr (5, [.ref (n 17), .ref (n 18), .ref (n 19), .ref (n 20), .ref (n 21), .ref (n 22), .int du])), (n 21, .inl (cI, 100, .inl (fun _ => 0))), (n 22, .inl (cI, 400, .inl (fun _ => 0)))] t9) (va_A [(n 16, .inr (5, [.ref (n 17), .ref (n 18), .ref (n 19), .ref (n 20), .ref (n 21), .ref (n 22), .int du])), (n 21, .inl (cI, 100, .inl (upd (fun _ => 0) k (nI 1)))), (n 22, .inl (cI, 400, .inl (fun _ => 0)))] sz)) 0 0 (va_A [(n 16, .inr (5, [.ref (n 17), .ref (n 18), .ref (n 19), .ref (n 20), .ref (n 21), .ref (n 22), .int du])), (n 21, .inl (cI, 100, .inl (upd (fun _ => 0) k (nI 1)))), (n 22, .inl (cI, 400, .inl (fun _ => 0)))] sz) := by
  refine Met.ofW (cc := cX5_takeOldest) (maxL := 4) (ret := (some .int)) (by decide) rfl ?_
  intro p e s m args below meth c s₁ B hml hv
  obtain ⟨rfl, hsz, hP, hK, hD0, hKN⟩ := hv
  have hx := B.exec
  have hb := B.bytes
  have hr := B.returns
  have hts := atoms_spec (ws := (Cond.code yX5_takeOldest cX5_takeOldest 4 (some .int) :: kBig)) B.pre
  have hown : s.vm.findClass RX5 = some m.cls := findClass_of_methodNamed B.named
  have hlocks := B.notSynchronized
  have hin5 : ∀ w ∈ u_ws RX5 TX5 7, w ∈ (Cond.code yX5_takeOldest cX5_takeOldest 4 (some .int) :: kBig) := fun w h => List.mem_cons_of_mem _ (inb5 w h)
  subst hsz
  have hD := hD0.self (sz := s.heap.size)
  generalize hAe : va_A [(n 16, .inr (5, [.ref (n 17), .ref (n 18), .ref (n 19), .ref (n 20), .ref (n 21), .ref (n 22), .int du])), (n 21, .inl (cI, 100, .inl (upd (fun _ => 0) k (nI 1)))), (n 22, .inl (cI, 400, .inl (fun _ => 0)))] s.heap.size = A at hD ⊢
  have hA : ∀ q : Nat, s.heap.size ≤ q → A q := fun q h => by rw [← hAe]; exact Or.inr h
  have hS : va_S A s.heap s.heap [] := va_S.rf
  have hl := lv_entry ([.ref (n 16), .int (nI k)]) (n := 4) (Nat.le_of_ble_eq_true rfl)
  rw [lg_entry_eq]
  generalize (lg_sl ([.ref (n 16), .int (nI k)]) ++ List.replicate (4 - (lg_sl ([.ref (n 16), .int (nI k)])).length) Slot.unset).toArray = ls at hl ⊢
  have hl : lv_has ls 4 [(0, .ref (n 16)), (1, .int (nI k))] := hl
  refine lv_aload_n hx hb dX5_takeOldest_0 rfl (lv_at hl 0 rfl) ?_
  refine va_get (D := D) (ci := 5) (v := .ref (n 21)) (C := RX5) (T := TX5) (N := 7) hx hb hts hin5 hown hK hP 0 rfl rfl 4 (by decide) (hts (.fieldLink RX5 28 "MeshRouting$Searches" "waiting" "[I") (List.mem_cons_of_mem _ q_139)) (fun _ h9 => h9) rfl dX5_takeOldest_1 ?_
  refine lv_iload_n hx hb dX5_takeOldest_4 rfl (lv_at hl 1 rfl) ?_
  refine k_iald (v := nI 1) hx hb hK hP 1 0 rfl rfl (by omega) (by omega) (pk_us) dX5_takeOldest_5 ?_
  refine k_if_ne (tgt := 11) hx hb dX5_takeOldest_6 (by decide) (by omega) (fun _ => ?_) (fun h9 => absurd h9 (by omega))
  refine lv_iload_n hx hb dX5_takeOldest_11 rfl (lv_at hl 1 rfl) ?_
  refine lv_iconst (v := nI 4) hx hb dX5_takeOldest_12 (by decide) ?_
  refine lv_imul hx hb dX5_takeOldest_13 ?_
  refine k_ti (show ((nI k) * (nI 4)) = (nI (k * 4)) from pk_mul _ _) ?_
  refine lv_istore_n (lv' := [(2, .int (nI (k * 4))), (0, .ref (n 16)), (1, .int (nI k))]) hx hb dX5_takeOldest_14 rfl hl (by decide) rfl (fun ls hl => ?_)
  refine lv_aload_n hx hb dX5_takeOldest_15 rfl (lv_at hl 1 rfl) ?_
  refine va_get (D := D) (ci := 5) (v := .ref (n 22)) (C := RX5) (T := TX5) (N := 7) hx hb hts hin5 hown hK hP 0 rfl rfl 5 (by decide) (hts (.fieldLink RX5 31 "MeshRouting$Searches" "buffers" "[I") (List.mem_cons_of_mem _ q_140)) (fun _ h9 => h9) rfl dX5_takeOldest_16 ?_
  refine lv_iload_n hx hb dX5_takeOldest_19 rfl (lv_at hl 0 rfl) ?_
  refine k_iald (v := nI 0) hx hb hK hP 2 0 rfl rfl (by omega) (by omega) (nI_0.symm) dX5_takeOldest_20 ?_
  refine lv_istore_n (lv' := [(3, .int (nI 0)), (2, .int (nI (k * 4))), (0, .ref (n 16)), (1, .int (nI k))]) hx hb dX5_takeOldest_21 rfl hl (by decide) rfl (fun ls hl => ?_)
  refine lv_aload_n hx hb dX5_takeOldest_22 rfl (lv_at hl 2 rfl) ?_
  refine va_get (D := D) (ci := 5) (v := .ref (n 21)) (C := RX5) (T := TX5) (N := 7) hx hb hts hin5 hown hK hP 0 rfl rfl 4 (by decide) (hts (.fieldLink RX5 28 "MeshRouting$Searches" "waiting" "[I") (List.mem_cons_of_mem _ q_139)) (fun _ h9 => h9) rfl dX5_takeOldest_23 ?_
  refine lv_iload_n hx hb dX5_takeOldest_26 rfl (lv_at hl 3 rfl) ?_
  refine lv_dup2_11 hx hb dX5_takeOldest_27 rfl rfl ?_
  refine k_iald (v := nI 1) hx hb hK hP 1 0 rfl rfl (by omega) (by omega) (pk_us) dX5_takeOldest_28 ?_
  refine lv_iconst (v := nI 1) hx hb dX5_takeOldest_29 (by decide) ?_
  refine lv_isub hx hb dX5_takeOldest_30 ?_
  refine k_ti (show ((nI 1) - (nI 1)) = (nI 0) from by decide) ?_
  refine k_iast (f' := (fun _ => 0)) hx hb hK hP hD hS 1 0 rfl rfl (by omega) (by omega) ((k_uu.trans k_u0)) dX5_takeOldest_31 (fun H locs hP hD hS => ?_)
  replace hP : va_P D vwCl [(n 16, .inr (5, [.ref (n 17), .ref (n 18), .ref (n 19), .ref (n 20), .ref (n 21), .ref (n 22), .int du])), (n 21, .inl (cI, 100, .inl (fun _ => 0))), (n 22, .inl (cI, 400, .inl (fun _ => 0)))] H := hP
  replace hD : va_D A [(n 16, .inr (5, [.ref (n 17), .ref (n 18), .ref (n 19), .ref (n 20), .ref (n 21), .ref (n 22), .int du])), (n 21, .inl (cI, 100, .inl (fun _ => 0))), (n 22, .inl (cI, 400, .inl (fun _ => 0)))] := hD
  refine lv_aload_n hx hb dX5_takeOldest_32 rfl (lv_at hl 2 rfl) ?_
  refine va_get (D := D) (ci := 5) (v := .ref (n 22)) (C := RX5) (T := TX5) (N := 7) hx hb hts hin5 hown hK hP 0 rfl rfl 5 (by decide) (hts (.fieldLink RX5 31 "MeshRouting$Searches" "buffers" "[I") (List.mem_cons_of_mem _ q_140)) (fun _ h9 => h9) rfl dX5_takeOldest_33 ?_
  refine lv_iload_n hx hb dX5_takeOldest_36 rfl (lv_at hl 1 rfl) ?_
  refine lv_iconst (v := nI 1) hx hb dX5_takeOldest_37 (by decide) ?_
  refine lv_iadd hx hb dX5_takeOldest_38 ?_
  refine k_ti (show ((nI (k * 4)) + (nI 1)) = (nI (k * 4 + 1)) from nI_add _ _) ?_
  refine lv_aload_n hx hb dX5_takeOldest_39 rfl (lv_at hl 2 rfl) ?_
  refine va_get (D := D) (ci := 5) (v := .ref (n 22)) (C := RX5) (T := TX5) (N := 7) hx hb hts hin5 hown hK hP 0 rfl rfl 5 (by decide) (hts (.fieldLink RX5 31 "MeshRouting$Searches" "buffers" "[I") (List.mem_cons_of_mem _ q_140)) (fun _ h9 => h9) rfl dX5_takeOldest_40 ?_
  refine lv_iload_n hx hb dX5_takeOldest_43 rfl (lv_at hl 1 rfl) ?_
  refine lv_aload_n hx hb dX5_takeOldest_44 rfl (lv_at hl 2 rfl) ?_
  refine va_get (D := D) (ci := 5) (v := .ref (n 21)) (C := RX5) (T := TX5) (N := 7) hx hb hts hin5 hown hK hP 0 rfl rfl 4 (by decide) (hts (.fieldLink RX5 28 "MeshRouting$Searches" "waiting" "[I") (List.mem_cons_of_mem _ q_139)) (fun _ h9 => h9) rfl dX5_takeOldest_45 ?_
  refine lv_iload_n hx hb dX5_takeOldest_48 rfl (lv_at hl 3 rfl) ?_
  refine k_iald (v := nI 0) hx hb hK hP 1 0 rfl rfl (by omega) (by omega) (nI_0.symm) dX5_takeOldest_49 ?_
  refine k_copyi (f' := (fun _ => 0)) hx hb (hml.trans hl.1.symm) hown (hts (.methodLink RX5 45 arraycopyName) (List.mem_cons_of_mem _ q_277)) (hts (.native arraycopyName) (List.mem_cons_of_mem _ q_62)) (hts (.static arraycopyName) (List.mem_cons_of_mem _ q_63)) (hts (.initialized "java/lang/System") (List.mem_cons_of_mem _ q_64)) hK hP hD hS 2 2 0 rfl rfl rfl (by omega) (by omega) (by omega) (by omega) (k_cpy0) (Nat.le_of_ble_eq_true rfl) (Nat.le_of_ble_eq_true rfl) dX5_takeOldest_50 (fun H locs hP hD hS => ?_)
  replace hP : va_P D vwCl [(n 16, .inr (5, [.ref (n 17), .ref (n 18), .ref (n 19), .ref (n 20), .ref (n 21), .ref (n 22), .int du])), (n 21, .inl (cI, 100, .inl (fun _ => 0))), (n 22, .inl (cI, 400, .inl (fun _ => 0)))] H := hP
  replace hD : va_D A [(n 16, .inr (5, [.ref (n 17), .ref (n 18), .ref (n 19), .ref (n 20), .ref (n 21), .ref (n 22), .int du])), (n 21, .inl (cI, 100, .inl (fun _ => 0))), (n 22, .inl (cI, 400, .inl (fun _ => 0)))] := hD
  refine lv_iload_n hx hb dX5_takeOldest_53 rfl (lv_at hl 0 rfl) ?_
  have hP9 := hP.sub (ws' := [(n 16, .inr (5, [.ref (n 17), .ref (n 18), .ref (n 19), .ref (n 20), .ref (n 21), .ref (n 22), .int du])), (n 21, .inl (cI, 100, .inl (fun _ => 0))), (n 22, .inl (cI, 400, .inl (fun _ => 0)))]) [0, 1, 2] rfl
  have hD9 := hD.sub (ws' := [(n 16, .inr (5, [.ref (n 17), .ref (n 18), .ref (n 19), .ref (n 20), .ref (n 21), .ref (n 22), .int du])), (n 21, .inl (cI, 100, .inl (fun _ => 0))), (n 22, .inl (cI, 400, .inl (fun _ => 0)))]) [0, 1, 2] rfl rfl
  exact W.iret (v := nI 0) hx hb hr (fun t9 ht9 hW9 => ⟨⟨nI 0, (), rfl, rfl, by rw [ht9]; exact hP9, hD9⟩, hS.F ht9⟩) hS.2.2 dX5_takeOldest_54

set_option maxHeartbeats 4000000 in
set_option maxRecDepth 100000 in
theorem c_X6_copyRow (l : Launch) (D : va_G) (cI cJ cM cG : ClassId) (a : Nat) (b : Nat) (ln : Nat) (f : Nat → Int32) (sz : Nat) (hm : ln < 2 ^ 31) : Met l yX6_copyRow (Cond.code yX6_copyRow cX6_copyRow 2 none :: kBig) ({ frames := 1, cells := 0, slots := 0, locals := 60 }) (va_Pc [.ref a, .ref b] (kP D [(cI, .int), (cJ, .long), (cM, .object "MeshRouting$Message"), (cG, .array .int)] [(a, .inl (cI, ln, .inl f)), (b, .inl (cI, ln, .inl f))] sz)) (va_Qv (fun _ : Unit => True) (fun _ t9 => kB D (va_A [(a, .inl (cI, ln, .inl f)), (b, .inl (cI, ln, .inl f))] sz) [(a, .inl (cI, ln, .inl f)), (b, .inl (cI, ln, .inl f))] t9) (va_A [(a, .inl (cI, ln, .inl f)), (b, .inl (cI, ln, .inl f))] sz)) 0 0 (va_A [(a, .inl (cI, ln, .inl f)), (b, .inl (cI, ln, .inl f))] sz) := by
  refine Met.ofW (cc := cX6_copyRow) (maxL := 2) (ret := none) (by decide) rfl ?_
  intro p e s m args below meth c s₁ B hml hv
  obtain ⟨rfl, hsz, hP, hK, hD0, hKN⟩ := hv
  have hx := B.exec
  have hb := B.bytes
  have hr := B.returns
  have hts := atoms_spec (ws := (Cond.code yX6_copyRow cX6_copyRow 2 none :: kBig)) B.pre
  have hown : s.vm.findClass RX6 = some m.cls := findClass_of_methodNamed B.named
  have hlocks := B.notSynchronized
  subst hsz
  have hD := hD0.self (sz := s.heap.size)
  generalize hAe : va_A [(a, .inl (cI, ln, .inl f)), (b, .inl (cI, ln, .inl f))] s.heap.size = A at hD ⊢
  have hA : ∀ q : Nat, s.heap.size ≤ q → A q := fun q h => by rw [← hAe]; exact Or.inr h
  have hS : va_S A s.heap s.heap [] := va_S.rf
  have hl := lv_entry ([.ref a, .ref b]) (n := 2) (Nat.le_of_ble_eq_true rfl)
  rw [lg_entry_eq]
  generalize (lg_sl ([.ref a, .ref b]) ++ List.replicate (2 - (lg_sl ([.ref a, .ref b])).length) Slot.unset).toArray = ls at hl ⊢
  have hl : lv_has ls 2 [(0, .ref a), (1, .ref b)] := hl
  refine lv_aload_n hx hb dX6_copyRow_0 rfl (lv_at hl 0 rfl) ?_
  refine lv_iconst (v := nI 0) hx hb dX6_copyRow_1 (by decide) ?_
  refine lv_aload_n hx hb dX6_copyRow_2 rfl (lv_at hl 1 rfl) ?_
  refine lv_iconst (v := nI 0) hx hb dX6_copyRow_3 (by decide) ?_
  refine lv_aload_n hx hb dX6_copyRow_4 rfl (lv_at hl 0 rfl) ?_
  refine va_alen (v := nI ln) hx hb hK hP 0 0 rfl rfl (by first | rfl | decide) dX6_copyRow_5 ?_
  refine lv_aload_n hx hb dX6_copyRow_6 rfl (lv_at hl 1 rfl) ?_
  refine va_alen (v := nI ln) hx hb hK hP 1 0 rfl rfl (by first | rfl | decide) dX6_copyRow_7 ?_
  refine va_mmin hx hb (hml.trans hl.1.symm) hown (hts (.methodLink RX6 9 Lib.Math.min.name) (List.mem_cons_of_mem _ q_67)) (hts (.static Lib.Math.min.name) (List.mem_cons_of_mem _ q_68)) (hts (.initialized "java/lang/Math") (List.mem_cons_of_mem _ q_69)) (hts (.code Lib.Math.min.name Lib.Math.min.code 2 (some .int)) (List.mem_cons_of_mem _ q_70)) (Nat.le_of_ble_eq_true rfl) (Nat.le_of_ble_eq_true rfl) (Nat.le_of_ble_eq_true rfl) (Nat.le_of_ble_eq_true rfl) dX6_copyRow_8 ?_
  refine k_ti (show (if nI ln < nI ln then nI ln else nI ln) = (nI ln) from if_neg (fun q => Int32.lt_irrefl q)) ?_
  refine k_copyi (f' := f) hx hb (hml.trans hl.1.symm) hown (hts (.methodLink RX6 220 arraycopyName) (List.mem_cons_of_mem _ q_71)) (hts (.native arraycopyName) (List.mem_cons_of_mem _ q_62)) (hts (.static arraycopyName) (List.mem_cons_of_mem _ q_63)) (hts (.initialized "java/lang/System") (List.mem_cons_of_mem _ q_64)) hK hP hD hS 0 1 0 rfl rfl rfl (by omega) (by omega) (by omega) (by omega) (k_cpy) (Nat.le_of_ble_eq_true rfl) (Nat.le_of_ble_eq_true rfl) dX6_copyRow_11 (fun H locs hP hD hS => ?_)
  replace hP : va_P D vwCl [(a, .inl (cI, ln, .inl f)), (b, .inl (cI, ln, .inl f))] H := hP
  replace hD : va_D A [(a, .inl (cI, ln, .inl f)), (b, .inl (cI, ln, .inl f))] := hD
  have hP9 := hP.sub (ws' := [(a, .inl (cI, ln, .inl f)), (b, .inl (cI, ln, .inl f))]) [0, 1] rfl
  have hD9 := hD.sub (ws' := [(a, .inl (cI, ln, .inl f)), (b, .inl (cI, ln, .inl f))]) [0, 1] rfl rfl
  exact W.vret hx hb hr (fun t9 ht9 hW9 => ⟨⟨(), rfl, trivial, by rw [ht9]; exact hP9, hD9⟩, hS.F ht9⟩) hS.2.2 dX6_copyRow_14
