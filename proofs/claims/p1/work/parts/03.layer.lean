/-! ===== my layer: values as nI k, calls in one row ===== -/
theorem k_AOAm {t : FieldType} {u U : State} (hvm : u.vm.Alike U.vm) (h : va_AOA t u) : va_AOA t U := by
  have h1 : (Cond.arrayOver (.array t)).before #[] (u.setVm U.vm) = true := by
    rw [Cond.arrayOver_setVmC hvm]
    exact h
  unfold va_AOA
  unfold Cond.before Cond.holds at h1 ⊢
  simp only [Cond.value] at h1 ⊢
  exact h1
/-- as the kit's Met.ofW, for one method of a class some of whose methods are natives' -/
theorem k_ofWF {l : Launch} {y : MethodName} {ws ws' : List Cond} {rm : Room} {Pc : Array Value → State → Prop} {Qc : Array Value → State → Outcome → State → Prop} {mc ms : Nat} {free : Addr → Prop} {cc : ByteArray} {maxL : Nat} {ret : Option FieldType}
    (hy : plainFor y = true) (hw : ws = Cond.code y cc maxL ret :: ws')
    (body : ∀ p e s m args below meth c s₁, BodyLoose p l y (headSpec ws rm) cc maxL ret e s m args below meth c s₁ → c.maxLocals = maxL → Pc args s →
      W p l e (headSpec ws rm).room s m args below meth c s.heap [] 0 0 (MQ below Qc args s mc ms free) (entryFrame m args maxL)) : Met l y ws rm Pc Qc mc ms free := by
  refine MetFree.of_bodySF (code := cc) (maxLocals := maxL) (ret := ret) hy ?_ ?_
  · intro args s m h hn
    obtain ⟨meth, c, h1, h2, h3, h4, h5, h6, -, -⟩ := Cond.code_spec hn (atoms_spec (ws := ws) h _ (by rw [hw]; exact List.mem_cons_self))
    exact ⟨meth, c, h1, h2, h3, h4, h5, h6⟩
  · intro p e s m args below meth c s₁ B hml hP _
    have hh0 : s₁.heap = s.heap := by rw [B.state]; rfl
    obtain ⟨t, a1, o, b1, b2, b3⟩ := body p e s m args below meth c s₁ B hml hP s₁ hh0 (Stand.of_body B)
    exact ⟨t, o, a1, b1, b2, ⟨b3.1, b3.2⟩⟩
section KL
variable {p : Program} {l : Launch} {e : Env} {R : Room} {s : State} {m : MethodId} {args : Array Value} {below : List Frame} {meth : Method} {c : Code} {H : Heap} {locs : List Loc} {cells slots : Nat} {Q : State → Prop}
variable {cc : ByteArray} {pc : Nat} {ls : Array Slot} {rest : List Value} {D : va_G} {cl : List vw_C} {A : Nat → Prop} {a : Nat} {tys : List (ClassId × FieldType)} {ws : va_W} {H0 : Heap}
/-- the top of the stack under another spelling -/
theorem k_ti {x y : Int32} (h : x = y) (k : W p l e R s m args below meth c H locs cells slots Q (F0 m pc ls (.int y :: rest))) : W p l e R s m args below meth c H locs cells slots Q (F0 m pc ls (.int x :: rest)) := by rw [h]; exact k
theorem k_tl {x y : Int64} (h : x = y) (k : W p l e R s m args below meth c H locs cells slots Q (F0 m pc ls (.long y :: rest))) : W p l e R s m args below meth c H locs cells slots Q (F0 m pc ls (.long x :: rest)) := by rw [h]; exact k
theorem k_tv {x y : Value} (h : x = y) (k : W p l e R s m args below meth c H locs cells slots Q (F0 m pc ls (y :: rest))) : W p l e R s m args below meth c H locs cells slots Q (F0 m pc ls (x :: rest)) := by rw [h]; exact k
/-- comparisons of nI: as of Nat -/
theorem k_gez {a b : Nat} (ha : a < 2 ^ 31) (hb : b < 2 ^ 31) : (nI b ≤ nI a) = (b ≤ a) := propext (nI_leI hb ha)
theorem k_ltz {a b : Nat} (ha : a < 2 ^ 31) (hb : b < 2 ^ 31) : (nI a < nI b) = (a < b) := propext (nI_ltI ha hb)
theorem k_eqz {a b : Nat} (ha : a < 2 ^ 31) (hb : b < 2 ^ 31) : (nI a = nI b) = (a = b) := propext (nI_eq ha hb)
theorem k_0 : (0 : Int32) = nI 0 := nI_0.symm
/-- the nest's links, and what else the tables say once for all -/
def kN (U : State) : Prop := va_Nw (.methodLinkNest RX2 28 yX4_init "MeshRouting") U ∧ va_Nw (.methodLinkNest RX4 15 yX6_filledRow "MeshRouting") U ∧ va_Nw (.methodLinkNest RX2 35 yX5_init "MeshRouting") U ∧ va_Nw (.methodLinkNest RX5 15 yX6_filledRow "MeshRouting") U ∧ va_Nw (.methodLinkNest RX2 42 yX3_init "MeshRouting") U ∧ va_Nw (.methodLinkNest RX3 30 yX6_filledRow "MeshRouting") U ∧ va_Nw (.methodLinkNest RX2 52 yX1_init "MeshRouting") U ∧ va_Nw (.methodLinkNest RX2 198 yX6_cellOf "MeshRouting") U ∧ va_Nw (.methodLinkNest RX0 40 yX1_init "MeshRouting") U ∧ va_Nw (.methodLinkNest RX2 73 yX6_copyRow "MeshRouting") U ∧ va_Nw (.methodLinkNest RX0 76 yX6_copyRow "MeshRouting") U ∧ va_Nw (.methodLinkNest RX4 48 yX6_copyRow "MeshRouting") U ∧ va_Nw (.methodLinkNest RX5 51 yX6_copyRow "MeshRouting") U ∧ va_Nw (.methodLinkNest RX3 44 yX6_copyRow "MeshRouting") U ∧ va_Nw (.fieldLinkNest RX2 9 "MeshRouting" "FIRST_VALUES" "[I" "MeshRouting") U ∧ va_AO "MeshRouting$Message" U ∧ va_AOA .int U ∧ va_Nw (.castable "[I" "java/lang/Cloneable") U ∧ True
theorem kN.warm {u U : State} (hW : u.WarmedH U.vm) (h : kN u) : kN U := by
  obtain ⟨h0, h1, h2, h3, h4, h5, h6, h7, h8, h9, h10, h11, h12, h13, h14, h15, h16, h17, _⟩ := h
  exact ⟨va_Nw.warmM hW h0, va_Nw.warmM hW h1, va_Nw.warmM hW h2, va_Nw.warmM hW h3, va_Nw.warmM hW h4, va_Nw.warmM hW h5, va_Nw.warmM hW h6, va_Nw.warmM hW h7, va_Nw.warmM hW h8, va_Nw.warmM hW h9, va_Nw.warmM hW h10, va_Nw.warmM hW h11, va_Nw.warmM hW h12, va_Nw.warmM hW h13, va_Nw.warmF hW h14, va_AO.moved hW.alike h15, k_AOAm hW.alike h16, va_Nw.warmC hW h17, trivial⟩
theorem kN_calling {U : State} {g : JFrame} {mk : MethodId} {a : Array Value} (h : kN U) : kN (U.calling g mk a) := by
  obtain ⟨h0, h1, h2, h3, h4, h5, h6, h7, h8, h9, h10, h11, h12, h13, h14, h15, h16, h17, _⟩ := h
  exact ⟨va_Nw.same rfl rfl h0, va_Nw.same rfl rfl h1, va_Nw.same rfl rfl h2, va_Nw.same rfl rfl h3, va_Nw.same rfl rfl h4, va_Nw.same rfl rfl h5, va_Nw.same rfl rfl h6, va_Nw.same rfl rfl h7, va_Nw.same rfl rfl h8, va_Nw.same rfl rfl h9, va_Nw.same rfl rfl h10, va_Nw.same rfl rfl h11, va_Nw.same rfl rfl h12, va_Nw.same rfl rfl h13, va_Nw.same rfl rfl h14, va_AO.moved (Vm.Alike.refl U.vm) h15, k_AOAm (Vm.Alike.refl U.vm) h16, va_Nw.same rfl rfl h17, trivial⟩
/-- a method's start: the cells ws, the heap of sz cells -/
def kP (D : va_G) (tys : List (ClassId × FieldType)) (ws : va_W) (sz : Nat) (U : State) : Prop := U.heap.size = sz ∧ va_P D vwCl ws U.heap ∧ va_K D vwCl tys U ∧ va_D (fun _ => True) ws ∧ kN U
/-- what the cells are behind a method -/
def kB (D : va_G) (A : Nat → Prop) (ws : va_W) (t : State) : Prop := va_P D vwCl ws t.heap ∧ va_D A ws
theorem kP_blind {av : List Value} {sz : Nat} : FrameBlind (va_Pc av (kP D tys ws sz)) := by
  intro a U g mk q
  obtain ⟨q0, q1, q2, q3, q4, q5⟩ := q
  refine ⟨q0, q1, q2, va_K.moved (u := U) (U := U.calling g mk a) (Vm.Alike.refl U.vm) q3, q4, ?_⟩
  exact kN_calling q5
theorem k_fm {α β : Type} {f : α → Option β} : ∀ {l : List α} {w : List β}, l.map f = w.map some → l.filterMap f = w
  | [], [], _ => rfl
  | [], _ :: _, h => by cases h
  | _ :: _, [], h => by cases h
  | a :: l, b :: w, h => by
    have h1 : f a = some b := (List.cons.inj h).1
    rw [List.filterMap_cons, h1, k_fm (List.cons.inj h).2]
theorem k_preV {wc : va_W} {b ci : Nat} {C : String} {T : u_T} {N q0 : Nat} {fs : List Value} {As : List Value} (hP : va_P D vwCl ws H) (hD : va_D A ws) (hK : va_K D vwCl tys s) (hN : kN s) (isC : List Nat) (hC : isC.map (fun i => ws[i]?) = wc.map some) (hn : va_nd isC = true) (hc : vwCl[ci]? = some (C, T, N)) (he : ws[q0]? = some (b, .inr (ci, fs))) : PreV s H C b (va_Pc (.ref b :: As) (kP D tys wc H.size)) As :=
  ⟨kP_blind, va_recv hK hP hc he, fun U hU hW => ⟨rfl, by rw [hU], by rw [hU]; exact hP.sub isC (k_fm hC), va_K.moved hW.alike hK, (hD.sub isC hn hC).weaken (fun _ _ _ _ => trivial), kN.warm hW hN⟩⟩
theorem k_preS {wc : va_W} {As : List Value} (hP : va_P D vwCl ws H) (hD : va_D A ws) (hK : va_K D vwCl tys s) (hN : kN s) (isC : List Nat) (hC : isC.map (fun i => ws[i]?) = wc.map some) (hn : va_nd isC = true) : PreS s H (va_Pc As (kP D tys wc H.size)) As :=
  ⟨kP_blind, fun U hU hW => ⟨rfl, by rw [hU], by rw [hU]; exact hP.sub isC (k_fm hC), va_K.moved hW.alike hK, (hD.sub isC hn hC).weaken (fun _ _ _ _ => trivial), kN.warm hW hN⟩⟩

theorem k_aldG (hexec : p.tables.exec = Jvm.exec) (hb : c.code = cc) (hK : va_K D cl tys s) (hP : va_P D cl ws H) (q0 t0 : Nat) {cA : ClassId} {et : FieldType} {n : Nat} {f : Nat → Option Nat} (ha : ws[q0]? = some (a, .inl (cA, n, .inr (.inr (.inr (.inr f)))))) (ht : tys[t0]? = some (cA, .array et)) {i : Int32} (hin : vp_in i n) (hdg : decode cc pc = .ok (.aaload, 1))
    (kk : W p l e R s m args below meth c H locs cells slots Q (F0 m (pc + 1) ls (va_rf (f i.toNatClampNeg) :: rest))) : W p l e R s m args below meth c H locs cells slots Q (F0 m pc ls (.int i :: .ref a :: rest)) := by
  have hlt : i.toNatClampNeg < n := Nat.not_le.mp fun q => hin (Or.inr q)
  exact W.aald (v := va_rf (f i.toNatClampNeg)) (ty := .array et) hexec hb (hP q0 _ ha) ((hK.2 t0 _ ht).1 n (fun j => va_rf (f j))) rfl (fun q => by cases q) (by show ¬ (i < 0 ∨ (arrV _ _ _).slots.size ≤ _); rw [arrV_size]; exact hin) (by show (arrV _ _ _).slots[_]? = _; rw [arrV_read _ _ hlt]) rfl rfl hdg kk
theorem k_iald (hexec : p.tables.exec = Jvm.exec) (hb : c.code = cc) (hK : va_K D cl tys s) (hP : va_P D cl ws H) (q0 t0 : Nat) {cA : ClassId} {n k : Nat} {f : Nat → Int32} {v : Int32} (ha : ws[q0]? = some (a, .inl (cA, n, .inl f))) (ht : tys[t0]? = some (cA, .int)) (hk : k < n) (hn : n < 2 ^ 31) (hv : f k = v) (hdg : decode cc pc = .ok (.iaload, 1))
    (kk : W p l e R s m args below meth c H locs cells slots Q (F0 m (pc + 1) ls (.int v :: rest))) : W p l e R s m args below meth c H locs cells slots Q (F0 m pc ls (.int (nI k) :: .ref a :: rest)) := by
  refine va_iald hexec hb hK hP q0 t0 ha ht (vp_in_nI hk hn) hdg ?_
  rw [nI_clamp (Nat.lt_trans hk hn), hv]
  exact kk
theorem k_lald (hexec : p.tables.exec = Jvm.exec) (hb : c.code = cc) (hK : va_K D cl tys s) (hP : va_P D cl ws H) (q0 t0 : Nat) {cA : ClassId} {n k : Nat} {f : Nat → Int64} {v : Int64} (ha : ws[q0]? = some (a, .inl (cA, n, .inr (.inl f)))) (ht : tys[t0]? = some (cA, .long)) (hk : k < n) (hn : n < 2 ^ 31) (hv : f k = v) (hdg : decode cc pc = .ok (.laload, 1))
    (kk : W p l e R s m args below meth c H locs cells slots Q (F0 m (pc + 1) ls (.long v :: rest))) : W p l e R s m args below meth c H locs cells slots Q (F0 m pc ls (.int (nI k) :: .ref a :: rest)) := by
  refine va_lald hexec hb hK hP q0 t0 ha ht (vp_in_nI hk hn) hdg ?_
  rw [nI_clamp (Nat.lt_trans hk hn), hv]
  exact kk
theorem k_aldq (hexec : p.tables.exec = Jvm.exec) (hb : c.code = cc) (hK : va_K D cl tys s) (hP : va_P D cl ws H) (q0 t0 : Nat) {cA : ClassId} {C : String} {n k : Nat} {f : Nat → Option Nat} {v : Option Nat} (ha : ws[q0]? = some (a, .inl (cA, n, .inr (.inr (.inr (.inr f)))))) (ht : tys[t0]? = some (cA, .object C)) (hk : k < n) (hn : n < 2 ^ 31) (hv : f k = v) (hdg : decode cc pc = .ok (.aaload, 1))
    (kk : W p l e R s m args below meth c H locs cells slots Q (F0 m (pc + 1) ls (va_rf v :: rest))) : W p l e R s m args below meth c H locs cells slots Q (F0 m pc ls (.int (nI k) :: .ref a :: rest)) := by
  refine va_aldq hexec hb hK hP q0 t0 ha ht (vp_in_nI hk hn) hdg ?_
  rw [nI_clamp (Nat.lt_trans hk hn), hv]
  exact kk
theorem k_aldg (hexec : p.tables.exec = Jvm.exec) (hb : c.code = cc) (hK : va_K D cl tys s) (hP : va_P D cl ws H) (q0 t0 : Nat) {cA : ClassId} {et : FieldType} {n k : Nat} {f : Nat → Option Nat} {v : Option Nat} (ha : ws[q0]? = some (a, .inl (cA, n, .inr (.inr (.inr (.inr f)))))) (ht : tys[t0]? = some (cA, .array et)) (hk : k < n) (hn : n < 2 ^ 31) (hv : f k = v) (hdg : decode cc pc = .ok (.aaload, 1))
    (kk : W p l e R s m args below meth c H locs cells slots Q (F0 m (pc + 1) ls (va_rf v :: rest))) : W p l e R s m args below meth c H locs cells slots Q (F0 m pc ls (.int (nI k) :: .ref a :: rest)) := by
  refine k_aldG hexec hb hK hP q0 t0 ha ht (vp_in_nI hk hn) hdg ?_
  rw [nI_clamp (Nat.lt_trans hk hn), hv]
  exact kk
theorem k_iast (hexec : p.tables.exec = Jvm.exec) (hb : c.code = cc) (hK : va_K D cl tys s) (hP : va_P D cl ws H) (hD : va_D A ws) (hS : va_S A H0 H locs) (q0 t0 : Nat) {cA : ClassId} {n k : Nat} {f f' : Nat → Int32} {x : Int32} (ha : ws[q0]? = some (a, .inl (cA, n, .inl f))) (ht : tys[t0]? = some (cA, .int)) (hk : k < n) (hn : n < 2 ^ 31) (hf : upd f k x = f') (hdg : decode cc pc = .ok (.iastore, 1))
    (kk : ∀ (H1 : Heap) (locs1 : List Loc), va_P D cl (ws.set q0 (a, .inl (cA, n, .inl f'))) H1 → va_D A (ws.set q0 (a, .inl (cA, n, .inl f'))) → va_S A H0 H1 locs1 → W p l e R s m args below meth c H1 locs1 cells slots Q (F0 m (pc + 1) ls rest)) : W p l e R s m args below meth c H locs cells slots Q (F0 m pc ls (.int x :: .int (nI k) :: .ref a :: rest)) := by
  refine va_iast hexec hb hK hP hD hS q0 t0 ha ht (vp_in_nI hk hn) hdg ?_
  rw [nI_clamp (Nat.lt_trans hk hn), hf]
  exact kk
theorem k_last (hexec : p.tables.exec = Jvm.exec) (hb : c.code = cc) (hK : va_K D cl tys s) (hP : va_P D cl ws H) (hD : va_D A ws) (hS : va_S A H0 H locs) (q0 t0 : Nat) {cA : ClassId} {n k : Nat} {f f' : Nat → Int64} {x : Int64} (ha : ws[q0]? = some (a, .inl (cA, n, .inr (.inl f)))) (ht : tys[t0]? = some (cA, .long)) (hk : k < n) (hn : n < 2 ^ 31) (hf : vp_updL f k x = f') (hdg : decode cc pc = .ok (.lastore, 1))
    (kk : ∀ (H1 : Heap) (locs1 : List Loc), va_P D cl (ws.set q0 (a, .inl (cA, n, .inr (.inl f')))) H1 → va_D A (ws.set q0 (a, .inl (cA, n, .inr (.inl f')))) → va_S A H0 H1 locs1 → W p l e R s m args below meth c H1 locs1 cells slots Q (F0 m (pc + 1) ls rest)) : W p l e R s m args below meth c H locs cells slots Q (F0 m pc ls (.long x :: .int (nI k) :: .ref a :: rest)) := by
  refine va_last hexec hb hK hP hD hS q0 t0 ha ht (vp_in_nI hk hn) hdg ?_
  rw [nI_clamp (Nat.lt_trans hk hn), hf]
  exact kk
theorem k_icmp_eq (hexec : p.tables.exec = Jvm.exec) (hb0 : c.code = cc) {a b : Nat} {off : Int} {tgt : Nat} (hdg : decode cc pc = .ok (.if_icmp .eq off, 3)) (ht : (pc : Int) + off = (tgt : Int)) (ha : a < 2 ^ 31) (hb : b < 2 ^ 31)
    (kt : a = b → W p l e R s m args below meth c H locs cells slots Q (F0 m tgt ls rest)) (kf : a ≠ b → W p l e R s m args below meth c H locs cells slots Q (F0 m (pc + 3) ls rest)) : W p l e R s m args below meth c H locs cells slots Q (F0 m pc ls (.int (nI b) :: .int (nI a) :: rest)) :=
  lv_icmp_eq hexec hb0 hdg ht (fun h => kt ((nI_eq ha hb).mp h)) (fun h => kf (fun q => h ((nI_eq ha hb).mpr q)))
theorem k_if_eq (hexec : p.tables.exec = Jvm.exec) (hb0 : c.code = cc) {a : Nat} {off : Int} {tgt : Nat} (hdg : decode cc pc = .ok (.ifCond .eq off, 3)) (ht : (pc : Int) + off = (tgt : Int)) (ha : a < 2 ^ 31)
    (kt : a = 0 → W p l e R s m args below meth c H locs cells slots Q (F0 m tgt ls rest)) (kf : a ≠ 0 → W p l e R s m args below meth c H locs cells slots Q (F0 m (pc + 3) ls rest)) : W p l e R s m args below meth c H locs cells slots Q (F0 m pc ls (.int (nI a) :: rest)) := by
  have h0 : (0 : Nat) < 2 ^ 31 := by decide
  refine lv_if_eq hexec hb0 hdg ht ?_ ?_
  · rw [← nI_0]; exact fun h => kt ((nI_eq ha h0).mp h)
  · rw [← nI_0]; exact fun h => kf (fun q => h ((nI_eq ha h0).mpr q))
theorem k_icmp_ne (hexec : p.tables.exec = Jvm.exec) (hb0 : c.code = cc) {a b : Nat} {off : Int} {tgt : Nat} (hdg : decode cc pc = .ok (.if_icmp .ne off, 3)) (ht : (pc : Int) + off = (tgt : Int)) (ha : a < 2 ^ 31) (hb : b < 2 ^ 31)
    (kt : a ≠ b → W p l e R s m args below meth c H locs cells slots Q (F0 m tgt ls rest)) (kf : a = b → W p l e R s m args below meth c H locs cells slots Q (F0 m (pc + 3) ls rest)) : W p l e R s m args below meth c H locs cells slots Q (F0 m pc ls (.int (nI b) :: .int (nI a) :: rest)) :=
  lv_icmp_ne hexec hb0 hdg ht (fun h => kt (fun q => h ((nI_eq ha hb).mpr q))) (fun h => kf ((nI_eq ha hb).mp h))
theorem k_if_ne (hexec : p.tables.exec = Jvm.exec) (hb0 : c.code = cc) {a : Nat} {off : Int} {tgt : Nat} (hdg : decode cc pc = .ok (.ifCond .ne off, 3)) (ht : (pc : Int) + off = (tgt : Int)) (ha : a < 2 ^ 31)
    (kt : a ≠ 0 → W p l e R s m args below meth c H locs cells slots Q (F0 m tgt ls rest)) (kf : a = 0 → W p l e R s m args below meth c H locs cells slots Q (F0 m (pc + 3) ls rest)) : W p l e R s m args below meth c H locs cells slots Q (F0 m pc ls (.int (nI a) :: rest)) := by
  have h0 : (0 : Nat) < 2 ^ 31 := by decide
  refine lv_if_ne hexec hb0 hdg ht ?_ ?_
  · rw [← nI_0]; exact fun h => kt (fun q => h ((nI_eq ha h0).mpr q))
  · rw [← nI_0]; exact fun h => kf ((nI_eq ha h0).mp h)
theorem k_icmp_lt (hexec : p.tables.exec = Jvm.exec) (hb0 : c.code = cc) {a b : Nat} {off : Int} {tgt : Nat} (hdg : decode cc pc = .ok (.if_icmp .lt off, 3)) (ht : (pc : Int) + off = (tgt : Int)) (ha : a < 2 ^ 31) (hb : b < 2 ^ 31)
    (kt : a < b → W p l e R s m args below meth c H locs cells slots Q (F0 m tgt ls rest)) (kf : b ≤ a → W p l e R s m args below meth c H locs cells slots Q (F0 m (pc + 3) ls rest)) : W p l e R s m args below meth c H locs cells slots Q (F0 m pc ls (.int (nI b) :: .int (nI a) :: rest)) :=
  lv_icmp_lt hexec hb0 hdg ht (fun h => kt ((nI_ltI ha hb).mp h)) (fun h => kf (Nat.not_lt.mp (fun q => h ((nI_ltI ha hb).mpr q))))
theorem k_if_lt (hexec : p.tables.exec = Jvm.exec) (hb0 : c.code = cc) {a : Nat} {off : Int} {tgt : Nat} (hdg : decode cc pc = .ok (.ifCond .lt off, 3)) (ht : (pc : Int) + off = (tgt : Int)) (ha : a < 2 ^ 31)
    (kt : a < 0 → W p l e R s m args below meth c H locs cells slots Q (F0 m tgt ls rest)) (kf : 0 ≤ a → W p l e R s m args below meth c H locs cells slots Q (F0 m (pc + 3) ls rest)) : W p l e R s m args below meth c H locs cells slots Q (F0 m pc ls (.int (nI a) :: rest)) := by
  have h0 : (0 : Nat) < 2 ^ 31 := by decide
  refine lv_if_lt hexec hb0 hdg ht ?_ ?_
  · rw [← nI_0]; exact fun h => kt ((nI_ltI ha h0).mp h)
  · rw [← nI_0]; exact fun h => kf (Nat.not_lt.mp (fun q => h ((nI_ltI ha h0).mpr q)))
theorem k_icmp_ge (hexec : p.tables.exec = Jvm.exec) (hb0 : c.code = cc) {a b : Nat} {off : Int} {tgt : Nat} (hdg : decode cc pc = .ok (.if_icmp .ge off, 3)) (ht : (pc : Int) + off = (tgt : Int)) (ha : a < 2 ^ 31) (hb : b < 2 ^ 31)
    (kt : b ≤ a → W p l e R s m args below meth c H locs cells slots Q (F0 m tgt ls rest)) (kf : a < b → W p l e R s m args below meth c H locs cells slots Q (F0 m (pc + 3) ls rest)) : W p l e R s m args below meth c H locs cells slots Q (F0 m pc ls (.int (nI b) :: .int (nI a) :: rest)) :=
  lv_icmp_ge hexec hb0 hdg ht (fun h => kt ((nI_leI hb ha).mp h)) (fun h => kf (Nat.not_le.mp (fun q => h ((nI_leI hb ha).mpr q))))
theorem k_if_ge (hexec : p.tables.exec = Jvm.exec) (hb0 : c.code = cc) {a : Nat} {off : Int} {tgt : Nat} (hdg : decode cc pc = .ok (.ifCond .ge off, 3)) (ht : (pc : Int) + off = (tgt : Int)) (ha : a < 2 ^ 31)
    (kt : 0 ≤ a → W p l e R s m args below meth c H locs cells slots Q (F0 m tgt ls rest)) (kf : a < 0 → W p l e R s m args below meth c H locs cells slots Q (F0 m (pc + 3) ls rest)) : W p l e R s m args below meth c H locs cells slots Q (F0 m pc ls (.int (nI a) :: rest)) := by
  have h0 : (0 : Nat) < 2 ^ 31 := by decide
  refine lv_if_ge hexec hb0 hdg ht ?_ ?_
  · rw [← nI_0]; exact fun h => kt ((nI_leI h0 ha).mp h)
  · rw [← nI_0]; exact fun h => kf (Nat.not_le.mp (fun q => h ((nI_leI h0 ha).mpr q)))
theorem k_icmp_gt (hexec : p.tables.exec = Jvm.exec) (hb0 : c.code = cc) {a b : Nat} {off : Int} {tgt : Nat} (hdg : decode cc pc = .ok (.if_icmp .gt off, 3)) (ht : (pc : Int) + off = (tgt : Int)) (ha : a < 2 ^ 31) (hb : b < 2 ^ 31)
    (kt : b < a → W p l e R s m args below meth c H locs cells slots Q (F0 m tgt ls rest)) (kf : a ≤ b → W p l e R s m args below meth c H locs cells slots Q (F0 m (pc + 3) ls rest)) : W p l e R s m args below meth c H locs cells slots Q (F0 m pc ls (.int (nI b) :: .int (nI a) :: rest)) :=
  lv_icmp_gt hexec hb0 hdg ht (fun h => kt ((nI_ltI hb ha).mp h)) (fun h => kf (Nat.not_lt.mp (fun q => h ((nI_ltI hb ha).mpr q))))
theorem k_if_gt (hexec : p.tables.exec = Jvm.exec) (hb0 : c.code = cc) {a : Nat} {off : Int} {tgt : Nat} (hdg : decode cc pc = .ok (.ifCond .gt off, 3)) (ht : (pc : Int) + off = (tgt : Int)) (ha : a < 2 ^ 31)
    (kt : 0 < a → W p l e R s m args below meth c H locs cells slots Q (F0 m tgt ls rest)) (kf : a ≤ 0 → W p l e R s m args below meth c H locs cells slots Q (F0 m (pc + 3) ls rest)) : W p l e R s m args below meth c H locs cells slots Q (F0 m pc ls (.int (nI a) :: rest)) := by
  have h0 : (0 : Nat) < 2 ^ 31 := by decide
  refine lv_if_gt hexec hb0 hdg ht ?_ ?_
  · rw [← nI_0]; exact fun h => kt ((nI_ltI h0 ha).mp h)
  · rw [← nI_0]; exact fun h => kf (Nat.not_lt.mp (fun q => h ((nI_ltI h0 ha).mpr q)))
theorem k_icmp_le (hexec : p.tables.exec = Jvm.exec) (hb0 : c.code = cc) {a b : Nat} {off : Int} {tgt : Nat} (hdg : decode cc pc = .ok (.if_icmp .le off, 3)) (ht : (pc : Int) + off = (tgt : Int)) (ha : a < 2 ^ 31) (hb : b < 2 ^ 31)
    (kt : a ≤ b → W p l e R s m args below meth c H locs cells slots Q (F0 m tgt ls rest)) (kf : b < a → W p l e R s m args below meth c H locs cells slots Q (F0 m (pc + 3) ls rest)) : W p l e R s m args below meth c H locs cells slots Q (F0 m pc ls (.int (nI b) :: .int (nI a) :: rest)) :=
  lv_icmp_le hexec hb0 hdg ht (fun h => kt ((nI_leI ha hb).mp h)) (fun h => kf (Nat.not_le.mp (fun q => h ((nI_leI ha hb).mpr q))))
theorem k_if_le (hexec : p.tables.exec = Jvm.exec) (hb0 : c.code = cc) {a : Nat} {off : Int} {tgt : Nat} (hdg : decode cc pc = .ok (.ifCond .le off, 3)) (ht : (pc : Int) + off = (tgt : Int)) (ha : a < 2 ^ 31)
    (kt : a ≤ 0 → W p l e R s m args below meth c H locs cells slots Q (F0 m tgt ls rest)) (kf : 0 < a → W p l e R s m args below meth c H locs cells slots Q (F0 m (pc + 3) ls rest)) : W p l e R s m args below meth c H locs cells slots Q (F0 m pc ls (.int (nI a) :: rest)) := by
  have h0 : (0 : Nat) < 2 ^ 31 := by decide
  refine lv_if_le hexec hb0 hdg ht ?_ ?_
  · rw [← nI_0]; exact fun h => kt ((nI_leI ha h0).mp h)
  · rw [← nI_0]; exact fun h => kf (Nat.not_le.mp (fun q => h ((nI_leI ha h0).mpr q)))
theorem k_ci {mc ms : Nat} {a9 : Array Value} {st0 : List Value} {wc wr w1 : va_W} {post : Int32 → Unit → Prop} (hr : va_Run p l e R s m args below meth c H locs cells slots mc ms (F0 m pc ls st0) rest (va_Qi post (fun _ t => kB D (va_A wc H.size) w1 t) (va_A wc H.size) a9) (va_A wc H.size)) (hP : va_P D vwCl ws H) (hD : va_D A ws) (hS : va_S A H0 H locs) (hA : ∀ q, H0.size ≤ q → A q)
    (isC isR : List Nat) (hC : isC.map (fun i => ws[i]?) = wc.map some) (hR : isR.map (fun i => ws[i]?) = wr.map some) (hn : va_nd isR = true) (hdis : ∀ i ∈ isR, i ∉ isC)
    (kk : ∀ (r : Int32) (H1 : Heap) (locs1 : List Loc), post r () → va_P D vwCl (wr ++ w1) H1 → va_D A (wr ++ w1) → va_S A H0 H1 locs1 → W p l e R s m args below meth c H1 locs1 (cells + mc) (slots + ms) Q (F0 m (pc + 3) ls (.int r :: rest))) : W p l e R s m args below meth c H locs cells slots Q (F0 m pc ls st0) := by
  have hF := va_free (wc := wc) hD hS hA isC hC
  refine va_calli hr hS (fun q _ h => hF q h) hF (fun r u t H1 locs1 ht hvm hw hB hz1 hk1 hS => ?_)
  obtain ⟨hP1, hD1⟩ := hB
  rw [ht] at hP1
  obtain ⟨hP, hD⟩ := va_join (wr := wr) (w1 := w1) hP hD isC isR hC hR hn hdis hk1 hF hP1 hD1
  exact kk r _ _ hw hP hD hS
theorem k_cl {mc ms : Nat} {a9 : Array Value} {st0 : List Value} {wc wr w1 : va_W} {post : Int64 → Unit → Prop} (hr : va_Run p l e R s m args below meth c H locs cells slots mc ms (F0 m pc ls st0) rest (va_Ql post (fun _ t => kB D (va_A wc H.size) w1 t) (va_A wc H.size) a9) (va_A wc H.size)) (hP : va_P D vwCl ws H) (hD : va_D A ws) (hS : va_S A H0 H locs) (hA : ∀ q, H0.size ≤ q → A q)
    (isC isR : List Nat) (hC : isC.map (fun i => ws[i]?) = wc.map some) (hR : isR.map (fun i => ws[i]?) = wr.map some) (hn : va_nd isR = true) (hdis : ∀ i ∈ isR, i ∉ isC)
    (kk : ∀ (r : Int64) (H1 : Heap) (locs1 : List Loc), post r () → va_P D vwCl (wr ++ w1) H1 → va_D A (wr ++ w1) → va_S A H0 H1 locs1 → W p l e R s m args below meth c H1 locs1 (cells + mc) (slots + ms) Q (F0 m (pc + 3) ls (.long r :: rest))) : W p l e R s m args below meth c H locs cells slots Q (F0 m pc ls st0) := by
  have hF := va_free (wc := wc) hD hS hA isC hC
  refine va_calll hr hS (fun q _ h => hF q h) hF (fun r u t H1 locs1 ht hvm hw hB hz1 hk1 hS => ?_)
  obtain ⟨hP1, hD1⟩ := hB
  rw [ht] at hP1
  obtain ⟨hP, hD⟩ := va_join (wr := wr) (w1 := w1) hP hD isC isR hC hR hn hdis hk1 hF hP1 hD1
  exact kk r _ _ hw hP hD hS
theorem k_cq {mc ms : Nat} {a9 : Array Value} {st0 : List Value} {wc wr w1 : va_W} {post : Option Nat → Unit → Prop} (hr : va_Run p l e R s m args below meth c H locs cells slots mc ms (F0 m pc ls st0) rest (va_Qq post (fun _ t => kB D (va_A wc H.size) w1 t) (va_A wc H.size) a9) (va_A wc H.size)) (hP : va_P D vwCl ws H) (hD : va_D A ws) (hS : va_S A H0 H locs) (hA : ∀ q, H0.size ≤ q → A q)
    (isC isR : List Nat) (hC : isC.map (fun i => ws[i]?) = wc.map some) (hR : isR.map (fun i => ws[i]?) = wr.map some) (hn : va_nd isR = true) (hdis : ∀ i ∈ isR, i ∉ isC)
    (kk : ∀ (r : Option Nat) (H1 : Heap) (locs1 : List Loc), post r () → va_P D vwCl (wr ++ w1) H1 → va_D A (wr ++ w1) → va_S A H0 H1 locs1 → W p l e R s m args below meth c H1 locs1 (cells + mc) (slots + ms) Q (F0 m (pc + 3) ls (va_rf r :: rest))) : W p l e R s m args below meth c H locs cells slots Q (F0 m pc ls st0) := by
  have hF := va_free (wc := wc) hD hS hA isC hC
  refine va_callq hr hS (fun q _ h => hF q h) hF (fun r u t H1 locs1 ht hvm hw hB hz1 hk1 hS => ?_)
  obtain ⟨hP1, hD1⟩ := hB
  rw [ht] at hP1
  obtain ⟨hP, hD⟩ := va_join (wr := wr) (w1 := w1) hP hD isC isR hC hR hn hdis hk1 hF hP1 hD1
  exact kk r _ _ hw hP hD hS
theorem k_cv {mc ms : Nat} {a9 : Array Value} {st0 : List Value} {wc wr w1 : va_W} {post : Unit → Prop} (hr : va_Run p l e R s m args below meth c H locs cells slots mc ms (F0 m pc ls st0) rest (va_Qv post (fun _ t => kB D (va_A wc H.size) w1 t) (va_A wc H.size) a9) (va_A wc H.size)) (hP : va_P D vwCl ws H) (hD : va_D A ws) (hS : va_S A H0 H locs) (hA : ∀ q, H0.size ≤ q → A q)
    (isC isR : List Nat) (hC : isC.map (fun i => ws[i]?) = wc.map some) (hR : isR.map (fun i => ws[i]?) = wr.map some) (hn : va_nd isR = true) (hdis : ∀ i ∈ isR, i ∉ isC)
    (kk : ∀ (H1 : Heap) (locs1 : List Loc), post () → va_P D vwCl (wr ++ w1) H1 → va_D A (wr ++ w1) → va_S A H0 H1 locs1 → W p l e R s m args below meth c H1 locs1 (cells + mc) (slots + ms) Q (F0 m (pc + 3) ls (rest))) : W p l e R s m args below meth c H locs cells slots Q (F0 m pc ls st0) := by
  have hF := va_free (wc := wc) hD hS hA isC hC
  refine va_callv hr hS (fun q _ h => hF q h) hF (fun u t H1 locs1 ht hvm hw hB hz1 hk1 hS => ?_)
  obtain ⟨hP1, hD1⟩ := hB
  rw [ht] at hP1
  obtain ⟨hP, hD⟩ := va_join (wr := wr) (w1 := w1) hP hD isC isR hC hR hn hdis hk1 hF hP1 hD1
  exact kk _ _ hw hP hD hS
/-- a loop that counts k up to B -/
theorem k_loop {nL head : Nat} (wf : Nat → va_W) (lvf : Nat → List (Nat × Value)) (B : Nat) (k0 : Nat) (hk0 : k0 ≤ B) {H : Heap} {locs : List Loc} {ls : Array Slot} (hP : va_P D vwCl (wf k0) H) (hD : va_D A (wf k0)) (hS : va_S A H0 H locs) (hl : lv_has ls nL (lvf k0))
    (ex : ∀ (H : Heap) (locs : List Loc) (ls : Array Slot), va_P D vwCl (wf B) H → va_D A (wf B) → va_S A H0 H locs → lv_has ls nL (lvf B) → W p l e R s m args below meth c H locs cells slots Q (F0 m head ls []))
    (st : ∀ k, k0 ≤ k → k < B → (∀ (H : Heap) (locs : List Loc) (ls : Array Slot), va_P D vwCl (wf (k + 1)) H → va_D A (wf (k + 1)) → va_S A H0 H locs → lv_has ls nL (lvf (k + 1)) → W p l e R s m args below meth c H locs cells slots Q (F0 m head ls [])) → ∀ (H : Heap) (locs : List Loc) (ls : Array Slot), va_P D vwCl (wf k) H → va_D A (wf k) → va_S A H0 H locs → lv_has ls nL (lvf k) → W p l e R s m args below meth c H locs cells slots Q (F0 m head ls [])) : W p l e R s m args below meth c H locs cells slots Q (F0 m head ls []) := by
  have key : ∀ (n k : Nat), k0 ≤ k → k + n = B → ∀ (H : Heap) (locs : List Loc) (ls : Array Slot), va_P D vwCl (wf k) H → va_D A (wf k) → va_S A H0 H locs → lv_has ls nL (lvf k) → W p l e R s m args below meth c H locs cells slots Q (F0 m head ls []) := by
    intro n
    induction n with
    | zero =>
      intro k _ hk
      obtain rfl : k = B := hk
      exact ex
    | succ n ih =>
      intro k hk9 hk
      exact st k hk9 (by omega) (ih (k + 1) (by omega) (by omega))
  exact key (B - k0) k0 (Nat.le_refl _) (by omega) H locs ls hP hD hS hl
theorem k_cr {mc ms : Nat} {a9 : Array Value} {st0 : List Value} {wc wr : va_W} {w1 : Nat → va_W} {post : Unit → Prop} (hr : va_Run p l e R s m args below meth c H locs cells slots mc ms (F0 m pc ls st0) rest (va_Qr post (fun _ ra t => kB D (va_A wc H.size) (w1 ra) t) (va_A wc H.size) a9) (va_A wc H.size)) (hP : va_P D vwCl ws H) (hD : va_D A ws) (hS : va_S A H0 H locs) (hA : ∀ q, H0.size ≤ q → A q)
    (isC isR : List Nat) (hC : isC.map (fun i => ws[i]?) = wc.map some) (hR : isR.map (fun i => ws[i]?) = wr.map some) (hn : va_nd isR = true) (hdis : ∀ i ∈ isR, i ∉ isC)
    (kk : ∀ (r : Nat) (H1 : Heap) (locs1 : List Loc), post () → va_P D vwCl (wr ++ w1 r) H1 → va_D A (wr ++ w1 r) → va_S A H0 H1 locs1 → W p l e R s m args below meth c H1 locs1 (cells + mc) (slots + ms) Q (F0 m (pc + 3) ls (.ref r :: rest))) : W p l e R s m args below meth c H locs cells slots Q (F0 m pc ls st0) := by
  have hF := va_free (wc := wc) hD hS hA isC hC
  refine va_callr hr hS (fun q _ h => hF q h) hF (fun u r t H1 locs1 ht hvm hw hB hz1 hk1 hS => ?_)
  obtain ⟨hP1, hD1⟩ := hB
  rw [ht] at hP1
  obtain ⟨hP, hD⟩ := va_join (wr := wr) (w1 := w1 r) hP hD isC isR hC hR hn hdis hk1 hF hP1 hD1
  exact kk r _ _ hw hP hD hS
theorem k_cV {S : Type} {mc ms : Nat} {a9 : Array Value} {st0 : List Value} {wc wr : va_W} {w1 : S → va_W} {post : S → Prop} (hr : va_Run p l e R s m args below meth c H locs cells slots mc ms (F0 m pc ls st0) rest (va_Qv post (fun u t => kB D (va_A wc H.size) (w1 u) t) (va_A wc H.size) a9) (va_A wc H.size)) (hP : va_P D vwCl ws H) (hD : va_D A ws) (hS : va_S A H0 H locs) (hA : ∀ q, H0.size ≤ q → A q)
    (isC isR : List Nat) (hC : isC.map (fun i => ws[i]?) = wc.map some) (hR : isR.map (fun i => ws[i]?) = wr.map some) (hn : va_nd isR = true) (hdis : ∀ i ∈ isR, i ∉ isC)
    (kk : ∀ (u : S) (H1 : Heap) (locs1 : List Loc), post u → va_P D vwCl (wr ++ w1 u) H1 → va_D A (wr ++ w1 u) → va_S A H0 H1 locs1 → W p l e R s m args below meth c H1 locs1 (cells + mc) (slots + ms) Q (F0 m (pc + 3) ls rest)) : W p l e R s m args below meth c H locs cells slots Q (F0 m pc ls st0) := by
  have hF := va_free (wc := wc) hD hS hA isC hC
  refine va_callv hr hS (fun q _ h => hF q h) hF (fun u t H1 locs1 ht hvm hw hB hz1 hk1 hS => ?_)
  obtain ⟨hP1, hD1⟩ := hB
  rw [ht] at hP1
  obtain ⟨hP, hD⟩ := va_join (wr := wr) (w1 := w1 u) hP hD isC isR hC hR hn hdis hk1 hF hP1 hD1
  exact kk u _ _ hw hP hD hS
theorem k_reP {q n : Nat} {cA : ClassId} {f g : Nat → Int32} (hP : va_P D cl ws H) (ha : ws[q]? = some (a, .inl (cA, n, .inl f))) (hfg : ∀ j, j < n → f j = g j) : va_P D cl (ws.set q (a, .inl (cA, n, .inl g))) H := by
  intro k x hx
  by_cases hk : k = q
  · subst hk
    have hlt : k < ws.length := (List.getElem?_eq_some_iff.mp ha).1
    rw [List.getElem?_set_self hlt] at hx
    cases hx
    have h := hP k _ ha
    show H[a]? = some (vp_cell cA (n, .inl g))
    rw [show vp_cell cA (n, .inl g) = vp_cell cA (n, .inl f) by rw [vp_cell_i, vp_cell_i]; exact congrArg (fun z => ({ cls := cA, slots := z, vm := .none } : Cell)) (congrArg Array.ofFn (funext fun j => by show Value.int (g j.val) = Value.int (f j.val); rw [hfg j.val j.isLt]))]
    exact h
  · rw [List.getElem?_set_ne (fun z => hk z.symm)] at hx
    exact hP k x hx
theorem k_reD {q : Nat} {e1 e2 : va_E} (hD : va_D A ws) (ha : ws[q]? = some (a, e1)) : va_D A (ws.set q (a, e2)) := by
  have hlt : q < ws.length := (List.getElem?_eq_some_iff.mp ha).1
  have key : ∀ (k : Nat) (x : Nat × va_E), (ws.set q (a, e2))[k]? = some x → ∃ y : Nat × va_E, ws[k]? = some y ∧ y.1 = x.1 := by
    intro k x hx
    by_cases hk : k = q
    · subst hk
      rw [List.getElem?_set_self hlt] at hx
      cases hx
      exact ⟨_, ha, rfl⟩
    · rw [List.getElem?_set_ne (fun z => hk z.symm)] at hx
      exact ⟨x, hx, rfl⟩
  refine ⟨fun i j x y hi hj hxy => ?_, fun k x hx => ?_⟩
  · obtain ⟨x', h1, h2⟩ := key i x hi
    obtain ⟨y', h3, h4⟩ := key j y hj
    exact hD.1 i j x' y' h1 h3 (by rw [h2, h4, hxy])
  · obtain ⟨x', h1, h2⟩ := key k x hx
    rw [← h2]
    exact hD.2 k x' h1
theorem k_copyi (hexec : p.tables.exec = Jvm.exec) (hb : c.code = cc) (hml : c.maxLocals = ls.size) {own : String} {index : Nat} (hown : s.vm.findClass own = some m.cls) (hlink : (Cond.methodLink own index arraycopyName).before args s = true) (hnat : (Cond.native arraycopyName).before args s = true) (hstat : (Cond.static arraycopyName).before args s = true) (hini : (Cond.initialized "java/lang/System").before args s = true)
    (hK : va_K D cl tys s) (hP : va_P D cl ws H) (hD : va_D A ws) (hS : va_S A H0 H locs) (q0 q1 t0 : Nat) {a0 : Nat} {c0 : ClassId} {n0 n1 : Nat} {f g f' : Nat → Int32} (ha0 : ws[q0]? = some (a0, .inl (c0, n0, .inl f))) (ha1 : ws[q1]? = some (a, .inl (c0, n1, .inl g))) (ht0 : tys[t0]? = some (c0, .int))
    {sp dp n : Nat} (h4 : sp + n ≤ n0) (h5 : dp + n ≤ n1) (hn0 : n0 < 2 ^ 31) (hn1 : n1 < 2 ^ 31) (hf : va_cpy f g sp dp n = f')
    (hframes : 1 ≤ R.frames) (hlocals : (rest.map fun v => v.category).sum + (nativeFrameWords "java/lang/System" "arraycopy" 5 + 11) ≤ R.locals) (hdg : decode cc pc = .ok (.invokestatic index, 3))
    (kk : ∀ (H1 : Heap) (locs1 : List Loc), va_P D cl (ws.set q1 (a, .inl (c0, n1, .inl f'))) H1 → va_D A (ws.set q1 (a, .inl (c0, n1, .inl f'))) → va_S A H0 H1 locs1 → W p l e R s m args below meth c H1 locs1 cells slots Q (F0 m (pc + 3) ls rest)) : W p l e R s m args below meth c H locs cells slots Q (F0 m pc ls (.int (nI n) :: .int (nI dp) :: .ref a :: .int (nI sp) :: .ref a0 :: rest)) := by
  have e1 : (nI sp).toNatClampNeg = sp := nI_clamp (by omega)
  have e2 : (nI dp).toNatClampNeg = dp := nI_clamp (by omega)
  have e3 : (nI n).toNatClampNeg = n := nI_clamp (by omega)
  refine va_copyi hexec hb hml hown hlink hnat hstat hini hK hP hD hS q0 q1 t0 t0 ha0 ha1 ht0 ht0 rfl (nI_pos (by omega)) (nI_pos (by omega)) (nI_pos (by omega)) (by rw [e1, e3]; exact h4) (by rw [e2, e3]; exact h5) (fun _ _ => rfl) hframes hlocals hdg ?_
  rw [e1, e2, e3, hf]
  exact kk
theorem k_mna {l : List Nat} {f : Nat → va_E} {v : va_E} : va_pl ([] ++ l) (vr_up f l v) = l.map (fun a => (a, v)) := by
  unfold va_pl
  rw [List.nil_append]
  exact List.map_congr_left (fun a ha => by rw [vr_up_in ha])
theorem k_lif_eq (hexec : p.tables.exec = Jvm.exec) (hb0 : c.code = cc) {a b : Nat} {off : Int} {tgt : Nat} (hdg : decode cc pc = .ok (.ifCond .eq off, 3)) (ht : (pc : Int) + off = (tgt : Int)) (ha : a < 2 ^ 63) (hb : b < 2 ^ 63)
    (kt : a = b → W p l e R s m args below meth c H locs cells slots Q (F0 m tgt ls rest)) (kf : a ≠ b → W p l e R s m args below meth c H locs cells slots Q (F0 m (pc + 3) ls rest)) : W p l e R s m args below meth c H locs cells slots Q (F0 m pc ls (.int (lg_cmp (lN a) (lN b)) :: rest)) :=
  lv_if_eq hexec hb0 hdg ht (fun h => kt ((pk_lEQ ha hb).mp ((lg_cmp_eq _ _).mp h))) (fun h => kf (fun q => h ((lg_cmp_eq _ _).mpr ((pk_lEQ ha hb).mpr q))))
theorem k_lif_ne (hexec : p.tables.exec = Jvm.exec) (hb0 : c.code = cc) {a b : Nat} {off : Int} {tgt : Nat} (hdg : decode cc pc = .ok (.ifCond .ne off, 3)) (ht : (pc : Int) + off = (tgt : Int)) (ha : a < 2 ^ 63) (hb : b < 2 ^ 63)
    (kt : a ≠ b → W p l e R s m args below meth c H locs cells slots Q (F0 m tgt ls rest)) (kf : a = b → W p l e R s m args below meth c H locs cells slots Q (F0 m (pc + 3) ls rest)) : W p l e R s m args below meth c H locs cells slots Q (F0 m pc ls (.int (lg_cmp (lN a) (lN b)) :: rest)) :=
  lv_if_ne hexec hb0 hdg ht (fun h => kt (fun q => h ((lg_cmp_eq _ _).mpr ((pk_lEQ ha hb).mpr q)))) (fun h => kf ((pk_lEQ ha hb).mp ((lg_cmp_eq _ _).mp h)))
theorem k_lif_lt (hexec : p.tables.exec = Jvm.exec) (hb0 : c.code = cc) {a b : Nat} {off : Int} {tgt : Nat} (hdg : decode cc pc = .ok (.ifCond .lt off, 3)) (ht : (pc : Int) + off = (tgt : Int)) (ha : a < 2 ^ 63) (hb : b < 2 ^ 63)
    (kt : a < b → W p l e R s m args below meth c H locs cells slots Q (F0 m tgt ls rest)) (kf : b ≤ a → W p l e R s m args below meth c H locs cells slots Q (F0 m (pc + 3) ls rest)) : W p l e R s m args below meth c H locs cells slots Q (F0 m pc ls (.int (lg_cmp (lN a) (lN b)) :: rest)) :=
  lv_if_lt hexec hb0 hdg ht (fun h => kt ((pk_lLT ha hb).mp ((lg_cmp_lt _ _).mp h))) (fun h => kf (Nat.not_lt.mp (fun q => h ((lg_cmp_lt _ _).mpr ((pk_lLT ha hb).mpr q)))))
theorem k_lif_ge (hexec : p.tables.exec = Jvm.exec) (hb0 : c.code = cc) {a b : Nat} {off : Int} {tgt : Nat} (hdg : decode cc pc = .ok (.ifCond .ge off, 3)) (ht : (pc : Int) + off = (tgt : Int)) (ha : a < 2 ^ 63) (hb : b < 2 ^ 63)
    (kt : b ≤ a → W p l e R s m args below meth c H locs cells slots Q (F0 m tgt ls rest)) (kf : a < b → W p l e R s m args below meth c H locs cells slots Q (F0 m (pc + 3) ls rest)) : W p l e R s m args below meth c H locs cells slots Q (F0 m pc ls (.int (lg_cmp (lN a) (lN b)) :: rest)) :=
  lv_if_ge hexec hb0 hdg ht (fun h => kt ((pk_lLE hb ha).mp ((lg_cmp_ge _ _).mp h))) (fun h => kf (Nat.not_le.mp (fun q => h ((lg_cmp_ge _ _).mpr ((pk_lLE hb ha).mpr q)))))
theorem k_lif_gt (hexec : p.tables.exec = Jvm.exec) (hb0 : c.code = cc) {a b : Nat} {off : Int} {tgt : Nat} (hdg : decode cc pc = .ok (.ifCond .gt off, 3)) (ht : (pc : Int) + off = (tgt : Int)) (ha : a < 2 ^ 63) (hb : b < 2 ^ 63)
    (kt : b < a → W p l e R s m args below meth c H locs cells slots Q (F0 m tgt ls rest)) (kf : a ≤ b → W p l e R s m args below meth c H locs cells slots Q (F0 m (pc + 3) ls rest)) : W p l e R s m args below meth c H locs cells slots Q (F0 m pc ls (.int (lg_cmp (lN a) (lN b)) :: rest)) :=
  lv_if_gt hexec hb0 hdg ht (fun h => kt ((pk_lLT hb ha).mp ((lg_cmp_gt _ _).mp h))) (fun h => kf (Nat.not_lt.mp (fun q => h ((lg_cmp_gt _ _).mpr ((pk_lLT hb ha).mpr q)))))
theorem k_lif_le (hexec : p.tables.exec = Jvm.exec) (hb0 : c.code = cc) {a b : Nat} {off : Int} {tgt : Nat} (hdg : decode cc pc = .ok (.ifCond .le off, 3)) (ht : (pc : Int) + off = (tgt : Int)) (ha : a < 2 ^ 63) (hb : b < 2 ^ 63)
    (kt : a ≤ b → W p l e R s m args below meth c H locs cells slots Q (F0 m tgt ls rest)) (kf : b < a → W p l e R s m args below meth c H locs cells slots Q (F0 m (pc + 3) ls rest)) : W p l e R s m args below meth c H locs cells slots Q (F0 m pc ls (.int (lg_cmp (lN a) (lN b)) :: rest)) :=
  lv_if_le hexec hb0 hdg ht (fun h => kt ((pk_lLE ha hb).mp ((lg_cmp_le _ _).mp h))) (fun h => kf (Nat.not_le.mp (fun q => h ((lg_cmp_le _ _).mpr ((pk_lLE ha hb).mpr q)))))
theorem k_ciS {S : Type} {mc ms : Nat} {a9 : Array Value} {st0 : List Value} {wc wr : va_W} {w1 : S → va_W} {post : Int32 → S → Prop} (hr : va_Run p l e R s m args below meth c H locs cells slots mc ms (F0 m pc ls st0) rest (va_Qi post (fun u t => kB D (va_A wc H.size) (w1 u) t) (va_A wc H.size) a9) (va_A wc H.size)) (hP : va_P D vwCl ws H) (hD : va_D A ws) (hS : va_S A H0 H locs) (hA : ∀ q, H0.size ≤ q → A q)
    (isC isR : List Nat) (hC : isC.map (fun i => ws[i]?) = wc.map some) (hR : isR.map (fun i => ws[i]?) = wr.map some) (hn : va_nd isR = true) (hdis : ∀ i ∈ isR, i ∉ isC)
    (kk : ∀ (r : Int32) (u : S) (H1 : Heap) (locs1 : List Loc), post r u → va_P D vwCl (wr ++ w1 u) H1 → va_D A (wr ++ w1 u) → va_S A H0 H1 locs1 → W p l e R s m args below meth c H1 locs1 (cells + mc) (slots + ms) Q (F0 m (pc + 3) ls (.int r :: rest))) : W p l e R s m args below meth c H locs cells slots Q (F0 m pc ls st0) := by
  have hF := va_free (wc := wc) hD hS hA isC hC
  refine va_calli hr hS (fun q _ h => hF q h) hF (fun r u t H1 locs1 ht hvm hw hB hz1 hk1 hS => ?_)
  obtain ⟨hP1, hD1⟩ := hB
  rw [ht] at hP1
  obtain ⟨hP, hD⟩ := va_join (wr := wr) (w1 := w1 u) hP hD isC isR hC hR hn hdis hk1 hF hP1 hD1
  exact kk r u _ _ hw hP hD hS
theorem k_clS {S : Type} {mc ms : Nat} {a9 : Array Value} {st0 : List Value} {wc wr : va_W} {w1 : S → va_W} {post : Int64 → S → Prop} (hr : va_Run p l e R s m args below meth c H locs cells slots mc ms (F0 m pc ls st0) rest (va_Ql post (fun u t => kB D (va_A wc H.size) (w1 u) t) (va_A wc H.size) a9) (va_A wc H.size)) (hP : va_P D vwCl ws H) (hD : va_D A ws) (hS : va_S A H0 H locs) (hA : ∀ q, H0.size ≤ q → A q)
    (isC isR : List Nat) (hC : isC.map (fun i => ws[i]?) = wc.map some) (hR : isR.map (fun i => ws[i]?) = wr.map some) (hn : va_nd isR = true) (hdis : ∀ i ∈ isR, i ∉ isC)
    (kk : ∀ (r : Int64) (u : S) (H1 : Heap) (locs1 : List Loc), post r u → va_P D vwCl (wr ++ w1 u) H1 → va_D A (wr ++ w1 u) → va_S A H0 H1 locs1 → W p l e R s m args below meth c H1 locs1 (cells + mc) (slots + ms) Q (F0 m (pc + 3) ls (.long r :: rest))) : W p l e R s m args below meth c H locs cells slots Q (F0 m pc ls st0) := by
  have hF := va_free (wc := wc) hD hS hA isC hC
  refine va_calll hr hS (fun q _ h => hF q h) hF (fun r u t H1 locs1 ht hvm hw hB hz1 hk1 hS => ?_)
  obtain ⟨hP1, hD1⟩ := hB
  rw [ht] at hP1
  obtain ⟨hP, hD⟩ := va_join (wr := wr) (w1 := w1 u) hP hD isC isR hC hR hn hdis hk1 hF hP1 hD1
  exact kk r u _ _ hw hP hD hS
theorem k_reJ {q n : Nat} {cA : ClassId} {f g : Nat → Int64} (hP : va_P D cl ws H) (ha : ws[q]? = some (a, .inl (cA, n, .inr (.inl f)))) (hfg : ∀ j, j < n → f j = g j) : va_P D cl (ws.set q (a, .inl (cA, n, .inr (.inl g)))) H := by
  intro k x hx
  by_cases hk : k = q
  · subst hk
    have hlt : k < ws.length := (List.getElem?_eq_some_iff.mp ha).1
    rw [List.getElem?_set_self hlt] at hx
    cases hx
    have h := hP k _ ha
    show H[a]? = some (vp_cell cA (n, .inr (.inl g)))
    rw [show vp_cell cA (n, .inr (.inl g)) = vp_cell cA (n, .inr (.inl f)) by rw [vp_cell_l, vp_cell_l]; exact congrArg (fun z => ({ cls := cA, slots := z, vm := .none } : Cell)) (congrArg Array.ofFn (funext fun j => by show Value.long (g j.val) = Value.long (f j.val); rw [hfg j.val j.isLt]))]
    exact h
  · rw [List.getElem?_set_ne (fun z => hk z.symm)] at hx
    exact hP k x hx
end KL
/-! ===== numbers and rows of numbers ===== -/
theorem k_uu {f : Nat → Int32} {k : Nat} {x y : Int32} : upd (upd f k x) k y = upd f k y := funext fun j => by simp only [upd]; split <;> rfl
theorem k_uc {k : Nat} {y : Int32} : upd (fun _ => y) k y = fun _ => y := funext fun j => by simp only [upd]; split <;> rfl
theorem k_u0 {k : Nat} : upd (fun _ => 0) k (nI 0) = fun _ => 0 := by rw [nI_0]; exact k_uc
theorem k_ub {f : Nat → Int32} {k : Nat} {x y : Int32} (h : f = fun _ => y) : upd (upd f k x) k y = fun _ => y := by rw [k_uu, h]; exact k_uc
theorem kf_0 {f : Nat → Int32} {v : Int32} : f = (fun j => if j < 0 then v else f j) := funext fun j => (if_neg (Nat.not_lt_zero j)).symm
theorem kf_s {f : Nat → Int32} {v : Int32} {k : Nat} : upd (fun j => if j < k then v else f j) k v = fun j => if j < k + 1 then v else f j := funext fun j => by
  simp only [upd]
  by_cases h : j = k
  · rw [if_pos h, if_pos (by omega)]
  · rw [if_neg h]
    by_cases h2 : j < k
    · rw [if_pos h2, if_pos (by omega)]
    · rw [if_neg h2, if_neg (by omega)]
theorem k_nm1 {a : Nat} (h : a < 2 ^ 31) : ¬ nI a = (-1) := fun q => by
  have h1 := congrArg Int32.toInt q
  rw [nI_toInt h] at h1
  have h2 : (-1 : Int32).toInt = -1 := by decide
  omega
theorem k_m1n {a : Nat} (h : a < 2 ^ 31) : ¬ (-1 : Int32) = nI a := fun q => k_nm1 h q.symm
theorem k_cls {D : va_G} {cl : List vw_C} {tys : List (ClassId × FieldType)} {s : State} {c1 c2 : ClassId} {ty : FieldType} (hK : va_K D cl tys s) {i j : Nat} (hi : tys[i]? = some (c1, ty)) (hj : tys[j]? = some (c2, ty)) : c1 = c2 := by
  have h1 := (hK.2 i _ hi).2
  have h2 := (hK.2 j _ hj).2
  cases ty with
  | object C =>
    obtain ⟨_, _, _, _, _, h3⟩ := h1
    obtain ⟨_, _, _, _, _, h4⟩ := h2
    exact Option.some.inj (h3.symm.trans h4)
  | _ => exact Option.some.inj (Eq.trans (Eq.symm h1) h2)
theorem nx_and (a b : Nat) : nI a &&& nI b = nI (a &&& b) := by
  apply Int32.toBitVec_inj.1
  show BitVec.ofNat 32 a &&& BitVec.ofNat 32 b = BitVec.ofNat 32 (a &&& b)
  apply BitVec.eq_of_getLsbD_eq
  intro i hi
  simp [hi]
theorem nx_xor (a b : Nat) : nI a ^^^ nI b = nI (a ^^^ b) := by
  apply Int32.toBitVec_inj.1
  show BitVec.ofNat 32 a ^^^ BitVec.ofNat 32 b = BitVec.ofNat 32 (a ^^^ b)
  apply BitVec.eq_of_getLsbD_eq
  intro i hi
  simp [hi]
theorem k_xor10 {a : Nat} (h : a < 2 ^ 30) : (0 : Int32) ≤ nI a ^^^ nI 10 := by
  rw [nx_xor]
  exact nI_pos' (Nat.lt_trans (Nat.xor_lt_two_pow h (by decide)) (by decide))
def kPar : Nat → Int32 := fun j => nI (([60, 1, 2, 5, 10, 2, 20, 3] : List Nat).getD j 0)
def kRows (n : Nat → Nat) : Nat → Option Nat := fun i => if i < 10 then some (n (34 + i)) else none
theorem kRows_at {n : Nat → Nat} {a : Nat} (h : a < 10) : kRows n a = some (n (34 + a)) := if_pos h
theorem k_10 {P : Nat → Prop} (h0 : P 0) (h1 : P 1) (h2 : P 2) (h3 : P 3) (h4 : P 4) (h5 : P 5) (h6 : P 6) (h7 : P 7) (h8 : P 8) (h9 : P 9) {a : Nat} (h : a < 10) : P a := by
  match a, h with
  | 0, _ => exact h0
  | 1, _ => exact h1
  | 2, _ => exact h2
  | 3, _ => exact h3
  | 4, _ => exact h4
  | 5, _ => exact h5
  | 6, _ => exact h6
  | 7, _ => exact h7
  | 8, _ => exact h8
  | 9, _ => exact h9
  | n + 10, h => exact absurd h (by omega)
theorem k_cpy {f : Nat → Int32} {n : Nat} : va_cpy f f 0 0 n = f := funext fun j => by
  simp only [va_cpy]
  split
  · rw [show 0 + (j - 0) = j by omega]
  · rfl
theorem k_cpy0 {f g : Nat → Int32} {a b : Nat} : va_cpy f g a b 0 = g := funext fun j => by
  simp only [va_cpy]
  split
  · omega
  · rfl
theorem lN_z : (0 : Int64) = lN 0 := rfl
def kHA (f : Nat → Int32) (k o : Nat) : Nat → Int32 := upd f k (nI 1 <<< (nI o &&& 31))
theorem k_u0' {k : Nat} : (fun _ => 0) = upd (fun _ => 0) k (nI 0) := k_u0.symm
theorem k_c10 {o d : Nat} (ho : o < 10) (hd : d < 10) : nI (o * 10 + d) / nI 10 = nI o ∧ nI (o * 10 + d) - nI (o * 10 + d) / nI 10 * nI 10 = nI d :=
  ⟨(pk_div (by omega) (by omega) (by omega)).trans (congrArg nI (by omega)), (pk_rem (by omega) (by omega) (by omega)).trans (congrArg nI (by omega))⟩
def kMu (M : Nat → Nat → Int32) (a b : Nat) (v : Int32) : Nat → Nat → Int32 := fun i => if i = a then upd (M i) b v else M i
theorem kMu0 {a b : Nat} : kMu (fun _ _ => 0) a b 0 = fun _ _ => 0 := funext fun i => by
  unfold kMu
  split
  · exact k_uc
  · rfl
def kSt (u : Nat) : Nat → Int32 := if u < 680 then (fun _ => 0) else upd (fun _ => 0) 0 (nI 3)
def kAk (u : Nat) : Nat := if u < 40 then 1 else if u < 120 then 2 else if u < 240 then 3 else if u < 460 then 4 else 5
/-- the reference's numbers of a fresh object -/
def mF (N : Nat) : Nat → Int64 := fun j => if j = 1 then lN N else if j = 11 then -1 else if 20 ≤ j ∧ j < 40 then -1 else if 40 ≤ j ∧ j < 48 then lN (([60, 1, 2, 5, 10, 2, 20, 3] : List Nat).getD (j - 40) 0) else lN 0
theorem mF_z {N j : Nat} (h : 48 ≤ j) : mF N j = lN 0 := by
  unfold mF
  rw [if_neg (by omega), if_neg (by omega), if_neg (by omega), if_neg (by omega)]
theorem mF_l {N j : Nat} (h1 : 20 ≤ j) (h2 : j < 40) : mF N j = -1 := by
  unfold mF
  rw [if_neg (by omega), if_neg (by omega), if_pos (by omega)]
theorem mF_o {N j : Nat} (h1 : j ≠ 1) (h2 : j ≠ 11) (h3 : j < 20) : mF N j = lN 0 := by
  unfold mF
  rw [if_neg (by omega), if_neg (by omega), if_neg (by omega), if_neg (by omega)]
theorem k_sh6 : ∀ a, a < 64 → lN a >>> ((nI 6).toInt64 &&& 63) = lN 0 := by decide +kernel
theorem k_and127 : lN 0 &&& lN 127 = lN 0 := by decide
theorem k_i2l (x : Int32) : x.toInt64.toInt = x.toInt := by simp
theorem k_i2l_lt {x : Int32} (h : x < 0) : x.toInt64 < lN 0 := by
  rw [Int64.lt_iff_toInt_lt, k_i2l, pk_lT (by decide)]
  have := Int32.lt_iff_toInt_lt.mp h
  simpa using this
theorem k_i2l_ge {x : Int32} {n : Nat} (hn : n < 2 ^ 31) (h : nI n ≤ x) (h0 : 0 < n) : lN (n - 1) < x.toInt64 := by
  rw [Int64.lt_iff_toInt_lt, k_i2l, pk_lT (by omega)]
  have := Int32.le_iff_toInt_le.mp h
  rw [nI_toInt hn] at this
  omega
def mBeg (f : Nat → Int64) (o : Nat) (mk : Int64) : Nat → (Nat → Int64)
  | 0 => f
  | k + 1 => vp_updL (mBeg f o mk k) (4000 + 128 * (10 * k + o)) (mBeg f o mk k (4000 + 128 * (10 * k + o)) &&& mk)
theorem mBeg_out {f : Nat → Int64} {o : Nat} {mk : Int64} (ho : o < 10) {j : Nat} (hj : j < 4000 ∨ 16800 ≤ j) : ∀ k, k ≤ 10 → mBeg f o mk k j = f j
  | 0, _ => rfl
  | k + 1, h => (pk_uLn (by omega)).trans (mBeg_out ho hj k (by omega))
def mUnb (f : Nat → Int64) (b : Nat) : Nat → (Nat → Int64)
  | 0 => f
  | k + 1 => if k = 0 then f else vp_updL (mUnb f b k) (b + k) (mUnb f b k (b + k + 2))
theorem mUnb_s {f : Nat → Int64} {b k : Nat} (h : 1 ≤ k) : vp_updL (mUnb f b k) (b + k) (mUnb f b k (b + k + 2)) = mUnb f b (k + 1) := by
  rw [mUnb, if_neg (by omega)]
theorem mUnb_out {f : Nat → Int64} {b j : Nat} (hj : j ≤ b ∨ b + 7 ≤ j) : ∀ k, k ≤ 7 → mUnb f b k j = f j
  | 0, _ => rfl
  | k + 1, h => by
    rw [mUnb]
    by_cases hk : k = 0
    · rw [if_pos hk]
    · rw [if_neg hk]
      exact (pk_uLn (by omega)).trans (mUnb_out hj k (by omega))
/-- the reference, with packet 0 searched for: a search with its timeout at T, range r, w asks of the diameter; k asks in all -/
def mS (u : Nat → Int64) (N o d t T r w k : Nat) : Prop :=
  u 0 = lN t ∧ u 1 = lN N ∧ (∀ j, 20 ≤ j → j < 40 → u j = -1) ∧ (∀ j, 40 ≤ j → j < 48 → u j = mF N j) ∧ u (60 + o) = lN k ∧ (∀ j, 100 ≤ j → j < 1000 → u j = lN 0) ∧ (∀ q, q < 100 → q ≠ 10 * o + d → u (1000 + 4 * q) = lN 0) ∧ u (1000 + 4 * (10 * o + d)) = lN 1 ∧ u (1000 + 4 * (10 * o + d) + 1) = lN T ∧ u (1000 + 4 * (10 * o + d) + 2) = lN r ∧ u (1000 + 4 * (10 * o + d) + 3) = lN w ∧ u (1400 + 9 * (10 * o + d)) = lN 1 ∧ u (1400 + 9 * (10 * o + d) + 1) = lN 0 ∧ u 2302 = lN 0
/-- what asks writes -/
def mAsk (f u : Nat → Int64) (o d t r k : Nat) : Prop :=
  u (60 + o) = lN (k + 1) ∧ u (1000 + 4 * (10 * o + d) + 1) = lN (t + 20 * (r + 1)) ∧ u (1000 + 4 * (10 * o + d) + 2) = lN r ∧ ∀ j, j ≠ 50 + o → j ≠ 60 + o → j ≠ 1000 + 4 * (10 * o + d) + 1 → j ≠ 1000 + 4 * (10 * o + d) + 2 → (j < 4000 ∨ 16800 ≤ j) → u j = f j
theorem mS_ask {f u : Nat → Int64} {N o d t T r w k t2 r2 : Nat} (ho : o < 10) (hd : d < 10) (h : mS f N o d t T r w k) (ha : mAsk f u o d t2 r2 k) : mS u N o d t (t2 + 20 * (r2 + 1)) r2 w (k + 1) := by
  obtain ⟨a0, a1, a2, a3, a4, a5, a6, a7, a8, a9, a10, a11, a12, a13⟩ := h
  obtain ⟨b1, b2, b3, fr⟩ := ha
  have fr' : ∀ j, j ≠ 50 + o → j ≠ 60 + o → j ≠ 1000 + 4 * (10 * o + d) + 1 → j ≠ 1000 + 4 * (10 * o + d) + 2 → (j < 4000 ∨ 16800 ≤ j) → u j = f j := fr
  refine ⟨(fr 0 (by omega) (by omega) (by omega) (by omega) (by omega)).trans a0, (fr 1 (by omega) (by omega) (by omega) (by omega) (by omega)).trans a1, fun j h1 h2 => (fr j (by omega) (by omega) (by omega) (by omega) (by omega)).trans (a2 j h1 h2), fun j h1 h2 => (fr j (by omega) (by omega) (by omega) (by omega) (by omega)).trans (a3 j h1 h2), b1, fun j h1 h2 => (fr j (by omega) (by omega) (by omega) (by omega) (by omega)).trans (a5 j h1 h2), fun q h1 h2 => (fr _ (by omega) (by omega) (by omega) (by omega) (by omega)).trans (a6 q h1 h2), (fr _ (by omega) (by omega) (by omega) (by omega) (by omega)).trans a7, b2, b3, (fr _ (by omega) (by omega) (by omega) (by omega) (by omega)).trans a10, (fr _ (by omega) (by omega) (by omega) (by omega) (by omega)).trans a11, (fr _ (by omega) (by omega) (by omega) (by omega) (by omega)).trans a12, (fr _ (by omega) (by omega) (by omega) (by omega) (by omega)).trans a13⟩
/-- behind the search's end -/
def mE (u : Nat → Int64) (N t : Nat) : Prop :=
  u 0 = lN t ∧ u 1 = lN N ∧ (∀ j, 20 ≤ j → j < 40 → u j = -1) ∧ (∀ q, q < 100 → u (1000 + 4 * q) = lN 0) ∧ u 2302 = lN 3
