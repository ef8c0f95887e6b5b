/-! ===== methods that always throw ===== -/
theorem kBig_ot {w : Cond} (h : w ∈ kBig) : vx_ot w = true := by
  have h1 := (List.mem_filter.mp h).2
  unfold vx_ot
  rw [h1, Bool.or_true]
theorem x_hgood {L : List Cond} {c1 c2 : Cond} (h1 : c1 ∈ kBig) (h2 : c2 ∈ kBig) (hL : ∀ w ∈ L, vx_ot w = true) : ∀ w ∈ c1 :: c2 :: L, vx_ot w = true := fun w h => by
  rcases List.mem_cons.mp h with rfl | h
  · exact kBig_ot h1
  rcases List.mem_cons.mp h with rfl | h
  · exact kBig_ot h2
  exact hL w h
/-- the throwables' two statics -/
def kZ (A : Nat → Prop) (U : State) (H : Heap) : Prop := vx_Zq Bundle.tN "UNASSIGNED_STACK" Bundle.steD A U H ∧ vx_Zq Bundle.tN "SUPPRESSED_SENTINEL" Bundle.listD A U H
theorem kZ.at {A B : Nat → Prop} {u U : State} {H H1 : Heap} (hvm : u.vm.Alike U.vm) (h : kZ A u H) (hq : ∀ a : Nat, a < H.size → ¬ A a → H1[a]? = H[a]?) (hAB : ∀ q, B q → A q) : kZ B U H1 :=
  ⟨((h.1.moved hvm).kept hq).narrow hAB, ((h.2.moved hvm).kept hq).narrow hAB⟩
/-- the strings, and words that speak of the classes alone -/
def kR (U : State) : Prop := (∃ a, vk_R RX6 217 "out of its range" a U) ∧ (∃ a, vk_R RX6 212 "both nodes are the same" a U) ∧ (∃ a, vk_R RX6 193 "nothing was kept" a U) ∧ va_Nc "java/lang/IllegalArgumentException" "java/lang/IndexOutOfBoundsException" U ∧ va_Nw (.declares (Bundle.initS "java/lang/RuntimeException")) U ∧ va_Nw (.declares (Bundle.initS "java/lang/Exception")) U ∧ va_Nw (.declares (Bundle.initS Bundle.tN)) U ∧ va_Nw (.castable "java/lang/IndexOutOfBoundsException" "java/lang/IndexOutOfBoundsException") U ∧ va_Nw (.castable "java/lang/IllegalArgumentException" "java/lang/IllegalArgumentException") U ∧ va_Nw (.castable "java/lang/IllegalStateException" "java/lang/IllegalStateException") U
theorem kR.warm {u U : State} (hW : u.WarmedH U.vm) (h : kR u) : kR U := by
  obtain ⟨⟨a, h1⟩, ⟨b, h2⟩, ⟨c, h3⟩, h4, g0, g1, g2, g3, g4, g5⟩ := h
  exact ⟨⟨a, vk_R.warm hW h1⟩, ⟨b, vk_R.warm hW h2⟩, ⟨c, vk_R.warm hW h3⟩, h4.moved hW.alike, va_Nw.warmD hW g0, va_Nw.warmD hW g1, va_Nw.warmD hW g2, va_Nw.warmC hW g3, va_Nw.warmC hW g4, va_Nw.warmC hW g5⟩
theorem kR.same {u U : State} (hv : U.vm = u.vm) (h : kR u) : kR U := by
  obtain ⟨⟨a, h1⟩, ⟨b, h2⟩, ⟨c, h3⟩, h4, g0, g1, g2, g3, g4, g5⟩ := h
  exact ⟨⟨a, vk_R.same hv h1⟩, ⟨b, vk_R.same hv h2⟩, ⟨c, vk_R.same hv h3⟩, h4.moved (by rw [hv]; exact Vm.Alike.refl u.vm), va_Nw.same rfl hv.symm g0, va_Nw.same rfl hv.symm g1, va_Nw.same rfl hv.symm g2, va_Nw.same rfl hv.symm g3, va_Nw.same rfl hv.symm g4, va_Nw.same rfl hv.symm g5⟩
def kX (D : va_G) (tys : List (ClassId × FieldType)) (ws : va_W) (sz : Nat) (U : State) : Prop := kP D tys ws sz U ∧ kZ (va_A ws sz) U U.heap ∧ kR U
/-- thrown: the class, and what was kept -/
def kE (E9 : String) (A : Nat → Prop) : String → State → State → Prop := fun E st t => E = E9 ∧ va_F A st t
section KX
variable {p : Program} {l : Launch} {e : Env} {R : Room} {s : State} {m : MethodId} {args : Array Value} {below : List Frame} {meth : Method} {c : Code} {H : Heap} {locs : List Loc} {cells slots : Nat} {Q : State → Prop}
variable {cc : ByteArray} {pc : Nat} {ls : Array Slot} {rest : List Value} {D : va_G} {A : Nat → Prop} {a : Nat} {tys : List (ClassId × FieldType)} {ws : va_W} {H0 : Heap}
theorem kX_blind {av : List Value} {sz : Nat} : FrameBlind (va_Pc av (kX D tys ws sz)) := by
  intro a U g mk q
  obtain ⟨q0, q1, q2, q3⟩ := q
  have h := kP_blind (D := D) (tys := tys) (ws := ws) (av := av) (sz := sz) a U g mk ⟨q0, q1⟩
  exact ⟨h.1, h.2, q2.at (Vm.Alike.refl U.vm) (fun _ _ _ => rfl) (fun _ z => z), kR.same rfl q3⟩
theorem kZ_sub {wc : va_W} {U : State} (hZ : kZ A s s.heap) (hD : va_D A ws) (hS : va_S A s.heap H locs) (hA : ∀ q, s.heap.size ≤ q → A q) (isC : List Nat) (hC : isC.map (fun i => ws[i]?) = wc.map some) (hU : U.heap = H) (hW : s.WarmedH U.vm) : kZ (va_A wc H.size) U U.heap := by
  rw [hU]
  exact hZ.at hW.alike (fun a h1 h2 => hS.2.1 a h1 h2) (fun q h => va_free hD hS hA isC hC q h)
theorem k_preVX {wc : va_W} {b ci : Nat} {C : String} {T : u_T} {N q0 : Nat} {fs : List Value} {As : List Value} (hZ : kZ A s s.heap) (hR : kR s) (hS : va_S A s.heap H locs) (hA : ∀ q, s.heap.size ≤ q → A q) (hP : va_P D vwCl ws H) (hD : va_D A ws) (hK : va_K D vwCl tys s) (hN : kN s) (isC : List Nat) (hC : isC.map (fun i => ws[i]?) = wc.map some) (hn : va_nd isC = true) (hc : vwCl[ci]? = some (C, T, N)) (he : ws[q0]? = some (b, .inr (ci, fs))) : PreV s H C b (va_Pc (.ref b :: As) (kX D tys wc H.size)) As := by
  have h := k_preV (As := As) hP hD hK hN isC hC hn hc he
  exact ⟨kX_blind, h.2.1, fun U hU hW => ⟨(h.2.2 U hU hW).1, (h.2.2 U hU hW).2, kZ_sub hZ hD hS hA isC hC hU hW, kR.warm hW hR⟩⟩
theorem k_preSX {wc : va_W} {As : List Value} (hZ : kZ A s s.heap) (hR : kR s) (hS : va_S A s.heap H locs) (hA : ∀ q, s.heap.size ≤ q → A q) (hP : va_P D vwCl ws H) (hD : va_D A ws) (hK : va_K D vwCl tys s) (hN : kN s) (isC : List Nat) (hC : isC.map (fun i => ws[i]?) = wc.map some) (hn : va_nd isC = true) : PreS s H (va_Pc As (kX D tys wc H.size)) As := by
  have h := k_preS (As := As) hP hD hK hN isC hC hn
  exact ⟨kX_blind, fun U hU hW => ⟨(h.2 U hU hW).1, (h.2 U hU hW).2, kZ_sub hZ hD hS hA isC hC hU hW, kR.warm hW hR⟩⟩
/-- a call that always throws -/
theorem k_cx {mc ms : Nat} {E9 : String} {A1 : Nat → Prop} {st0 : List Value} {wc : va_W} (hr : vx_Run p l e R s m args below meth c H locs cells slots mc ms (F0 m pc ls st0) rest (fun _ _ _ => False) (kE E9 (va_A wc H.size)) (va_A wc H.size)) (hD : va_D A ws) (hS : va_S A H0 H locs) (hA : ∀ q, H0.size ≤ q → A q) (isC : List Nat) (hC : isC.map (fun i => ws[i]?) = wc.map some)
    (kx : ∀ (ce : Cell) (q9 : Addr) (H1 : Heap) (locs1 : List Loc), H.size ≤ H1.size → (∀ q : Nat, q < H.size → ¬ va_A wc H.size q → H1[q]? = H[q]?) → va_S A H0 H1 locs1 → H1[q9]? = some ce → ce.vm = .none → s.vm.findClass E9 = some ce.cls → vx_W p l e R s m args below meth c H1 locs1 (cells + mc) (slots + ms) Q (F0 m pc ls rest) q9) : W p l e R s m args below meth c H locs cells slots Q (F0 m pc ls st0) := by
  have hF := va_free hD hS hA isC hC
  intro T hT X
  rcases hr T hT X with ⟨v, st₀, t, T', L, h0, X', hL, e1, e2, hq, st⟩ | ⟨q, st₀, t, T', L, E, ce, h0, X', hL, e1, e2, ⟨rfl, hFr⟩, hce, hcv, hcl, st⟩
  · exact hq.elim
  · obtain ⟨k1, k2, k3⟩ := vx_keep h0 e1 hS (fun q _ h => hF q h) hF hL hFr
    obtain ⟨t2, a1, b1⟩ := kx ce q T'.heap (locs ++ L) k1 k2 k3 (by rw [e1]; exact hce) hcv hcl T' rfl X'
    exact ⟨t2, st.trans a1, b1⟩
theorem kE_of {E9 : String} (hS : va_S A s.heap H locs) {t : State} (ht : t.heap = H) : kE E9 A E9 s t := ⟨rfl, by rw [ht]; exact hS.1, fun q h1 h2 => by rw [ht]; exact hS.2.1 q h1 h2⟩
/-- .. and goes on to the caller -/
theorem k_xr {mc ms mc' ms' : Nat} {E9 : String} {st0 : List Value} {wc : va_W} (hr : vx_Run p l e R s m args below meth c H locs cells slots mc ms (F0 m pc ls st0) rest (fun _ _ _ => False) (kE E9 (va_A wc H.size)) (va_A wc H.size)) (hD : va_D A ws) (hS : va_S A s.heap H locs) (hA : ∀ q, s.heap.size ≤ q → A q) (isC : List Nat) (hC : isC.map (fun i => ws[i]?) = wc.map some)
    (hout : ∀ x ∈ c.exceptionTable.toList, False) (hlocks : meth.locks = false) (hc : cells + mc ≤ mc') (hs : slots + ms ≤ ms') : W p l e R s m args below meth c H locs cells slots (vx_MQ below (fun _ _ _ _ => False) (kE E9 A) args s mc' ms' A) (F0 m pc ls st0) :=
  k_cx (A1 := A) hr hD hS hA isC hC fun ce q9 H1 locs1 h1 h2 hS1 hce hcv hcl => vx_out (fun x hx => (hout x hx).elim) hlocks hce hcv hcl (fun t ht _ => kE_of hS1 ht) hS1.2.2 hc hs
theorem k_xhx {E9 : String} (hS : va_S A s.heap H locs) : ∀ t : State, s.vm.Alike t.vm → H.size ≤ t.heap.size → (∀ q : Nat, q < H.size → t.heap[q]? = H[q]?) → kE E9 A E9 s t := fun t _ h1 h2 =>
  ⟨rfl, Nat.le_trans hS.1 h1, fun q h3 h4 => (h2 q (Nat.lt_of_lt_of_le h3 hS.1)).trans (hS.2.1 q h3 h4)⟩
end KX
theorem xw_0 : (.initialized Bundle.tN : Cond) ∈ kBig := List.mem_filter.mpr ⟨(show (.initialized Bundle.tN : Cond) ∈ k2_sels lw_privs ++ (tables_1_1 ++ (tables_1_2 ++ (tables_1_3 ++ (tables_1_4 ++ (tables_1_5 ++ tables_1_6))))) from (List.mem_append_right _ (List.mem_append_left _ (List.mem_of_getElem? (i := 11) (by first | rfl | decide +kernel))))), by first | rfl | decide +kernel⟩
theorem xw_1 : (.superclass Bundle.tN "java/lang/Object" : Cond) ∈ kBig := List.mem_filter.mpr ⟨(show (.superclass Bundle.tN "java/lang/Object" : Cond) ∈ k2_sels lw_privs ++ (tables_1_1 ++ (tables_1_2 ++ (tables_1_3 ++ (tables_1_4 ++ (tables_1_5 ++ tables_1_6))))) from (List.mem_append_right _ (List.mem_append_right _ (List.mem_append_right _ (List.mem_append_left _ (List.mem_of_getElem? (i := 194) (by first | rfl | decide +kernel))))))), by first | rfl | decide +kernel⟩
theorem xw_2 : (.instanceMethod Bundle.tFill : Cond) ∈ kBig := List.mem_filter.mpr ⟨(show (.instanceMethod Bundle.tFill : Cond) ∈ k2_sels lw_privs ++ (tables_1_1 ++ (tables_1_2 ++ (tables_1_3 ++ (tables_1_4 ++ (tables_1_5 ++ tables_1_6))))) from (List.mem_append_right _ (List.mem_append_right _ (List.mem_append_right _ (List.mem_append_left _ (List.mem_of_getElem? (i := 203) (by first | rfl | decide +kernel))))))), by first | rfl | decide +kernel⟩
theorem xw_3 : (.codeSync Bundle.tFill LibCode.Throwable.Fill.code 1 (some (.object Bundle.tN)) : Cond) ∈ kBig := List.mem_filter.mpr ⟨(show (.codeSync Bundle.tFill LibCode.Throwable.Fill.code 1 (some (.object Bundle.tN)) : Cond) ∈ k2_sels lw_privs ++ (tables_1_1 ++ (tables_1_2 ++ (tables_1_3 ++ (tables_1_4 ++ (tables_1_5 ++ tables_1_6))))) from (List.mem_append_right _ (List.mem_append_right _ (List.mem_append_right _ (List.mem_append_left _ (List.mem_of_getElem? (i := 207) (by first | rfl | decide +kernel))))))), by first | rfl | decide +kernel⟩
theorem xw_4 : (.instanceMethod Bundle.tFill0 : Cond) ∈ kBig := List.mem_filter.mpr ⟨(show (.instanceMethod Bundle.tFill0 : Cond) ∈ k2_sels lw_privs ++ (tables_1_1 ++ (tables_1_2 ++ (tables_1_3 ++ (tables_1_4 ++ (tables_1_5 ++ tables_1_6))))) from (List.mem_append_right _ (List.mem_append_right _ (List.mem_append_right _ (List.mem_append_left _ (List.mem_of_getElem? (i := 210) (by first | rfl | decide +kernel))))))), by first | rfl | decide +kernel⟩
theorem xw_5 : (.native Bundle.tFill0 : Cond) ∈ kBig := List.mem_filter.mpr ⟨(show (.native Bundle.tFill0 : Cond) ∈ k2_sels lw_privs ++ (tables_1_1 ++ (tables_1_2 ++ (tables_1_3 ++ (tables_1_4 ++ (tables_1_5 ++ tables_1_6))))) from (List.mem_append_right _ (List.mem_append_right _ (List.mem_append_right _ (List.mem_append_left _ (List.mem_of_getElem? (i := 212) (by first | rfl | decide +kernel))))))), by first | rfl | decide +kernel⟩
theorem xw_6 : (.instanceMethod Bundle.tInit0 : Cond) ∈ kBig := List.mem_filter.mpr ⟨(show (.instanceMethod Bundle.tInit0 : Cond) ∈ k2_sels lw_privs ++ (tables_1_1 ++ (tables_1_2 ++ (tables_1_3 ++ (tables_1_4 ++ (tables_1_5 ++ tables_1_6))))) from (List.mem_append_right _ (List.mem_append_right _ (List.mem_append_right _ (List.mem_append_left _ (List.mem_of_getElem? (i := 195) (by first | rfl | decide +kernel))))))), by first | rfl | decide +kernel⟩
theorem xw_7 : (.code Bundle.tInit0 LibCode.Throwable.Init0.code 1 none : Cond) ∈ kBig := List.mem_filter.mpr ⟨(show (.code Bundle.tInit0 LibCode.Throwable.Init0.code 1 none : Cond) ∈ k2_sels lw_privs ++ (tables_1_1 ++ (tables_1_2 ++ (tables_1_3 ++ (tables_1_4 ++ (tables_1_5 ++ tables_1_6))))) from (List.mem_append_right _ (List.mem_append_right _ (List.mem_append_right _ (List.mem_append_left _ (List.mem_of_getElem? (i := 196) (by first | rfl | decide +kernel))))))), by first | rfl | decide +kernel⟩
theorem xw_8 : (.instanceMethod Bundle.oInit : Cond) ∈ kBig := List.mem_filter.mpr ⟨(show (.instanceMethod Bundle.oInit : Cond) ∈ k2_sels lw_privs ++ (tables_1_1 ++ (tables_1_2 ++ (tables_1_3 ++ (tables_1_4 ++ (tables_1_5 ++ tables_1_6))))) from (List.mem_append_right _ (List.mem_append_left _ (List.mem_of_getElem? (i := 24) (by first | rfl | decide +kernel))))), by first | rfl | decide +kernel⟩
theorem xw_9 : (.code Bundle.oInit ⟨#[0xb1]⟩ 1 none : Cond) ∈ kBig := List.mem_filter.mpr ⟨(show (.code Bundle.oInit ⟨#[0xb1]⟩ 1 none : Cond) ∈ k2_sels lw_privs ++ (tables_1_1 ++ (tables_1_2 ++ (tables_1_3 ++ (tables_1_4 ++ (tables_1_5 ++ tables_1_6))))) from (List.mem_append_right _ (List.mem_append_left _ (List.mem_of_getElem? (i := 25) (by first | rfl | decide +kernel))))), by first | rfl | decide +kernel⟩
theorem xw_10 : (.methodLink Bundle.tN 1 Bundle.oInit : Cond) ∈ kBig := List.mem_filter.mpr ⟨(show (.methodLink Bundle.tN 1 Bundle.oInit : Cond) ∈ k2_sels lw_privs ++ (tables_1_1 ++ (tables_1_2 ++ (tables_1_3 ++ (tables_1_4 ++ (tables_1_5 ++ tables_1_6))))) from (List.mem_append_right _ (List.mem_append_right _ (List.mem_append_right _ (List.mem_append_left _ (List.mem_of_getElem? (i := 197) (by first | rfl | decide +kernel))))))), by first | rfl | decide +kernel⟩
theorem xw_11 : (.methodLink Bundle.tN 27 Bundle.tFill : Cond) ∈ kBig := List.mem_filter.mpr ⟨(show (.methodLink Bundle.tN 27 Bundle.tFill : Cond) ∈ k2_sels lw_privs ++ (tables_1_1 ++ (tables_1_2 ++ (tables_1_3 ++ (tables_1_4 ++ (tables_1_5 ++ tables_1_6))))) from (List.mem_append_right _ (List.mem_append_right _ (List.mem_append_right _ (List.mem_append_left _ (List.mem_of_getElem? (i := 202) (by first | rfl | decide +kernel))))))), by first | rfl | decide +kernel⟩
theorem xw_12 : (.methodLink Bundle.tN 202 Bundle.tFill0 : Cond) ∈ kBig := List.mem_filter.mpr ⟨(show (.methodLink Bundle.tN 202 Bundle.tFill0 : Cond) ∈ k2_sels lw_privs ++ (tables_1_1 ++ (tables_1_2 ++ (tables_1_3 ++ (tables_1_4 ++ (tables_1_5 ++ tables_1_6))))) from (List.mem_append_right _ (List.mem_append_right _ (List.mem_append_right _ (List.mem_append_left _ (List.mem_of_getElem? (i := 208) (by first | rfl | decide +kernel))))))), by first | rfl | decide +kernel⟩
theorem xw_13 : (.fieldLink Bundle.tN 7 Bundle.tN "cause" "Ljava/lang/Throwable;" : Cond) ∈ kBig := List.mem_filter.mpr ⟨(show (.fieldLink Bundle.tN 7 Bundle.tN "cause" "Ljava/lang/Throwable;" : Cond) ∈ k2_sels lw_privs ++ (tables_1_1 ++ (tables_1_2 ++ (tables_1_3 ++ (tables_1_4 ++ (tables_1_5 ++ tables_1_6))))) from (List.mem_append_right _ (List.mem_append_right _ (List.mem_append_right _ (List.mem_append_left _ (List.mem_of_getElem? (i := 228) (by first | rfl | decide +kernel))))))), by first | rfl | decide +kernel⟩
theorem xw_14 : (.lays Bundle.tN Bundle.tN "cause" "Ljava/lang/Throwable;" : Cond) ∈ kBig := List.mem_filter.mpr ⟨(show (.lays Bundle.tN Bundle.tN "cause" "Ljava/lang/Throwable;" : Cond) ∈ k2_sels lw_privs ++ (tables_1_1 ++ (tables_1_2 ++ (tables_1_3 ++ (tables_1_4 ++ (tables_1_5 ++ tables_1_6))))) from (List.mem_append_right _ (List.mem_append_right _ (List.mem_append_right _ (List.mem_append_left _ (List.mem_of_getElem? (i := 184) (by first | rfl | decide +kernel))))))), by first | rfl | decide +kernel⟩
theorem xw_15 : (.fieldLink Bundle.tN 17 Bundle.tN "stackTrace" Bundle.steD : Cond) ∈ kBig := List.mem_filter.mpr ⟨(show (.fieldLink Bundle.tN 17 Bundle.tN "stackTrace" Bundle.steD : Cond) ∈ k2_sels lw_privs ++ (tables_1_1 ++ (tables_1_2 ++ (tables_1_3 ++ (tables_1_4 ++ (tables_1_5 ++ tables_1_6))))) from (List.mem_append_right _ (List.mem_append_right _ (List.mem_append_right _ (List.mem_append_left _ (List.mem_of_getElem? (i := 229) (by first | rfl | decide +kernel))))))), by first | rfl | decide +kernel⟩
theorem xw_16 : (.lays Bundle.tN Bundle.tN "stackTrace" Bundle.steD : Cond) ∈ kBig := List.mem_filter.mpr ⟨(show (.lays Bundle.tN Bundle.tN "stackTrace" Bundle.steD : Cond) ∈ k2_sels lw_privs ++ (tables_1_1 ++ (tables_1_2 ++ (tables_1_3 ++ (tables_1_4 ++ (tables_1_5 ++ tables_1_6))))) from (List.mem_append_right _ (List.mem_append_right _ (List.mem_append_right _ (List.mem_append_left _ (List.mem_of_getElem? (i := 186) (by first | rfl | decide +kernel))))))), by first | rfl | decide +kernel⟩
theorem xw_17 : (.fieldLink Bundle.tN 24 Bundle.tN "suppressedExceptions" Bundle.listD : Cond) ∈ kBig := List.mem_filter.mpr ⟨(show (.fieldLink Bundle.tN 24 Bundle.tN "suppressedExceptions" Bundle.listD : Cond) ∈ k2_sels lw_privs ++ (tables_1_1 ++ (tables_1_2 ++ (tables_1_3 ++ (tables_1_4 ++ (tables_1_5 ++ tables_1_6))))) from (List.mem_append_right _ (List.mem_append_right _ (List.mem_append_right _ (List.mem_append_left _ (List.mem_of_getElem? (i := 230) (by first | rfl | decide +kernel))))))), by first | rfl | decide +kernel⟩
theorem xw_18 : (.lays Bundle.tN Bundle.tN "suppressedExceptions" Bundle.listD : Cond) ∈ kBig := List.mem_filter.mpr ⟨(show (.lays Bundle.tN Bundle.tN "suppressedExceptions" Bundle.listD : Cond) ∈ k2_sels lw_privs ++ (tables_1_1 ++ (tables_1_2 ++ (tables_1_3 ++ (tables_1_4 ++ (tables_1_5 ++ tables_1_6))))) from (List.mem_append_right _ (List.mem_append_right _ (List.mem_append_right _ (List.mem_append_left _ (List.mem_of_getElem? (i := 188) (by first | rfl | decide +kernel))))))), by first | rfl | decide +kernel⟩
theorem xw_19 : (.fieldLink Bundle.tN 13 Bundle.tN "UNASSIGNED_STACK" Bundle.steD : Cond) ∈ kBig := List.mem_filter.mpr ⟨(show (.fieldLink Bundle.tN 13 Bundle.tN "UNASSIGNED_STACK" Bundle.steD : Cond) ∈ k2_sels lw_privs ++ (tables_1_1 ++ (tables_1_2 ++ (tables_1_3 ++ (tables_1_4 ++ (tables_1_5 ++ tables_1_6))))) from (List.mem_append_right _ (List.mem_append_right _ (List.mem_append_right _ (List.mem_append_left _ (List.mem_of_getElem? (i := 198) (by first | rfl | decide +kernel))))))), by first | rfl | decide +kernel⟩
theorem xw_20 : (.fieldLink Bundle.tN 20 Bundle.tN "SUPPRESSED_SENTINEL" Bundle.listD : Cond) ∈ kBig := List.mem_filter.mpr ⟨(show (.fieldLink Bundle.tN 20 Bundle.tN "SUPPRESSED_SENTINEL" Bundle.listD : Cond) ∈ k2_sels lw_privs ++ (tables_1_1 ++ (tables_1_2 ++ (tables_1_3 ++ (tables_1_4 ++ (tables_1_5 ++ tables_1_6))))) from (List.mem_append_right _ (List.mem_append_right _ (List.mem_append_right _ (List.mem_append_left _ (List.mem_of_getElem? (i := 200) (by first | rfl | decide +kernel))))))), by first | rfl | decide +kernel⟩
theorem xw_21 : (.lays Bundle.tN Bundle.tN "detailMessage" "Ljava/lang/String;" : Cond) ∈ kBig := List.mem_filter.mpr ⟨(show (.lays Bundle.tN Bundle.tN "detailMessage" "Ljava/lang/String;" : Cond) ∈ k2_sels lw_privs ++ (tables_1_1 ++ (tables_1_2 ++ (tables_1_3 ++ (tables_1_4 ++ (tables_1_5 ++ tables_1_6))))) from (List.mem_append_right _ (List.mem_append_right _ (List.mem_append_right _ (List.mem_append_left _ (List.mem_of_getElem? (i := 190) (by first | rfl | decide +kernel))))))), by first | rfl | decide +kernel⟩
theorem xw_22 : (.instanceMethod (Bundle.initS Bundle.tN) : Cond) ∈ kBig := List.mem_filter.mpr ⟨(show (.instanceMethod (Bundle.initS Bundle.tN) : Cond) ∈ k2_sels lw_privs ++ (tables_1_1 ++ (tables_1_2 ++ (tables_1_3 ++ (tables_1_4 ++ (tables_1_5 ++ tables_1_6))))) from (List.mem_append_right _ (List.mem_append_right _ (List.mem_append_right _ (List.mem_append_left _ (List.mem_of_getElem? (i := 224) (by first | rfl | decide +kernel))))))), by first | rfl | decide +kernel⟩
theorem xw_23 : (.code (Bundle.initS Bundle.tN) LibCode.Throwable.InitS.code 2 none : Cond) ∈ kBig := List.mem_filter.mpr ⟨(show (.code (Bundle.initS Bundle.tN) LibCode.Throwable.InitS.code 2 none : Cond) ∈ k2_sels lw_privs ++ (tables_1_1 ++ (tables_1_2 ++ (tables_1_3 ++ (tables_1_4 ++ (tables_1_5 ++ tables_1_6))))) from (List.mem_append_right _ (List.mem_append_right _ (List.mem_append_right _ (List.mem_append_left _ (List.mem_of_getElem? (i := 225) (by first | rfl | decide +kernel))))))), by first | rfl | decide +kernel⟩
theorem xw_24 : (.fieldLink Bundle.tN 31 Bundle.tN "detailMessage" "Ljava/lang/String;" : Cond) ∈ kBig := List.mem_filter.mpr ⟨(show (.fieldLink Bundle.tN 31 Bundle.tN "detailMessage" "Ljava/lang/String;" : Cond) ∈ k2_sels lw_privs ++ (tables_1_1 ++ (tables_1_2 ++ (tables_1_3 ++ (tables_1_4 ++ (tables_1_5 ++ tables_1_6))))) from (List.mem_append_right _ (List.mem_append_right _ (List.mem_append_right _ (List.mem_append_left _ (List.mem_of_getElem? (i := 227) (by first | rfl | decide +kernel))))))), by first | rfl | decide +kernel⟩
theorem xw_25 : (.instanceMethod (Bundle.initS "java/lang/IndexOutOfBoundsException") : Cond) ∈ kBig := List.mem_filter.mpr ⟨(show (.instanceMethod (Bundle.initS "java/lang/IndexOutOfBoundsException") : Cond) ∈ k2_sels lw_privs ++ (tables_1_1 ++ (tables_1_2 ++ (tables_1_3 ++ (tables_1_4 ++ (tables_1_5 ++ tables_1_6))))) from (List.mem_append_right _ (List.mem_append_right _ (List.mem_append_right _ (List.mem_append_left _ (List.mem_of_getElem? (i := 215) (by first | rfl | decide +kernel))))))), by first | rfl | decide +kernel⟩
theorem xw_26 : (.code (Bundle.initS "java/lang/IndexOutOfBoundsException") Bundle.six 2 none : Cond) ∈ kBig := List.mem_filter.mpr ⟨(show (.code (Bundle.initS "java/lang/IndexOutOfBoundsException") Bundle.six 2 none : Cond) ∈ k2_sels lw_privs ++ (tables_1_1 ++ (tables_1_2 ++ (tables_1_3 ++ (tables_1_4 ++ (tables_1_5 ++ tables_1_6))))) from (List.mem_append_right _ (List.mem_append_right _ (List.mem_append_right _ (List.mem_append_left _ (List.mem_of_getElem? (i := 216) (by first | rfl | decide +kernel))))))), by first | rfl | decide +kernel⟩
theorem xw_27 : (.methodLink "java/lang/IndexOutOfBoundsException" 7 (Bundle.initS "java/lang/RuntimeException") : Cond) ∈ kBig := List.mem_filter.mpr ⟨(show (.methodLink "java/lang/IndexOutOfBoundsException" 7 (Bundle.initS "java/lang/RuntimeException") : Cond) ∈ k2_sels lw_privs ++ (tables_1_1 ++ (tables_1_2 ++ (tables_1_3 ++ (tables_1_4 ++ (tables_1_5 ++ tables_1_6))))) from (List.mem_append_right _ (List.mem_append_right _ (List.mem_append_right _ (List.mem_append_left _ (List.mem_of_getElem? (i := 217) (by first | rfl | decide +kernel))))))), by first | rfl | decide +kernel⟩
theorem xw_28 : (.instanceMethod (Bundle.initS "java/lang/RuntimeException") : Cond) ∈ kBig := List.mem_filter.mpr ⟨(show (.instanceMethod (Bundle.initS "java/lang/RuntimeException") : Cond) ∈ k2_sels lw_privs ++ (tables_1_1 ++ (tables_1_2 ++ (tables_1_3 ++ (tables_1_4 ++ (tables_1_5 ++ tables_1_6))))) from (List.mem_append_right _ (List.mem_append_right _ (List.mem_append_right _ (List.mem_append_left _ (List.mem_of_getElem? (i := 218) (by first | rfl | decide +kernel))))))), by first | rfl | decide +kernel⟩
theorem xw_29 : (.code (Bundle.initS "java/lang/RuntimeException") Bundle.six 2 none : Cond) ∈ kBig := List.mem_filter.mpr ⟨(show (.code (Bundle.initS "java/lang/RuntimeException") Bundle.six 2 none : Cond) ∈ k2_sels lw_privs ++ (tables_1_1 ++ (tables_1_2 ++ (tables_1_3 ++ (tables_1_4 ++ (tables_1_5 ++ tables_1_6))))) from (List.mem_append_right _ (List.mem_append_right _ (List.mem_append_right _ (List.mem_append_left _ (List.mem_of_getElem? (i := 219) (by first | rfl | decide +kernel))))))), by first | rfl | decide +kernel⟩
theorem xw_30 : (.methodLink "java/lang/RuntimeException" 7 (Bundle.initS "java/lang/Exception") : Cond) ∈ kBig := List.mem_filter.mpr ⟨(show (.methodLink "java/lang/RuntimeException" 7 (Bundle.initS "java/lang/Exception") : Cond) ∈ k2_sels lw_privs ++ (tables_1_1 ++ (tables_1_2 ++ (tables_1_3 ++ (tables_1_4 ++ (tables_1_5 ++ tables_1_6))))) from (List.mem_append_right _ (List.mem_append_right _ (List.mem_append_right _ (List.mem_append_left _ (List.mem_of_getElem? (i := 220) (by first | rfl | decide +kernel))))))), by first | rfl | decide +kernel⟩
theorem xw_31 : (.instanceMethod (Bundle.initS "java/lang/Exception") : Cond) ∈ kBig := List.mem_filter.mpr ⟨(show (.instanceMethod (Bundle.initS "java/lang/Exception") : Cond) ∈ k2_sels lw_privs ++ (tables_1_1 ++ (tables_1_2 ++ (tables_1_3 ++ (tables_1_4 ++ (tables_1_5 ++ tables_1_6))))) from (List.mem_append_right _ (List.mem_append_right _ (List.mem_append_right _ (List.mem_append_left _ (List.mem_of_getElem? (i := 221) (by first | rfl | decide +kernel))))))), by first | rfl | decide +kernel⟩
theorem xw_32 : (.code (Bundle.initS "java/lang/Exception") Bundle.six 2 none : Cond) ∈ kBig := List.mem_filter.mpr ⟨(show (.code (Bundle.initS "java/lang/Exception") Bundle.six 2 none : Cond) ∈ k2_sels lw_privs ++ (tables_1_1 ++ (tables_1_2 ++ (tables_1_3 ++ (tables_1_4 ++ (tables_1_5 ++ tables_1_6))))) from (List.mem_append_right _ (List.mem_append_right _ (List.mem_append_right _ (List.mem_append_left _ (List.mem_of_getElem? (i := 222) (by first | rfl | decide +kernel))))))), by first | rfl | decide +kernel⟩
theorem xw_33 : (.methodLink "java/lang/Exception" 7 (Bundle.initS Bundle.tN) : Cond) ∈ kBig := List.mem_filter.mpr ⟨(show (.methodLink "java/lang/Exception" 7 (Bundle.initS Bundle.tN) : Cond) ∈ k2_sels lw_privs ++ (tables_1_1 ++ (tables_1_2 ++ (tables_1_3 ++ (tables_1_4 ++ (tables_1_5 ++ tables_1_6))))) from (List.mem_append_right _ (List.mem_append_right _ (List.mem_append_right _ (List.mem_append_left _ (List.mem_of_getElem? (i := 223) (by first | rfl | decide +kernel))))))), by first | rfl | decide +kernel⟩
theorem xw_34 : (.methodLink RX6 219 (Bundle.initS "java/lang/IndexOutOfBoundsException") : Cond) ∈ kBig := List.mem_filter.mpr ⟨(show (.methodLink RX6 219 (Bundle.initS "java/lang/IndexOutOfBoundsException") : Cond) ∈ k2_sels lw_privs ++ (tables_1_1 ++ (tables_1_2 ++ (tables_1_3 ++ (tables_1_4 ++ (tables_1_5 ++ tables_1_6))))) from (List.mem_append_right _ (List.mem_append_right _ (List.mem_append_right _ (List.mem_append_left _ (List.mem_of_getElem? (i := 214) (by first | rfl | decide +kernel))))))), by first | rfl | decide +kernel⟩
theorem xw_35 : (.instantiable "java/lang/IndexOutOfBoundsException" 6 : Cond) ∈ kBig := List.mem_filter.mpr ⟨(show (.instantiable "java/lang/IndexOutOfBoundsException" 6 : Cond) ∈ k2_sels lw_privs ++ (tables_1_1 ++ (tables_1_2 ++ (tables_1_3 ++ (tables_1_4 ++ (tables_1_5 ++ tables_1_6))))) from (List.mem_append_right _ (List.mem_append_right _ (List.mem_append_right _ (List.mem_append_left _ (List.mem_of_getElem? (i := 173) (by first | rfl | decide +kernel))))))), by first | rfl | decide +kernel⟩
theorem xw_36 : (.selects "java/lang/IndexOutOfBoundsException" Bundle.tFill0 Bundle.tFill0 : Cond) ∈ kBig := List.mem_filter.mpr ⟨(show (.selects "java/lang/IndexOutOfBoundsException" Bundle.tFill0 Bundle.tFill0 : Cond) ∈ k2_sels lw_privs ++ (tables_1_1 ++ (tables_1_2 ++ (tables_1_3 ++ (tables_1_4 ++ (tables_1_5 ++ tables_1_6))))) from (List.mem_append_right _ (List.mem_append_right _ (List.mem_append_right _ (List.mem_append_left _ (List.mem_of_getElem? (i := 181) (by first | rfl | decide +kernel))))))), by first | rfl | decide +kernel⟩
theorem xw_37 : (.selects "java/lang/IndexOutOfBoundsException" Bundle.tFill Bundle.tFill : Cond) ∈ kBig := List.mem_filter.mpr ⟨(show (.selects "java/lang/IndexOutOfBoundsException" Bundle.tFill Bundle.tFill : Cond) ∈ k2_sels lw_privs ++ (tables_1_1 ++ (tables_1_2 ++ (tables_1_3 ++ (tables_1_4 ++ (tables_1_5 ++ tables_1_6))))) from (List.mem_append_right _ (List.mem_append_right _ (List.mem_append_right _ (List.mem_append_left _ (List.mem_of_getElem? (i := 182) (by first | rfl | decide +kernel))))))), by first | rfl | decide +kernel⟩
theorem xw_38 : (.lays "java/lang/IndexOutOfBoundsException" Bundle.tN "cause" "Ljava/lang/Throwable;" : Cond) ∈ kBig := List.mem_filter.mpr ⟨(show (.lays "java/lang/IndexOutOfBoundsException" Bundle.tN "cause" "Ljava/lang/Throwable;" : Cond) ∈ k2_sels lw_privs ++ (tables_1_1 ++ (tables_1_2 ++ (tables_1_3 ++ (tables_1_4 ++ (tables_1_5 ++ tables_1_6))))) from (List.mem_append_right _ (List.mem_append_right _ (List.mem_append_right _ (List.mem_append_left _ (List.mem_of_getElem? (i := 183) (by first | rfl | decide +kernel))))))), by first | rfl | decide +kernel⟩
theorem xw_39 : (.lays "java/lang/IndexOutOfBoundsException" Bundle.tN "stackTrace" Bundle.steD : Cond) ∈ kBig := List.mem_filter.mpr ⟨(show (.lays "java/lang/IndexOutOfBoundsException" Bundle.tN "stackTrace" Bundle.steD : Cond) ∈ k2_sels lw_privs ++ (tables_1_1 ++ (tables_1_2 ++ (tables_1_3 ++ (tables_1_4 ++ (tables_1_5 ++ tables_1_6))))) from (List.mem_append_right _ (List.mem_append_right _ (List.mem_append_right _ (List.mem_append_left _ (List.mem_of_getElem? (i := 185) (by first | rfl | decide +kernel))))))), by first | rfl | decide +kernel⟩
theorem xw_40 : (.lays "java/lang/IndexOutOfBoundsException" Bundle.tN "suppressedExceptions" Bundle.listD : Cond) ∈ kBig := List.mem_filter.mpr ⟨(show (.lays "java/lang/IndexOutOfBoundsException" Bundle.tN "suppressedExceptions" Bundle.listD : Cond) ∈ k2_sels lw_privs ++ (tables_1_1 ++ (tables_1_2 ++ (tables_1_3 ++ (tables_1_4 ++ (tables_1_5 ++ tables_1_6))))) from (List.mem_append_right _ (List.mem_append_right _ (List.mem_append_right _ (List.mem_append_left _ (List.mem_of_getElem? (i := 187) (by first | rfl | decide +kernel))))))), by first | rfl | decide +kernel⟩
theorem xw_41 : (.lays "java/lang/IndexOutOfBoundsException" Bundle.tN "detailMessage" "Ljava/lang/String;" : Cond) ∈ kBig := List.mem_filter.mpr ⟨(show (.lays "java/lang/IndexOutOfBoundsException" Bundle.tN "detailMessage" "Ljava/lang/String;" : Cond) ∈ k2_sels lw_privs ++ (tables_1_1 ++ (tables_1_2 ++ (tables_1_3 ++ (tables_1_4 ++ (tables_1_5 ++ tables_1_6))))) from (List.mem_append_right _ (List.mem_append_right _ (List.mem_append_right _ (List.mem_append_left _ (List.mem_of_getElem? (i := 189) (by first | rfl | decide +kernel))))))), by first | rfl | decide +kernel⟩
theorem xw_42 : (.fieldLink Bundle.tN 198 Bundle.tN "backtrace" "Ljava/lang/Object;" : Cond) ∈ kBig := List.mem_filter.mpr ⟨(show (.fieldLink Bundle.tN 198 Bundle.tN "backtrace" "Ljava/lang/Object;" : Cond) ∈ k2_sels lw_privs ++ (tables_1_1 ++ (tables_1_2 ++ (tables_1_3 ++ (tables_1_4 ++ (tables_1_5 ++ tables_1_6))))) from (List.mem_append_right _ (List.mem_append_right _ (List.mem_append_right _ (List.mem_append_left _ (List.mem_of_getElem? (i := 193) (by first | rfl | decide +kernel))))))), by first | rfl | decide +kernel⟩
theorem xw_43 : (.lays Bundle.tN Bundle.tN "backtrace" "Ljava/lang/Object;" : Cond) ∈ kBig := List.mem_filter.mpr ⟨(show (.lays Bundle.tN Bundle.tN "backtrace" "Ljava/lang/Object;" : Cond) ∈ k2_sels lw_privs ++ (tables_1_1 ++ (tables_1_2 ++ (tables_1_3 ++ (tables_1_4 ++ (tables_1_5 ++ tables_1_6))))) from (List.mem_append_right _ (List.mem_append_right _ (List.mem_append_right _ (List.mem_append_left _ (List.mem_of_getElem? (i := 192) (by first | rfl | decide +kernel))))))), by first | rfl | decide +kernel⟩
theorem xw_44 : (.lays "java/lang/IndexOutOfBoundsException" Bundle.tN "backtrace" "Ljava/lang/Object;" : Cond) ∈ kBig := List.mem_filter.mpr ⟨(show (.lays "java/lang/IndexOutOfBoundsException" Bundle.tN "backtrace" "Ljava/lang/Object;" : Cond) ∈ k2_sels lw_privs ++ (tables_1_1 ++ (tables_1_2 ++ (tables_1_3 ++ (tables_1_4 ++ (tables_1_5 ++ tables_1_6))))) from (List.mem_append_right _ (List.mem_append_right _ (List.mem_append_right _ (List.mem_append_left _ (List.mem_of_getElem? (i := 191) (by first | rfl | decide +kernel))))))), by first | rfl | decide +kernel⟩
theorem xw_45 : (.instanceMethod (Bundle.initS "java/lang/IllegalArgumentException") : Cond) ∈ kBig := List.mem_filter.mpr ⟨(show (.instanceMethod (Bundle.initS "java/lang/IllegalArgumentException") : Cond) ∈ k2_sels lw_privs ++ (tables_1_1 ++ (tables_1_2 ++ (tables_1_3 ++ (tables_1_4 ++ (tables_1_5 ++ tables_1_6))))) from (List.mem_append_right _ (List.mem_append_right _ (List.mem_append_right _ (List.mem_append_right _ (List.mem_append_left _ (List.mem_of_getElem? (i := 11) (by first | rfl | decide +kernel)))))))), by first | rfl | decide +kernel⟩
theorem xw_46 : (.code (Bundle.initS "java/lang/IllegalArgumentException") Bundle.six 2 none : Cond) ∈ kBig := List.mem_filter.mpr ⟨(show (.code (Bundle.initS "java/lang/IllegalArgumentException") Bundle.six 2 none : Cond) ∈ k2_sels lw_privs ++ (tables_1_1 ++ (tables_1_2 ++ (tables_1_3 ++ (tables_1_4 ++ (tables_1_5 ++ tables_1_6))))) from (List.mem_append_right _ (List.mem_append_right _ (List.mem_append_right _ (List.mem_append_right _ (List.mem_append_left _ (List.mem_of_getElem? (i := 12) (by first | rfl | decide +kernel)))))))), by first | rfl | decide +kernel⟩
theorem xw_47 : (.methodLink "java/lang/IllegalArgumentException" 7 (Bundle.initS "java/lang/RuntimeException") : Cond) ∈ kBig := List.mem_filter.mpr ⟨(show (.methodLink "java/lang/IllegalArgumentException" 7 (Bundle.initS "java/lang/RuntimeException") : Cond) ∈ k2_sels lw_privs ++ (tables_1_1 ++ (tables_1_2 ++ (tables_1_3 ++ (tables_1_4 ++ (tables_1_5 ++ tables_1_6))))) from (List.mem_append_right _ (List.mem_append_right _ (List.mem_append_right _ (List.mem_append_right _ (List.mem_append_left _ (List.mem_of_getElem? (i := 13) (by first | rfl | decide +kernel)))))))), by first | rfl | decide +kernel⟩
theorem xw_48 : (.methodLink RX6 214 (Bundle.initS "java/lang/IllegalArgumentException") : Cond) ∈ kBig := List.mem_filter.mpr ⟨(show (.methodLink RX6 214 (Bundle.initS "java/lang/IllegalArgumentException") : Cond) ∈ k2_sels lw_privs ++ (tables_1_1 ++ (tables_1_2 ++ (tables_1_3 ++ (tables_1_4 ++ (tables_1_5 ++ tables_1_6))))) from (List.mem_append_right _ (List.mem_append_right _ (List.mem_append_right _ (List.mem_append_right _ (List.mem_append_left _ (List.mem_of_getElem? (i := 10) (by first | rfl | decide +kernel)))))))), by first | rfl | decide +kernel⟩
theorem xw_49 : (.instantiable "java/lang/IllegalArgumentException" 6 : Cond) ∈ kBig := List.mem_filter.mpr ⟨(show (.instantiable "java/lang/IllegalArgumentException" 6 : Cond) ∈ k2_sels lw_privs ++ (tables_1_1 ++ (tables_1_2 ++ (tables_1_3 ++ (tables_1_4 ++ (tables_1_5 ++ tables_1_6))))) from (List.mem_append_right _ (List.mem_append_right _ (List.mem_append_right _ (List.mem_append_right _ (List.mem_append_left _ (List.mem_of_getElem? (i := 1) (by first | rfl | decide +kernel)))))))), by first | rfl | decide +kernel⟩
theorem xw_50 : (.selects "java/lang/IllegalArgumentException" Bundle.tFill0 Bundle.tFill0 : Cond) ∈ kBig := List.mem_filter.mpr ⟨(show (.selects "java/lang/IllegalArgumentException" Bundle.tFill0 Bundle.tFill0 : Cond) ∈ k2_sels lw_privs ++ (tables_1_1 ++ (tables_1_2 ++ (tables_1_3 ++ (tables_1_4 ++ (tables_1_5 ++ tables_1_6))))) from (List.mem_append_right _ (List.mem_append_right _ (List.mem_append_right _ (List.mem_append_right _ (List.mem_append_left _ (List.mem_of_getElem? (i := 3) (by first | rfl | decide +kernel)))))))), by first | rfl | decide +kernel⟩
theorem xw_51 : (.selects "java/lang/IllegalArgumentException" Bundle.tFill Bundle.tFill : Cond) ∈ kBig := List.mem_filter.mpr ⟨(show (.selects "java/lang/IllegalArgumentException" Bundle.tFill Bundle.tFill : Cond) ∈ k2_sels lw_privs ++ (tables_1_1 ++ (tables_1_2 ++ (tables_1_3 ++ (tables_1_4 ++ (tables_1_5 ++ tables_1_6))))) from (List.mem_append_right _ (List.mem_append_right _ (List.mem_append_right _ (List.mem_append_left _ (List.mem_of_getElem? (i := 205) (by first | rfl | decide +kernel))))))), by first | rfl | decide +kernel⟩
theorem xw_52 : (.lays "java/lang/IllegalArgumentException" Bundle.tN "cause" "Ljava/lang/Throwable;" : Cond) ∈ kBig := List.mem_filter.mpr ⟨(show (.lays "java/lang/IllegalArgumentException" Bundle.tN "cause" "Ljava/lang/Throwable;" : Cond) ∈ k2_sels lw_privs ++ (tables_1_1 ++ (tables_1_2 ++ (tables_1_3 ++ (tables_1_4 ++ (tables_1_5 ++ tables_1_6))))) from (List.mem_append_right _ (List.mem_append_right _ (List.mem_append_right _ (List.mem_append_right _ (List.mem_append_left _ (List.mem_of_getElem? (i := 4) (by first | rfl | decide +kernel)))))))), by first | rfl | decide +kernel⟩
theorem xw_53 : (.lays "java/lang/IllegalArgumentException" Bundle.tN "stackTrace" Bundle.steD : Cond) ∈ kBig := List.mem_filter.mpr ⟨(show (.lays "java/lang/IllegalArgumentException" Bundle.tN "stackTrace" Bundle.steD : Cond) ∈ k2_sels lw_privs ++ (tables_1_1 ++ (tables_1_2 ++ (tables_1_3 ++ (tables_1_4 ++ (tables_1_5 ++ tables_1_6))))) from (List.mem_append_right _ (List.mem_append_right _ (List.mem_append_right _ (List.mem_append_right _ (List.mem_append_left _ (List.mem_of_getElem? (i := 5) (by first | rfl | decide +kernel)))))))), by first | rfl | decide +kernel⟩
theorem xw_54 : (.lays "java/lang/IllegalArgumentException" Bundle.tN "suppressedExceptions" Bundle.listD : Cond) ∈ kBig := List.mem_filter.mpr ⟨(show (.lays "java/lang/IllegalArgumentException" Bundle.tN "suppressedExceptions" Bundle.listD : Cond) ∈ k2_sels lw_privs ++ (tables_1_1 ++ (tables_1_2 ++ (tables_1_3 ++ (tables_1_4 ++ (tables_1_5 ++ tables_1_6))))) from (List.mem_append_right _ (List.mem_append_right _ (List.mem_append_right _ (List.mem_append_right _ (List.mem_append_left _ (List.mem_of_getElem? (i := 6) (by first | rfl | decide +kernel)))))))), by first | rfl | decide +kernel⟩
theorem xw_55 : (.lays "java/lang/IllegalArgumentException" Bundle.tN "detailMessage" "Ljava/lang/String;" : Cond) ∈ kBig := List.mem_filter.mpr ⟨(show (.lays "java/lang/IllegalArgumentException" Bundle.tN "detailMessage" "Ljava/lang/String;" : Cond) ∈ k2_sels lw_privs ++ (tables_1_1 ++ (tables_1_2 ++ (tables_1_3 ++ (tables_1_4 ++ (tables_1_5 ++ tables_1_6))))) from (List.mem_append_right _ (List.mem_append_right _ (List.mem_append_right _ (List.mem_append_right _ (List.mem_append_left _ (List.mem_of_getElem? (i := 7) (by first | rfl | decide +kernel)))))))), by first | rfl | decide +kernel⟩
theorem xw_56 : (.lays "java/lang/IllegalArgumentException" Bundle.tN "backtrace" "Ljava/lang/Object;" : Cond) ∈ kBig := List.mem_filter.mpr ⟨(show (.lays "java/lang/IllegalArgumentException" Bundle.tN "backtrace" "Ljava/lang/Object;" : Cond) ∈ k2_sels lw_privs ++ (tables_1_1 ++ (tables_1_2 ++ (tables_1_3 ++ (tables_1_4 ++ (tables_1_5 ++ tables_1_6))))) from (List.mem_append_right _ (List.mem_append_right _ (List.mem_append_right _ (List.mem_append_right _ (List.mem_append_left _ (List.mem_of_getElem? (i := 8) (by first | rfl | decide +kernel)))))))), by first | rfl | decide +kernel⟩
theorem xw_57 : (.instanceMethod (Bundle.initS "java/lang/IllegalStateException") : Cond) ∈ kBig := List.mem_filter.mpr ⟨(show (.instanceMethod (Bundle.initS "java/lang/IllegalStateException") : Cond) ∈ k2_sels lw_privs ++ (tables_1_1 ++ (tables_1_2 ++ (tables_1_3 ++ (tables_1_4 ++ (tables_1_5 ++ tables_1_6))))) from (List.mem_append_right _ (List.mem_append_right _ (List.mem_append_right _ (List.mem_append_right _ (List.mem_append_left _ (List.mem_of_getElem? (i := 81) (by first | rfl | decide +kernel)))))))), by first | rfl | decide +kernel⟩
theorem xw_58 : (.code (Bundle.initS "java/lang/IllegalStateException") Bundle.six 2 none : Cond) ∈ kBig := List.mem_filter.mpr ⟨(show (.code (Bundle.initS "java/lang/IllegalStateException") Bundle.six 2 none : Cond) ∈ k2_sels lw_privs ++ (tables_1_1 ++ (tables_1_2 ++ (tables_1_3 ++ (tables_1_4 ++ (tables_1_5 ++ tables_1_6))))) from (List.mem_append_right _ (List.mem_append_right _ (List.mem_append_right _ (List.mem_append_right _ (List.mem_append_left _ (List.mem_of_getElem? (i := 82) (by first | rfl | decide +kernel)))))))), by first | rfl | decide +kernel⟩
theorem xw_59 : (.methodLink "java/lang/IllegalStateException" 7 (Bundle.initS "java/lang/RuntimeException") : Cond) ∈ kBig := List.mem_filter.mpr ⟨(show (.methodLink "java/lang/IllegalStateException" 7 (Bundle.initS "java/lang/RuntimeException") : Cond) ∈ k2_sels lw_privs ++ (tables_1_1 ++ (tables_1_2 ++ (tables_1_3 ++ (tables_1_4 ++ (tables_1_5 ++ tables_1_6))))) from (List.mem_append_right _ (List.mem_append_right _ (List.mem_append_right _ (List.mem_append_right _ (List.mem_append_left _ (List.mem_of_getElem? (i := 83) (by first | rfl | decide +kernel)))))))), by first | rfl | decide +kernel⟩
theorem xw_60 : (.methodLink RX6 88 (Bundle.initS "java/lang/IllegalStateException") : Cond) ∈ kBig := List.mem_filter.mpr ⟨(show (.methodLink RX6 88 (Bundle.initS "java/lang/IllegalStateException") : Cond) ∈ k2_sels lw_privs ++ (tables_1_1 ++ (tables_1_2 ++ (tables_1_3 ++ (tables_1_4 ++ (tables_1_5 ++ tables_1_6))))) from (List.mem_append_right _ (List.mem_append_right _ (List.mem_append_right _ (List.mem_append_right _ (List.mem_append_left _ (List.mem_of_getElem? (i := 80) (by first | rfl | decide +kernel)))))))), by first | rfl | decide +kernel⟩
theorem xw_61 : (.instantiable "java/lang/IllegalStateException" 6 : Cond) ∈ kBig := List.mem_filter.mpr ⟨(show (.instantiable "java/lang/IllegalStateException" 6 : Cond) ∈ k2_sels lw_privs ++ (tables_1_1 ++ (tables_1_2 ++ (tables_1_3 ++ (tables_1_4 ++ (tables_1_5 ++ tables_1_6))))) from (List.mem_append_right _ (List.mem_append_right _ (List.mem_append_right _ (List.mem_append_right _ (List.mem_append_left _ (List.mem_of_getElem? (i := 71) (by first | rfl | decide +kernel)))))))), by first | rfl | decide +kernel⟩
theorem xw_62 : (.selects "java/lang/IllegalStateException" Bundle.tFill0 Bundle.tFill0 : Cond) ∈ kBig := List.mem_filter.mpr ⟨(show (.selects "java/lang/IllegalStateException" Bundle.tFill0 Bundle.tFill0 : Cond) ∈ k2_sels lw_privs ++ (tables_1_1 ++ (tables_1_2 ++ (tables_1_3 ++ (tables_1_4 ++ (tables_1_5 ++ tables_1_6))))) from (List.mem_append_right _ (List.mem_append_right _ (List.mem_append_right _ (List.mem_append_right _ (List.mem_append_left _ (List.mem_of_getElem? (i := 73) (by first | rfl | decide +kernel)))))))), by first | rfl | decide +kernel⟩
theorem xw_63 : (.selects "java/lang/IllegalStateException" Bundle.tFill Bundle.tFill : Cond) ∈ kBig := List.mem_filter.mpr ⟨(show (.selects "java/lang/IllegalStateException" Bundle.tFill Bundle.tFill : Cond) ∈ k2_sels lw_privs ++ (tables_1_1 ++ (tables_1_2 ++ (tables_1_3 ++ (tables_1_4 ++ (tables_1_5 ++ tables_1_6))))) from (List.mem_append_right _ (List.mem_append_right _ (List.mem_append_right _ (List.mem_append_left _ (List.mem_of_getElem? (i := 206) (by first | rfl | decide +kernel))))))), by first | rfl | decide +kernel⟩
theorem xw_64 : (.lays "java/lang/IllegalStateException" Bundle.tN "cause" "Ljava/lang/Throwable;" : Cond) ∈ kBig := List.mem_filter.mpr ⟨(show (.lays "java/lang/IllegalStateException" Bundle.tN "cause" "Ljava/lang/Throwable;" : Cond) ∈ k2_sels lw_privs ++ (tables_1_1 ++ (tables_1_2 ++ (tables_1_3 ++ (tables_1_4 ++ (tables_1_5 ++ tables_1_6))))) from (List.mem_append_right _ (List.mem_append_right _ (List.mem_append_right _ (List.mem_append_right _ (List.mem_append_left _ (List.mem_of_getElem? (i := 74) (by first | rfl | decide +kernel)))))))), by first | rfl | decide +kernel⟩
theorem xw_65 : (.lays "java/lang/IllegalStateException" Bundle.tN "stackTrace" Bundle.steD : Cond) ∈ kBig := List.mem_filter.mpr ⟨(show (.lays "java/lang/IllegalStateException" Bundle.tN "stackTrace" Bundle.steD : Cond) ∈ k2_sels lw_privs ++ (tables_1_1 ++ (tables_1_2 ++ (tables_1_3 ++ (tables_1_4 ++ (tables_1_5 ++ tables_1_6))))) from (List.mem_append_right _ (List.mem_append_right _ (List.mem_append_right _ (List.mem_append_right _ (List.mem_append_left _ (List.mem_of_getElem? (i := 75) (by first | rfl | decide +kernel)))))))), by first | rfl | decide +kernel⟩
theorem xw_66 : (.lays "java/lang/IllegalStateException" Bundle.tN "suppressedExceptions" Bundle.listD : Cond) ∈ kBig := List.mem_filter.mpr ⟨(show (.lays "java/lang/IllegalStateException" Bundle.tN "suppressedExceptions" Bundle.listD : Cond) ∈ k2_sels lw_privs ++ (tables_1_1 ++ (tables_1_2 ++ (tables_1_3 ++ (tables_1_4 ++ (tables_1_5 ++ tables_1_6))))) from (List.mem_append_right _ (List.mem_append_right _ (List.mem_append_right _ (List.mem_append_right _ (List.mem_append_left _ (List.mem_of_getElem? (i := 76) (by first | rfl | decide +kernel)))))))), by first | rfl | decide +kernel⟩
theorem xw_67 : (.lays "java/lang/IllegalStateException" Bundle.tN "detailMessage" "Ljava/lang/String;" : Cond) ∈ kBig := List.mem_filter.mpr ⟨(show (.lays "java/lang/IllegalStateException" Bundle.tN "detailMessage" "Ljava/lang/String;" : Cond) ∈ k2_sels lw_privs ++ (tables_1_1 ++ (tables_1_2 ++ (tables_1_3 ++ (tables_1_4 ++ (tables_1_5 ++ tables_1_6))))) from (List.mem_append_right _ (List.mem_append_right _ (List.mem_append_right _ (List.mem_append_right _ (List.mem_append_left _ (List.mem_of_getElem? (i := 77) (by first | rfl | decide +kernel)))))))), by first | rfl | decide +kernel⟩
theorem xw_68 : (.lays "java/lang/IllegalStateException" Bundle.tN "backtrace" "Ljava/lang/Object;" : Cond) ∈ kBig := List.mem_filter.mpr ⟨(show (.lays "java/lang/IllegalStateException" Bundle.tN "backtrace" "Ljava/lang/Object;" : Cond) ∈ k2_sels lw_privs ++ (tables_1_1 ++ (tables_1_2 ++ (tables_1_3 ++ (tables_1_4 ++ (tables_1_5 ++ tables_1_6))))) from (List.mem_append_right _ (List.mem_append_right _ (List.mem_append_right _ (List.mem_append_right _ (List.mem_append_left _ (List.mem_of_getElem? (i := 78) (by first | rfl | decide +kernel)))))))), by first | rfl | decide +kernel⟩
theorem x_all219 : ∀ w ∈ vx_atS RX6 219 "java/lang/IndexOutOfBoundsException" ["java/lang/RuntimeException", "java/lang/Exception"], w ∈ kBig ∨ w ∈ ([.declares (Bundle.initS "java/lang/RuntimeException"), .declares (Bundle.initS "java/lang/Exception"), .declares (Bundle.initS Bundle.tN), .castable "java/lang/IndexOutOfBoundsException" "java/lang/IndexOutOfBoundsException", .castable "java/lang/IllegalArgumentException" "java/lang/IllegalArgumentException", .castable "java/lang/IllegalStateException" "java/lang/IllegalStateException"] : List Cond) := by
  intro w h
  have h2 := List.mem_filter.mp h
  have hm : w ∈ ([.initialized Bundle.tN, .superclass Bundle.tN "java/lang/Object", .instanceMethod Bundle.tFill, .codeSync Bundle.tFill LibCode.Throwable.Fill.code 1 (some (.object Bundle.tN)), .instanceMethod Bundle.tFill0, .native Bundle.tFill0, .instanceMethod Bundle.tInit0, .code Bundle.tInit0 LibCode.Throwable.Init0.code 1 none, .instanceMethod Bundle.oInit, .code Bundle.oInit ⟨#[0xb1]⟩ 1 none, .methodLink Bundle.tN 1 Bundle.oInit, .methodLink Bundle.tN 27 Bundle.tFill, .methodLink Bundle.tN 202 Bundle.tFill0, .fieldLink Bundle.tN 7 Bundle.tN "cause" "Ljava/lang/Throwable;", .lays Bundle.tN Bundle.tN "cause" "Ljava/lang/Throwable;", .fieldLink Bundle.tN 17 Bundle.tN "stackTrace" Bundle.steD, .lays Bundle.tN Bundle.tN "stackTrace" Bundle.steD, .fieldLink Bundle.tN 24 Bundle.tN "suppressedExceptions" Bundle.listD, .lays Bundle.tN Bundle.tN "suppressedExceptions" Bundle.listD, .fieldLink Bundle.tN 13 Bundle.tN "UNASSIGNED_STACK" Bundle.steD, .laysStatic Bundle.tN "UNASSIGNED_STACK" Bundle.steD, .fieldLink Bundle.tN 20 Bundle.tN "SUPPRESSED_SENTINEL" Bundle.listD, .laysStatic Bundle.tN "SUPPRESSED_SENTINEL" Bundle.listD, .lays Bundle.tN Bundle.tN "detailMessage" "Ljava/lang/String;", .instanceMethod (Bundle.initS Bundle.tN), .code (Bundle.initS Bundle.tN) LibCode.Throwable.InitS.code 2 none, .fieldLink Bundle.tN 31 Bundle.tN "detailMessage" "Ljava/lang/String;", .lays Bundle.tN Bundle.tN "detailMessage" "Ljava/lang/String;", .instanceMethod (Bundle.initS "java/lang/IndexOutOfBoundsException"), .code (Bundle.initS "java/lang/IndexOutOfBoundsException") Bundle.six 2 none, .methodLink "java/lang/IndexOutOfBoundsException" 7 (Bundle.initS "java/lang/RuntimeException"), .instanceMethod (Bundle.initS "java/lang/RuntimeException"), .declares (Bundle.initS "java/lang/RuntimeException"), .instanceMethod (Bundle.initS "java/lang/RuntimeException"), .code (Bundle.initS "java/lang/RuntimeException") Bundle.six 2 none, .methodLink "java/lang/RuntimeException" 7 (Bundle.initS "java/lang/Exception"), .instanceMethod (Bundle.initS "java/lang/Exception"), .declares (Bundle.initS "java/lang/Exception"), .instanceMethod (Bundle.initS "java/lang/Exception"), .code (Bundle.initS "java/lang/Exception") Bundle.six 2 none, .methodLink "java/lang/Exception" 7 (Bundle.initS Bundle.tN), .instanceMethod (Bundle.initS Bundle.tN), .declares (Bundle.initS Bundle.tN), .methodLink RX6 219 (Bundle.initS "java/lang/IndexOutOfBoundsException"), .instantiable "java/lang/IndexOutOfBoundsException" 6, .castable "java/lang/IndexOutOfBoundsException" "java/lang/IndexOutOfBoundsException", .selects "java/lang/IndexOutOfBoundsException" Bundle.tFill0 Bundle.tFill0, .selects "java/lang/IndexOutOfBoundsException" Bundle.tFill Bundle.tFill, .lays "java/lang/IndexOutOfBoundsException" Bundle.tN "cause" "Ljava/lang/Throwable;", .lays "java/lang/IndexOutOfBoundsException" Bundle.tN "stackTrace" Bundle.steD, .lays "java/lang/IndexOutOfBoundsException" Bundle.tN "suppressedExceptions" Bundle.listD, .lays "java/lang/IndexOutOfBoundsException" Bundle.tN "detailMessage" "Ljava/lang/String;", .isRef (.static Bundle.tN "UNASSIGNED_STACK" Bundle.steD), .isRef (.static Bundle.tN "SUPPRESSED_SENTINEL" Bundle.listD), .fieldLink Bundle.tN 198 Bundle.tN "backtrace" "Ljava/lang/Object;", .lays Bundle.tN Bundle.tN "backtrace" "Ljava/lang/Object;", .lays "java/lang/IndexOutOfBoundsException" Bundle.tN "backtrace" "Ljava/lang/Object;"] : List Cond) := h2.1
  rcases List.mem_cons.mp hm with rfl | hm
  · exact Or.inl xw_0
  rcases List.mem_cons.mp hm with rfl | hm
  · exact Or.inl xw_1
  rcases List.mem_cons.mp hm with rfl | hm
  · exact Or.inl xw_2
  rcases List.mem_cons.mp hm with rfl | hm
  · exact Or.inl xw_3
  rcases List.mem_cons.mp hm with rfl | hm
  · exact Or.inl xw_4
  rcases List.mem_cons.mp hm with rfl | hm
  · exact Or.inl xw_5
  rcases List.mem_cons.mp hm with rfl | hm
  · exact Or.inl xw_6
  rcases List.mem_cons.mp hm with rfl | hm
  · exact Or.inl xw_7
  rcases List.mem_cons.mp hm with rfl | hm
  · exact Or.inl xw_8
  rcases List.mem_cons.mp hm with rfl | hm
  · exact Or.inl xw_9
  rcases List.mem_cons.mp hm with rfl | hm
  · exact Or.inl xw_10
  rcases List.mem_cons.mp hm with rfl | hm
  · exact Or.inl xw_11
  rcases List.mem_cons.mp hm with rfl | hm
  · exact Or.inl xw_12
  rcases List.mem_cons.mp hm with rfl | hm
  · exact Or.inl xw_13
  rcases List.mem_cons.mp hm with rfl | hm
  · exact Or.inl xw_14
  rcases List.mem_cons.mp hm with rfl | hm
  · exact Or.inl xw_15
  rcases List.mem_cons.mp hm with rfl | hm
  · exact Or.inl xw_16
  rcases List.mem_cons.mp hm with rfl | hm
  · exact Or.inl xw_17
  rcases List.mem_cons.mp hm with rfl | hm
  · exact Or.inl xw_18
  rcases List.mem_cons.mp hm with rfl | hm
  · exact Or.inl xw_19
  rcases List.mem_cons.mp hm with rfl | hm
  · exact absurd h2.2 (by decide +kernel)
  rcases List.mem_cons.mp hm with rfl | hm
  · exact Or.inl xw_20
  rcases List.mem_cons.mp hm with rfl | hm
  · exact absurd h2.2 (by decide +kernel)
  rcases List.mem_cons.mp hm with rfl | hm
  · exact Or.inl xw_21
  rcases List.mem_cons.mp hm with rfl | hm
  · exact Or.inl xw_22
  rcases List.mem_cons.mp hm with rfl | hm
  · exact Or.inl xw_23
  rcases List.mem_cons.mp hm with rfl | hm
  · exact Or.inl xw_24
  rcases List.mem_cons.mp hm with rfl | hm
  · exact Or.inl xw_21
  rcases List.mem_cons.mp hm with rfl | hm
  · exact Or.inl xw_25
  rcases List.mem_cons.mp hm with rfl | hm
  · exact Or.inl xw_26
  rcases List.mem_cons.mp hm with rfl | hm
  · exact Or.inl xw_27
  rcases List.mem_cons.mp hm with rfl | hm
  · exact Or.inl xw_28
  rcases List.mem_cons.mp hm with rfl | hm
  · exact Or.inr (List.mem_of_getElem? (i := 0) rfl)
  rcases List.mem_cons.mp hm with rfl | hm
  · exact Or.inl xw_28
  rcases List.mem_cons.mp hm with rfl | hm
  · exact Or.inl xw_29
  rcases List.mem_cons.mp hm with rfl | hm
  · exact Or.inl xw_30
  rcases List.mem_cons.mp hm with rfl | hm
  · exact Or.inl xw_31
  rcases List.mem_cons.mp hm with rfl | hm
  · exact Or.inr (List.mem_of_getElem? (i := 1) rfl)
  rcases List.mem_cons.mp hm with rfl | hm
  · exact Or.inl xw_31
  rcases List.mem_cons.mp hm with rfl | hm
  · exact Or.inl xw_32
  rcases List.mem_cons.mp hm with rfl | hm
  · exact Or.inl xw_33
  rcases List.mem_cons.mp hm with rfl | hm
  · exact Or.inl xw_22
  rcases List.mem_cons.mp hm with rfl | hm
  · exact Or.inr (List.mem_of_getElem? (i := 2) rfl)
  rcases List.mem_cons.mp hm with rfl | hm
  · exact Or.inl xw_34
  rcases List.mem_cons.mp hm with rfl | hm
  · exact Or.inl xw_35
  rcases List.mem_cons.mp hm with rfl | hm
  · exact Or.inr (List.mem_of_getElem? (i := 3) rfl)
  rcases List.mem_cons.mp hm with rfl | hm
  · exact Or.inl xw_36
  rcases List.mem_cons.mp hm with rfl | hm
  · exact Or.inl xw_37
  rcases List.mem_cons.mp hm with rfl | hm
  · exact Or.inl xw_38
  rcases List.mem_cons.mp hm with rfl | hm
  · exact Or.inl xw_39
  rcases List.mem_cons.mp hm with rfl | hm
  · exact Or.inl xw_40
  rcases List.mem_cons.mp hm with rfl | hm
  · exact Or.inl xw_41
  rcases List.mem_cons.mp hm with rfl | hm
  · exact absurd h2.2 (by decide +kernel)
  rcases List.mem_cons.mp hm with rfl | hm
  · exact absurd h2.2 (by decide +kernel)
  rcases List.mem_cons.mp hm with rfl | hm
  · exact Or.inl xw_42
  rcases List.mem_cons.mp hm with rfl | hm
  · exact Or.inl xw_43
  rcases List.mem_cons.mp hm with rfl | hm
  · exact Or.inl xw_44
  exact absurd hm List.not_mem_nil
theorem x_all214 : ∀ w ∈ vx_atS RX6 214 "java/lang/IllegalArgumentException" ["java/lang/RuntimeException", "java/lang/Exception"], w ∈ kBig ∨ w ∈ ([.declares (Bundle.initS "java/lang/RuntimeException"), .declares (Bundle.initS "java/lang/Exception"), .declares (Bundle.initS Bundle.tN), .castable "java/lang/IndexOutOfBoundsException" "java/lang/IndexOutOfBoundsException", .castable "java/lang/IllegalArgumentException" "java/lang/IllegalArgumentException", .castable "java/lang/IllegalStateException" "java/lang/IllegalStateException"] : List Cond) := by
  intro w h
  have h2 := List.mem_filter.mp h
  have hm : w ∈ ([.initialized Bundle.tN, .superclass Bundle.tN "java/lang/Object", .instanceMethod Bundle.tFill, .codeSync Bundle.tFill LibCode.Throwable.Fill.code 1 (some (.object Bundle.tN)), .instanceMethod Bundle.tFill0, .native Bundle.tFill0, .instanceMethod Bundle.tInit0, .code Bundle.tInit0 LibCode.Throwable.Init0.code 1 none, .instanceMethod Bundle.oInit, .code Bundle.oInit ⟨#[0xb1]⟩ 1 none, .methodLink Bundle.tN 1 Bundle.oInit, .methodLink Bundle.tN 27 Bundle.tFill, .methodLink Bundle.tN 202 Bundle.tFill0, .fieldLink Bundle.tN 7 Bundle.tN "cause" "Ljava/lang/Throwable;", .lays Bundle.tN Bundle.tN "cause" "Ljava/lang/Throwable;", .fieldLink Bundle.tN 17 Bundle.tN "stackTrace" Bundle.steD, .lays Bundle.tN Bundle.tN "stackTrace" Bundle.steD, .fieldLink Bundle.tN 24 Bundle.tN "suppressedExceptions" Bundle.listD, .lays Bundle.tN Bundle.tN "suppressedExceptions" Bundle.listD, .fieldLink Bundle.tN 13 Bundle.tN "UNASSIGNED_STACK" Bundle.steD, .laysStatic Bundle.tN "UNASSIGNED_STACK" Bundle.steD, .fieldLink Bundle.tN 20 Bundle.tN "SUPPRESSED_SENTINEL" Bundle.listD, .laysStatic Bundle.tN "SUPPRESSED_SENTINEL" Bundle.listD, .lays Bundle.tN Bundle.tN "detailMessage" "Ljava/lang/String;", .instanceMethod (Bundle.initS Bundle.tN), .code (Bundle.initS Bundle.tN) LibCode.Throwable.InitS.code 2 none, .fieldLink Bundle.tN 31 Bundle.tN "detailMessage" "Ljava/lang/String;", .lays Bundle.tN Bundle.tN "detailMessage" "Ljava/lang/String;", .instanceMethod (Bundle.initS "java/lang/IllegalArgumentException"), .code (Bundle.initS "java/lang/IllegalArgumentException") Bundle.six 2 none, .methodLink "java/lang/IllegalArgumentException" 7 (Bundle.initS "java/lang/RuntimeException"), .instanceMethod (Bundle.initS "java/lang/RuntimeException"), .declares (Bundle.initS "java/lang/RuntimeException"), .instanceMethod (Bundle.initS "java/lang/RuntimeException"), .code (Bundle.initS "java/lang/RuntimeException") Bundle.six 2 none, .methodLink "java/lang/RuntimeException" 7 (Bundle.initS "java/lang/Exception"), .instanceMethod (Bundle.initS "java/lang/Exception"), .declares (Bundle.initS "java/lang/Exception"), .instanceMethod (Bundle.initS "java/lang/Exception"), .code (Bundle.initS "java/lang/Exception") Bundle.six 2 none, .methodLink "java/lang/Exception" 7 (Bundle.initS Bundle.tN), .instanceMethod (Bundle.initS Bundle.tN), .declares (Bundle.initS Bundle.tN), .methodLink RX6 214 (Bundle.initS "java/lang/IllegalArgumentException"), .instantiable "java/lang/IllegalArgumentException" 6, .castable "java/lang/IllegalArgumentException" "java/lang/IllegalArgumentException", .selects "java/lang/IllegalArgumentException" Bundle.tFill0 Bundle.tFill0, .selects "java/lang/IllegalArgumentException" Bundle.tFill Bundle.tFill, .lays "java/lang/IllegalArgumentException" Bundle.tN "cause" "Ljava/lang/Throwable;", .lays "java/lang/IllegalArgumentException" Bundle.tN "stackTrace" Bundle.steD, .lays "java/lang/IllegalArgumentException" Bundle.tN "suppressedExceptions" Bundle.listD, .lays "java/lang/IllegalArgumentException" Bundle.tN "detailMessage" "Ljava/lang/String;", .isRef (.static Bundle.tN "UNASSIGNED_STACK" Bundle.steD), .isRef (.static Bundle.tN "SUPPRESSED_SENTINEL" Bundle.listD), .fieldLink Bundle.tN 198 Bundle.tN "backtrace" "Ljava/lang/Object;", .lays Bundle.tN Bundle.tN "backtrace" "Ljava/lang/Object;", .lays "java/lang/IllegalArgumentException" Bundle.tN "backtrace" "Ljava/lang/Object;"] : List Cond) := h2.1
  rcases List.mem_cons.mp hm with rfl | hm
  · exact Or.inl xw_0
  rcases List.mem_cons.mp hm with rfl | hm
  · exact Or.inl xw_1
  rcases List.mem_cons.mp hm with rfl | hm
  · exact Or.inl xw_2
  rcases List.mem_cons.mp hm with rfl | hm
  · exact Or.inl xw_3
  rcases List.mem_cons.mp hm with rfl | hm
  · exact Or.inl xw_4
  rcases List.mem_cons.mp hm with rfl | hm
  · exact Or.inl xw_5
  rcases List.mem_cons.mp hm with rfl | hm
  · exact Or.inl xw_6
  rcases List.mem_cons.mp hm with rfl | hm
  · exact Or.inl xw_7
  rcases List.mem_cons.mp hm with rfl | hm
  · exact Or.inl xw_8
  rcases List.mem_cons.mp hm with rfl | hm
  · exact Or.inl xw_9
  rcases List.mem_cons.mp hm with rfl | hm
  · exact Or.inl xw_10
  rcases List.mem_cons.mp hm with rfl | hm
  · exact Or.inl xw_11
  rcases List.mem_cons.mp hm with rfl | hm
  · exact Or.inl xw_12
  rcases List.mem_cons.mp hm with rfl | hm
  · exact Or.inl xw_13
  rcases List.mem_cons.mp hm with rfl | hm
  · exact Or.inl xw_14
  rcases List.mem_cons.mp hm with rfl | hm
  · exact Or.inl xw_15
  rcases List.mem_cons.mp hm with rfl | hm
  · exact Or.inl xw_16
  rcases List.mem_cons.mp hm with rfl | hm
  · exact Or.inl xw_17
  rcases List.mem_cons.mp hm with rfl | hm
  · exact Or.inl xw_18
  rcases List.mem_cons.mp hm with rfl | hm
  · exact Or.inl xw_19
  rcases List.mem_cons.mp hm with rfl | hm
  · exact absurd h2.2 (by decide +kernel)
  rcases List.mem_cons.mp hm with rfl | hm
  · exact Or.inl xw_20
  rcases List.mem_cons.mp hm with rfl | hm
  · exact absurd h2.2 (by decide +kernel)
  rcases List.mem_cons.mp hm with rfl | hm
  · exact Or.inl xw_21
  rcases List.mem_cons.mp hm with rfl | hm
  · exact Or.inl xw_22
  rcases List.mem_cons.mp hm with rfl | hm
  · exact Or.inl xw_23
  rcases List.mem_cons.mp hm with rfl | hm
  · exact Or.inl xw_24
  rcases List.mem_cons.mp hm with rfl | hm
  · exact Or.inl xw_21
  rcases List.mem_cons.mp hm with rfl | hm
  · exact Or.inl xw_45
  rcases List.mem_cons.mp hm with rfl | hm
  · exact Or.inl xw_46
  rcases List.mem_cons.mp hm with rfl | hm
  · exact Or.inl xw_47
  rcases List.mem_cons.mp hm with rfl | hm
  · exact Or.inl xw_28
  rcases List.mem_cons.mp hm with rfl | hm
  · exact Or.inr (List.mem_of_getElem? (i := 0) rfl)
  rcases List.mem_cons.mp hm with rfl | hm
  · exact Or.inl xw_28
  rcases List.mem_cons.mp hm with rfl | hm
  · exact Or.inl xw_29
  rcases List.mem_cons.mp hm with rfl | hm
  · exact Or.inl xw_30
  rcases List.mem_cons.mp hm with rfl | hm
  · exact Or.inl xw_31
  rcases List.mem_cons.mp hm with rfl | hm
  · exact Or.inr (List.mem_of_getElem? (i := 1) rfl)
  rcases List.mem_cons.mp hm with rfl | hm
  · exact Or.inl xw_31
  rcases List.mem_cons.mp hm with rfl | hm
  · exact Or.inl xw_32
  rcases List.mem_cons.mp hm with rfl | hm
  · exact Or.inl xw_33
  rcases List.mem_cons.mp hm with rfl | hm
  · exact Or.inl xw_22
  rcases List.mem_cons.mp hm with rfl | hm
  · exact Or.inr (List.mem_of_getElem? (i := 2) rfl)
  rcases List.mem_cons.mp hm with rfl | hm
  · exact Or.inl xw_48
  rcases List.mem_cons.mp hm with rfl | hm
  · exact Or.inl xw_49
  rcases List.mem_cons.mp hm with rfl | hm
  · exact Or.inr (List.mem_of_getElem? (i := 4) rfl)
  rcases List.mem_cons.mp hm with rfl | hm
  · exact Or.inl xw_50
  rcases List.mem_cons.mp hm with rfl | hm
  · exact Or.inl xw_51
  rcases List.mem_cons.mp hm with rfl | hm
  · exact Or.inl xw_52
  rcases List.mem_cons.mp hm with rfl | hm
  · exact Or.inl xw_53
  rcases List.mem_cons.mp hm with rfl | hm
  · exact Or.inl xw_54
  rcases List.mem_cons.mp hm with rfl | hm
  · exact Or.inl xw_55
  rcases List.mem_cons.mp hm with rfl | hm
  · exact absurd h2.2 (by decide +kernel)
  rcases List.mem_cons.mp hm with rfl | hm
  · exact absurd h2.2 (by decide +kernel)
  rcases List.mem_cons.mp hm with rfl | hm
  · exact Or.inl xw_42
  rcases List.mem_cons.mp hm with rfl | hm
  · exact Or.inl xw_43
  rcases List.mem_cons.mp hm with rfl | hm
  · exact Or.inl xw_56
  exact absurd hm List.not_mem_nil
theorem x_all88 : ∀ w ∈ vx_atS RX6 88 "java/lang/IllegalStateException" ["java/lang/RuntimeException", "java/lang/Exception"], w ∈ kBig ∨ w ∈ ([.declares (Bundle.initS "java/lang/RuntimeException"), .declares (Bundle.initS "java/lang/Exception"), .declares (Bundle.initS Bundle.tN), .castable "java/lang/IndexOutOfBoundsException" "java/lang/IndexOutOfBoundsException", .castable "java/lang/IllegalArgumentException" "java/lang/IllegalArgumentException", .castable "java/lang/IllegalStateException" "java/lang/IllegalStateException"] : List Cond) := by
  intro w h
  have h2 := List.mem_filter.mp h
  have hm : w ∈ ([.initialized Bundle.tN, .superclass Bundle.tN "java/lang/Object", .instanceMethod Bundle.tFill, .codeSync Bundle.tFill LibCode.Throwable.Fill.code 1 (some (.object Bundle.tN)), .instanceMethod Bundle.tFill0, .native Bundle.tFill0, .instanceMethod Bundle.tInit0, .code Bundle.tInit0 LibCode.Throwable.Init0.code 1 none, .instanceMethod Bundle.oInit, .code Bundle.oInit ⟨#[0xb1]⟩ 1 none, .methodLink Bundle.tN 1 Bundle.oInit, .methodLink Bundle.tN 27 Bundle.tFill, .methodLink Bundle.tN 202 Bundle.tFill0, .fieldLink Bundle.tN 7 Bundle.tN "cause" "Ljava/lang/Throwable;", .lays Bundle.tN Bundle.tN "cause" "Ljava/lang/Throwable;", .fieldLink Bundle.tN 17 Bundle.tN "stackTrace" Bundle.steD, .lays Bundle.tN Bundle.tN "stackTrace" Bundle.steD, .fieldLink Bundle.tN 24 Bundle.tN "suppressedExceptions" Bundle.listD, .lays Bundle.tN Bundle.tN "suppressedExceptions" Bundle.listD, .fieldLink Bundle.tN 13 Bundle.tN "UNASSIGNED_STACK" Bundle.steD, .laysStatic Bundle.tN "UNASSIGNED_STACK" Bundle.steD, .fieldLink Bundle.tN 20 Bundle.tN "SUPPRESSED_SENTINEL" Bundle.listD, .laysStatic Bundle.tN "SUPPRESSED_SENTINEL" Bundle.listD, .lays Bundle.tN Bundle.tN "detailMessage" "Ljava/lang/String;", .instanceMethod (Bundle.initS Bundle.tN), .code (Bundle.initS Bundle.tN) LibCode.Throwable.InitS.code 2 none, .fieldLink Bundle.tN 31 Bundle.tN "detailMessage" "Ljava/lang/String;", .lays Bundle.tN Bundle.tN "detailMessage" "Ljava/lang/String;", .instanceMethod (Bundle.initS "java/lang/IllegalStateException"), .code (Bundle.initS "java/lang/IllegalStateException") Bundle.six 2 none, .methodLink "java/lang/IllegalStateException" 7 (Bundle.initS "java/lang/RuntimeException"), .instanceMethod (Bundle.initS "java/lang/RuntimeException"), .declares (Bundle.initS "java/lang/RuntimeException"), .instanceMethod (Bundle.initS "java/lang/RuntimeException"), .code (Bundle.initS "java/lang/RuntimeException") Bundle.six 2 none, .methodLink "java/lang/RuntimeException" 7 (Bundle.initS "java/lang/Exception"), .instanceMethod (Bundle.initS "java/lang/Exception"), .declares (Bundle.initS "java/lang/Exception"), .instanceMethod (Bundle.initS "java/lang/Exception"), .code (Bundle.initS "java/lang/Exception") Bundle.six 2 none, .methodLink "java/lang/Exception" 7 (Bundle.initS Bundle.tN), .instanceMethod (Bundle.initS Bundle.tN), .declares (Bundle.initS Bundle.tN), .methodLink RX6 88 (Bundle.initS "java/lang/IllegalStateException"), .instantiable "java/lang/IllegalStateException" 6, .castable "java/lang/IllegalStateException" "java/lang/IllegalStateException", .selects "java/lang/IllegalStateException" Bundle.tFill0 Bundle.tFill0, .selects "java/lang/IllegalStateException" Bundle.tFill Bundle.tFill, .lays "java/lang/IllegalStateException" Bundle.tN "cause" "Ljava/lang/Throwable;", .lays "java/lang/IllegalStateException" Bundle.tN "stackTrace" Bundle.steD, .lays "java/lang/IllegalStateException" Bundle.tN "suppressedExceptions" Bundle.listD, .lays "java/lang/IllegalStateException" Bundle.tN "detailMessage" "Ljava/lang/String;", .isRef (.static Bundle.tN "UNASSIGNED_STACK" Bundle.steD), .isRef (.static Bundle.tN "SUPPRESSED_SENTINEL" Bundle.listD), .fieldLink Bundle.tN 198 Bundle.tN "backtrace" "Ljava/lang/Object;", .lays Bundle.tN Bundle.tN "backtrace" "Ljava/lang/Object;", .lays "java/lang/IllegalStateException" Bundle.tN "backtrace" "Ljava/lang/Object;"] : List Cond) := h2.1
  rcases List.mem_cons.mp hm with rfl | hm
  · exact Or.inl xw_0
  rcases List.mem_cons.mp hm with rfl | hm
  · exact Or.inl xw_1
  rcases List.mem_cons.mp hm with rfl | hm
  · exact Or.inl xw_2
  rcases List.mem_cons.mp hm with rfl | hm
  · exact Or.inl xw_3
  rcases List.mem_cons.mp hm with rfl | hm
  · exact Or.inl xw_4
  rcases List.mem_cons.mp hm with rfl | hm
  · exact Or.inl xw_5
  rcases List.mem_cons.mp hm with rfl | hm
  · exact Or.inl xw_6
  rcases List.mem_cons.mp hm with rfl | hm
  · exact Or.inl xw_7
  rcases List.mem_cons.mp hm with rfl | hm
  · exact Or.inl xw_8
  rcases List.mem_cons.mp hm with rfl | hm
  · exact Or.inl xw_9
  rcases List.mem_cons.mp hm with rfl | hm
  · exact Or.inl xw_10
  rcases List.mem_cons.mp hm with rfl | hm
  · exact Or.inl xw_11
  rcases List.mem_cons.mp hm with rfl | hm
  · exact Or.inl xw_12
  rcases List.mem_cons.mp hm with rfl | hm
  · exact Or.inl xw_13
  rcases List.mem_cons.mp hm with rfl | hm
  · exact Or.inl xw_14
  rcases List.mem_cons.mp hm with rfl | hm
  · exact Or.inl xw_15
  rcases List.mem_cons.mp hm with rfl | hm
  · exact Or.inl xw_16
  rcases List.mem_cons.mp hm with rfl | hm
  · exact Or.inl xw_17
  rcases List.mem_cons.mp hm with rfl | hm
  · exact Or.inl xw_18
  rcases List.mem_cons.mp hm with rfl | hm
  · exact Or.inl xw_19
  rcases List.mem_cons.mp hm with rfl | hm
  · exact absurd h2.2 (by decide +kernel)
  rcases List.mem_cons.mp hm with rfl | hm
  · exact Or.inl xw_20
  rcases List.mem_cons.mp hm with rfl | hm
  · exact absurd h2.2 (by decide +kernel)
  rcases List.mem_cons.mp hm with rfl | hm
  · exact Or.inl xw_21
  rcases List.mem_cons.mp hm with rfl | hm
  · exact Or.inl xw_22
  rcases List.mem_cons.mp hm with rfl | hm
  · exact Or.inl xw_23
  rcases List.mem_cons.mp hm with rfl | hm
  · exact Or.inl xw_24
  rcases List.mem_cons.mp hm with rfl | hm
  · exact Or.inl xw_21
  rcases List.mem_cons.mp hm with rfl | hm
  · exact Or.inl xw_57
  rcases List.mem_cons.mp hm with rfl | hm
  · exact Or.inl xw_58
  rcases List.mem_cons.mp hm with rfl | hm
  · exact Or.inl xw_59
  rcases List.mem_cons.mp hm with rfl | hm
  · exact Or.inl xw_28
  rcases List.mem_cons.mp hm with rfl | hm
  · exact Or.inr (List.mem_of_getElem? (i := 0) rfl)
  rcases List.mem_cons.mp hm with rfl | hm
  · exact Or.inl xw_28
  rcases List.mem_cons.mp hm with rfl | hm
  · exact Or.inl xw_29
  rcases List.mem_cons.mp hm with rfl | hm
  · exact Or.inl xw_30
  rcases List.mem_cons.mp hm with rfl | hm
  · exact Or.inl xw_31
  rcases List.mem_cons.mp hm with rfl | hm
  · exact Or.inr (List.mem_of_getElem? (i := 1) rfl)
  rcases List.mem_cons.mp hm with rfl | hm
  · exact Or.inl xw_31
  rcases List.mem_cons.mp hm with rfl | hm
  · exact Or.inl xw_32
  rcases List.mem_cons.mp hm with rfl | hm
  · exact Or.inl xw_33
  rcases List.mem_cons.mp hm with rfl | hm
  · exact Or.inl xw_22
  rcases List.mem_cons.mp hm with rfl | hm
  · exact Or.inr (List.mem_of_getElem? (i := 2) rfl)
  rcases List.mem_cons.mp hm with rfl | hm
  · exact Or.inl xw_60
  rcases List.mem_cons.mp hm with rfl | hm
  · exact Or.inl xw_61
  rcases List.mem_cons.mp hm with rfl | hm
  · exact Or.inr (List.mem_of_getElem? (i := 5) rfl)
  rcases List.mem_cons.mp hm with rfl | hm
  · exact Or.inl xw_62
  rcases List.mem_cons.mp hm with rfl | hm
  · exact Or.inl xw_63
  rcases List.mem_cons.mp hm with rfl | hm
  · exact Or.inl xw_64
  rcases List.mem_cons.mp hm with rfl | hm
  · exact Or.inl xw_65
  rcases List.mem_cons.mp hm with rfl | hm
  · exact Or.inl xw_66
  rcases List.mem_cons.mp hm with rfl | hm
  · exact Or.inl xw_67
  rcases List.mem_cons.mp hm with rfl | hm
  · exact absurd h2.2 (by decide +kernel)
  rcases List.mem_cons.mp hm with rfl | hm
  · exact absurd h2.2 (by decide +kernel)
  rcases List.mem_cons.mp hm with rfl | hm
  · exact Or.inl xw_42
  rcases List.mem_cons.mp hm with rfl | hm
  · exact Or.inl xw_43
  rcases List.mem_cons.mp hm with rfl | hm
  · exact Or.inl xw_68
  exact absurd hm List.not_mem_nil
theorem x_ng {args : Array Value} {s : State} (hR : kR s) : ∀ w ∈ ([.declares (Bundle.initS "java/lang/RuntimeException"), .declares (Bundle.initS "java/lang/Exception"), .declares (Bundle.initS Bundle.tN), .castable "java/lang/IndexOutOfBoundsException" "java/lang/IndexOutOfBoundsException", .castable "java/lang/IllegalArgumentException" "java/lang/IllegalArgumentException", .castable "java/lang/IllegalStateException" "java/lang/IllegalStateException"] : List Cond), w.before args s = true := by
  obtain ⟨-, -, -, -, g0, g1, g2, g3, g4, g5⟩ := hR
  exact vx_c (va_Nw.use rfl g0) (vx_c (va_Nw.use rfl g1) (vx_c (va_Nw.use rfl g2) (vx_c (va_Nw.use rfl g3) (vx_c (va_Nw.use rfl g4) (vx_c (va_Nw.use rfl g5) (vx_n))))))
theorem x_hat219 {args : Array Value} {s : State} (hts : ∀ w ∈ kBig, w.before args s = true) (hR : kR s) : ∀ w ∈ vx_atS RX6 219 "java/lang/IndexOutOfBoundsException" ["java/lang/RuntimeException", "java/lang/Exception"], w.before args s = true := fun w h => (x_all219 w h).elim (hts w) (x_ng hR w)
theorem x_good219 {c1 c2 : Cond} (h1 : c1 ∈ kBig) (h2 : c2 ∈ kBig) : ∀ w ∈ c1 :: c2 :: vx_atS RX6 219 "java/lang/IndexOutOfBoundsException" ["java/lang/RuntimeException", "java/lang/Exception"], vx_ot w = true := x_hgood h1 h2 fun w h => (x_all219 w h).elim kBig_ot (fun q => List.all_eq_true.mp (by decide +kernel : ([.declares (Bundle.initS "java/lang/RuntimeException"), .declares (Bundle.initS "java/lang/Exception"), .declares (Bundle.initS Bundle.tN), .castable "java/lang/IndexOutOfBoundsException" "java/lang/IndexOutOfBoundsException", .castable "java/lang/IllegalArgumentException" "java/lang/IllegalArgumentException", .castable "java/lang/IllegalStateException" "java/lang/IllegalStateException"] : List Cond).all vx_ot = true) w q)
theorem x_hat214 {args : Array Value} {s : State} (hts : ∀ w ∈ kBig, w.before args s = true) (hR : kR s) : ∀ w ∈ vx_atS RX6 214 "java/lang/IllegalArgumentException" ["java/lang/RuntimeException", "java/lang/Exception"], w.before args s = true := fun w h => (x_all214 w h).elim (hts w) (x_ng hR w)
theorem x_good214 {c1 c2 : Cond} (h1 : c1 ∈ kBig) (h2 : c2 ∈ kBig) : ∀ w ∈ c1 :: c2 :: vx_atS RX6 214 "java/lang/IllegalArgumentException" ["java/lang/RuntimeException", "java/lang/Exception"], vx_ot w = true := x_hgood h1 h2 fun w h => (x_all214 w h).elim kBig_ot (fun q => List.all_eq_true.mp (by decide +kernel : ([.declares (Bundle.initS "java/lang/RuntimeException"), .declares (Bundle.initS "java/lang/Exception"), .declares (Bundle.initS Bundle.tN), .castable "java/lang/IndexOutOfBoundsException" "java/lang/IndexOutOfBoundsException", .castable "java/lang/IllegalArgumentException" "java/lang/IllegalArgumentException", .castable "java/lang/IllegalStateException" "java/lang/IllegalStateException"] : List Cond).all vx_ot = true) w q)
theorem x_hat88 {args : Array Value} {s : State} (hts : ∀ w ∈ kBig, w.before args s = true) (hR : kR s) : ∀ w ∈ vx_atS RX6 88 "java/lang/IllegalStateException" ["java/lang/RuntimeException", "java/lang/Exception"], w.before args s = true := fun w h => (x_all88 w h).elim (hts w) (x_ng hR w)
theorem x_good88 {c1 c2 : Cond} (h1 : c1 ∈ kBig) (h2 : c2 ∈ kBig) : ∀ w ∈ c1 :: c2 :: vx_atS RX6 88 "java/lang/IllegalStateException" ["java/lang/RuntimeException", "java/lang/Exception"], vx_ot w = true := x_hgood h1 h2 fun w h => (x_all88 w h).elim kBig_ot (fun q => List.all_eq_true.mp (by decide +kernel : ([.declares (Bundle.initS "java/lang/RuntimeException"), .declares (Bundle.initS "java/lang/Exception"), .declares (Bundle.initS Bundle.tN), .castable "java/lang/IndexOutOfBoundsException" "java/lang/IndexOutOfBoundsException", .castable "java/lang/IllegalArgumentException" "java/lang/IllegalArgumentException", .castable "java/lang/IllegalStateException" "java/lang/IllegalStateException"] : List Cond).all vx_ot = true) w q)
