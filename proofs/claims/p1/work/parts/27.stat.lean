/-! ===== the class's three rows of numbers ===== -/
def kTab (t : Nat) (f : Nat → Int32) (A : Nat → Prop) (U : State) (H : Heap) : Prop := ∃ cell : Cell, H[t]? = some cell ∧ (∀ k, cell.vm ≠ .statics k) ∧ cell.vm ≠ .unknown ∧ U.isArrayOf cell .int ∧ U.vm.findClass "[I" = some cell.cls ∧ cell.slots = Array.ofFn (fun i : Fin 8 => Value.int (f i.val)) ∧ ¬ A t
theorem kTab.at {t : Nat} {f : Nat → Int32} {A B : Nat → Prop} {u U : State} {H H1 : Heap} (hvm : u.vm.Alike U.vm) (h : kTab t f A u H) (hq : ∀ a : Nat, a < H.size → ¬ A a → H1[a]? = H[a]?) (hAB : ∀ q, B q → A q) : kTab t f B U H1 := by
  obtain ⟨cell, h1, h2, h3, h4, h5, h6, h7⟩ := h
  exact ⟨cell, by rw [hq t (Array.getElem?_eq_some_iff.mp h1).1 h7]; exact h1, h2, h3, State.isArrayOf_alike hvm h4, by rw [hvm.findClass]; exact h5, h6, fun z => h7 (hAB _ z)⟩
def kS1 (nm : String) (f : Nat → Int32) (A : Nat → Prop) (U : State) (H : Heap) : Prop := ∃ t, va_Z RX6 nm "[I" (.ref t) A U H ∧ kTab t f A U H
theorem kS1.at {nm : String} {f : Nat → Int32} {A B : Nat → Prop} {u U : State} {H H1 : Heap} (hvm : u.vm.Alike U.vm) (h : kS1 nm f A u H) (hq : ∀ a : Nat, a < H.size → ¬ A a → H1[a]? = H[a]?) (hAB : ∀ q, B q → A q) : kS1 nm f B U H1 := by
  obtain ⟨t, h1, h2⟩ := h
  exact ⟨t, ((h1.moved hvm).kept hq).narrow hAB, h2.at hvm hq hAB⟩
def kS (A : Nat → Prop) (U : State) (H : Heap) : Prop := kS1 "LEAST_VALUES" (fun j => nI (kLo j)) A U H ∧ kS1 "MOST_VALUES" (fun j => nI (kHi j)) A U H ∧ kS1 "FIRST_VALUES" kPar A U H
theorem kS.at {A B : Nat → Prop} {u U : State} {H H1 : Heap} (hvm : u.vm.Alike U.vm) (h : kS A u H) (hq : ∀ a : Nat, a < H.size → ¬ A a → H1[a]? = H[a]?) (hAB : ∀ q, B q → A q) : kS B U H1 := ⟨h.1.at hvm hq hAB, h.2.1.at hvm hq hAB, h.2.2.at hvm hq hAB⟩
def kY (D : va_G) (tys : List (ClassId × FieldType)) (ws : va_W) (sz : Nat) (U : State) : Prop := kX D tys ws sz U ∧ kS (va_A ws sz) U U.heap
section KY
variable {p : Program} {l : Launch} {e : Env} {R : Room} {s : State} {m : MethodId} {args : Array Value} {below : List Frame} {meth : Method} {c : Code} {H : Heap} {locs : List Loc} {cells slots : Nat} {Q : State → Prop}
variable {cc : ByteArray} {pc : Nat} {ls : Array Slot} {rest : List Value} {D : va_G} {A : Nat → Prop} {a : Nat} {tys : List (ClassId × FieldType)} {ws : va_W} {H0 : Heap}
theorem kY_blind {av : List Value} {sz : Nat} : FrameBlind (va_Pc av (kY D tys ws sz)) := by
  intro a U g mk q
  obtain ⟨q0, q1, q2⟩ := q
  have h := kX_blind (D := D) (tys := tys) (ws := ws) (av := av) (sz := sz) a U g mk ⟨q0, q1⟩
  exact ⟨h.1, h.2, q2.at (Vm.Alike.refl U.vm) (fun _ _ _ => rfl) (fun _ z => z)⟩
theorem kS_sub {wc : va_W} {U : State} (hY : kS A s s.heap) (hD : va_D A ws) (hS : va_S A s.heap H locs) (hA : ∀ q, s.heap.size ≤ q → A q) (isC : List Nat) (hC : isC.map (fun i => ws[i]?) = wc.map some) (hU : U.heap = H) (hW : s.WarmedH U.vm) : kS (va_A wc H.size) U U.heap := by
  rw [hU]
  exact hY.at hW.alike (fun a h1 h2 => hS.2.1 a h1 h2) (fun q h => va_free hD hS hA isC hC q h)
theorem k_preVY {wc : va_W} {b ci : Nat} {C : String} {T : u_T} {N q0 : Nat} {fs : List Value} {As : List Value} (hY : kS A s s.heap) (hZ : kZ A s s.heap) (hR : kR s) (hS : va_S A s.heap H locs) (hA : ∀ q, s.heap.size ≤ q → A q) (hP : va_P D vwCl ws H) (hD : va_D A ws) (hK : va_K D vwCl tys s) (hN : kN s) (isC : List Nat) (hC : isC.map (fun i => ws[i]?) = wc.map some) (hn : va_nd isC = true) (hc : vwCl[ci]? = some (C, T, N)) (he : ws[q0]? = some (b, .inr (ci, fs))) : PreV s H C b (va_Pc (.ref b :: As) (kY D tys wc H.size)) As := by
  have h := k_preVX (As := As) hZ hR hS hA hP hD hK hN isC hC hn hc he
  exact ⟨kY_blind, h.2.1, fun U hU hW => ⟨(h.2.2 U hU hW).1, (h.2.2 U hU hW).2, kS_sub hY hD hS hA isC hC hU hW⟩⟩
theorem k_preSY {wc : va_W} {As : List Value} (hY : kS A s s.heap) (hZ : kZ A s s.heap) (hR : kR s) (hS : va_S A s.heap H locs) (hA : ∀ q, s.heap.size ≤ q → A q) (hP : va_P D vwCl ws H) (hD : va_D A ws) (hK : va_K D vwCl tys s) (hN : kN s) (isC : List Nat) (hC : isC.map (fun i => ws[i]?) = wc.map some) (hn : va_nd isC = true) : PreS s H (va_Pc As (kY D tys wc H.size)) As := by
  have h := k_preSX (As := As) hZ hR hS hA hP hD hK hN isC hC hn
  exact ⟨kY_blind, fun U hU hW => ⟨(h.2 U hU hW).1, (h.2 U hU hW).2, kS_sub hY hD hS hA isC hC hU hW⟩⟩
theorem k_tld (hexec : p.tables.exec = Jvm.exec) (hb : c.code = cc) {t : Nat} {f : Nat → Int32} (hT : kTab t f A s s.heap) (hS : va_S A s.heap H locs) {i : Nat} (hi : i < 8) {v : Int32} (hv : f i = v) (hdg : decode cc pc = .ok (.iaload, 1))
    (kk : W p l e R s m args below meth c H locs cells slots Q (F0 m (pc + 1) ls (.int v :: rest))) : W p l e R s m args below meth c H locs cells slots Q (F0 m pc ls (.int (nI i) :: .ref t :: rest)) := by
  obtain ⟨cell, h1, h2, h3, h4, h5, h6, h7⟩ := hT
  have hz8 : cell.slots.size = 8 := by rw [h6, Array.size_ofFn]
  have hT' : va_T .int t 8 (fun j => .int (f j)) A s s.heap := ⟨cell, h1, h4, h3, Nat.le_of_eq hz8.symm, congrArg Nat.toInt32 hz8, fun j hj => by rw [h6]; simp [hj], h7⟩
  exact va_ti hexec hb hT' hS (vp_in_nI hi (by omega)) (v := .int v) (by rw [nI_clamp (by omega)]; exact congrArg Value.int hv) hdg kk
theorem k_cloneT (hexec : p.tables.exec = Jvm.exec) (hb : c.code = cc) (hml : c.maxLocals = ls.size) {own : String} {index : Nat} (hown : s.vm.findClass own = some m.cls)
    (hlink : (Cond.methodLink own index ⟨"[I", "clone", "()Ljava/lang/Object;"⟩).before args s = true) (hsame : (Cond.sameMethod "[I" "java/lang/Object" "clone" "()Ljava/lang/Object;").before args s = true)
    (hnat : (Cond.native ⟨"java/lang/Object", "clone", "()Ljava/lang/Object;"⟩).before args s = true) (hinst : (Cond.instanceMethod ⟨"java/lang/Object", "clone", "()Ljava/lang/Object;"⟩).before args s = true)
    (hsel : (Cond.selects "[I" ⟨"[I", "clone", "()Ljava/lang/Object;"⟩ ⟨"java/lang/Object", "clone", "()Ljava/lang/Object;"⟩).before args s = true) (hcl : va_Nw (.castable "[I" "java/lang/Cloneable") s)
    {t : Nat} {f : Nat → Int32} (hT9 : kTab t f A s s.heap) (hK : va_K D vwCl tys s) (hP : va_P D vwCl ws H) (hD : va_D A ws) (hS : va_S A s.heap H locs) (hA : ∀ q, s.heap.size ≤ q → A q) (t0 : Nat) {cA : ClassId} (ht : tys[t0]? = some (cA, .int))
    (hframes : 1 ≤ R.frames) (hlocals : (rest.map fun v => v.category).sum + 14 ≤ R.locals) (hcells : cells + 1 ≤ R.cells) (hslots : slots + 8 ≤ R.slots) (hdg : decode cc pc = .ok (.invokevirtual index, 3))
    (kk : ∀ (q : Nat) (H1 : Heap), va_P D vwCl (ws ++ [(q, .inl (cA, 8, .inl f))]) H1 → va_D A (ws ++ [(q, .inl (cA, 8, .inl f))]) → va_S A s.heap H1 locs →
      W p l e R s m args below meth c H1 locs (cells + 1) (slots + 8) Q (F0 m (pc + 3) ls (.ref q :: rest))) : W p l e R s m args below meth c H locs cells slots Q (F0 m pc ls (.ref t :: rest)) := by
  obtain ⟨cell, h1, h2, h3, h4, h5, h6, h7⟩ := hT9
  obtain ⟨c0, tC, f1, f2, f3⟩ := Cond.castable_spec (va_Nw.use (A := args) rfl hcl)
  cases h5.symm.trans f1
  have hcA : cell.cls = cA := Option.some.inj (h5.symm.trans (va_nm_int (hK.2 t0 _ ht).2))
  have hsz : cell.slots.size = 8 := by rw [h6, Array.size_ofFn]
  have hcellE : ({ cls := cell.cls, slots := cell.slots } : Cell) = vp_cell cA (8, .inl f) := by
    rw [h6, hcA]
    rfl
  intro T hT X
  have hlt := (Array.getElem?_eq_some_iff.mp h1).1
  have hcellT : T.heap[t]? = some cell := by rw [hT, hS.2.1 t hlt h7]; exact h1
  obtain ⟨-, kA, hkA, comp, hkind⟩ := State.isArrayOf_alike X.warmed.alike h4
  obtain ⟨-, kS, hkS, compS, hkindS⟩ := id h4
  obtain ⟨vm', X', st⟩ := X.cloneArray hexec hown hlink hsame hnat hinst hsel (a := t) (cell := cell) hcellT h2 h3 h5 f2 f3
    (fun i v hv => by
      have hk' : T.vm.classes[cell.cls]? = some kA := hkA
      have hi : i < 8 := by
        have := (Array.getElem?_eq_some_iff.mp hv).1
        rw [hsz] at this
        exact this
      have hv2 : v = .int (f i) := by
        rw [h6] at hv
        have h9 : (Array.ofFn (fun i : Fin 8 => Value.int (f i.val)))[i]? = some (.int (f i)) := by simp [hi]
        exact Option.some.inj (hv.symm.trans h9)
      have hfit : fits .int v = true := by rw [hv2]; rfl
      simpa [State.fitsSlot, State.slotType?, hk', hkind] using hfit)
    (g := F0 m pc ls (.ref t :: rest)) rfl (by rw [hml]) rfl (by rw [hb]; exact hdg) hframes (by show 2 * 0 + _ + 14 ≤ _; omega) hcells (by rw [hsz]; exact hslots) (hloader := Vm.clonesLoader_of_array hkS hkindS)
  rw [hcellE, hsz] at X'
  generalize hH1 : H.push (vp_cell cA (8, .inl f)) = H1
  have z1 : H1.size = H.size + 1 := by rw [← hH1, Array.size_push]
  have e1 : H1[H.size]? = some (vp_cell cA (8, .inl f)) := by rw [← hH1, Array.getElem?_push_size]
  have o1 : ∀ q : Nat, q < H.size → H1[q]? = H[q]? := fun q hq => by rw [← hH1, Array.getElem?_push, if_neg (Nat.ne_of_lt hq)]
  have hk : ∀ (k : Nat) (y : Nat × va_E), ws[k]? = some y → H1[y.1]? = H[y.1]? := fun k y hy => o1 y.1 ((hP k y hy).lt)
  obtain ⟨t2, b1, b2⟩ := kk H.size H1 ((hP.kept hk).app (fun k y hy => by
      have hz : k < 1 := (List.getElem?_eq_some_iff.mp hy).1
      rw [show k = 0 by omega] at hy
      cases hy
      exact e1)) (hD.push hP rfl (hA _ hS.1)) ⟨Nat.le_trans hS.1 (by omega), fun y h1 h2 => (o1 y (Nat.lt_of_lt_of_le h1 hS.1)).trans (hS.2.1 y h1 h2), hS.2.2⟩
    ((T.setVm vm').pushCell (vp_cell cA (8, .inl f))) (by rw [← hH1, ← hT]; rfl) X'
  refine ⟨t2, st t2 ?_, b2⟩
  rw [hcellE, hT]
  exact b1
end KY
theorem kHi_le : ∀ j, j < 8 → kHi j ≤ 1000 := by decide
theorem k_clampN {N : Nat} {x : Int32} (h : kNodes N x) : (if nI 2 < (if x < nI 10 then x else nI 10) then (if x < nI 10 then x else nI 10) else nI 2) = nI N := by
  rcases h with ⟨h, rfl⟩ | ⟨h, rfl⟩ | ⟨rfl, h2, h3⟩
  · have h1 := Int32.lt_iff_toInt_lt.mp h
    rw [nI_toInt (by omega)] at h1
    have h9 : x < nI 10 := Int32.lt_iff_toInt_lt.mpr (by rw [nI_toInt (by omega)]; omega)
    rw [if_pos h9]
    exact if_neg (fun q => by
      have h2 := Int32.lt_iff_toInt_lt.mp q
      rw [nI_toInt (by omega)] at h2
      omega)
  · have h1 := Int32.lt_iff_toInt_lt.mp h
    rw [nI_toInt (by omega)] at h1
    have h9 : ¬ x < nI 10 := fun q => by
      have h2 := Int32.lt_iff_toInt_lt.mp q
      rw [nI_toInt (by omega)] at h2
      omega
    rw [if_neg h9]
    exact if_pos (by decide)
  · by_cases h9 : N = 10
    · subst h9
      decide
    · rw [if_pos (nI_lt (by omega) (by omega))]
      by_cases h8 : N = 2
      · subst h8
        decide
      · exact if_pos (nI_lt (by omega) (by omega))
