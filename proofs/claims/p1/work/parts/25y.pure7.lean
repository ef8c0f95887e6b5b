/-! ===== the law's helpers ===== -/
theorem k_rest {D : va_G} {A : Nat → Prop} {ws wc wr : va_W} {H H1 : Heap} (hP : va_P D vwCl ws H) (hD : va_D A ws) (isC isR : List Nat) (hC : isC.map (fun i => ws[i]?) = wc.map some) (hR : isR.map (fun i => ws[i]?) = wr.map some) (hn : va_nd isR = true) (hdis : ∀ i ∈ isR, i ∉ isC) (hF : ∀ q, va_A wc H.size q → A q)
    (hk : ∀ q : Nat, q < H.size → ¬ va_A wc H.size q → H1[q]? = H[q]?) : va_P D vwCl wr H1 ∧ va_D A wr := by
  obtain ⟨h1, h2⟩ := va_join (wr := wr) (w1 := []) (H1 := H1) hP hD isC isR hC hR hn hdis hk hF (fun k x hx => by simp at hx) ⟨fun i j x y hi => by simp at hi, fun k x hx => by simp at hx⟩
  rw [List.append_nil] at h1 h2
  exact ⟨h1, h2⟩
