/-! ===== the law's own cells beside the world ===== -/
section WG
variable {D : va_G} {yc : Nat → ClassId} {e0 : Nat} {A : Nat → Prop} {S : TS} {Z : Nat × Nat} {F : TF} {G : TG} {q : TQ} {H H1 : Heap}
theorem WT.grow (h : WT D yc e0 A S Z F G q H) {c n : Nat} (hk : ∀ a : Nat, a < H.size → H1[a]? = H[a]?) (hz : H1.size ≤ H.size + c) (hh : zh H1 ≤ zh H + n) : WT D yc e0 A S (Z.1 + c, Z.2 + n) F G q H1 := by
  obtain ⟨own, g1, g2, g3, g4, g5, g6, g7⟩ := h
  refine ⟨own, fun kd fl k hd => ?_, fun i hi => ?_, fun b fl k hl => ?_, g4, ?_, ?_, g7⟩
  · obtain ⟨h1, h2⟩ := g1 kd fl k hd
    exact ⟨h1.kept (hk _ h1.lt), h2⟩
  · obtain ⟨x, f, h1, h2, h3⟩ := g2 i hi
    exact ⟨x, f, WRow.kept ⟨h1, h2, h3⟩ (hk _ h1.1.lt) (hk _ h2.1.lt)⟩
  · obtain ⟨h0, ⟨h1, mc, h2⟩ | ⟨mc, x, cap, f, h1, h2, h3⟩⟩ := g3 b fl k hl
    · exact ⟨h0, Or.inl ⟨h1, mc, h2.kept (hk _ h2.lt)⟩⟩
    · exact ⟨h0, Or.inr ⟨mc, x, cap, f, h1.kept (hk _ h1.lt), ⟨h2.1.kept (hk _ h2.1.lt), h2.2⟩, h3⟩⟩
  · show H1.size ≤ Z.1 + c + Psi q
    omega
  · show zh H1 ≤ Z.2 + n + Phi q
    omega
/-- a cell that isn't the world's is written -/
theorem WT.beside (h : WT D yc e0 A S Z F G q H) {a : Nat} (ha : ∀ e, ¬ va_at D vwCl (a, .inr e) H) (hl : ∀ n f, ¬ va_at D vwCl (a, .inl (yc 1, n, .inr (.inl f))) H) (hq : ∀ n f, ¬ va_at D vwCl (a, .inl (yc 2, n, .inr (.inr (.inr (.inr f))))) H) (hk : ∀ x : Nat, x ≠ a → H1[x]? = H[x]?) (hz : H1.size = H.size) (hh : zh H1 = zh H) : WT D yc e0 A S Z F G q H1 := by
  obtain ⟨own, g1, g2, g3, g4, g5, g6, g7⟩ := h
  refine ⟨own, fun kd fl k hd => ?_, fun i hi => ?_, fun b fl k hl' => ?_, g4, by rw [hz]; exact g5, by rw [hh]; exact g6, g7⟩
  · obtain ⟨h1, h2⟩ := g1 kd fl k hd
    refine ⟨h1.kept (hk _ fun e => ?_), h2⟩
    obtain ⟨e1, he1⟩ := cel_inr (S := S) (G := G) (kd := kd) (fl := fl) (k := k) (f := F kd fl k)
    rw [he1] at h1
    have e : zg S kd fl k = a := e
    rw [e] at h1
    exact ha _ h1
  · obtain ⟨x, f, h1, h2, h3⟩ := g2 i hi
    refine ⟨x, f, WRow.kept ⟨h1, h2, h3⟩ (hk _ fun e => ?_) (hk _ fun e => ?_)⟩
    · have h4 := h1.1
      rw [e] at h4
      exact ha _ h4
    · have h4 := h2.1
      rw [e] at h4
      exact hl _ _ h4
  · obtain ⟨h0, ⟨h1, mc, h2⟩ | ⟨mc, x, cap, f, h1, h2, h3⟩⟩ := g3 b fl k hl'
    · refine ⟨h0, Or.inl ⟨h1, mc, h2.kept (hk _ fun e => ?_)⟩⟩
      have e : zl S b fl k = a := e
      rw [e] at h2
      exact ha _ h2
    · refine ⟨h0, Or.inr ⟨mc, x, cap, f, h1.kept (hk _ fun e => ?_), ⟨h2.1.kept (hk _ fun e => ?_), h2.2⟩, h3⟩⟩
      · have e : zl S b fl k = a := e
        rw [e] at h1
        exact ha _ h1
      · have h4 := h2.1
        have e : x = a := e
        rw [e] at h4
        exact hq _ _ h4
end WG
