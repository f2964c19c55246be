/-! ===== places: numbers from 0 on ===== -/
theorem pf_at {S : TS} {F : TF} {G : TG} {q : TQ} {fl k : Nat} {l1 : Int64} : ∀ (n lo hi B : Nat), B < 2 ^ 31 → lo ≤ B → hi ≤ B → ∃ j, j ≤ B ∧ r_X7_placeFor S F G q fl k l1 n lo hi = nI j
  | 0, lo, hi, B, hB, h1, h2 => ⟨lo, h1, rfl⟩
  | n + 1, lo, hi, B, hB, h1, h2 => by
    simp only [r_X7_placeFor]
    by_cases h : nI hi ≤ nI lo
    · rw [if_pos h]; exact ⟨lo, h1, rfl⟩
    · rw [if_neg h]
      have hlt : lo < hi := by
        rcases Nat.lt_or_ge lo hi with h3 | h3
        · exact h3
        · exact absurd (nI_le h3 (by omega)) h
      split
      · exact pf_at n lo ((lo + hi) / 2) B hB h1 (by omega)
      · exact pf_at n ((lo + hi) / 2 + 1) hi B hB (by omega) h2
theorem pf_le {S : TS} {F : TF} {G : TG} {q : TQ} {fl k : Nat} {l1 : Int64} (h : (q (rs 0 fl k)).2.length < 2 ^ 31) : ∃ j, j ≤ (q (rs 0 fl k)).2.length ∧ v_X7_placeFor S F G q fl k l1 = nI j :=
  pf_at 40 0 _ _ h (Nat.zero_le _) (Nat.le_refl _)
theorem pf_ok {S : TS} {F : TF} {G : TG} {q : TQ} {fl k : Nat} {l1 : Int64} (h : (q (rs 0 fl k)).2.length ≤ 8388608) : v_X7_placeFor S F G q fl k l1 = nI (v_X7_placeFor S F G q fl k l1).toNatClampNeg := by
  obtain ⟨j, h1, h2⟩ := pf_le (S := S) (F := F) (G := G) (q := q) (fl := fl) (k := k) (l1 := l1) (by omega)
  rw [h2, nI_clamp (by omega)]
theorem fe_ok {S : TS} {F : TF} {G : TG} {q : TQ} {fl k : Nat} {i1 : Int32} (h : (q (rs 0 fl k)).2.length ≤ 8388608) : v_X7_firstEndingAbove S F G q fl k i1 = nI (v_X7_firstEndingAbove S F G q fl k i1).toNatClampNeg := pf_ok h
