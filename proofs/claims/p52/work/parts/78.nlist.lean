/-! ===== the lists behind wire; the facts of a shape ===== -/
theorem fm_range {α : Type} {f g : Nat → List α} : ∀ n : Nat, (∀ c, c < n → f c = g c) → (List.range n).flatMap f = (List.range n).flatMap g
  | 0, _ => rfl
  | n + 1, h => by
    rw [List.range_succ, List.flatMap_append, List.flatMap_append, fm_range n (fun c hc => h c (by omega))]
    simp [h n (by omega)]
section NL
variable {S : TS} {in1 in2 : Option Nat} {pa lg : Nat} {st c1 c2 : Nat → Nat} {uu : Nat → Nat → Nat} {fl k : Nat}
theorem ns_och : och (nS S in1 in2 pa lg st c1 c2 uu) k = och S k ++ ((if in1 = some k then [(4, zn S)] else []) ++ (if in2 = some k then [(5, zn S)] else [])) := by
  unfold och
  rw [ns_n, List.range_succ, List.flatMap_append]
  congr 1
  · exact fm_range _ (fun c hc => by rw [ns_p hc, ns_p hc])
  · simp only [List.flatMap_cons, List.flatMap_nil, List.append_nil]
    rw [ns_p0, ns_p1]
theorem ns_lic0 : lic (nS S in1 in2 pa lg st c1 c2 uu) 0 fl 0 = lic S 0 fl 0 ++ [st fl] := by
  unfold lic
  rw [if_pos rfl, if_pos rfl, ns_n, List.range_succ, List.map_append]
  congr 1
  · apply List.map_congr_left
    intro c hc
    exact ns_2 (List.mem_range.mp hc)
  · rw [List.map_singleton, ns_2n]
theorem och_lt {q : Nat × Nat} (h : q ∈ och S k) : q.2 < zn S ∧ ((q.1 = 4 ∧ zp S 0 q.2 = some k) ∨ (q.1 = 5 ∧ zp S 1 q.2 = some k)) := by
  unfold och at h
  obtain ⟨c, hc, hq⟩ := List.mem_flatMap.mp h
  have hc := List.mem_range.mp hc
  rcases List.mem_append.mp hq with h1 | h1
  · by_cases h2 : zp S 0 c = some k
    · rw [if_pos h2] at h1
      simp only [List.mem_singleton] at h1
      subst h1
      exact ⟨hc, Or.inl ⟨rfl, h2⟩⟩
    · rw [if_neg h2] at h1
      simp at h1
  · by_cases h2 : zp S 1 c = some k
    · rw [if_pos h2] at h1
      simp only [List.mem_singleton] at h1
      subst h1
      exact ⟨hc, Or.inr ⟨rfl, h2⟩⟩
    · rw [if_neg h2] at h1
      simp at h1
theorem ns_lic1 : lic (nS S in1 in2 pa lg st c1 c2 uu) 1 fl k = lic S 1 fl k ++ ((if in1 = some k then [c1 fl] else []) ++ (if in2 = some k then [c2 fl] else [])) := by
  unfold lic
  rw [if_neg (by decide), if_neg (by decide), ns_och, List.map_append]
  congr 1
  · apply List.map_congr_left
    intro q hq
    obtain ⟨h1, ⟨h2, -⟩ | ⟨h2, -⟩⟩ := och_lt hq
    · rw [h2]; exact ns_4 h1
    · rw [h2]; exact ns_5 h1
  · rw [List.map_append]
    congr 1
    · by_cases h : in1 = some k
      · rw [if_pos h, if_pos h, List.map_singleton, ns_4n]
      · rw [if_neg h, if_neg h]; rfl
    · by_cases h : in2 = some k
      · rw [if_pos h, if_pos h, List.map_singleton, ns_5n]
      · rw [if_neg h, if_neg h]; rfl
theorem ns_och_n (hok : zok S) (h1 : ∀ q, in1 = some q → q < zn S) (h2 : ∀ q, in2 = some q → q < zn S) : lic (nS S in1 in2 pa lg st c1 c2 uu) 1 fl (zn S) = [] := by
  have e : och S (zn S) = [] := by
    apply List.eq_nil_iff_forall_not_mem.mpr
    intro q hq
    obtain ⟨g1, ⟨-, g2⟩ | ⟨-, g2⟩⟩ := och_lt hq
    · have := hok 0 q.2 _ g1 g2; omega
    · have := hok 1 q.2 _ g1 g2; omega
  rw [ns_lic1]
  unfold lic
  rw [if_neg (by decide), e, if_neg (fun h => by have := h1 _ h; omega), if_neg (fun h => by have := h2 _ h; omega)]
  rfl
theorem ns_zok (hok : zok S) (h1 : ∀ q, in1 = some q → q < zn S) (h2 : ∀ q, in2 = some q → q < zn S) : zok (nS S in1 in2 pa lg st c1 c2 uu) := by
  intro x k p hk hp
  rw [ns_n] at hk
  by_cases h : k < zn S
  · rw [ns_p h] at hp
    exact hok x k p h hp
  · obtain rfl : k = zn S := by omega
    have h3 : (if x = 0 then in1 else if x = 1 then in2 else none) = some p := by
      have h4 : zp (nS S in1 in2 pa lg st c1 c2 uu) x (zn S) = if x = 0 then in1 else if x = 1 then in2 else none := if_pos rfl
      rw [h4] at hp
      exact hp
    by_cases h4 : x = 0
    · rw [if_pos h4] at h3; exact h1 p h3
    · rw [if_neg h4] at h3
      by_cases h5 : x = 1
      · rw [if_pos h5] at h3; exact h2 p h3
      · rw [if_neg h5] at h3; cases h3
end NL
