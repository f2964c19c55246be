/-! ===== wiring: a list's next element, over facts ===== -/
theorem xa2 {a v sz q : Nat} {ea ev : va_E} (h : va_A [(a, ea), (v, ev)] sz q) : q = a ∨ q = v ∨ sz ≤ q := by
  rcases h with ⟨k, e, h⟩ | h
  · match k, h with
    | 0, h => cases h; exact Or.inl rfl
    | 1, h => cases h; exact Or.inr (Or.inl rfl)
    | k + 2, h => simp at h
  · exact Or.inr (Or.inr h)
theorem xa3 {a v x sz q : Nat} {ea ev ex : va_E} (h : va_A [(a, ea), (v, ev), (x, ex)] sz q) : q = a ∨ q = v ∨ q = x ∨ sz ≤ q := by
  rcases h with ⟨k, e, h⟩ | h
  · match k, h with
    | 0, h => cases h; exact Or.inl rfl
    | 1, h => cases h; exact Or.inr (Or.inl rfl)
    | 2, h => cases h; exact Or.inr (Or.inr (Or.inl rfl))
    | k + 3, h => simp at h
  · exact Or.inr (Or.inr (Or.inr h))
theorem xp2 {D : va_G} {H : Heap} {q1 q2 : Nat × va_E} (h1 : va_at D vwCl q1 H) (h2 : va_at D vwCl q2 H) : va_P D vwCl [q1, q2] H := by
  intro k q hk
  match k, hk with
  | 0, hk => cases hk; exact h1
  | 1, hk => cases hk; exact h2
  | k + 2, hk => simp at hk
theorem xp3 {D : va_G} {H : Heap} {q1 q2 q3 : Nat × va_E} (h1 : va_at D vwCl q1 H) (h2 : va_at D vwCl q2 H) (h3 : va_at D vwCl q3 H) : va_P D vwCl [q1, q2, q3] H := by
  intro k q hk
  match k, hk with
  | 0, hk => cases hk; exact h1
  | 1, hk => cases hk; exact h2
  | 2, hk => cases hk; exact h3
  | k + 3, hk => simp at hk
theorem xd1 {a : Nat} {ea : va_E} : va_D (fun _ => True) [(a, ea)] := by
  refine ⟨fun i j p q hi hj _ => ?_, fun _ _ _ => trivial⟩
  have h1 : i < 1 := (List.getElem?_eq_some_iff.mp hi).1
  have h2 : j < 1 := (List.getElem?_eq_some_iff.mp hj).1
  omega
theorem xd2 {a v : Nat} {ea ev : va_E} (h : a ≠ v) : va_D (fun _ => True) [(a, ea), (v, ev)] := by
  refine ⟨fun i j p q hi hj hpq => ?_, fun _ _ _ => trivial⟩
  match i, j, hi, hj with
  | 0, 0, _, _ => rfl
  | 1, 1, _, _ => rfl
  | 0, 1, hi, hj => cases hi; cases hj; exact absurd hpq h
  | 1, 0, hi, hj => cases hi; cases hj; exact absurd hpq.symm h
  | i + 2, _, hi, _ => simp at hi
  | 0, j + 2, _, hj => simp at hj
  | 1, j + 2, _, hj => simp at hj
theorem xd3 {a v x : Nat} {ea ev ex : va_E} (h : a ≠ v) (h2 : a ≠ x) (h3 : v ≠ x) : va_D (fun _ => True) [(a, ea), (v, ev), (x, ex)] := by
  refine ⟨fun i j p q hi hj hpq => ?_, fun _ _ _ => trivial⟩
  match i, j, hi, hj with
  | 0, 0, _, _ => rfl
  | 1, 1, _, _ => rfl
  | 2, 2, _, _ => rfl
  | 0, 1, hi, hj => cases hi; cases hj; exact absurd hpq h
  | 1, 0, hi, hj => cases hi; cases hj; exact absurd hpq.symm h
  | 0, 2, hi, hj => cases hi; cases hj; exact absurd hpq h2
  | 2, 0, hi, hj => cases hi; cases hj; exact absurd hpq.symm h2
  | 1, 2, hi, hj => cases hi; cases hj; exact absurd hpq h3
  | 2, 1, hi, hj => cases hi; cases hj; exact absurd hpq.symm h3
  | i + 3, _, hi, _ => simp at hi
  | 0, j + 3, _, hj => simp at hj
  | 1, j + 3, _, hj => simp at hj
  | 2, j + 3, _, hj => simp at hj
theorem xup {f : Nat → Option Nat} {L : List Nat} {v : Nat} (h : ∀ (j : Nat) (hj : j < L.length), f j = some L[j]) (j : Nat) (hj : j < (L ++ [v]).length) : va_up f L.length (some v) j = some (L ++ [v])[j] := by
  have hl : (L ++ [v]).length = L.length + 1 := by simp
  by_cases h1 : j < L.length
  · rw [List.getElem_append_left h1, ← h j h1]
    unfold va_up
    rw [if_neg (by omega)]
  · have : j = L.length := by omega
    subst this
    rw [List.getElem_append_right (by omega)]
    simp [va_up]
set_option maxHeartbeats 2000000 in
theorem x_add_1 (l : Launch) {D : va_G} {yc : Nat → ClassId} {e0 : Nat} {A : Nat → Prop} {own : TO} {ob : XO} {rw : XR} {ls : XL} {sz b fl k a v kdv flv kv : Nat} {L : List Nat} {fs : List Value} (hl : ls b fl k a L) (hL : L.length ≤ 12) (hv : ob kdv flv kv v (1, fs)) (hE : ∀ y ∈ L, y ≠ v ∧ ∃ kd fl k fs, ob kd fl k y (1, fs)) :
    Met l yJx4a65c_add_9ea2d (ws_ yJx4a65c_add_9ea2d cJx4a65c_add_9ea2d 2 (some .boolean)) { frames := 6, cells := 1, slots := 20, locals := 210 } (PX D yc e0 A own ob rw ls sz [.ref a, .ref v]) (va_Qi (fun r (_ : TO) => r = 1) (fun own' t => (∀ q, q < sz → own' q = own q) ∧ WX D yc e0 A own' ob rw (lsadd ls b fl k a (L ++ [v])) t.heap) A) 1 20 A := by
  refine Met.conv2 fun args s hP => ?_
  obtain ⟨rfl, hW, hz, hA, hC⟩ := hP
  subst hz
  have hov := hW.tag hv
  have hav := hW.in hv
  have hvo := hW.obj hv
  obtain ⟨⟨haA, hoa⟩, hh⟩ := hW.2.2.1 _ _ _ _ _ hl
  have hne : a ≠ v := fun e => by rw [e, hov] at hoa; simp at hoa
  rcases hh with ⟨hn, mc, h1⟩ | ⟨mc, x, cap, f, h1, ⟨h2, hxA, hox⟩, h3, h4, h5⟩
  · subst hn
    have hfr : ∀ q, va_A [(a, .inr (0, [.int mc, .ref e0, .int 0])), (v, .inr (1, fs))] s.heap.size q → A q := fun q hq => by
      rcases xa2 hq with rfl | rfl | h
      · exact haA
      · exact hav
      · exact hA q h
    refine ⟨_, _, _, _, 1, 10, ll_addE_1 l D yc e0 a v mc fs s.heap.size, ⟨⟨by decide, by decide, by decide, by decide⟩, by decide, by decide⟩, ⟨rfl, rfl, xp2 h1 hvo, xd2 hne, hC.narrow hfr⟩, hfr, ?_⟩
    rintro o t ⟨⟨r, u, hr, hr1, hP', hD'⟩, hF⟩ - - hk
    refine ⟨⟨r, ?_⟩, hF.1, fun q h1 h2 => hF.2 q h1 fun h => h2 (hfr q h)⟩
    have hx1 : va_A _ s.heap.size (u 0 0) := hD'.2 2 _ rfl
    have hx2 : s.heap.size ≤ u 0 0 := by
      rcases xa2 hx1 with h | h | h
      · exact absurd (hD'.1 1 2 _ _ rfl rfl h.symm) (by decide)
      · exact absurd (hD'.1 0 2 _ _ rfl rfl h.symm) (by decide)
      · exact h
    have hq1 : va_at D vwCl (a, .inr (0, [.int (mc + 1), .ref (u 0 0), .int (nI (([] : List Nat).length + 1))])) t.heap := by
      have e1 : nI (([] : List Nat).length + 1) = 1 := by decide
      rw [e1]
      exact hP' 1 _ rfl
    have hq2 : ∀ q : Nat, q < s.heap.size → ¬ (q = a ∨ q = a ∨ q = v) → t.heap[q]? = s.heap[q]? := fun q h7 h8 => hk q h7 fun h9 => by
      rcases xa2 h9 with h | h | h
      · exact h8 (Or.inl h)
      · exact h8 (Or.inr (Or.inr h))
      · omega
    have hq3 : ∀ (j : Nat) (h : j < (([] : List Nat) ++ [v]).length), va_up (fun _ => none) 0 (some v) j = some (([] : List Nat) ++ [v])[j] := fun j hj => by
      have hj' : j < 1 := hj
      have : j = 0 := by omega
      subst this
      simp [va_up]
    obtain ⟨own', g1, g2⟩ := x_fin (H1 := t.heap) (x := a) (x' := u 0 0) (cap' := 10) (L := []) hW hv hoa (Or.inr rfl) hq2 (hP' 0 _ rfl) hq1 (hP' 2 _ rfl) h1.lt (Or.inr hx2) haA (hfr _ hx1) (by simp) hq3
    exact ⟨own', hr, hr1, g1, g2⟩
  · have hnx : a ≠ x := fun e => by rw [e, hox] at hoa; simp at hoa
    have hvx : v ≠ x := fun e => by rw [e, hox] at hov; simp at hov
    have hfr : ∀ cap f q, va_A [(a, .inr (0, [.int mc, .ref x, .int (nI L.length)])), (v, .inr (1, fs)), (x, .inl (yc 2, cap, .inr (.inr (.inr (.inr f)))))] s.heap.size q → A q := fun cap f q hq => by
      rcases xa3 hq with rfl | rfl | rfl | h
      · exact haA
      · exact hav
      · exact hxA
      · exact hA q h
    have hsame : ∀ (cap : Nat) (f : Nat → Option Nat) (H1 : Heap), (∀ q : Nat, q < s.heap.size → ¬ va_A [(a, .inr (0, [.int mc, .ref x, .int (nI L.length)])), (v, .inr (1, fs)), (x, .inl (yc 2, cap, .inr (.inr (.inr (.inr f)))))] s.heap.size q → H1[q]? = s.heap[q]?) → ∀ q : Nat, q < s.heap.size → ¬ (q = a ∨ q = x ∨ q = v) → H1[q]? = s.heap[q]? := fun cap f H1 hk q h7 h8 => hk q h7 fun h9 => by
      rcases xa3 h9 with h | h | h | h
      · exact h8 (Or.inl h)
      · exact h8 (Or.inr (Or.inr h))
      · exact h8 (Or.inr (Or.inl h))
      · omega
    by_cases hcap : L.length < cap
    · refine ⟨_, _, _, _, 0, 0, ll_addR_1 l D yc e0 a v x cap L.length mc f fs s.heap.size hcap (by omega), ⟨⟨by decide, by decide, by decide, by decide⟩, by decide, by decide⟩, ⟨rfl, rfl, xp3 h1 hvo h2, xd3 hne hnx hvx, hC.narrow (hfr _ _)⟩, hfr _ _, ?_⟩
      rintro o t ⟨⟨r, u, hr, hr1, hP', hD'⟩, hF⟩ - - hk
      refine ⟨⟨r, ?_⟩, hF.1, fun q h1 h2 => hF.2 q h1 fun h => h2 (hfr _ _ q h)⟩
      obtain ⟨own', g1, g2⟩ := x_fin (H1 := t.heap) (x := x) (x' := x) (cap' := cap) (L := L) hW hv hoa (Or.inl hox) (hsame _ _ _ hk) (hP' 1 _ rfl) (mc' := mc + 1) (f' := va_up f L.length (some v)) (hP' 0 _ rfl) (hP' 2 _ rfl) h1.lt (Or.inl ⟨h2.lt, hox⟩) haA hxA ⟨hcap, h4.2⟩ (fun j hj => xup h5 j hj)
      exact ⟨own', hr, hr1, g1, g2⟩
    · have hcap : cap = L.length := by omega
      subst hcap
      obtain ⟨mi, hM⟩ := hC.2.2.2.2
      have hg := lgr_b (n := L.length) (by omega)
      have hg2 : lgr L.length ≤ 18 := by unfold lgr; split <;> omega
      refine ⟨_, _, _, _, 1, lgr L.length, ll_addG_1 l D yc e0 a v x L.length mc f fs mi s.heap.size h4.1 (by omega), ⟨⟨by dsimp only; omega, by dsimp only; omega, by dsimp only; omega, by dsimp only; omega⟩, by omega, by omega⟩, ⟨rfl, ⟨rfl, xp3 h1 hvo h2, xd3 hne hnx hvx, hC.narrow (hfr _ _)⟩, hM, fun i hi z hz => ?_⟩, hfr _ _, ?_⟩
      · rw [h5 i hi] at hz
        have hz' : L[i] = z := Option.some.inj hz
        have hmem : L[i] ∈ L := List.getElem_mem hi
        rw [hz'] at hmem
        obtain ⟨hzv, kd', fl', k', fs', hob⟩ := hE z hmem
        have hzo := hW.tag hob
        refine ⟨fun h => ?_, fs', hW.obj hob⟩
        rcases xa3 h with h | h | h | h
        · rw [h, hoa] at hzo; simp at hzo
        · exact hzv h
        · rw [h, hox] at hzo; simp at hzo
        · have := (hW.obj hob).lt
          simp only at this
          omega
      · rintro o t ⟨⟨r, u, hr, hr1, hP', hD'⟩, hF⟩ - - hk
        refine ⟨⟨r, ?_⟩, hF.1, fun q h1 h2 => hF.2 q h1 fun h => h2 (hfr _ _ q h)⟩
        have hx1 : va_A _ s.heap.size (u 0 0) := hD'.2 2 _ rfl
        have hx2 : (u 0 0 < s.heap.size ∧ own (u 0 0) = (4, b, fl, k)) ∨ s.heap.size ≤ u 0 0 := by
          rcases xa3 hx1 with h | h | h | h
          · exact absurd (hD'.1 1 2 _ _ rfl rfl h.symm) (by decide)
          · exact absurd (hD'.1 0 2 _ _ rfl rfl h.symm) (by decide)
          · rw [h]; exact Or.inl ⟨h2.lt, hox⟩
          · exact Or.inr h
        obtain ⟨own', g1, g2⟩ := x_fin (H1 := t.heap) (x := x) (x' := u 0 0) (cap' := lgr L.length) (L := L) hW hv hoa (Or.inl hox) (hsame _ _ _ hk) (hP' 0 _ rfl) (mc' := mc + 1) (f' := va_up (va_cpy f (fun _ => none) 0 0 L.length) L.length (some v)) (hP' 1 _ rfl) (hP' 2 _ rfl) h1.lt hx2 haA (hfr _ _ _ hx1) ⟨hg.1, by omega⟩ (fun j hj => xup (f := va_cpy f (fun _ => none) 0 0 L.length) (fun j hj => by
          rw [pk_cpy_in (by omega) (by omega), Nat.zero_add, Nat.sub_zero]
          exact h5 j hj) j hj)
        exact ⟨own', hr, hr1, g1, g2⟩
set_option maxHeartbeats 2000000 in
theorem x_add_7 (l : Launch) {D : va_G} {yc : Nat → ClassId} {e0 : Nat} {A : Nat → Prop} {own : TO} {ob : XO} {rw : XR} {ls : XL} {sz b fl k a v kdv flv kv : Nat} {L : List Nat} {fs : List Value} (hl : ls b fl k a L) (hL : L.length ≤ 12) (hv : ob kdv flv kv v (7, fs)) (hE : ∀ y ∈ L, y ≠ v ∧ ∃ kd fl k fs, ob kd fl k y (7, fs)) :
    Met l yJx4a65c_add_9ea2d (ws_ yJx4a65c_add_9ea2d cJx4a65c_add_9ea2d 2 (some .boolean)) { frames := 6, cells := 1, slots := 20, locals := 210 } (PX D yc e0 A own ob rw ls sz [.ref a, .ref v]) (va_Qi (fun r (_ : TO) => r = 1) (fun own' t => (∀ q, q < sz → own' q = own q) ∧ WX D yc e0 A own' ob rw (lsadd ls b fl k a (L ++ [v])) t.heap) A) 1 20 A := by
  refine Met.conv2 fun args s hP => ?_
  obtain ⟨rfl, hW, hz, hA, hC⟩ := hP
  subst hz
  have hov := hW.tag hv
  have hav := hW.in hv
  have hvo := hW.obj hv
  obtain ⟨⟨haA, hoa⟩, hh⟩ := hW.2.2.1 _ _ _ _ _ hl
  have hne : a ≠ v := fun e => by rw [e, hov] at hoa; simp at hoa
  rcases hh with ⟨hn, mc, h1⟩ | ⟨mc, x, cap, f, h1, ⟨h2, hxA, hox⟩, h3, h4, h5⟩
  · subst hn
    have hfr : ∀ q, va_A [(a, .inr (0, [.int mc, .ref e0, .int 0])), (v, .inr (7, fs))] s.heap.size q → A q := fun q hq => by
      rcases xa2 hq with rfl | rfl | h
      · exact haA
      · exact hav
      · exact hA q h
    refine ⟨_, _, _, _, 1, 10, ll_addE_7 l D yc e0 a v mc fs s.heap.size, ⟨⟨by decide, by decide, by decide, by decide⟩, by decide, by decide⟩, ⟨rfl, rfl, xp2 h1 hvo, xd2 hne, hC.narrow hfr⟩, hfr, ?_⟩
    rintro o t ⟨⟨r, u, hr, hr1, hP', hD'⟩, hF⟩ - - hk
    refine ⟨⟨r, ?_⟩, hF.1, fun q h1 h2 => hF.2 q h1 fun h => h2 (hfr q h)⟩
    have hx1 : va_A _ s.heap.size (u 0 0) := hD'.2 2 _ rfl
    have hx2 : s.heap.size ≤ u 0 0 := by
      rcases xa2 hx1 with h | h | h
      · exact absurd (hD'.1 1 2 _ _ rfl rfl h.symm) (by decide)
      · exact absurd (hD'.1 0 2 _ _ rfl rfl h.symm) (by decide)
      · exact h
    have hq1 : va_at D vwCl (a, .inr (0, [.int (mc + 1), .ref (u 0 0), .int (nI (([] : List Nat).length + 1))])) t.heap := by
      have e1 : nI (([] : List Nat).length + 1) = 1 := by decide
      rw [e1]
      exact hP' 1 _ rfl
    have hq2 : ∀ q : Nat, q < s.heap.size → ¬ (q = a ∨ q = a ∨ q = v) → t.heap[q]? = s.heap[q]? := fun q h7 h8 => hk q h7 fun h9 => by
      rcases xa2 h9 with h | h | h
      · exact h8 (Or.inl h)
      · exact h8 (Or.inr (Or.inr h))
      · omega
    have hq3 : ∀ (j : Nat) (h : j < (([] : List Nat) ++ [v]).length), va_up (fun _ => none) 0 (some v) j = some (([] : List Nat) ++ [v])[j] := fun j hj => by
      have hj' : j < 1 := hj
      have : j = 0 := by omega
      subst this
      simp [va_up]
    obtain ⟨own', g1, g2⟩ := x_fin (H1 := t.heap) (x := a) (x' := u 0 0) (cap' := 10) (L := []) hW hv hoa (Or.inr rfl) hq2 (hP' 0 _ rfl) hq1 (hP' 2 _ rfl) h1.lt (Or.inr hx2) haA (hfr _ hx1) (by simp) hq3
    exact ⟨own', hr, hr1, g1, g2⟩
  · have hnx : a ≠ x := fun e => by rw [e, hox] at hoa; simp at hoa
    have hvx : v ≠ x := fun e => by rw [e, hox] at hov; simp at hov
    have hfr : ∀ cap f q, va_A [(a, .inr (0, [.int mc, .ref x, .int (nI L.length)])), (v, .inr (7, fs)), (x, .inl (yc 2, cap, .inr (.inr (.inr (.inr f)))))] s.heap.size q → A q := fun cap f q hq => by
      rcases xa3 hq with rfl | rfl | rfl | h
      · exact haA
      · exact hav
      · exact hxA
      · exact hA q h
    have hsame : ∀ (cap : Nat) (f : Nat → Option Nat) (H1 : Heap), (∀ q : Nat, q < s.heap.size → ¬ va_A [(a, .inr (0, [.int mc, .ref x, .int (nI L.length)])), (v, .inr (7, fs)), (x, .inl (yc 2, cap, .inr (.inr (.inr (.inr f)))))] s.heap.size q → H1[q]? = s.heap[q]?) → ∀ q : Nat, q < s.heap.size → ¬ (q = a ∨ q = x ∨ q = v) → H1[q]? = s.heap[q]? := fun cap f H1 hk q h7 h8 => hk q h7 fun h9 => by
      rcases xa3 h9 with h | h | h | h
      · exact h8 (Or.inl h)
      · exact h8 (Or.inr (Or.inr h))
      · exact h8 (Or.inr (Or.inl h))
      · omega
    by_cases hcap : L.length < cap
    · refine ⟨_, _, _, _, 0, 0, ll_addR_7 l D yc e0 a v x cap L.length mc f fs s.heap.size hcap (by omega), ⟨⟨by decide, by decide, by decide, by decide⟩, by decide, by decide⟩, ⟨rfl, rfl, xp3 h1 hvo h2, xd3 hne hnx hvx, hC.narrow (hfr _ _)⟩, hfr _ _, ?_⟩
      rintro o t ⟨⟨r, u, hr, hr1, hP', hD'⟩, hF⟩ - - hk
      refine ⟨⟨r, ?_⟩, hF.1, fun q h1 h2 => hF.2 q h1 fun h => h2 (hfr _ _ q h)⟩
      obtain ⟨own', g1, g2⟩ := x_fin (H1 := t.heap) (x := x) (x' := x) (cap' := cap) (L := L) hW hv hoa (Or.inl hox) (hsame _ _ _ hk) (hP' 1 _ rfl) (mc' := mc + 1) (f' := va_up f L.length (some v)) (hP' 0 _ rfl) (hP' 2 _ rfl) h1.lt (Or.inl ⟨h2.lt, hox⟩) haA hxA ⟨hcap, h4.2⟩ (fun j hj => xup h5 j hj)
      exact ⟨own', hr, hr1, g1, g2⟩
    · have hcap : cap = L.length := by omega
      subst hcap
      obtain ⟨mi, hM⟩ := hC.2.2.2.2
      have hg := lgr_b (n := L.length) (by omega)
      have hg2 : lgr L.length ≤ 18 := by unfold lgr; split <;> omega
      refine ⟨_, _, _, _, 1, lgr L.length, ll_addG_7 l D yc e0 a v x L.length mc f fs mi s.heap.size h4.1 (by omega), ⟨⟨by dsimp only; omega, by dsimp only; omega, by dsimp only; omega, by dsimp only; omega⟩, by omega, by omega⟩, ⟨rfl, ⟨rfl, xp3 h1 hvo h2, xd3 hne hnx hvx, hC.narrow (hfr _ _)⟩, hM, fun i hi z hz => ?_⟩, hfr _ _, ?_⟩
      · rw [h5 i hi] at hz
        have hz' : L[i] = z := Option.some.inj hz
        have hmem : L[i] ∈ L := List.getElem_mem hi
        rw [hz'] at hmem
        obtain ⟨hzv, kd', fl', k', fs', hob⟩ := hE z hmem
        have hzo := hW.tag hob
        refine ⟨fun h => ?_, fs', hW.obj hob⟩
        rcases xa3 h with h | h | h | h
        · rw [h, hoa] at hzo; simp at hzo
        · exact hzv h
        · rw [h, hox] at hzo; simp at hzo
        · have := (hW.obj hob).lt
          simp only at this
          omega
      · rintro o t ⟨⟨r, u, hr, hr1, hP', hD'⟩, hF⟩ - - hk
        refine ⟨⟨r, ?_⟩, hF.1, fun q h1 h2 => hF.2 q h1 fun h => h2 (hfr _ _ q h)⟩
        have hx1 : va_A _ s.heap.size (u 0 0) := hD'.2 2 _ rfl
        have hx2 : (u 0 0 < s.heap.size ∧ own (u 0 0) = (4, b, fl, k)) ∨ s.heap.size ≤ u 0 0 := by
          rcases xa3 hx1 with h | h | h | h
          · exact absurd (hD'.1 1 2 _ _ rfl rfl h.symm) (by decide)
          · exact absurd (hD'.1 0 2 _ _ rfl rfl h.symm) (by decide)
          · rw [h]; exact Or.inl ⟨h2.lt, hox⟩
          · exact Or.inr h
        obtain ⟨own', g1, g2⟩ := x_fin (H1 := t.heap) (x := x) (x' := u 0 0) (cap' := lgr L.length) (L := L) hW hv hoa (Or.inl hox) (hsame _ _ _ hk) (hP' 0 _ rfl) (mc' := mc + 1) (f' := va_up (va_cpy f (fun _ => none) 0 0 L.length) L.length (some v)) (hP' 1 _ rfl) (hP' 2 _ rfl) h1.lt hx2 haA (hfr _ _ _ hx1) ⟨hg.1, by omega⟩ (fun j hj => xup (f := va_cpy f (fun _ => none) 0 0 L.length) (fun j hj => by
          rw [pk_cpy_in (by omega) (by omega), Nat.zero_add, Nat.sub_zero]
          exact h5 j hj) j hj)
        exact ⟨own', hr, hr1, g1, g2⟩
