set_option maxHeartbeats 1000000 in
theorem k_X6_put (l : Launch) (D : va_G) (yc : Nat → ClassId) (e0 : Nat) (A : Nat → Prop) (S : TS) (Z : Nat × Nat) (Tc Ts : Nat) (w : TW) (cN zN : Nat) (i : Nat) (j : Nat) (v : Int64) (hi : dr S i) (hj : j < 2 ^ 31) (hB : ZB Z Tc Ts (zrw w i (qput (w.2.2 i) j v))) : Met l yX6_put (ws_ yX6_put cX6_put 4 none) { frames := 0, cells := Tc - cN, slots := Ts - zN, locals := 0 } (PM D yc e0 A S Z w cN zN [.ref (zr S i), .int (nI j), .long v]) (tQv D yc e0 A S Z (zrw w i (qput (w.2.2 i) j v))) (Tc - cN) (Ts - zN) A := by
  by_cases h : j < (w.2.2 i).2.length
  · exact tk_row hi _ 0 0 0 0 (by decide) hB (fun h1 h2 => ⟨by show ((w.2.2 i).2.set j v).length ≤ (w.2.2 i).1; rw [List.length_set]; exact h1, h2, by show _ ≤ (w.2.2 i).1 / 8; omega, by show _ ≤ 2 * (w.2.2 i).1; omega⟩) (fun x f sz h1 h2 h3 => l_put l D yc e0 (zr S i) x (w.2.2 i).1 (w.2.2 i).2 f sz j v h1 h2.le h3 h)
  · have e : qput (w.2.2 i) j v = w.2.2 i := by unfold qput; rw [List.set_eq_of_length_le (by omega)]
    rw [e] at hB ⊢
    exact tk_row hi _ 0 0 0 0 (by decide) hB (fun h1 h2 => ⟨h1, h2, by show _ ≤ (w.2.2 i).1 / 8; omega, by show _ ≤ 2 * (w.2.2 i).1; omega⟩) (fun x f sz h1 h2 h3 => l_put0 l D yc e0 (zr S i) x (w.2.2 i).1 (w.2.2 i).2 f sz j v h1 h2.le h3 (by omega) hj)
set_option maxHeartbeats 1000000 in
theorem k_X6_add (l : Launch) (D : va_G) (yc : Nat → ClassId) (e0 : Nat) (A : Nat → Prop) (S : TS) (Z : Nat × Nat) (Tc Ts : Nat) (w : TW) (cN zN : Nat) (i : Nat) (v : Int64) (hi : dr S i) (hB : ZB Z Tc Ts (zrw w i (qadd (w.2.2 i) v))) : Met l yX6_add (ws_ yX6_add cX6_add 3 none) { frames := 2, cells := Tc - cN, slots := Ts - zN, locals := 62 } (PM D yc e0 A S Z w cN zN [.ref (zr S i), .long v]) (tQv D yc e0 A S Z (zrw w i (qadd (w.2.2 i) v))) (Tc - cN) (Ts - zN) A := by
  by_cases h : (w.2.2 i).2.length < (w.2.2 i).1
  · have e : qadd (w.2.2 i) v = ((w.2.2 i).1, (w.2.2 i).2 ++ [v]) := by unfold qadd; rw [if_pos h]
    rw [e] at hB ⊢
    exact tk_row hi _ 0 0 0 0 (by decide) hB (fun h1 h2 => ⟨by show ((w.2.2 i).2 ++ [v]).length ≤ (w.2.2 i).1; simp; omega, h2, by show _ ≤ (w.2.2 i).1 / 8; omega, by show _ ≤ 2 * (w.2.2 i).1; omega⟩) (fun x f sz h1 h2 h3 => l_add l D yc e0 (zr S i) x (w.2.2 i).1 (w.2.2 i).2 f sz v h1 h2.le h3 h)
  · have e : qadd (w.2.2 i) v = (2 * (w.2.2 i).1, (w.2.2 i).2 ++ [v]) := by unfold qadd; rw [if_neg h]
    rw [e] at hB ⊢
    have h5 : 2 * (w.2.2 i).1 ≤ 4000000 := by have h9 := hB.cap (dr_lt hi); simp only [zrw, zq_s] at h9; exact h9
    exact tk_row hi _ 1 (2 * (w.2.2 i).1) 2 62 (by decide) hB (fun h1 h2 => ⟨by show ((w.2.2 i).2 ++ [v]).length ≤ 2 * (w.2.2 i).1; have := h2.ge; simp; omega, h2.two (by omega), by show _ ≤ 2 * (w.2.2 i).1 / 8; have := h2.ge; obtain ⟨z9, -, e9⟩ := h2; omega, by show _ ≤ 2 * (2 * (w.2.2 i).1); omega⟩) (fun x f sz h1 h2 h3 => l_addG l D yc e0 (zr S i) x (w.2.2 i).1 (w.2.2 i).2 f sz v h1 h2.le h3 (by omega) ⟨h2.ge, by omega⟩)
set_option maxHeartbeats 1000000 in
theorem k_X6_insert (l : Launch) (D : va_G) (yc : Nat → ClassId) (e0 : Nat) (A : Nat → Prop) (S : TS) (Z : Nat × Nat) (Tc Ts : Nat) (w : TW) (cN zN : Nat) (i : Nat) (j : Nat) (v : Int64) (hi : dr S i) (hj2 : j < 2 ^ 31) (hB : ZB Z Tc Ts (zrw w i (qins (w.2.2 i) j v))) : Met l yX6_insert (ws_ yX6_insert cX6_insert 4 none) { frames := 2, cells := Tc - cN, slots := Ts - zN, locals := 62 } (PM D yc e0 A S Z w cN zN [.ref (zr S i), .int (nI j), .long v]) (tQv D yc e0 A S Z (zrw w i (qins (w.2.2 i) j v))) (Tc - cN) (Ts - zN) A := by
  by_cases h : (w.2.2 i).2.length < (w.2.2 i).1
  · by_cases hj : j ≤ (w.2.2 i).2.length
    · have e : qins (w.2.2 i) j v = ((w.2.2 i).1, (w.2.2 i).2.take j ++ v :: (w.2.2 i).2.drop j) := by unfold qins; rw [if_pos h, if_pos hj]
      rw [e] at hB ⊢
      exact tk_row hi _ 0 0 1 40 (by decide) hB (fun h1 h2 => ⟨by show ((w.2.2 i).2.take j ++ v :: (w.2.2 i).2.drop j).length ≤ (w.2.2 i).1; simp; omega, h2, by show _ ≤ (w.2.2 i).1 / 8; omega, by show _ ≤ 2 * (w.2.2 i).1; omega⟩) (fun x f sz h1 h2 h3 => l_ins l D yc e0 (zr S i) x (w.2.2 i).1 (w.2.2 i).2 f sz j v h1 h2.le h3 h hj)
    · have e : qins (w.2.2 i) j v = ((w.2.2 i).1, (w.2.2 i).2) := by unfold qins; rw [if_pos h, if_neg hj]
      rw [e] at hB ⊢
      exact tk_row hi _ 0 0 0 0 (by decide) hB (fun h1 h2 => ⟨h1, h2, by show _ ≤ (w.2.2 i).1 / 8; omega, by show _ ≤ 2 * (w.2.2 i).1; omega⟩) (fun x f sz h1 h2 h3 => l_insX l D yc e0 (zr S i) x (w.2.2 i).1 (w.2.2 i).2 f sz j v h1 h2.le h3 h (by omega) hj2)
  · by_cases hj : j ≤ (w.2.2 i).2.length
    · have e : qins (w.2.2 i) j v = (2 * (w.2.2 i).1, (w.2.2 i).2.take j ++ v :: (w.2.2 i).2.drop j) := by unfold qins; rw [if_neg h, if_pos hj]
      rw [e] at hB ⊢
      have h5 : 2 * (w.2.2 i).1 ≤ 4000000 := by have h9 := hB.cap (dr_lt hi); simp only [zrw, zq_s] at h9; exact h9
      exact tk_row hi _ 1 (2 * (w.2.2 i).1) 2 62 (by decide) hB (fun h1 h2 => ⟨by show ((w.2.2 i).2.take j ++ v :: (w.2.2 i).2.drop j).length ≤ 2 * (w.2.2 i).1; have := h2.ge; simp; omega, h2.two (by omega), by show _ ≤ 2 * (w.2.2 i).1 / 8; have := h2.ge; obtain ⟨z9, -, e9⟩ := h2; omega, by show _ ≤ 2 * (2 * (w.2.2 i).1); omega⟩) (fun x f sz h1 h2 h3 => l_insG l D yc e0 (zr S i) x (w.2.2 i).1 (w.2.2 i).2 f sz j v h1 h2.le h3 (by omega) ⟨h2.ge, by omega⟩ hj)
    · have e : qins (w.2.2 i) j v = (2 * (w.2.2 i).1, (w.2.2 i).2) := by unfold qins; rw [if_neg h, if_neg hj]
      rw [e] at hB ⊢
      have h5 : 2 * (w.2.2 i).1 ≤ 4000000 := by have h9 := hB.cap (dr_lt hi); simp only [zrw, zq_s] at h9; exact h9
      exact tk_row hi _ 1 (2 * (w.2.2 i).1) 2 62 (by decide) hB (fun h1 h2 => ⟨by show ((w.2.2 i).2).length ≤ 2 * (w.2.2 i).1; have := h2.ge; omega, h2.two (by omega), by show _ ≤ 2 * (w.2.2 i).1 / 8; have := h2.ge; obtain ⟨z9, -, e9⟩ := h2; omega, by show _ ≤ 2 * (2 * (w.2.2 i).1); omega⟩) (fun x f sz h1 h2 h3 => l_insGX l D yc e0 (zr S i) x (w.2.2 i).1 (w.2.2 i).2 f sz j v h1 h2.le h3 (by omega) ⟨h2.ge, by omega⟩ (by omega) hj2)
set_option maxHeartbeats 1000000 in
theorem k_X6_remove (l : Launch) (D : va_G) (yc : Nat → ClassId) (e0 : Nat) (A : Nat → Prop) (S : TS) (Z : Nat × Nat) (Tc Ts : Nat) (w : TW) (cN zN : Nat) (i : Nat) (a : Nat) (b : Nat) (hi : dr S i) (ha : a < 2 ^ 31) (hb : b < 2 ^ 31) (hB : ZB Z Tc Ts (zrw w i (qrem (w.2.2 i) a b))) : Met l yX6_remove (ws_ yX6_remove cX6_remove 3 none) { frames := 1, cells := Tc - cN, slots := Ts - zN, locals := 40 } (PM D yc e0 A S Z w cN zN [.ref (zr S i), .int (nI a), .int (nI b)]) (tQv D yc e0 A S Z (zrw w i (qrem (w.2.2 i) a b))) (Tc - cN) (Ts - zN) A := by
  by_cases h0 : b = 0
  · subst h0
    have e : qrem (w.2.2 i) a 0 = w.2.2 i := by unfold qrem; split <;> simp
    rw [e] at hB ⊢
    exact tk_row hi _ 0 0 0 0 (by decide) hB (fun h1 h2 => ⟨h1, h2, by show _ ≤ (w.2.2 i).1 / 8; omega, by show _ ≤ 2 * (w.2.2 i).1; omega⟩) (fun x f sz h1 h2 h3 => l_rem0 l D yc e0 (zr S i) x (w.2.2 i).1 (w.2.2 i).2 f sz a h1 h2.le h3 ha)
  · by_cases h : a + b ≤ (w.2.2 i).2.length
    · have e : qrem (w.2.2 i) a b = ((w.2.2 i).1, (w.2.2 i).2.take a ++ (w.2.2 i).2.drop (a + b)) := by unfold qrem; rw [if_pos h]
      rw [e] at hB ⊢
      exact tk_row hi _ 0 0 1 40 (by decide) hB (fun h1 h2 => ⟨by show ((w.2.2 i).2.take a ++ (w.2.2 i).2.drop (a + b)).length ≤ (w.2.2 i).1; simp; omega, h2, by show _ ≤ (w.2.2 i).1 / 8; omega, by show _ ≤ 2 * (w.2.2 i).1; omega⟩) (fun x f sz h1 h2 h3 => l_rem l D yc e0 (zr S i) x (w.2.2 i).1 (w.2.2 i).2 f sz a b h1 h2.le h3 ha hb (by omega) h)
    · have e : qrem (w.2.2 i) a b = w.2.2 i := by unfold qrem; rw [if_neg h]
      rw [e] at hB ⊢
      exact tk_row hi _ 0 0 0 0 (by decide) hB (fun h1 h2 => ⟨h1, h2, by show _ ≤ (w.2.2 i).1 / 8; omega, by show _ ≤ 2 * (w.2.2 i).1; omega⟩) (fun x f sz h1 h2 h3 => l_remX l D yc e0 (zr S i) x (w.2.2 i).1 (w.2.2 i).2 f sz a b h1 h2.le h3 ha hb (by omega) (by omega))
set_option maxHeartbeats 1000000 in
theorem k_X6_shorten (l : Launch) (D : va_G) (yc : Nat → ClassId) (e0 : Nat) (A : Nat → Prop) (S : TS) (Z : Nat × Nat) (Tc Ts : Nat) (w : TW) (cN zN : Nat) (i : Nat) (i1 : Int32) (hi : dr S i) (hB : ZB Z Tc Ts (zrw w i (qsho (w.2.2 i) i1))) : Met l yX6_shorten (ws_ yX6_shorten cX6_shorten 2 none) { frames := 0, cells := Tc - cN, slots := Ts - zN, locals := 0 } (PM D yc e0 A S Z w cN zN [.ref (zr S i), .int i1]) (tQv D yc e0 A S Z (zrw w i (qsho (w.2.2 i) i1))) (Tc - cN) (Ts - zN) A := by
  by_cases h0 : i1 < 0
  · have e : qsho (w.2.2 i) i1 = w.2.2 i := by unfold qsho; rw [if_pos h0]
    rw [e] at hB ⊢
    exact tk_row hi _ 0 0 0 0 (by decide) hB (fun h1 h2 => ⟨h1, h2, by show _ ≤ (w.2.2 i).1 / 8; omega, by show _ ≤ 2 * (w.2.2 i).1; omega⟩) (fun x f sz h1 h2 h3 => l_shoN l D yc e0 (zr S i) x (w.2.2 i).1 (w.2.2 i).2 f sz i1 h1 h2.le h3 h0)
  · obtain ⟨j, hj, rfl⟩ := nI_of h0
    have e : qsho (w.2.2 i) (nI j) = ((w.2.2 i).1, (w.2.2 i).2.take j) := by unfold qsho; rw [if_neg h0, nI_clamp hj]
    rw [e] at hB ⊢
    by_cases h : j < (w.2.2 i).2.length
    · exact tk_row hi _ 0 0 0 0 (by decide) hB (fun h1 h2 => ⟨by show ((w.2.2 i).2.take j).length ≤ (w.2.2 i).1; simp; omega, h2, by show _ ≤ (w.2.2 i).1 / 8; omega, by show _ ≤ 2 * (w.2.2 i).1; omega⟩) (fun x f sz h1 h2 h3 => l_sho l D yc e0 (zr S i) x (w.2.2 i).1 (w.2.2 i).2 f sz j h1 h2.le h3 h)
    · rw [List.take_of_length_le (by omega)] at hB ⊢
      exact tk_row hi _ 0 0 0 0 (by decide) hB (fun h1 h2 => ⟨h1, h2, by show _ ≤ (w.2.2 i).1 / 8; omega, by show _ ≤ 2 * (w.2.2 i).1; omega⟩) (fun x f sz h1 h2 h3 => l_sho0 l D yc e0 (zr S i) x (w.2.2 i).1 (w.2.2 i).2 f sz j h1 h2.le h3 (by omega) hj)
set_option maxHeartbeats 1000000 in
theorem k_X6_become (l : Launch) (D : va_G) (yc : Nat → ClassId) (e0 : Nat) (A : Nat → Prop) (S : TS) (Z : Nat × Nat) (Tc Ts : Nat) (w : TW) (cN zN : Nat) (i : Nat) (o : Nat) (i1 : Int32) (hi : dr S i) (ho : dr S o) (hne : o ≠ i) (hB : ZB Z Tc Ts (zrw w i (qbec (w.2.2 i) (w.2.2 o) (zfrom i1 (w.2.2 o).2.length)))) : Met l yX6_become (ws_ yX6_become cX6_become 7 none) { frames := 1, cells := Tc - cN, slots := Ts - zN, locals := 40 } (PM D yc e0 A S Z w cN zN [.ref (zr S i), .ref (zr S o), .int i1]) (tQv D yc e0 A S Z (zrw w i (qbec (w.2.2 i) (w.2.2 o) (zfrom i1 (w.2.2 o).2.length)))) (Tc - cN) (Ts - zN) A := by
  by_cases h : (w.2.2 o).2.length - zfrom i1 (w.2.2 o).2.length ≤ (w.2.2 i).1
  · have e : qbec (w.2.2 i) (w.2.2 o) (zfrom i1 (w.2.2 o).2.length) = ((w.2.2 i).1, (w.2.2 o).2.drop (zfrom i1 (w.2.2 o).2.length)) := by unfold qbec; rw [if_pos h]
    rw [e] at hB ⊢
    exact tk_row2 hi ho hne _ 0 0 1 40 (by decide) hB (fun h1 h2 h3 h4 => ⟨by show ((w.2.2 o).2.drop _).length ≤ (w.2.2 i).1; rw [List.length_drop]; exact h, h2, by show _ ≤ (w.2.2 i).1 / 8; omega, by show _ ≤ 2 * (w.2.2 i).1; omega⟩) (fun x f x2 g sz h1 h2 h3 h4 h5 h6 => l_bec l D yc e0 (zr S i) x (w.2.2 i).1 (w.2.2 i).2 f sz (zr S o) x2 (w.2.2 o).1 (w.2.2 o).2 g i1 h1 h2.le h3 h4 h5.le h6 h)
  · obtain ⟨rm, hrm⟩ : ∃ rm, zroom 30 8 ((w.2.2 o).2.length - zfrom i1 (w.2.2 o).2.length) = rm := ⟨_, rfl⟩
    have e : qbec (w.2.2 i) (w.2.2 o) (zfrom i1 (w.2.2 o).2.length) = (max (w.2.2 i).1 rm, (w.2.2 o).2.drop (zfrom i1 (w.2.2 o).2.length)) := by unfold qbec; rw [if_neg h, hrm]
    rw [e] at hB ⊢
    have key : (w.2.2 o).2.length ≤ (w.2.2 o).1 → RK (w.2.2 o).1 → max (w.2.2 i).1 rm = rm ∧ (w.2.2 o).2.length - zfrom i1 (w.2.2 o).2.length ≤ rm ∧ RK rm := fun h3 h4 => by
      have hle := h4.le
      obtain ⟨z1, z2, z3, z4⟩ := zroom_ok 30 0 ((w.2.2 o).2.length - zfrom i1 (w.2.2 o).2.length) rfl (by omega) (by omega)
      rw [show zroom 30 (8 * 2 ^ 0) ((w.2.2 o).2.length - zfrom i1 (w.2.2 o).2.length) = rm from hrm] at z1 z2 z3 z4
      exact ⟨Nat.max_eq_right (by omega), z1, z2⟩
    refine tk_row2 hi ho hne _ 1 rm 1 40 (by decide) hB (fun h1 h2 h3 h4 => ?_) (fun x f x2 g sz h1 h2 h3 h4 h5 h6 => ?_)
    · obtain ⟨e2, z1, z2⟩ := key h3 h4
      rw [e2]
      refine ⟨by show ((w.2.2 o).2.drop _).length ≤ rm; rw [List.length_drop]; exact z1, z2, ?_, ?_⟩
      · show 1 + (w.2.2 i).1 / 8 ≤ rm / 8
        exact zrk_lt h2 z2 (by omega)
      · show rm + 2 * (w.2.2 i).1 ≤ 2 * rm
        have := zrk_two h2 z2 (by omega)
        omega
    · obtain ⟨e2, z1, z2⟩ := key h4 h5
      rw [e2]
      exact l_becG l D yc e0 (zr S i) x (w.2.2 i).1 (w.2.2 i).2 f sz (zr S o) x2 (w.2.2 o).1 (w.2.2 o).2 g i1 rm h1 h2.le h3 h4 h5.le h6 (by omega) hrm
