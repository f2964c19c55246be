/-! ===== passing a barrier, as the protocol sees it ===== -/
def PD (S : TS) (cl : Prop) (k : Nat) (w c : TW) (P : Nat → Bool) : Prop :=
  (∀ st j, st < 36 → st ≠ 3 * k + (w.2.1 0 k).2 → ¬ (st = 3 * k ∧ j = 3) → c.1 0 0 st j = w.1 0 0 st j) ∧ (∀ j, j < 8 → j ≠ 3 → c.1 0 0 (3 * k + (w.2.1 0 k).2) j = w.1 0 0 (3 * k) j) ∧ (∀ kd a, CI S kd a → a ≠ k → c.1 kd 0 a 2 = w.1 kd 0 a 2) ∧ (∀ kd, CI S kd k → c.1 kd 0 k 2 = 0) ∧ c.2.1 = w.2.1 ∧
  (∀ a j, ¬ (a = k ∧ j = 11) → c.1 2 0 a j = w.1 2 0 a j) ∧ c.1 2 0 k 11 = 0 ∧ (∀ j, j ≠ 3 → j ≠ 7 → c.1 6 0 0 j = w.1 6 0 0 j) ∧ c.1 6 0 0 7 = w.1 6 0 0 7 - 1 ∧ (∀ x st, x < 4 → st < 36 → st ≠ 3 * k + (w.2.1 0 k).2 → c.2.2 (rs x 0 st) = w.2.2 (rs x 0 st)) ∧ (∀ x, x < 4 → (c.2.2 (rs x 0 (3 * k + (w.2.1 0 k).2))).2 = (w.2.2 (rs x 0 (3 * k))).2) ∧ (∀ j, c.2.2 (rl j) = w.2.2 (rl j)) ∧
  (∀ kd a, CI S kd a → src S kd a = k → pend S c 0 kd a = pend S w 0 kd a ++ [v_X3_barrier]) ∧ (∀ kd a, CI S kd a → src S kd a ≠ k → a ≠ k → pend S c 0 kd a = pend S w 0 kd a) ∧
  (∀ kd, CI S kd k → nob (pend S c 0 kd k) ∧ LK (EE (src S kd k)) cl (sI w (3 * k) (kd - 3)) (pend S c 0 kd k) ∧ lm (sI w (3 * k) (kd - 3)) (pend S c 0 kd k) = sI w (3 * src S kd k) 0 ∧ sI w (3 * k) (kd - 3) = sI w (3 * src S kd k + (w.2.1 0 (src S kd k)).2) 0 ∧ P (src S kd k) = true)
def Pk (P : Nat → Bool) (k : Nat) : Nat → Bool := fun j => if j = k then true else P j
theorem Pk_s {P : Nat → Bool} {k : Nat} : Pk P k k = true := if_pos rfl
theorem Pk_n {P : Nat → Bool} {k j : Nat} (h : j ≠ k) : Pk P k j = P j := if_neg h
theorem cnP_k {P : Nat → Bool} {k n : Nat} (hk : k < n) (h : P k = false) : cnP (Pk P k) n + 1 = cnP P n := by
  have h9 := zsm_upd (f := fun j => if P j then 0 else 1) (g := fun j => if Pk P k j then 0 else 1) (i := k) (fun j hj => by simp only [Pk_n hj]) n hk
  simp only [Pk_s, h] at h9
  exact h9
theorem cnP_0 {P : Nat → Bool} : ∀ {n : Nat}, cnP P n = 0 → ∀ k, k < n → P k = true
  | 0, _, k, h => absurd h (Nat.not_lt_zero _)
  | n + 1, h0, k, h => by
    have h1 : zsm (fun k => if P k then 0 else 1) n + (if P n then 0 else 1) = 0 := h0
    by_cases e : k = n
    · subst e
      cases hp : P k with
      | true => rfl
      | false => rw [hp] at h1; simp at h1
    · exact cnP_0 (n := n) (by unfold cnP; omega) k (by omega)
theorem cnP_le (P : Nat → Bool) : ∀ n, cnP P n ≤ n
  | 0 => Nat.le_refl _
  | n + 1 => by
    have := cnP_le P n
    show zsm (fun k => if P k then 0 else 1) n + (if P n then 0 else 1) ≤ n + 1
    unfold cnP at this
    split <;> omega
theorem cnP_f {P : Nat → Bool} : ∀ {n : Nat}, (∀ k, k < n → P k = false) → cnP P n = n
  | 0, _ => rfl
  | n + 1, h => by
    have := cnP_f (P := P) (n := n) (fun k hk => h k (by omega))
    show zsm (fun k => if P k then 0 else 1) n + (if P n then 0 else 1) = n + 1
    unfold cnP at this
    rw [this, h n (by omega)]
    rfl
theorem lm_one (m : Int) (x : Int64) : lm m [x] = lm1 m x := rfl
theorem PI_pass {S : TS} {so : Nat → Nat} {cl : Prop} {T k : Nat} {w c : TW} {P : Nat → Bool} (hz : zok S) (hn : zn S ≤ 12) (hG : GS w.2.1) (hk : k < zn S) (h : PI S so cl T w P) (hD : PD S cl k w c P) (hPk : P k = false) : (∀ j, j < zn S → PS S so cl T c (Pk P k) j) ∧ ∀ kd a, CI S kd a → PC S cl c (Pk P k) kd a := by
  obtain ⟨hPS, hPC, hPG⟩ := h
  obtain ⟨d1, d2, d3, d4, d5, d6, d7, d8, d9, d10, d11, d12, d13, d14, d15⟩ := hD
  have hgk := hG 0 k
  have sj : ∀ j s i, j < zn S → s < 3 → ¬ (j = k ∧ s = (w.2.1 0 k).2) → i ≠ 3 → sI c (3 * j + s) i = sI w (3 * j + s) i := fun j s i hj hs hne hi => by unfold sI; rw [d1 _ _ (by omega) (by omega) (by omega)]
  have sj0 : ∀ j i, j < zn S → i ≠ 3 → sI c (3 * j) i = sI w (3 * j) i := fun j i hj hi => by unfold sI; rw [d1 _ _ (by omega) (by omega) (by omega)]
  have ne1 : ∀ j s, (w.2.1 0 j).1 = s → ¬ (j = k ∧ s = (w.2.1 0 k).2) := fun j s hs h => by
    obtain ⟨rfl, h2⟩ := h
    omega
  have ne2 : ∀ j s, j ≠ k → ¬ (j = k ∧ s = (w.2.1 0 k).2) := fun _ _ h h2 => h h2.1
  have sk : ∀ i, i < 8 → i ≠ 3 → sI c (3 * k + (w.2.1 0 k).2) i = sI w (3 * k) i := fun i hi h3 => by unfold sI; rw [d2 i hi h3]
  refine ⟨fun j hj => ?_, fun kd a hc => ?_⟩
  · obtain ⟨p1, p2, p3, p4, p5, p6, p7, p8, p9⟩ := hPS j hj
    have hg := hG 0 j
    have cp : ∀ s, s < 3 → ¬ (j = k ∧ s = (w.2.1 0 k).2) → SI S (so j) cl T w j (3 * j + s) → SI S (so j) cl T c j (3 * j + s) := fun s hs hne h => by
      have hF : ∀ i, i ≠ 3 → c.1 0 0 (3 * j + s) i = w.1 0 0 (3 * j + s) i := fun i hi => d1 _ _ (by omega) (by omega) (by omega)
      have hq : ∀ x, x < 4 → c.2.2 (rs x 0 (3 * j + s)) = w.2.2 (rs x 0 (3 * j + s)) := fun x hx => d10 _ _ hx (by omega) (by omega)
      unfold SI SIm SIc sI at *
      rw [hF 0 (by omega), hF 1 (by omega), hF 2 (by omega), hF 4 (by omega), hF 5 (by omega), hF 6 (by omega), hF 7 (by omega), hq 0 (by omega), hq 2 (by omega), hq 3 (by omega), d12 j]
      refine ⟨⟨fun i hi => ?_, h.1.2⟩, h.2⟩
      rw [hF i (by omega)]
      exact h.1.1 i hi
    have cn : j = k → SI S (so j) cl T c j (3 * j + (w.2.1 0 j).2) := fun e => by
      subst e
      have hh := p1
      unfold SI SIm SIc sI at *
      rw [d2 0 (by omega) (by omega), d2 1 (by omega) (by omega), d2 2 (by omega) (by omega), d2 4 (by omega) (by omega), d2 5 (by omega) (by omega), d2 6 (by omega) (by omega), d2 7 (by omega) (by omega), d11 0 (by omega), d11 2 (by omega), d11 3 (by omega), d12 j]
      refine ⟨⟨fun i hi => ?_, hh.1.2⟩, hh.2⟩
      rw [d2 i (by omega) (by omega)]
      exact hh.1.1 i hi
    refine ⟨cp 0 (by omega) (by omega) p1, ?_, fun hP => ?_, ?_, fun hP => ?_, fun h0 => ?_, fun h0 => ?_, fun h0 => p8 (by rw [← d6 j 10 (by omega)]; exact h0), fun kd hc hs => ?_⟩
    · rw [d5]; exact cp _ (by omega) (ne1 j _ rfl) p2
    · rw [d5]
      by_cases e : j = k
      · exact cn e
      · exact cp _ (by omega) (ne2 _ _ e) (p3 (by rw [Pk_n e] at hP; exact hP))
    · rw [d5, sj j _ 4 hj (by omega) (ne1 j _ rfl) (by omega), sj0 j 4 hj (by omega)]; exact p4
    · rw [d5, sj0 j 4 hj (by omega)]
      by_cases e : j = k
      · subst e; rw [sk 4 (by omega) (by omega)]; exact Int.le_refl _
      · rw [sj j _ 4 hj (by omega) (ne2 _ _ e) (by omega)]; exact p5 (by rw [Pk_n e] at hP; exact hP)
    · by_cases e : j = k
      · subst e; exact d7
      · rw [d6 j 11 (by omega)]; exact p6 h0
    · by_cases e : j = k
      · subst e; exact ⟨fun _ => Or.inr Pk_s, fun _ => d7⟩
      · rw [d6 j 11 (by omega), d8 5 (by omega) (by omega), Pk_n e]; exact p7 h0
    · by_cases e : j = k
      · subst e; exact absurd (d4 kd hc) hs
      · rw [d3 kd j hc e] at hs
        obtain ⟨x, y⟩ := p9 kd hc hs
        exact ⟨x, by rw [d3 _ j x e]; exact y⟩
  · obtain ⟨⟨p1, p2, p3⟩, p4, p5⟩ := hPC kd a hc
    have hcn := hc.2.1
    have hu : src S kd a < a := hc.lt hz
    have h45 := hc.1
    have hga := hG 0 a
    have hgu := hG 0 (src S kd a)
    have e3 : sI c (3 * a + (c.2.1 0 a).1) (kd - 3) = sI c (3 * src S kd a + (c.2.1 0 (src S kd a)).1) 0 := by
      rw [d5, sj a _ _ hcn (by omega) (ne1 a _ rfl) (by omega), sj (src S kd a) _ _ (by omega) (by omega) (ne1 _ _ rfl) (by omega)]
      exact p3
    by_cases eu : src S kd a = k
    · have ec : a ≠ k := by omega
      have em : sI c (3 * a) (kd - 3) = sI w (3 * a) (kd - 3) := sj0 a _ hcn (by omega)
      have emu : sI c (3 * src S kd a) 0 = sI w (3 * src S kd a) 0 := sj0 _ _ (by omega) (by omega)
      rw [eu, hPk] at p4
      obtain ⟨q1, q2, q3⟩ := p4.1 rfl
      refine ⟨⟨?_, ?_, e3⟩, ?_, fun hP => ?_⟩
      · rw [em, d13 kd a hc eu, LK_app]
        refine ⟨p1, fun h => ?_, fun h => ?_, trivial⟩
        · exact absurd h ba_isB.1
        · exact absurd h ba_isB.2
      · rw [em, d13 kd a hc eu, lm_app, p2, emu]
        rw [lm_one]
        unfold lm1
        rw [if_neg ba_isB.2]
      · rw [eu, Pk_s, Pk_n ec, em, d13 kd a hc eu, d3 kd a hc ec, d5, sk 0 (by omega) (by omega)]
        refine ⟨(fun h => by cases h), fun _ h => ?_, fun _ _ => Or.inr ⟨q2, _, v_X3_barrier, [], rfl, ba_isB, q1, nob.nil, by rw [p2, eu]⟩⟩
        rw [q3] at h; cases h
      · rw [Pk_n ec, q3] at hP; cases hP
    · have emu : sI c (3 * src S kd a) 0 = sI w (3 * src S kd a) 0 := sj0 _ _ (by omega) (by omega)
      have ecm : sI c (3 * src S kd a + (c.2.1 0 (src S kd a)).2) 0 = sI w (3 * src S kd a + (w.2.1 0 (src S kd a)).2) 0 := by rw [d5, sj (src S kd a) _ _ (by omega) (by omega) (ne2 _ _ eu) (by omega)]
      by_cases ec : a = k
      · subst ec
        obtain ⟨i1, i2, i3, i4, i5⟩ := d15 kd hc
        have em : sI c (3 * a) (kd - 3) = sI w (3 * a) (kd - 3) := sj0 a _ hcn (by omega)
        refine ⟨⟨by rw [em]; exact i2, by rw [em, emu]; exact i3, e3⟩, ?_, fun _ => ?_⟩
        · rw [Pk_s, Pk_n eu, i5, d4 kd hc]
          exact ⟨(fun h => by cases h), fun _ _ => ⟨i1, rfl⟩, (fun _ h => by cases h)⟩
        · rw [ecm, d5, sk (kd - 3) (by omega) (by omega)]
          exact i4
      · have em : sI c (3 * a) (kd - 3) = sI w (3 * a) (kd - 3) := sj0 a _ hcn (by omega)
        have ep := d14 kd a hc eu ec
        refine ⟨⟨by rw [ep, em]; exact p1, by rw [ep, em, emu]; exact p2, e3⟩, by rw [ep, em, d3 kd a hc ec, ecm, Pk_n eu, Pk_n ec]; exact p4, fun hP => ?_⟩
        rw [ecm, d5, sj a _ _ hcn (by omega) (ne2 _ _ ec) (by omega)]
        exact p5 (by rw [Pk_n ec] at hP; exact hP)
/-- .. and the checkpoint is complete -/
theorem PI_cc {S : TS} {so : Nat → Nat} {cl : Prop} {T : Nat} {c y : TW} {P : Nat → Bool} (hn : zn S ≤ 12) (hz : zok S) (hPS : ∀ j, j < zn S → PS S so cl T c P j) (hPC : ∀ kd a, CI S kd a → PC S cl c P kd a) (hall : ∀ j, j < zn S → P j = true) (hq : y.2.2 = c.2.2) (hF : ∀ kd f a j, ¬ (kd = 6 ∧ f = 0 ∧ a = 0 ∧ (j = 5 ∨ j = 6)) → y.1 kd f a j = c.1 kd f a j) (h5 : y.1 6 0 0 5 = 0) (hG : ∀ k, k < zn S → y.2.1 0 k = ((c.2.1 0 k).2, (c.2.1 0 k).1)) : PI S so cl T y (fun _ => false) := by
  have hs : ∀ st i, sI y st i = sI c st i := fun st i => by unfold sI; rw [hF _ _ _ _ (by omega)]
  have hSI : ∀ k st, SI S (so k) cl T c k st → SI S (so k) cl T y k st := fun k st h => h.same (fun j => hF _ _ _ _ (by omega)) (fun x _ => by rw [hq]) (by rw [hq])
  refine ⟨fun j hj => ?_, fun kd a hc => ?_, fun _ _ _ => rfl, fun h => absurd h5 h⟩
  · obtain ⟨p1, p2, p3, p4, p5, p6, p7, p8, p9⟩ := hPS j hj
    refine ⟨hSI _ _ p1, ?_, (fun h => by cases h), ?_, (fun h => by cases h), fun h0 => by rw [hF _ _ _ _ (by omega)]; exact p6 h0, fun h0 => ?_, fun h0 => p8 (by rw [← hF _ _ _ _ (by omega)]; exact h0), fun kd hc hsh => ?_⟩
    · rw [hG j hj]; exact hSI _ _ (p3 (hall j hj))
    · rw [hG j hj, hs, hs]; exact p5 (hall j hj)
    · rw [hF _ _ _ _ (by omega), h5]
      exact ⟨fun _ => Or.inl rfl, fun _ => (p7 h0).mpr (Or.inr (hall j hj))⟩
    · have h45 := hc.1
      rw [hF _ _ _ _ (by omega)] at hsh
      obtain ⟨a, b⟩ := p9 kd hc hsh
      exact ⟨a, by rw [hF _ _ _ _ (by omega)]; exact b⟩
  · obtain ⟨⟨p1, p2, p3⟩, p4, p5⟩ := hPC kd a hc
    have hu : src S kd a < a := hc.lt hz
    have hcn := hc.2.1
    have h45 := hc.1
    have ep : pend S y 0 kd a = pend S c 0 kd a := by unfold pend gvn; rw [hq, hF _ _ _ _ (by omega)]
    have hp := p4.2.1 (hall _ (by omega)) (hall _ hcn)
    refine ⟨⟨by rw [ep, hs]; exact p1, by rw [ep, hs, hs]; exact p2, ?_⟩, ⟨fun _ => ⟨by rw [ep]; exact hp.1, by rw [hF _ _ _ _ (by omega)]; exact hp.2, rfl⟩, (fun h => by cases h), (fun h => by cases h)⟩, fun h => by cases h⟩
    rw [hs, hs, hG a hcn, hG (src S kd a) (by omega)]
    exact p5 (hall _ hcn)
