/-! ===== what holds when nothing can work ===== -/
def Rmk (S : TS) (w : TW) (k : Nat) : Prop := ¬ v_X4_isBelow S w.1 w.2.1 w.2.2 0 k (w.1 6 0 0 2) = 0
theorem noroom {S : TS} {w : TW} {k C : Nat} (hC : CHK S w 0) (hl : (w.2.2 (ri 0 k)).2.length < 2 ^ 31) (hcap : w.1 6 0 0 2 = nI C) (hC1 : 1 ≤ C) (hC9 : C ≤ 9) (h : ¬ Rmk S w k) : ∃ kd c, CI S kd c ∧ src S kd c = k ∧ pend S w 0 kd c ≠ [] := by
  have h : v_X4_isBelow S w.1 w.2.1 w.2.2 0 k (w.1 6 0 0 2) = 0 := Classical.byContradiction h
  obtain ⟨g, g1, g2, g3, g4⟩ := lg_ok (k := k) hC hl
  unfold v_X4_isBelow at h
  rw [g1, hcap] at h
  have e : (v_X6_length S w.1 w.2.1 w.2.2 (ri 0 k)) - nI g = nI ((w.2.2 (ri 0 k)).2.length - g) := pk_sub g2
  rw [e] at h
  by_cases c : nI C ≤ nI ((w.2.2 (ri 0 k)).2.length - g)
  · have := (nI_leI (by omega) (by omega)).mp c
    rcases g4 with g4 | ⟨kd, a, hc, hs, g4⟩
    · omega
    · refine ⟨kd, a, hc, hs, fun h9 => ?_⟩
      have h8 := congrArg List.length h9
      unfold pend at h8
      rw [List.length_drop] at h8
      have : (w.2.2 (rin S 0 kd a)).2.length = (w.2.2 (ri 0 k)).2.length := by unfold rin; rw [hs]
      simp only [List.length_nil] at h8
      omega
  · rw [if_neg c] at h
    exact absurd h (by decide)
theorem cw_no {S : TS} {w : TW} {k : Nat} (h : cwk S w 0 k = 0) (hr : Rmk S w k) : ¬ ((w.1 8 0 k 0 = 0 ∧ (¬ w.1 2 0 k 11 = 0 ∨ 0 < v_X8_unread S w.1 w.2.1 w.2.2 0 k ∨ (¬ w.1 2 0 k 10 = 0 ∧ ¬ w.1 0 0 (3 * k) 0 = 1000000))) ∨
     (¬ w.1 8 0 k 0 = 0 ∧ ((zp S 0 k).isSome = true ∧ ¬ v_X1_canGive S w.1 w.2.1 w.2.2 4 0 k = 0 ∨ (zp S 1 k).isSome = true ∧ ¬ v_X1_canGive S w.1 w.2.1 w.2.2 5 0 k = 0))) := fun h2 => by
  have := cw_yes hr h2
  rw [show v_X8_canWork S w.1 w.2.1 w.2.2 0 k (w.1 6 0 0 2) = 0 from h] at this
  exact absurd this (by decide)
theorem rest_ok {S : TS} {so : Nat → Nat} {cl : Prop} {t : Nat} {w : TW} (h : INV S so cl t w) (ht : t ≤ 100000) (hno : ∀ k, k < zn S → cwk S w 0 k = 0) (hclo : ∀ k, k < zn S → so k = 0 → ¬ w.1 2 0 k 10 = 0) :
    w.1 6 0 0 5 = 0 ∧ (∀ kd c, CI S kd c → w.1 kd 0 c 2 = 0 ∧ pend S w 0 kd c = []) ∧ ∀ k, k < zn S → w.1 0 0 (3 * k) 0 = 1000000 ∧ (w.2.2 (rs 0 0 (3 * k))).2 = [] ∧ (w.2.2 (rs 2 0 (3 * k))).2 = [] ∧ (w.2.2 (rs 3 0 (3 * k))).2 = [] ∧ (so k = 0 → w.1 0 0 (3 * k) 4 = nI (w.2.2 (rl k)).2.length) := by
  obtain ⟨g0, g, c, d, N, M, C, e, f, -, i, j, l, P, p⟩ := h
  have hn := g0.1
  have hz := g0.2.1
  have hN := INV.bN hn j ht
  have hrow : ∀ k, k < zn S → (w.2.2 (ri 0 k)).2.length < 2 ^ 31 := fun k hk => by
    have := (f.2.2.2 k hk).2.2.1.1
    have := hN k hk
    omega
  have so0 : ∀ k, k < zn S → (w.1 8 0 k 0 = 0 ↔ so k = 0) := fun k hk => by
    have h1 := (g0.2.2 k hk).1.1
    have h2 := (g0.2.2 k hk).1.2.1
    rw [h1]
    exact nI_eq (a := so k) (b := 0) (by omega) (by omega)
  have consumer : ∀ kd a, CI S kd a → so a ≠ 0 := fun kd a hc h0 => by
    have hg := (g0.2.2 a hc.2.1).2.2.2
    exact no_in h0 hg.1 hg.2.2 kd hc
  have give : ∀ kd a, CI S kd a → w.1 kd 0 a 2 = 0 → pend S w 0 kd a ≠ [] → ¬ Rmk S w a := fun kd a hc h2 hp hr => by
    have hu : src S kd a < a := hc.lt hz
    have hcn := hc.2.1
    have hcg := (cg_iff f.1 hc (hrow _ (by show src S kd a < zn S; omega))).mpr ⟨h2, hp⟩
    refine cw_no (hno a hcn) hr (Or.inr ⟨fun h => consumer kd a hc ((so0 a hcn).mp h), ?_⟩)
    rcases hc.1 with e | e
    · subst e; exact Or.inl ⟨hc.2.2, hcg⟩
    · subst e; exact Or.inr ⟨hc.2.2, hcg⟩
  -- who has not passed has room
  have room : ∀ m k, k + m = zn S → P k = false → k < zn S → Rmk S w k := by
    intro m
    induction m using Nat.strongRecOn with
    | ind m ih =>
      intro k hkm hPk hk
      refine Classical.byContradiction fun hr => ?_
      obtain ⟨kd, a, hc, hs, hp⟩ := noroom f.1 (hrow k hk) f.2.1 e f.2.2.1 hr
      have hu : src S kd a < a := hc.lt hz
      have hcn := hc.2.1
      obtain ⟨-, q4, -⟩ := p.2.1 kd a hc
      rw [hs, hPk] at q4
      obtain ⟨-, q2, q3⟩ := q4.1 rfl
      exact give kd a hc q2 hp (ih (zn S - a) (by omega) a (by omega) q3 hcn)
  have h5 : w.1 6 0 0 5 = 0 := Classical.byContradiction fun hb => by
    obtain ⟨-, hpos⟩ := p.2.2.2 hb
    -- the least that has not passed
    have hex : ∃ k, k < zn S ∧ P k = false := Classical.byContradiction fun hx => by
      have : cnP P (zn S) = 0 := by
        have hall : ∀ k, k < zn S → (fun k => if P k then 0 else 1) k = (fun _ => 0) k := fun k hk => by
          have : P k = true := by
            cases hh : P k with
            | true => rfl
            | false => exact absurd ⟨k, hk, hh⟩ hx
          simp [this]
        unfold cnP
        rw [zsm_eq _ hall]
        have z0 : ∀ n, zsm (fun _ => 0) n = 0 := fun n => by
          induction n with
          | zero => rfl
          | succ n ih => show zsm (fun _ => 0) n + 0 = 0; omega
        exact z0 _
      omega
    have least : ∃ k, (k < zn S ∧ P k = false) ∧ ∀ j, j < k → ¬ (j < zn S ∧ P j = false) := pk_least _ hex
    obtain ⟨k, ⟨hk, hPk⟩, hmin⟩ := least
    have hr := room (zn S - k) k (by omega) hPk hk
    obtain ⟨-, -, -, -, -, q6, q7, -, q9⟩ := p.1 k hk
    by_cases s0 : so k = 0
    · have how : ¬ w.1 2 0 k 11 = 0 := fun h => by
        rcases (q7 s0).mp h with h | h
        · exact hb h
        · rw [hPk] at h; cases h
      exact cw_no (hno k hk) hr (Or.inl ⟨(so0 k hk).mpr s0, Or.inl how⟩)
    · have hc4 : CI S 4 k := ⟨Or.inl rfl, hk, (g0.2.2 k hk).2.2.2.2.1 s0⟩
      have shut : ∀ kd, CI S kd k → ¬ w.1 kd 0 k 2 = 0 := fun kd hc h0 => by
        have hu : src S kd k < k := hc.lt hz
        obtain ⟨-, q4, -⟩ := p.2.1 kd k hc
        have hPu : P (src S kd k) = true := by
          cases hh : P (src S kd k) with
          | true => rfl
          | false => exact absurd ⟨by omega, hh⟩ (hmin _ hu)
        rcases q4.2.2 hPu hPk with ⟨h1, -⟩ | ⟨-, A, b, B, h2, -⟩
        · rw [h0] at h1; exact absurd h1 (by decide)
        · exact give kd k hc h0 (by rw [h2]; intro h; have := congrArg List.length h; simp at this) hr
      obtain ⟨o, o2⟩ := q9 4 hc4 (shut 4 hc4)
      exact shut _ o o2
  have hPf := p.2.2.1 h5
  have allroom : ∀ k, k < zn S → Rmk S w k := fun k hk => room (zn S - k) k (by omega) (hPf k hk) hk
  have hch : ∀ kd a, CI S kd a → w.1 kd 0 a 2 = 0 ∧ pend S w 0 kd a = [] := fun kd a hc => by
    have hu : src S kd a < a := hc.lt hz
    have hcn := hc.2.1
    obtain ⟨-, q4, -⟩ := p.2.1 kd a hc
    have q2 := (q4.1 (hPf _ (by omega))).2.1
    exact ⟨q2, Classical.byContradiction fun h => give kd a hc q2 h (allroom a hcn)⟩
  have marks : ∀ k, k < zn S → sI w (3 * k) 0 = 1000000 := by
    intro k
    induction k using Nat.strongRecOn with
    | ind k ih =>
      intro hk
      obtain ⟨⟨⟨s1, s2, s3, s4⟩, -⟩, -⟩ := p.1 k hk
      by_cases s0 : so k = 0
      · have := cw_no (hno k hk) (allroom k hk)
        have hm : w.1 0 0 (3 * k) 0 = 1000000 := Classical.byContradiction fun h => this (Or.inl ⟨(so0 k hk).mpr s0, Or.inr (Or.inr ⟨hclo k hk s0, h⟩)⟩)
        unfold sI
        rw [hm, zi_L]
      · have inp : ∀ kd, CI S kd k → sI w (3 * k) (kd - 3) = 1000000 := fun kd hc => by
          have hu : src S kd k < k := hc.lt hz
          obtain ⟨⟨-, q2, -⟩, -⟩ := p.2.1 kd k hc
          rw [(hch kd k hc).2] at q2
          have q2 : sI w (3 * k) (kd - 3) = sI w (3 * src S kd k) 0 := q2
          rw [q2]
          exact ih _ hu (by omega)
        have o0 := (s1 0 (by omega)).lt
        have i0 : sI w (3 * k) 1 = 1000000 := inp 4 ⟨Or.inl rfl, hk, (g0.2.2 k hk).2.2.2.2.1 s0⟩
        by_cases h2 : (zp S 1 k).isSome = true
        · have i1 : sI w (3 * k) 2 = 1000000 := inp 5 ⟨Or.inr rfl, hk, h2⟩
          have := s2 s0 h2
          omega
        · have := s3 s0 h2
          omega
  refine ⟨h5, hch, fun k hk => ?_⟩
  have hm := marks k hk
  obtain ⟨⟨⟨s1, s2, s3, s4⟩, -⟩, -⟩ := p.1 k hk
  obtain ⟨-, ⟨r1, r2, r3⟩, r4⟩ := s4 hm
  exact ⟨zi_eq.mpr (by rw [zi_L]; exact hm), r1, r2, r3, r4⟩
