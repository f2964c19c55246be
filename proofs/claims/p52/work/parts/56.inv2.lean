/-! ===== who works next ===== -/
abbrev cwk (S : TS) (w : TW) (fl k : Nat) : Int32 := v_X8_canWork S w.1 w.2.1 w.2.2 fl k (w.1 6 fl 0 2)
theorem nw_loop {S : TS} {w : TW} {fl z : Nat} (hn : zn S ≤ 12) (hw : z ≤ zn S) : ∀ n j, j + n = zn S →
    (r_X2_nextToWork S w.1 w.2.1 w.2.2 fl z n j = -1 ∧ ∀ i, j ≤ i → i < zn S → cwk S w fl (if z + i < zn S then z + i else z + i - zn S) = 0) ∨ ∃ m, m < zn S ∧ r_X2_nextToWork S w.1 w.2.1 w.2.2 fl z n j = nI m ∧ ¬ cwk S w fl m = 0 := by
  intro n
  induction n with
  | zero => intro j hj; exact Or.inl ⟨rfl, fun i h1 h2 => by omega⟩
  | succ n ih =>
    intro j hj
    simp only [r_X2_nextToWork]
    have go : ∀ m, m < zn S → m = (if z + j < zn S then z + j else z + j - zn S) → (((if cwk S w fl m = 0 then r_X2_nextToWork S w.1 w.2.1 w.2.2 fl z n (j + 1) else nI m) = -1 ∧ ∀ i, j ≤ i → i < zn S → cwk S w fl (if z + i < zn S then z + i else z + i - zn S) = 0) ∨ ∃ m', m' < zn S ∧ (if cwk S w fl m = 0 then r_X2_nextToWork S w.1 w.2.1 w.2.2 fl z n (j + 1) else nI m) = nI m' ∧ ¬ cwk S w fl m' = 0) := fun m hm he => by
      by_cases c : cwk S w fl m = 0
      · rw [if_pos c]
        rcases ih (j + 1) (by omega) with ⟨a, b⟩ | h
        · refine Or.inl ⟨a, fun i h1 h2 => ?_⟩
          by_cases e : i = j
          · rw [e, ← he]; exact c
          · exact b i (by omega) h2
        · exact Or.inr h
      · rw [if_neg c]
        exact Or.inr ⟨m, hm, rfl, c⟩
    by_cases h1 : nI (zn S) ≤ nI (z + j)
    · rw [if_pos h1]
      have h2 := (nI_leI (by omega) (by omega)).mp h1
      exact go (z + j - zn S) (by omega) (by rw [if_neg (by omega)])
    · rw [if_neg h1]
      have h2 : ¬ zn S ≤ z + j := fun h => h1 ((nI_leI (by omega) (by omega)).mpr h)
      exact go (z + j) (by omega) (by rw [if_pos (by omega)])
theorem nw_two {S : TS} {w : TW} {fl z : Nat} (hn : zn S ≤ 12) (hw : z ≤ zn S) :
    (v_X2_nextToWork S w.1 w.2.1 w.2.2 fl z = -1 ∧ ∀ k, k < zn S → cwk S w fl k = 0) ∨ ∃ m, m < zn S ∧ v_X2_nextToWork S w.1 w.2.1 w.2.2 fl z = nI m ∧ ¬ cwk S w fl m = 0 := by
  rcases nw_loop (S := S) (w := w) (fl := fl) hn hw (zn S) 0 (by omega) with ⟨a, b⟩ | h
  · refine Or.inl ⟨a, fun k hk => ?_⟩
    by_cases c : z ≤ k
    · have := b (k - z) (by omega) (by omega)
      rw [if_pos (by omega), show z + (k - z) = k by omega] at this
      exact this
    · have := b (k + zn S - z) (by omega) (by omega)
      rw [if_neg (by omega), show z + (k + zn S - z) - zn S = k by omega] at this
      exact this
  · exact Or.inr h
theorem nI_nm1 {m : Nat} (h : m < 2 ^ 31) : ¬ nI m = -1 := fun e => by
  have := zi_nI (n := m) (by omega)
  rw [e, zi_m1] at this
  omega
/-! ===== all that holds behind each call ===== -/
def AB (S : TS) (w : TW) : Prop := ∀ i, ¬ dr S i → (w.2.2 i).1 = 0
def INV (S : TS) (so : Nat → Nat) (cl : Prop) (t : Nat) (w : TW) : Prop := GI S so w ∧ GS w.2.1 ∧ ZL S w 0 ∧ AB S w ∧ ∃ N M C, 1 ≤ C ∧ BI S so w 0 N M C ∧ (∃ C1, BI S so w 1 N M C1) ∧ (∀ k, zn S ≤ k → N k = 0 ∧ M k = 0) ∧ zsm N 12 ≤ 8 * t ∧ zsm M 12 ≤ t ∧ ∃ P, PI S so cl (2 * t) w P
/-- what a call keeps -/
def KP (w b : TW) : Prop := (∀ kd a j, kd = 7 ∨ kd = 8 → b.1 kd 0 a j = w.1 kd 0 a j) ∧ (∀ a, b.1 2 0 a 10 = w.1 2 0 a 10) ∧ b.1 6 0 0 4 = w.1 6 0 0 4 ∧ ∀ j, j < 12 → b.2.2 (rl j) = w.2.2 (rl j)
theorem KP.rf {w : TW} : KP w w := ⟨fun _ _ _ _ => rfl, fun _ => rfl, rfl, fun _ _ => rfl⟩
theorem KP.tr {a b c : TW} (h : KP a b) (g : KP b c) : KP a c := ⟨fun kd x j n => (g.1 kd x j n).trans (h.1 kd x j n), fun x => (g.2.1 x).trans (h.2.1 x), g.2.2.1.trans h.2.2.1, fun j hj => (g.2.2.2 j hj).trans (h.2.2.2 j hj)⟩
theorem zsm_upd8 {N : Nat → Nat} {k d : Nat} (hk : k < 12) : zsm (fun j => if j = k then N j + d else N j) 12 = zsm N 12 + d := by
  have := zsm_upd (f := N) (g := fun j => if j = k then N j + d else N j) (i := k) (fun j hj => if_neg hj) 12 hk
  simp only [if_pos] at this
  omega
theorem INV.mono {S : TS} {so : Nat → Nat} {cl : Prop} {t t' : Nat} {w : TW} (h : INV S so cl t w) (ht : t ≤ t') : INV S so cl t' w := by
  obtain ⟨a, b, c, d, N, M, C, e, f, g, i, j, k, P, l⟩ := h
  exact ⟨a, b, c, d, N, M, C, e, f, g, i, by omega, by omega, P, l.mono (by omega)⟩
theorem INV.bN {N : Nat → Nat} {n t : Nat} (hn : n ≤ 12) (hs : zsm N 12 ≤ 8 * t) (ht : t ≤ 100000) : ∀ j, j < n → N j + 100 ≤ 4194304 := fun j hj => by
  have := zsm_one (f := N) (i := j) (n := 12) (by omega)
  omega
theorem dr_k {S : TS} (hn : zn S ≤ 12) {fl k i : Nat} (hf : fl < 2) (hk : k < zn S) (h : ¬ dr S i) : (∀ x s, x < 4 → s < 3 → i ≠ rs x fl (3 * k + s)) ∧ i ≠ ri fl k ∧ i ≠ ro fl k ∧ i ≠ rl k :=
  ⟨fun x s hx hs e => h (by rw [e]; exact dr_s hn hx hf (by omega)), fun e => h (by rw [e]; exact dr_i hn hf hk), fun e => h (by rw [e]; exact dr_o hn hf hk), fun e => h (by rw [e]; exact dr_l hn hk)⟩
/-- a step of the live flow -/
theorem step_INV0 {S : TS} {so : Nat → Nat} {cl : Prop} {t k : Nat} {w : TW} (h : INV S so cl t w) (ht : t ≤ 100000) (hk : k < zn S) (hcw : ¬ cwk S w 0 k = 0) :
    INV S so cl (t + 1) (w_X2_step S w 0 k).1 ∧ (w_X2_step S w 0 k).2 = 1 ∧ KP w (w_X2_step S w 0 k).1 ∧ ∀ j, j < zn S → sI w (3 * j) 0 ≤ sI (w_X2_step S w 0 k).1 (3 * j) 0 := by
  obtain ⟨a, b, c, d, N, M, C, e, f, ⟨C1, g⟩, i, j, l, P, p⟩ := h
  have hn := a.1
  have hz := a.2.1
  have hN := INV.bN hn j ht
  obtain ⟨s1, s2⟩ := step_BI a b (by omega) f hN hk hcw
  obtain ⟨P', q1, q2⟩ := step_PI a b f hN (by omega) hk hcw p
  have hag := step_ag (f := 1) a b (by omega) (by omega) (by omega) f hN hk hcw
  obtain ⟨g1, g2⟩ := step_gi a b (by omega) f hN hk hcw
  have hr := step_rows a b (by omega) f hN hk hcw
  have hfl := fl_X2_step S w 0 k (w0 := w) FL.rf
  refine ⟨⟨g1, gs_X2_step _ _ _ _ b, ZL.set hn hk (n6_step S w 0 k), fun i hi => ?_, _, _, C, e, s1, ⟨C1, (g.ag hn hz hag).mono (fun j => ?_) (fun j => ?_)⟩, fun k' hk' => ?_, ?_, ?_, P', q1.mono (by omega)⟩, s2, ⟨fun kd a j h => hfl.1 _ _ _ _ (Or.inr h), fun a => cl_X2_step _ _ _ _ rfl, bc_X2_step _ _ _ _ rfl, g2⟩, q2⟩
  · obtain ⟨h1, h2, h3, -⟩ := dr_k hn (fl := 0) (by omega) hk hi
    rw [hr i h1 h2 h3]; exact d i hi
  · split <;> omega
  · split <;> omega
  · rw [if_neg (by omega), if_neg (by omega)]; exact i k' hk'
  · rw [zsm_upd8 (by omega)]; omega
  · rw [zsm_upd8 (by omega)]; omega
/-- .. of the trial -/
theorem step_INV1 {S : TS} {so : Nat → Nat} {cl : Prop} {t k : Nat} {w : TW} (h : INV S so cl t w) (ht : t ≤ 100000) (hk : k < zn S) (hcw : ¬ cwk S w 1 k = 0) :
    INV S so cl (t + 1) (w_X2_step S w 1 k).1 ∧ (w_X2_step S w 1 k).2 = 1 ∧ ZL S (w_X2_step S w 1 k).1 1 ∧ AG 0 w (w_X2_step S w 1 k).1 ∧ ∀ a j, (w_X2_step S w 1 k).1.1 7 0 a j = w.1 7 0 a j := by
  obtain ⟨a, b, c, d, N, M, C, e, f, ⟨C1, g⟩, i, j, l, P, p⟩ := h
  have hn := a.1
  have hz := a.2.1
  have hN := INV.bN hn j ht
  obtain ⟨s1, s2⟩ := step_BI a b (by omega) g hN hk hcw
  have hag := step_ag (f := 0) a b (by omega) (by omega) (by omega) g hN hk hcw
  obtain ⟨g1, g2⟩ := step_gi a b (by omega) g hN hk hcw
  have hr := step_rows a b (by omega) g hN hk hcw
  have hfl := fl_X2_step S w 1 k (w0 := w) FL.rf
  refine ⟨⟨g1, gs_X2_step _ _ _ _ b, c.eq (hag.1 6 0 3 (by omega)), fun i hi => ?_, _, _, C, e, (f.ag hn hz hag).mono (fun j => ?_) (fun j => ?_), ⟨C1, s1⟩, fun k' hk' => ?_, ?_, ?_, P, (p.ag hn hz b hag).mono (by omega)⟩, s2, ZL.set hn hk (n6_step S w 1 k), hag, fun a j => hfl.1 _ _ _ _ (Or.inr (Or.inl rfl))⟩
  · obtain ⟨h1, h2, h3, -⟩ := dr_k hn (fl := 1) (by omega) hk hi
    rw [hr i h1 h2 h3]; exact d i hi
  · split <;> omega
  · split <;> omega
  · rw [if_neg (by omega), if_neg (by omega)]; exact i k' hk'
  · rw [zsm_upd8 (by omega)]; omega
  · rw [zsm_upd8 (by omega)]; omega
/-- a number of steps of the live flow -/
theorem work_INV {S : TS} {so : Nat → Nat} {cl : Prop} {mi : Nat} : ∀ (n d t : Nat) (w : TW), INV S so cl t w → t + n ≤ 100000 → INV S so cl (t + n) (r_X10_work S mi n d w).1 ∧ KP w (r_X10_work S mi n d w).1 ∧ ∀ j, j < zn S → sI w (3 * j) 0 ≤ sI (r_X10_work S mi n d w).1 (3 * j) 0 := by
  intro n
  induction n with
  | zero => intro d t w h ht; exact ⟨h, KP.rf, fun j _ => Int.le_refl _⟩
  | succ n ih =>
    intro d t w h ht
    rw [er_X10_work]
    have hn := h.1.1
    rcases nw_two (S := S) (w := w) (fl := 0) hn h.2.2.1.2 with ⟨a, -⟩ | ⟨m, m1, m2, m3⟩
    · rw [if_pos a]
      exact ⟨h.mono (by omega), KP.rf, fun j _ => Int.le_refl _⟩
    · rw [if_neg (by rw [m2]; exact nI_nm1 (by omega)), zlet_eq, m2, nI_clamp (by omega)]
      obtain ⟨s1, s2, s3, s4⟩ := step_INV0 h (by omega) m1 m3
      rw [if_neg (by rw [s2]; decide)]
      obtain ⟨r1, r2, r3⟩ := ih (d + 1) (t + 1) _ s1 (by omega)
      exact ⟨by rw [show t + (n + 1) = t + 1 + n by omega]; exact r1, s3.tr r2, fun j hj => Int.le_trans (s4 j hj) (r3 j hj)⟩
/-- .. of the trial -/
theorem rest_INV {S : TS} {so : Nat → Nat} {cl : Prop} {mi : Nat} : ∀ (n d t : Nat) (w : TW), INV S so cl t w → ZL S w 1 → t + n ≤ 100000 → INV S so cl (t + n) (r_X10_itemsToRest S mi n d w).1 ∧ ZL S (r_X10_itemsToRest S mi n d w).1 1 ∧ AG 0 w (r_X10_itemsToRest S mi n d w).1 ∧ (∀ a j, (r_X10_itemsToRest S mi n d w).1.1 7 0 a j = w.1 7 0 a j) ∧ d ≤ (r_X10_itemsToRest S mi n d w).2 ∧ (r_X10_itemsToRest S mi n d w).2 ≤ d + n := by
  intro n
  induction n with
  | zero => intro d t w h hz ht; exact ⟨h, hz, AG.rf, fun _ _ => rfl, Nat.le_refl _, Nat.le_refl _⟩
  | succ n ih =>
    intro d t w h hz ht
    rw [er_X10_itemsToRest]
    have hn := h.1.1
    rcases nw_two (S := S) (w := w) (fl := 1) hn hz.2 with ⟨a, -⟩ | ⟨m, m1, m2, m3⟩
    · rw [if_pos a]
      exact ⟨h.mono (by omega), hz, AG.rf, fun _ _ => rfl, Nat.le_refl _, by omega⟩
    · rw [if_neg (by rw [m2]; exact nI_nm1 (by omega)), zlet_eq, m2, nI_clamp (by omega)]
      obtain ⟨s1, s2, s3, s4, s5⟩ := step_INV1 h (by omega) m1 m3
      rw [if_neg (by rw [s2]; decide)]
      obtain ⟨r1, r2, r3, r4, r5, r6⟩ := ih (d + 1) (t + 1) _ s1 s3 (by omega)
      exact ⟨by rw [show t + (n + 1) = t + 1 + n by omega]; exact r1, r2, s4.tr r3, fun a j => (r4 a j).trans (s5 a j), by omega, by omega⟩
