/-! ===== the trial takes the live flow over ===== -/
theorem bm_loop {S : TS} {fl k fl2 : Nat} (gv : Int32) (hne : ¬ fl2 = fl) : ∀ (n i : Nat) (w : TW), i + n = (och S k).length → ∃ c : TW, r_X4_become S fl k fl2 gv n i w = c ∧ c.2 = w.2 ∧
    (∀ kd f a j, (¬ ∃ m, i ≤ m ∧ m < (och S k).length ∧ ochd S k m = (kd, a)) ∨ f ≠ fl ∨ ¬ (j = 1 ∨ j = 2) → c.1 kd f a j = w.1 kd f a j) ∧ ∀ m, i ≤ m → m < (och S k).length → c.1 (ochd S k m).1 fl (ochd S k m).2 1 = w.1 (ochd S k m).1 fl2 (ochd S k m).2 1 - gv ∧ c.1 (ochd S k m).1 fl (ochd S k m).2 2 = w.1 (ochd S k m).1 fl2 (ochd S k m).2 2 := by
  intro n
  induction n with
  | zero => intro i w hi; exact ⟨w, rfl, rfl, fun _ _ _ _ _ => rfl, fun m h1 h2 => by omega⟩
  | succ n ih =>
    intro i w hi
    rw [er_X4_become, zlet_eq, zlet_eq]
    obtain ⟨w3, hw3⟩ : ∃ w3, w3 = zset w ((ochd S k i).1) fl ((ochd S k i).2) 1 ((w.1 ((ochd S k i).1) fl2 ((ochd S k i).2) 1) - gv) := ⟨_, rfl⟩
    rw [← hw3]
    obtain ⟨w4, hw4⟩ : ∃ w4, w4 = zset w3 ((ochd S k i).1) fl ((ochd S k i).2) 2 (w3.1 ((ochd S k i).1) fl2 ((ochd S k i).2) 2) := ⟨_, rfl⟩
    rw [← hw4]
    have e3 : ∀ kd a j, w3.1 kd fl2 a j = w.1 kd fl2 a j := fun kd a j => by rw [hw3, zset_F, if_neg (fun h => hne h.2.1)]
    have e4 : ∀ kd a j, w4.1 kd fl2 a j = w.1 kd fl2 a j := fun kd a j => by rw [hw4, zset_F, if_neg (fun h => hne h.2.1), e3]
    obtain ⟨c, c1, c2, c3, c4⟩ := ih (i + 1) w4 (by omega)
    refine ⟨c, c1, c2.trans (by rw [hw4, hw3]; rfl), fun kd f a j h => ?_, fun m m1 m2 => ?_⟩
    · have hn : ∀ j', j' = 1 ∨ j' = 2 → ¬ (kd = (ochd S k i).1 ∧ f = fl ∧ a = (ochd S k i).2 ∧ j = j') := fun j' hj' ⟨e1, e2, e3, e4⟩ => by
        rcases h with h | h | h
        · exact h ⟨i, Nat.le_refl _, by omega, by rw [e1, e3]⟩
        · exact h e2
        · exact h (by rw [e4]; exact hj')
      rw [c3 kd f a j (by
        rcases h with h | h
        · exact Or.inl fun ⟨m, m1, m2, m3⟩ => h ⟨m, by omega, m2, m3⟩
        · exact Or.inr h), hw4, zset_F, if_neg (hn 2 (Or.inr rfl)), hw3, zset_F, if_neg (hn 1 (Or.inl rfl))]
    · by_cases e : m = i
      · subst e
        have no : ∀ j, (¬ ∃ m', m + 1 ≤ m' ∧ m' < (och S k).length ∧ ochd S k m' = ((ochd S k m).1, (ochd S k m).2)) ∨ fl ≠ fl ∨ ¬ (j = 1 ∨ j = 2) := fun j => Or.inl fun ⟨m', m1', m2', m3'⟩ => by have := ochd_inj m2' m2 m3'; omega
        rw [c3 _ _ _ _ (no 1), c3 _ _ _ _ (no 2)]
        exact ⟨by rw [hw4, zset_F, if_neg (by omega), hw3, zset_F, if_pos ⟨rfl, rfl, rfl, rfl⟩], by rw [hw4, zset_F, if_pos ⟨rfl, rfl, rfl, rfl⟩, e3]⟩
      · obtain ⟨x, y⟩ := c4 m (by omega) m2
        rw [e4] at x y
        exact ⟨x, y⟩
def gl (S : TS) (w : TW) (k : Nat) : Nat := (v_X4_leastGiven S w.1 w.2.1 w.2.2 0 k).toNatClampNeg
def TBk (S : TS) (k : Nat) (w b : TW) : Prop := (∀ j, j < 8 → b.1 0 1 (3 * k) j = w.1 0 0 (3 * k) j) ∧ (∀ kd a, CI S kd a → src S kd a = k → b.1 kd 1 a 1 = w.1 kd 0 a 1 - nI (gl S w k) ∧ b.1 kd 1 a 2 = w.1 kd 0 a 2) ∧ (b.1 2 1 k 10 = w.1 2 0 k 10 ∧ b.1 2 1 k 11 = w.1 2 0 k 11) ∧
  (∀ x, x < 4 → (b.2.2 (rs x 1 (3 * k))).2 = (w.2.2 (rs x 0 (3 * k))).2 ∧ ∀ B, RBd B (w.2.2 (rs x 1 (3 * k))) → (w.2.2 (rs x 0 (3 * k))).2.length ≤ B → B ≤ 4194304 → RBd B (b.2.2 (rs x 1 (3 * k)))) ∧ (b.2.2 (ri 1 k)).2 = (w.2.2 (ri 0 k)).2.drop (gl S w k) ∧ ∀ B, RBd B (w.2.2 (ri 1 k)) → (w.2.2 (ri 0 k)).2.length ≤ B → B ≤ 4194304 → RBd B (b.2.2 (ri 1 k))
def T1k (S : TS) (k kd f a j : Nat) : Prop := (kd = 0 ∧ f = 1 ∧ a = 3 * k) ∨ (CI S kd a ∧ src S kd a = k ∧ f = 1 ∧ (j = 1 ∨ j = 2)) ∨ (kd = 2 ∧ f = 1 ∧ a = k ∧ (j = 10 ∨ j = 11))
def TR1 (k i : Nat) : Prop := (∃ x, x < 4 ∧ i = rs x 1 (3 * k)) ∨ i = ri 1 k
theorem tb_ok {S : TS} (hn : zn S ≤ 12) (w : TW) (k : Nat) (hk : k < zn S) (hC : CHK S w 0) (hlk : (w.2.2 (ri 0 k)).2.length < 2 ^ 31) (hl : ∀ x, x < 4 → (w.2.2 (rs x 0 (3 * k))).2.length < 2 ^ 31) :
    ∃ b : TW, w_X8_become S w 1 k 0 = b ∧ TBk S k w b ∧ b.2.1 = w.2.1 ∧ (∀ kd f a j, ¬ T1k S k kd f a j → b.1 kd f a j = w.1 kd f a j) ∧ ∀ i, ¬ TR1 k i → b.2.2 i = w.2.2 i := by
  obtain ⟨w1, s1, s2, s3, s4, s5, s6⟩ := sb_ok (S := S) w 1 (3 * k) 0 (3 * k) (by omega) (by omega) (by omega) hl
  have w1ri : ∀ f u, f < 2 → w1.2.2 (ri f u) = w.2.2 (ri f u) := fun f u hf => s6 _ (fun x hx e => rs_ri hx (by omega) (by omega) e.symm)
  have elg : v_X4_leastGiven S w1.1 w1.2.1 w1.2.2 0 k = v_X4_leastGiven S w.1 w.2.1 w.2.2 0 k := by
    unfold v_X4_leastGiven
    rw [lgr_congr (G := w.2.1) (q := w.2.2) (fun kd c h => s4 kd 0 c 1 (by omega)), w1ri 0 k (by omega)]
  obtain ⟨g, g1, g2, g3, g4⟩ := lg_ok hC hlk
  have egl : gl S w k = g := by unfold gl; rw [g1, nI_clamp (by omega)]
  have hzf : zfrom (nI g) (w.2.2 (ri 0 k)).2.length = g := by
    unfold zfrom
    rw [zmin_nI (by omega) hlk, Nat.min_eq_left g2]
    show (zmax (nI 0) (nI g)).toNatClampNeg = g
    unfold zmax
    by_cases e : g = 0
    · subst e; rw [if_neg (by decide)]; rfl
    · rw [if_pos (nI_lt (a := 0) (by omega) (by omega)), nI_clamp (by omega)]
  obtain ⟨w2, h2⟩ : ∃ w2, w2 = zrw w1 (ri 1 k) (qbec (w1.2.2 (ri 1 k)) (w1.2.2 (ri 0 k)) g) := ⟨_, rfl⟩
  obtain ⟨w3, t1, t2, t3, t4⟩ := bm_loop (S := S) (fl := 1) (k := k) (fl2 := 0) (nI g) (by omega) (och S k).length 0 w2 (by omega)
  obtain ⟨b, hb⟩ : ∃ b, b = zset (zset w3 2 1 k 10 (w3.1 2 0 k 10)) 2 1 k 11 (w3.1 2 0 k 11) := ⟨_, rfl⟩
  have eb : w_X8_become S w 1 k 0 = b := by
    unfold w_X8_become w_X4_become
    simp only [zlet_eq]
    rw [s1, elg, g1, w1ri 0 k (by omega), hzf, ← w1ri 0 k (by omega), ← h2, t1, hb, zset_F, if_neg (by omega)]
  have bq : b.2 = w2.2 := by rw [hb]; exact t2
  have hrr : ∀ i, b.2.2 i = if i = ri 1 k then qbec (w.2.2 (ri 1 k)) (w.2.2 (ri 0 k)) g else w1.2.2 i := fun i => by
    rw [bq, h2, zrw_q, w1ri 1 k (by omega), w1ri 0 k (by omega)]
  have w2F : w2.1 = w1.1 := by rw [h2]; rfl
  have hF : ∀ kd f a j, ¬ (CI S kd a ∧ src S kd a = k ∧ f = 1 ∧ (j = 1 ∨ j = 2)) → ¬ (kd = 2 ∧ f = 1 ∧ a = k ∧ (j = 10 ∨ j = 11)) → b.1 kd f a j = w1.1 kd f a j := fun kd f a j n1 n2 => by
    rw [hb, zset_F, if_neg (by omega), zset_F, if_neg (by omega), t3 kd f a j (by
      by_cases hf : f = 1
      · by_cases hj : j = 1 ∨ j = 2
        · left
          rintro ⟨m', m1, m2, m3⟩
          have h9 := och_ci (ochd_mem m2)
          rw [m3] at h9
          exact n1 ⟨h9.1, h9.2, hf, hj⟩
        · exact Or.inr (Or.inr hj)
      · exact Or.inr (Or.inl hf)), w2F]
  have w3z : ∀ kd a j, w3.1 kd 0 a j = w1.1 kd 0 a j := fun kd a j => by rw [t3 _ _ _ _ (Or.inr (Or.inl (by omega))), w2F]
  have w2z : ∀ kd a j, ¬ (kd = 0 ∧ False) → w2.1 kd 0 a j = w.1 kd 0 a j := fun kd a j _ => by rw [w2F, s4 _ _ _ _ (by omega)]
  refine ⟨b, eb, ⟨fun j hj => ?_, fun kd a hc hs => ?_, ⟨?_, ?_⟩, fun x hx => ?_, ?_, fun B h1 h2' h3 => ?_⟩, ?_, fun kd f a j h => ?_, fun i h => ?_⟩
  · rw [hF _ _ _ _ (fun h => by have := h.1.1; omega) (by omega)]; exact s3 j hj
  · have hm' := ci_och hc
    have hs' : zsrc S (kd - 4) a = k := hs
    rw [hs'] at hm'
    obtain ⟨i, hi, e⟩ := ochd_at hm'
    have h45 := hc.1
    have := t4 i (by omega) hi
    rw [e, w2z _ _ _ (fun h => h.2), w2z _ _ _ (fun h => h.2)] at this
    rw [hb, zset_F, if_neg (by omega), zset_F, if_neg (by omega), zset_F, if_neg (by omega), zset_F, if_neg (by omega), egl]
    exact this
  · rw [hb, zset_F, if_neg (by omega), zset_F, if_pos ⟨rfl, rfl, rfl, rfl⟩, w3z, s4 _ _ _ _ (by omega)]
  · rw [hb, zset_F, if_pos ⟨rfl, rfl, rfl, rfl⟩, w3z, s4 _ _ _ _ (by omega)]
  · rw [hrr, if_neg (rs_ri hx (by omega) (by omega))]
    exact s5 x hx
  · rw [hrr, if_pos rfl, egl, bec_2]
  · rw [hrr, if_pos rfl]
    exact h1.bec (by omega) h3
  · rw [bq, h2]; exact s2
  · rw [hF _ _ _ _ (fun h9 => h (Or.inr (Or.inl h9))) (fun h9 => h (Or.inr (Or.inr h9)))]
    exact s4 _ _ _ _ (fun h9 => h (Or.inl h9))
  · rw [hrr, if_neg (fun e => h (Or.inr e))]
    exact s6 i (fun x hx e => h (Or.inl ⟨x, hx, e⟩))
theorem no1 {S : TS} {k kd a j : Nat} : ¬ T1k S k kd 0 a j := fun h => by
  rcases h with ⟨f1, f2, f3⟩ | ⟨f1, f2, f3, f4⟩ | ⟨f1, f2, f3, f4⟩ <;> omega
theorem tr1_0 {k : Nat} (hk : k < 12) : (∀ x st, x < 4 → st < 36 → ¬ TR1 k (rs x 0 st)) ∧ (∀ u, ¬ TR1 k (ri 0 u)) ∧ (∀ u, u < 12 → ¬ TR1 k (ro 0 u)) ∧ (∀ u, u < 12 → ¬ TR1 k (rl u)) ∧ (∀ u, u < 12 → ¬ TR1 k (ro 1 u)) := by
  refine ⟨fun x st hx hst h => ?_, fun u h => ?_, fun u hu h => ?_, fun u hu h => ?_, fun u hu h => ?_⟩
  · rcases h with ⟨y, hy, e⟩ | e
    · have := (rs_eq hx hy (by omega) (by omega) e).2.1; omega
    · exact rs_ri hx (by omega) hst e
  · rcases h with ⟨y, hy, e⟩ | e
    · exact rs_ri hy (by omega) (by omega) e.symm
    · unfold ri at e; omega
  · rcases h with ⟨y, hy, e⟩ | e
    · exact ro_rs hy (by omega) (by omega) e
    · unfold ro ri at e; omega
  · rcases h with ⟨y, hy, e⟩ | e
    · exact rl_rs hy (by omega) (by omega) e
    · exact rl_ri (by omega) hk e
  · rcases h with ⟨y, hy, e⟩ | e
    · exact ro_rs hy (by omega) (by omega) e
    · exact ro_ri (by omega) hk e
theorem gl_same {S : TS} {w b : TW} {k : Nat} (h : ∀ kd c, kd = 4 ∨ kd = 5 → b.1 kd 0 c 1 = w.1 kd 0 c 1) (hq : b.2.2 (ri 0 k) = w.2.2 (ri 0 k)) : gl S b k = gl S w k := by
  unfold gl v_X4_leastGiven
  rw [lgr_congr (G := w.2.1) (q := w.2.2) h, hq]
theorem tb_loop {S : TS} (hn : zn S ≤ 12) (hz : zok S) : ∀ (n i : Nat) (w : TW), i + n = zn S → CHK S w 0 → (∀ k, k < zn S → (w.2.2 (ri 0 k)).2.length < 2 ^ 31 ∧ ∀ x, x < 4 → (w.2.2 (rs x 0 (3 * k))).2.length < 2 ^ 31) →
    ∃ c : TW, r_X2_become S 1 0 n i w = c ∧ c.2.1 = w.2.1 ∧ (∀ k, i ≤ k → k < zn S → TBk S k w c) ∧ (∀ kd f a j, (∀ k, i ≤ k → k < zn S → ¬ T1k S k kd f a j) → c.1 kd f a j = w.1 kd f a j) ∧ ∀ i', (∀ k, i ≤ k → k < zn S → ¬ TR1 k i') → c.2.2 i' = w.2.2 i' := by
  intro n
  induction n with
  | zero => intro i w hi _ _; exact ⟨w, rfl, rfl, fun k h1 h2 => by omega, fun _ _ _ _ _ => rfl, fun _ _ => rfl⟩
  | succ n ih =>
    intro i w hi hC hl
    rw [er_X2_become, zlet_eq]
    obtain ⟨b, b1, ⟨a1, a2, a3, a4, a5, a6⟩, b3, b4, b5⟩ := tb_ok hn w i (by omega) hC (hl i (by omega)).1 (hl i (by omega)).2
    rw [b1]
    have f0 : ∀ kd a j, b.1 kd 0 a j = w.1 kd 0 a j := fun kd a j => b4 _ _ _ _ no1
    obtain ⟨o1, o2, o3, o4, o5⟩ := tr1_0 (k := i) (by omega)
    have r0 : ∀ u, b.2.2 (ri 0 u) = w.2.2 (ri 0 u) := fun u => b5 _ (o2 u)
    have rs0 : ∀ x k, x < 4 → k < zn S → b.2.2 (rs x 0 (3 * k)) = w.2.2 (rs x 0 (3 * k)) := fun x k hx hk => b5 _ (o1 x _ hx (by omega))
    obtain ⟨c, c1, c2, c3, c4, c5⟩ := ih (i + 1) b (by omega) (fun kd a hc => by
      have := hC kd a hc
      unfold gvn rin at *
      rw [f0, r0]
      exact this) (fun k hk => ⟨by rw [r0]; exact (hl k hk).1, fun x hx => by rw [rs0 x k hx hk]; exact (hl k hk).2 x hx⟩)
    refine ⟨c, c1, c2.trans b3, fun k h1 h2 => ?_, fun kd f a j h => ?_, fun i' h => ?_⟩
    · by_cases e : k = i
      · subst e
        have nf : ∀ kd f a j, T1k S k kd f a j → c.1 kd f a j = b.1 kd f a j := fun kd f a j h => c4 _ _ _ _ (fun k' k1 k2 h' => by
          rcases h with ⟨e1, e2, e3⟩ | ⟨e1, e2, e3, e4⟩ | ⟨e1, e2, e3, e4⟩
          · rcases h' with ⟨f1, f2, f3⟩ | ⟨f1, f2, f3, f4⟩ | ⟨f1, f2, f3, f4⟩
            · omega
            · have := f1.1; omega
            · omega
          · have h45 := e1.1
            rcases h' with ⟨f1, f2, f3⟩ | ⟨f1, f2, f3, f4⟩ | ⟨f1, f2, f3, f4⟩
            · omega
            · omega
            · omega
          · rcases h' with ⟨f1, f2, f3⟩ | ⟨f1, f2, f3, f4⟩ | ⟨f1, f2, f3, f4⟩
            · omega
            · have := f1.1; omega
            · omega)
        have nr : ∀ x, x < 4 → c.2.2 (rs x 1 (3 * k)) = b.2.2 (rs x 1 (3 * k)) := fun x hx => c5 _ (fun k' k1 k2 h => by
          rcases h with ⟨y, hy, e⟩ | e
          · have := (rs_eq hx hy (by omega) (by omega) e).2.2; omega
          · exact rs_ri hx (by omega) (by omega) e)
        have nri : c.2.2 (ri 1 k) = b.2.2 (ri 1 k) := c5 _ (fun k' k1 k2 h => by
          rcases h with ⟨y, hy, e⟩ | e
          · exact rs_ri hy (by omega) (by omega) e.symm
          · have := ri_eq e; omega)
        refine ⟨fun j hj => by rw [nf _ _ _ _ (Or.inl ⟨rfl, rfl, rfl⟩)]; exact a1 j hj, fun kd a hc hs => ?_, ⟨by rw [nf _ _ _ _ (Or.inr (Or.inr ⟨rfl, rfl, rfl, Or.inl rfl⟩))]; exact a3.1, by rw [nf _ _ _ _ (Or.inr (Or.inr ⟨rfl, rfl, rfl, Or.inr rfl⟩))]; exact a3.2⟩, fun x hx => by rw [nr x hx]; exact a4 x hx, by rw [nri]; exact a5, by rw [nri]; exact a6⟩
        rw [nf _ _ _ _ (Or.inr (Or.inl ⟨hc, hs, rfl, Or.inl rfl⟩)), nf _ _ _ _ (Or.inr (Or.inl ⟨hc, hs, rfl, Or.inr rfl⟩))]
        exact a2 kd a hc hs
      · obtain ⟨d1, d2, d3, d4, d5, d6⟩ := c3 k (by omega) h2
        have eg : gl S b k = gl S w k := gl_same (fun kd c _ => f0 _ _ _) (r0 k)
        refine ⟨fun j hj => by rw [d1 j hj, f0], fun kd a hc hs => by rw [(d2 kd a hc hs).1, (d2 kd a hc hs).2, f0, f0, eg]; exact ⟨rfl, rfl⟩, ⟨by rw [d3.1, f0], by rw [d3.2, f0]⟩, fun x hx => ?_, by rw [d5, r0, eg], fun B hB h3 h4 => d6 B ?_ (by rw [r0]; exact h3) h4⟩
        · have hx4 := d4 x hx
          rw [rs0 x k hx h2, b5 (rs x 1 (3 * k)) (fun h => by
            rcases h with ⟨y, hy, e'⟩ | e'
            · have := (rs_eq hx hy (by omega) (by omega) e').2.2; omega
            · exact rs_ri hx (by omega) (by omega) e')] at hx4
          exact hx4
        · rw [b5 (ri 1 k) (fun h => by
            rcases h with ⟨y, hy, e'⟩ | e'
            · exact rs_ri hy (by omega) (by omega) e'.symm
            · exact e (ri_eq e'))]
          exact hB
    · rw [c4 _ _ _ _ (fun k k1 k2 => h k (by omega) k2), b4 _ _ _ _ (h i (by omega) (by omega))]
    · rw [c5 _ (fun k k1 k2 => h k (by omega) k2), b5 _ (h i (by omega) (by omega))]
theorem SR.copy2 {so E N : Nat} {v c : TW} {fl st fl' st' : Nat} (h : SR so E N v fl st) (h' : SR so E N v fl' st') (hN : N ≤ 4194304) (hc : ∀ x, x < 4 → (c.2.2 (rs x fl' st')).2 = (v.2.2 (rs x fl st)).2 ∧ ∀ B, RBd B (v.2.2 (rs x fl' st')) → (v.2.2 (rs x fl st)).2.length ≤ B → B ≤ 4194304 → RBd B (c.2.2 (rs x fl' st'))) : SR so E N c fl' st' := by
  obtain ⟨⟨a1, a2, a3⟩, ⟨b1, b2, b3⟩, ⟨c1, c2, c3⟩, d, e⟩ := h
  obtain ⟨⟨a1', a2', a3'⟩, ⟨b1', b2', b3'⟩, ⟨c1', c2', c3'⟩, -, -⟩ := h'
  obtain ⟨q0, r0⟩ := hc 0 (by omega)
  obtain ⟨q1, r1⟩ := hc 1 (by omega)
  obtain ⟨q2, r2⟩ := hc 2 (by omega)
  obtain ⟨q3, r3⟩ := hc 3 (by omega)
  refine ⟨⟨r0 N a1' a1.1 hN, r1 N a2' a2.1 hN, by rw [q0]; exact a3⟩, ⟨r2 17 b1' b1.1 (by omega), by rw [q2]; exact b2, by rw [q2]; exact b3⟩, ⟨r3 17 c1' c1.1 (by omega), by rw [q3]; exact c2, by rw [q3]; exact c3⟩, fun h => by rw [q0]; exact d h, fun h => by rw [q2, q3]; exact e h⟩
theorem become_INV {S : TS} {so : Nat → Nat} {cl : Prop} {t : Nat} {w : TW} (h : INV S so cl t w) (ht : t ≤ 100000) :
    INV S so cl t (w_X2_become S w 1 0) ∧ ZL S (w_X2_become S w 1 0) 1 ∧ AG 0 w (w_X2_become S w 1 0) ∧ (∀ a j, (w_X2_become S w 1 0).1 7 0 a j = w.1 7 0 a j) ∧ ∀ k, k < zn S → cwk S (w_X2_become S w 1 0) 1 k = cwk S w 0 k := by
  obtain ⟨g0, g, c, d, N, M, C, e, f, ⟨C1, g1⟩, i, j, l, P, p⟩ := h
  have hn := g0.1
  have hz := g0.2.1
  have hN := INV.bN hn j ht
  have hZ1 : ZL S (w_X2_become S w 1 0) 1 := c.become
  obtain ⟨w1, hw1⟩ : ∃ w1, w1 = zset (zset w 6 1 0 2 (w.1 6 0 0 2)) 6 1 0 3 (w.1 6 0 0 3) := ⟨_, rfl⟩
  have q1 : w1.2 = w.2 := by rw [hw1]; rfl
  have qq1 : w1.2.2 = w.2.2 := by rw [q1]
  have F1 : ∀ kd f a j, ¬ (kd = 6 ∧ f = 1) → w1.1 kd f a j = w.1 kd f a j := fun kd f a j h => by rw [hw1, zset_F, if_neg (by omega), zset_F, if_neg (by omega)]
  have low : ∀ k, k < zn S → (w.2.2 (ri 0 k)).2.length ≤ N k + 40 ∧ ∀ x, x < 4 → (w.2.2 (rs x 0 (3 * k))).2.length ≤ N k + 17 := fun k hk => by
    obtain ⟨a1, -, a3, -⟩ := f.2.2.2 k hk
    refine ⟨a3.1, fun x hx => ?_⟩
    have hh := a1 0 (by omega)
    have hx4 : x = 0 ∨ x = 1 ∨ x = 2 ∨ x = 3 := by omega
    rcases hx4 with rfl | rfl | rfl | rfl
    · have := hh.1.1.1; simp only [Nat.add_zero] at this; omega
    · have := hh.1.2.1.1; simp only [Nat.add_zero] at this; omega
    · have := hh.2.1.1.1; simp only [Nat.add_zero] at this; omega
    · have := hh.2.2.1.1.1; simp only [Nat.add_zero] at this; omega
  obtain ⟨b, z1, z2, z3, z4, z5⟩ := tb_loop (S := S) hn hz (zn S) 0 w1 (by omega) (fun kd a hc => by
      have := f.1 kd a hc
      unfold gvn at *
      rw [F1 _ _ _ _ (by omega), qq1]
      exact this) (fun k hk => by
      have h1 := low k hk
      have h2 := hN k hk
      rw [qq1]
      exact ⟨by omega, fun x hx => by have := h1.2 x hx; omega⟩)
  have eb : w_X2_become S w 1 0 = b := by
    unfold w_X2_become
    simp only [zlet_eq]
    rw [← z1, hw1, zset_F, if_neg (by omega)]
  rw [eb] at hZ1 ⊢
  have bG : b.2.1 = w.2.1 := by rw [z2, q1]
  have b0 : ∀ kd a j, b.1 kd 0 a j = w.1 kd 0 a j := fun kd a j => (z4 _ _ _ _ (fun _ _ _ => no1)).trans (F1 _ _ _ _ (by omega))
  have ag : AG 0 w b := ⟨fun kd a j _ => b0 kd a j, fun x st hx hst => by rw [z5 _ (fun k' _ hk' => (tr1_0 (by omega)).1 x st hx hst), qq1], fun k hk => by rw [z5 _ (fun k' _ hk' => (tr1_0 (by omega)).2.1 k), qq1], fun k hk => by rw [z5 _ (fun k' _ hk' => (tr1_0 (by omega)).2.2.1 k hk), qq1], fun k hk => by rw [z5 _ (fun k' _ hk' => (tr1_0 (by omega)).2.2.2.1 k hk), qq1], fun k => by rw [bG]⟩
  have tb : ∀ k, k < zn S → TBk S k w1 b := fun k hk => z3 k (by omega) hk
  have egl : ∀ k, gl S w1 k = gl S w k := fun k => gl_same (fun kd c _ => F1 _ _ _ _ (by omega)) (by rw [qq1])
  -- how far the live flow's rows were given
  have hg : ∀ k, k < zn S → v_X4_leastGiven S w.1 w.2.1 w.2.2 0 k = nI (gl S w k) ∧ gl S w k ≤ (w.2.2 (ri 0 k)).2.length ∧ (∀ kd a, CI S kd a → src S kd a = k → gl S w k ≤ gvn w 0 kd a) ∧ (gl S w k = (w.2.2 (ri 0 k)).2.length ∨ ∃ kd a, CI S kd a ∧ src S kd a = k ∧ gl S w k = gvn w 0 kd a) := fun k hk => by
    have h1 := (low k hk).1
    have h2 := hN k hk
    obtain ⟨g', y1, y2, y3, y4⟩ := lg_ok (k := k) f.1 (by omega)
    have : gl S w k = g' := by unfold gl; rw [y1, nI_clamp (by omega)]
    rw [this]
    exact ⟨y1, y2, y3, y4⟩
  have ch : ∀ kd a, CI S kd a → b.1 kd 1 a 1 = nI (gvn w 0 kd a - gl S w (src S kd a)) ∧ b.1 kd 1 a 2 = w.1 kd 0 a 2 ∧ gvn b 1 kd a = gvn w 0 kd a - gl S w (src S kd a) ∧ pend S b 1 kd a = pend S w 0 kd a ∧ gvn b 1 kd a ≤ (b.2.2 (rin S 1 kd a)).2.length := fun kd a hc => by
    have h45 := hc.1
    have hu : src S kd a < a := hc.lt hz
    have hcn := hc.2.1
    have hun : src S kd a < zn S := by omega
    obtain ⟨x1, x2⟩ := (tb _ hun).2.1 kd a hc rfl
    obtain ⟨y1, y2, y3, -⟩ := hg _ hun
    obtain ⟨u1, u2⟩ := f.1 kd a hc
    have u2 : gvn w 0 kd a ≤ (w.2.2 (ri 0 (src S kd a))).2.length := u2
    have h1 := (low _ hun).1
    have h2 := hN _ hun
    have h3 := y3 kd a hc rfl
    have e1 : b.1 kd 1 a 1 = nI (gvn w 0 kd a - gl S w (src S kd a)) := by
      rw [x1, F1 _ _ _ _ (by omega), egl, u1, pk_sub h3]
    have e2 : gvn b 1 kd a = gvn w 0 kd a - gl S w (src S kd a) := by
      show (b.1 kd 1 a 1).toInt.toNat = _
      rw [e1, zi_nI (by omega)]
      omega
    have e3 : (b.2.2 (ri 1 (src S kd a))).2 = (w.2.2 (ri 0 (src S kd a))).2.drop (gl S w (src S kd a)) := by rw [(tb _ hun).2.2.2.2.1, egl, qq1]
    refine ⟨e1, by rw [x2, F1 _ _ _ _ (by omega)], e2, ?_, ?_⟩
    · show (b.2.2 (ri 1 (src S kd a))).2.drop (gvn b 1 kd a) = (w.2.2 (ri 0 (src S kd a))).2.drop (gvn w 0 kd a)
      rw [e3, e2, List.drop_drop]
      congr 1
      omega
    · show gvn b 1 kd a ≤ (b.2.2 (ri 1 (src S kd a))).2.length
      rw [e3, e2, List.length_drop]
      omega
  have hC1 : CHK S b 1 := fun kd a hc => by
    obtain ⟨e1, -, e2, -, e3⟩ := ch kd a hc
    exact ⟨by rw [e1, e2], e3⟩
  have hlog : ∀ k, k < 12 → b.2.2 (rl k) = w.2.2 (rl k) := ag.2.2.2.2.1
  have hSB1 : ∀ k, k < zn S → SB (so k) b 1 k (N k) (M k) := fun k hk => by
    obtain ⟨a1, a2, a3, a4, a5, a6⟩ := f.2.2.2 k hk
    obtain ⟨d1, d2, d3, d4, d5, d6⟩ := g1.2.2.2 k hk
    obtain ⟨t1, t2, t3, t4, t5, t6⟩ := tb k hk
    have hNk := hN k hk
    have keepF : ∀ s i, s < 3 → s ≠ 0 → b.1 0 1 (3 * k + s) i = w.1 0 1 (3 * k + s) i := fun s i hs h0 => by
      rw [z4 _ _ _ _ (fun k' _ _ h => by
        rcases h with ⟨f1, f2, f3⟩ | ⟨f1, f2, f3, f4⟩ | ⟨f1, f2, f3, f4⟩
        · omega
        · have := f1.1; omega
        · omega), F1 _ _ _ _ (by omega)]
    have keepR : ∀ s x, s < 3 → s ≠ 0 → x < 4 → b.2.2 (rs x 1 (3 * k + s)) = w.2.2 (rs x 1 (3 * k + s)) := fun s x hs h0 hx => by
      rw [z5 _ (fun k' _ hk' h => by
        rcases h with ⟨y, hy, e⟩ | e
        · have := (rs_eq hx hy (by omega) (by omega) e).2.2; omega
        · exact rs_ri hx (by omega) (by omega) e), qq1]
    have now : ∀ i, i < 8 → b.1 0 1 (3 * k) i = w.1 0 0 (3 * k) i := fun i hi => by rw [t1 i hi, F1 _ _ _ _ (by omega)]
    refine ⟨fun s hs => ?_, fun s hs i hi => ?_, ?_, by rw [z5 _ (fun k' _ hk' => (tr1_0 (by omega)).2.2.2.2 k (by omega)), qq1]; exact d4, fun x hx => ?_, fun h0 s hs => ?_⟩
    · by_cases e : s = 0
      · subst e
        exact (a1 0 (by omega)).copy2 (d1 0 (by omega)) (by omega) (fun x hx => by have := t4 x hx; rw [qq1] at this; exact this)
      · exact (d1 s hs).same (fun x hx => keepR s x hs e hx)
    · by_cases e : s = 0
      · subst e; rw [Nat.add_zero, now i (by omega)]; exact a2 0 (by omega) i hi
      · rw [keepF s i hs e]; exact d2 s hs i hi
    · exact t6 _ (by rw [qq1]; exact d3) (by rw [qq1]; exact a3.1) (by omega)
    · rw [t5, qq1] at hx
      exact a5 x (List.mem_of_mem_drop hx)
    · by_cases e : s = 0
      · subst e
        obtain ⟨tk, x, y⟩ := a6 h0 0 (by omega)
        exact ⟨tk, by rw [Nat.add_zero, now 4 (by omega)]; exact x, by rw [hlog k (by omega)]; exact y⟩
      · obtain ⟨tk, x, y⟩ := d6 h0 s hs
        exact ⟨tk, by rw [keepF s 4 hs e]; exact x, by rw [hlog k (by omega)]; exact y⟩
  have hcap : b.1 6 1 0 2 = w.1 6 0 0 2 := by
    rw [z4 _ _ _ _ (fun k' _ _ h => by
      rcases h with ⟨f1, f2, f3⟩ | ⟨f1, f2, f3, f4⟩ | ⟨f1, f2, f3, f4⟩
      · omega
      · have := f1.1; omega
      · omega), hw1, zset_F, if_neg (by omega), zset_F, if_pos ⟨rfl, rfl, rfl, rfl⟩]
  refine ⟨⟨g0.ag (fun a j => b0 8 a j) hlog, by rw [bG]; exact g, c.eq (b0 6 0 3), fun i hi => ?_, N, M, C, e, f.ag hn hz ag, ⟨C, hC1, by rw [hcap]; exact f.2.1, f.2.2.1, hSB1⟩, i, j, l, P, p.ag hn hz g ag⟩, hZ1, ag, fun a j => b0 7 a j, fun k hk => ?_⟩
  · rw [z5 i (fun k _ hk h => ?_), qq1]
    · exact d i hi
    · obtain ⟨h1, h2, h3, -⟩ := dr_k hn (fl := 1) (by omega) hk hi
      rcases h with ⟨y, hy, e⟩ | e
      · exact h1 y 0 hy (by omega) e
      · exact h2 e
  · -- the trial's view is the live flow's
    obtain ⟨t1, t2, t3, t4, t5, t6⟩ := tb k hk
    obtain ⟨y1, y2, y3, y4⟩ := hg k hk
    have h1 := (low k hk).1
    have h2 := hN k hk
    have e5 : (b.2.2 (ri 1 k)).2 = (w.2.2 (ri 0 k)).2.drop (gl S w k) := by rw [t5, egl, qq1]
    have l1 : (b.2.2 (ri 1 k)).2.length = (w.2.2 (ri 0 k)).2.length - gl S w k := by rw [e5, List.length_drop]
    obtain ⟨g', v1, v2, v3, v4⟩ := lg_ok (k := k) hC1 (by omega)
    have eg0 : g' = 0 := by
      rcases y4 with h | ⟨kd, a, hc, hs, h⟩
      · omega
      · have := v3 kd a hc hs
        rw [(ch kd a hc).2.2.1, hs] at this
        omega
    have hbel : v_X4_isBelow S b.1 b.2.1 b.2.2 1 k (b.1 6 1 0 2) = v_X4_isBelow S w.1 w.2.1 w.2.2 0 k (w.1 6 0 0 2) := by
      unfold v_X4_isBelow
      rw [v1, y1, hcap, eg0]
      have e6 : v_X6_length S b.1 b.2.1 b.2.2 (ri 1 k) - nI 0 = v_X6_length S w.1 w.2.1 w.2.2 (ri 0 k) - nI (gl S w k) := by
        show nI _ - nI 0 = nI _ - nI _
        rw [l1, pk_sub (Nat.zero_le _), pk_sub y2, Nat.sub_zero]
      rw [e6]
    have hun : v_X8_unread S b.1 b.2.1 b.2.2 1 k = v_X8_unread S w.1 w.2.1 w.2.2 0 k := by
      unfold v_X8_unread v_X6_length
      rw [hlog k (by omega), t1 4 (by omega), F1 _ _ _ _ (by omega)]
    have hcg : ∀ kd, CI S kd k → v_X1_canGive S b.1 b.2.1 b.2.2 kd 1 k = v_X1_canGive S w.1 w.2.1 w.2.2 kd 0 k := fun kd hc => by
      obtain ⟨-, e2, -, e4, -⟩ := ch kd k hc
      unfold v_X1_canGive
      rw [cg_len hC1 hc, cg_len f.1 hc, e2, e4]
    show v_X8_canWork S b.1 b.2.1 b.2.2 1 k (b.1 6 1 0 2) = v_X8_canWork S w.1 w.2.1 w.2.2 0 k (w.1 6 0 0 2)
    unfold v_X8_canWork
    rw [hbel, hun, b0, t3.1, t3.2, F1 _ _ _ _ (by omega), F1 _ _ _ _ (by omega), t1 0 (by omega), F1 _ _ _ _ (by omega)]
    by_cases i0 : (zp S 0 k).isSome = true
    · by_cases i1 : (zp S 1 k).isSome = true
      · rw [hcg 4 ⟨Or.inl rfl, hk, i0⟩, hcg 5 ⟨Or.inr rfl, hk, i1⟩]
      · simp only [if_neg i1]
        rw [hcg 4 ⟨Or.inl rfl, hk, i0⟩]
    · by_cases i1 : (zp S 1 k).isSome = true
      · simp only [if_neg i0]
        rw [hcg 5 ⟨Or.inr rfl, hk, i1⟩]
      · simp only [if_neg i0, if_neg i1]
