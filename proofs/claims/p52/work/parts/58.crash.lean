/-! ===== a crash ===== -/
theorem em_loop {S : TS} {fl k : Nat} : ∀ (n i : Nat) (w : TW), i + n = (och S k).length → ∃ c : TW, r_X4_empty S fl k n i w = c ∧ c.2 = w.2 ∧
    (∀ kd f a j, (¬ ∃ m, i ≤ m ∧ m < (och S k).length ∧ ochd S k m = (kd, a)) ∨ f ≠ fl ∨ ¬ (j = 1 ∨ j = 2) → c.1 kd f a j = w.1 kd f a j) ∧ ∀ m, i ≤ m → m < (och S k).length → c.1 (ochd S k m).1 fl (ochd S k m).2 1 = 0 ∧ c.1 (ochd S k m).1 fl (ochd S k m).2 2 = 0 := by
  intro n
  induction n with
  | zero => intro i w hi; exact ⟨w, rfl, rfl, fun _ _ _ _ _ => rfl, fun m h1 h2 => by omega⟩
  | succ n ih =>
    intro i w hi
    rw [er_X4_empty, zlet_eq, zlet_eq]
    obtain ⟨c, c1, c2, c3, c4⟩ := ih (i + 1) (zset (zset w ((ochd S k i).1) fl ((ochd S k i).2) 1 0) ((ochd S k i).1) fl ((ochd S k i).2) 2 0) (by omega)
    refine ⟨c, c1, c2, fun kd f a j h => ?_, fun m m1 m2 => ?_⟩
    · have hne : ∀ j', j' = 1 ∨ j' = 2 → ¬ (kd = (ochd S k i).1 ∧ f = fl ∧ a = (ochd S k i).2 ∧ j = j') := fun j' hj' ⟨e1, e2, e3, e4⟩ => by
        rcases h with h | h | h
        · exact h ⟨i, Nat.le_refl _, by omega, by rw [e1, e3]⟩
        · exact h e2
        · exact h (by rw [e4]; exact hj')
      rw [c3 kd f a j (by
        rcases h with h | h
        · exact Or.inl fun ⟨m, m1, m2, m3⟩ => h ⟨m, by omega, m2, m3⟩
        · exact Or.inr h), zset_F, if_neg (hne 2 (Or.inr rfl)), zset_F, if_neg (hne 1 (Or.inl rfl))]
    · by_cases e : m = i
      · subst e
        have no : ∀ j, (¬ ∃ m', m + 1 ≤ m' ∧ m' < (och S k).length ∧ ochd S k m' = ((ochd S k m).1, (ochd S k m).2)) ∨ fl ≠ fl ∨ ¬ (j = 1 ∨ j = 2) := fun j => Or.inl fun ⟨m', m1', m2', m3'⟩ => by have := ochd_inj m2' m2 m3'; omega
        rw [c3 _ _ _ _ (no 1), c3 _ _ _ _ (no 2)]
        exact ⟨by rw [zset_F, if_neg (by omega), zset_F, if_pos ⟨rfl, rfl, rfl, rfl⟩], by rw [zset_F, if_pos ⟨rfl, rfl, rfl, rfl⟩]⟩
      · exact c4 m (by omega) m2
def GBk (S : TS) (k : Nat) (w b : TW) : Prop := (∀ j, j < 8 → b.1 0 0 (3 * k) j = w.1 0 0 (3 * k + (w.2.1 0 k).1) j) ∧ (∀ kd a, CI S kd a → src S kd a = k → b.1 kd 0 a 1 = 0 ∧ b.1 kd 0 a 2 = 0) ∧ b.1 2 0 k 11 = 0 ∧
  (∀ x, x < 4 → (b.2.2 (rs x 0 (3 * k))).2 = (w.2.2 (rs x 0 (3 * k + (w.2.1 0 k).1))).2 ∧ ∀ B, RBd B (w.2.2 (rs x 0 (3 * k))) → (w.2.2 (rs x 0 (3 * k + (w.2.1 0 k).1))).2.length ≤ B → B ≤ 4194304 → RBd B (b.2.2 (rs x 0 (3 * k)))) ∧ (b.2.2 (ri 0 k)).2 = [] ∧ (∀ B, RBd B (w.2.2 (ri 0 k)) → RBd B (b.2.2 (ri 0 k))) ∧ ∀ B, RBd B (w.2.2 (ro 0 k)) → RBd B (b.2.2 (ro 0 k))
def TFk (S : TS) (k kd f a j : Nat) : Prop := (kd = 0 ∧ f = 0 ∧ a = 3 * k) ∨ (CI S kd a ∧ src S kd a = k ∧ f = 0 ∧ (j = 1 ∨ j = 2)) ∨ (kd = 2 ∧ f = 0 ∧ a = k ∧ j = 11)
def TR (k i : Nat) : Prop := (∃ x, x < 4 ∧ i = rs x 0 (3 * k)) ∨ i = ri 0 k ∨ i = ro 0 k
theorem gb_ok {S : TS} (hn : zn S ≤ 12) (w : TW) (k : Nat) (hk : k < zn S) (hG : GS w.2.1) (hl : ∀ x, x < 4 → (w.2.2 (rs x 0 (3 * k + (w.2.1 0 k).1))).2.length < 2 ^ 31) :
    ∃ b : TW, w_X8_goBack S w 0 k = b ∧ GBk S k w b ∧ b.2.1 = w.2.1 ∧ (∀ kd f a j, ¬ TFk S k kd f a j → b.1 kd f a j = w.1 kd f a j) ∧ ∀ i, ¬ TR k i → b.2.2 i = w.2.2 i := by
  have hg := hG 0 k
  obtain ⟨w1, s1, s2, s3, s4, s5, s6⟩ := sb_ok (S := S) w 0 (3 * k) 0 (3 * k + (w.2.1 0 k).1) (by omega) (by omega) (by omega) hl
  obtain ⟨m, hm⟩ : ∃ m, m = w1.1 0 0 (3 * k + (w1.2.1 0 k).1) 7 := ⟨_, rfl⟩
  obtain ⟨w2, h2⟩ : ∃ w2, w2 = zrw w1 (ro 0 k) (qsho (w1.2.2 (ro 0 k)) m) := ⟨_, rfl⟩
  obtain ⟨w2', h2'⟩ : ∃ w2', w2' = zrw w2 (ri 0 k) (qsho (w2.2.2 (ri 0 k)) 0) := ⟨_, rfl⟩
  obtain ⟨w3, t1, t2, t3, t4⟩ := em_loop (S := S) (fl := 0) (k := k) (och S k).length 0 w2' (by omega)
  obtain ⟨b, hb⟩ : ∃ b, b = zset w3 2 0 k 11 0 := ⟨_, rfl⟩
  have eb : w_X8_goBack S w 0 k = b := by
    unfold w_X8_goBack w_X4_empty
    simp only [zlet_eq]
    rw [s1, ← hm, ← h2, ← h2', t1, hb]
  have bq : b.2 = w2'.2 := by rw [hb]; exact t2
  have bqq : b.2.2 = w2'.2.2 := by rw [bq]
  have hrr : ∀ i, b.2.2 i = if i = ri 0 k then qsho (w2.2.2 (ri 0 k)) 0 else if i = ro 0 k then qsho (w1.2.2 (ro 0 k)) m else w1.2.2 i := fun i => by
    rw [bqq, h2', zrw_q]
    by_cases e : i = ri 0 k
    · rw [if_pos e, if_pos e]
    · rw [if_neg e, if_neg e, h2, zrw_q]
  have nri : ro 0 k ≠ ri 0 k := ro_ri (by omega) (by omega)
  have w2ri : w2.2.2 (ri 0 k) = w.2.2 (ri 0 k) := by rw [h2, zrw_q, if_neg (fun e => nri e.symm), s6 _ (fun x hx e => rs_ri hx (by omega) (by omega) e.symm)]
  have w1ro : w1.2.2 (ro 0 k) = w.2.2 (ro 0 k) := s6 _ (fun x hx e => ro_rs hx (by omega) (by omega) e)
  have hF : ∀ kd f a j, ¬ (CI S kd a ∧ src S kd a = k ∧ f = 0 ∧ (j = 1 ∨ j = 2)) → ¬ (kd = 2 ∧ f = 0 ∧ a = k ∧ j = 11) → b.1 kd f a j = w1.1 kd f a j := fun kd f a j n1 n2 => by
    rw [hb, zset_F, if_neg n2, t3 kd f a j (by
      by_cases hf : f = 0
      · by_cases hj : j = 1 ∨ j = 2
        · left
          rintro ⟨m', m1, m2, m3⟩
          have h9 := och_ci (ochd_mem m2)
          rw [m3] at h9
          exact n1 ⟨h9.1, h9.2, hf, hj⟩
        · exact Or.inr (Or.inr hj)
      · exact Or.inr (Or.inl hf)), h2', h2]
    rfl
  refine ⟨b, eb, ⟨fun j hj => ?_, fun kd a hc hs => ?_, by rw [hb, zset_F, if_pos ⟨rfl, rfl, rfl, rfl⟩], fun x hx => ?_, ?_, fun B hB => ?_, fun B hB => ?_⟩, ?_, fun kd f a j h => ?_, fun i h => ?_⟩
  · rw [hF _ _ _ _ (fun h => by have := h.1.1; omega) (by omega)]; exact s3 j hj
  · have hm' := ci_och hc
    have hs' : zsrc S (kd - 4) a = k := hs
    rw [hs'] at hm'
    obtain ⟨i, hi, e⟩ := ochd_at hm'
    have h45 := hc.1
    have := t4 i (by omega) hi
    rw [e] at this
    rw [hb, zset_F, if_neg (by omega), zset_F, if_neg (by omega)]
    exact this
  · rw [hrr, if_neg (rs_ri hx (by omega) (by omega)), if_neg (fun e => ro_rs hx (by omega) (by omega) e.symm)]
    exact s5 x hx
  · rw [hrr, if_pos rfl]
    unfold qsho
    rw [if_neg (by decide)]
    show (w2.2.2 (ri 0 k)).2.take (0 : Int32).toNatClampNeg = []
    rw [zc0]
    rfl
  · rw [hrr, if_pos rfl, w2ri]; exact hB.sho
  · rw [hrr, if_neg nri, if_pos rfl, w1ro]; exact hB.sho
  · rw [bq, h2', h2]; exact s2
  · rw [hF _ _ _ _ (fun h9 => h (Or.inr (Or.inl h9))) (fun h9 => h (Or.inr (Or.inr h9)))]
    exact s4 _ _ _ _ (fun h9 => h (Or.inl h9))
  · rw [hrr, if_neg (fun e => h (Or.inr (Or.inl e))), if_neg (fun e => h (Or.inr (Or.inr e)))]
    exact s6 i (fun x hx e => h (Or.inl ⟨x, hx, e⟩))
theorem TR_rs {k x st : Nat} (hk : k < 12) (hx : x < 4) (hst : st < 36) (hne : st ≠ 3 * k) : ¬ TR k (rs x 0 st) := fun h => by
  rcases h with ⟨y, hy, e⟩ | e | e
  · exact hne (rs_eq hx hy (by omega) (by omega) e).2.2
  · exact rs_ri hx (by omega) hst e
  · exact ro_rs hx (by omega) hst e.symm
theorem TR_ri {k u : Nat} (hk : k < 12) (hu : u < 12) (hne : u ≠ k) : ¬ TR k (ri 0 u) := fun h => by
  rcases h with ⟨y, hy, e⟩ | e | e
  · exact rs_ri hy (by omega) (by omega) e.symm
  · exact hne (ri_eq e)
  · exact ro_ri (by omega) hu e.symm
theorem TR_ro {k u : Nat} (hk : k < 12) (hu : u < 12) (hne : u ≠ k) : ¬ TR k (ro 0 u) := fun h => by
  rcases h with ⟨y, hy, e⟩ | e | e
  · exact ro_rs hy (by omega) (by omega) e
  · exact ro_ri (by omega) hk e
  · unfold ro at e; omega
theorem gb_loop {S : TS} (hn : zn S ≤ 12) : ∀ (n i : Nat) (w : TW), i + n = zn S → GS w.2.1 → (∀ k, i ≤ k → k < zn S → ∀ x, x < 4 → (w.2.2 (rs x 0 (3 * k + (w.2.1 0 k).1))).2.length < 2 ^ 31) →
    ∃ c : TW, r_X2_goBack S 0 n i w = c ∧ c.2.1 = w.2.1 ∧ (∀ k, i ≤ k → k < zn S → GBk S k w c) ∧ (∀ kd f a j, (∀ k, i ≤ k → k < zn S → ¬ TFk S k kd f a j) → c.1 kd f a j = w.1 kd f a j) ∧ ∀ i', (∀ k, i ≤ k → k < zn S → ¬ TR k i') → c.2.2 i' = w.2.2 i' := by
  intro n
  induction n with
  | zero => intro i w hi _ _; exact ⟨w, rfl, rfl, fun k h1 h2 => by omega, fun _ _ _ _ _ => rfl, fun _ _ => rfl⟩
  | succ n ih =>
    intro i w hi hG hl
    rw [er_X2_goBack, zlet_eq]
    obtain ⟨b, b1, ⟨a1, a2, a3, a4, a5, a6, a7⟩, b3, b4, b5⟩ := gb_ok hn w i (by omega) hG (hl i (by omega) (by omega))
    rw [b1]
    have hg : ∀ k, ((w.2.1 0 k).1 = 1 ∧ (w.2.1 0 k).2 = 2) ∨ ((w.2.1 0 k).1 = 2 ∧ (w.2.1 0 k).2 = 1) := fun k => hG 0 k
    have hsv : ∀ k, i < k → k < zn S → ∀ x, x < 4 → b.2.2 (rs x 0 (3 * k + (w.2.1 0 k).1)) = w.2.2 (rs x 0 (3 * k + (w.2.1 0 k).1)) := fun k h1 h2 x hx => b5 _ (TR_rs (by omega) hx (by have := hg k; omega) (by have := hg k; omega))
    obtain ⟨c, c1, c2, c3, c4, c5⟩ := ih (i + 1) b (by omega) (by rw [b3]; exact hG) (fun k h1 h2 x hx => by rw [b3, hsv k (by omega) h2 x hx]; exact hl k (by omega) h2 x hx)
    refine ⟨c, c1, c2.trans b3, fun k h1 h2 => ?_, fun kd f a j h => ?_, fun i' h => ?_⟩
    · by_cases e : k = i
      · subst e
        have nf : ∀ kd f a j, TFk S k kd f a j → (kd = 0 → a < 36) → c.1 kd f a j = b.1 kd f a j := fun kd f a j h _ => c4 _ _ _ _ (fun k' k1 k2 h' => by
          rcases h with ⟨e1, e2, e3⟩ | ⟨e1, e2, e3, e4⟩ | ⟨e1, e2, e3, e4⟩
          · rcases h' with ⟨f1, f2, f3⟩ | ⟨f1, f2, f3, f4⟩ | ⟨f1, f2, f3, f4⟩
            · omega
            · have := f1.1; omega
            · omega
          · have h45 := e1.1
            rcases h' with ⟨f1, f2, f3⟩ | ⟨f1, f2, f3, f4⟩ | ⟨f1, f2, f3, f4⟩
            · omega
            · omega
            · omega
          · rcases h' with ⟨f1, f2, f3⟩ | ⟨f1, f2, f3, f4⟩ | ⟨f1, f2, f3, f4⟩
            · omega
            · have := f1.1; omega
            · omega)
        have nr : ∀ x, x < 4 → c.2.2 (rs x 0 (3 * k)) = b.2.2 (rs x 0 (3 * k)) := fun x hx => c5 _ (fun k' k1 k2 => TR_rs (by omega) hx (by omega) (by omega))
        have nri : c.2.2 (ri 0 k) = b.2.2 (ri 0 k) := c5 _ (fun k' k1 k2 => TR_ri (by omega) (by omega) (by omega))
        have nro : c.2.2 (ro 0 k) = b.2.2 (ro 0 k) := c5 _ (fun k' k1 k2 => TR_ro (by omega) (by omega) (by omega))
        refine ⟨fun j hj => by rw [nf _ _ _ _ (Or.inl ⟨rfl, rfl, rfl⟩) (fun _ => by omega)]; exact a1 j hj, fun kd a hc hs => ?_, by rw [nf _ _ _ _ (Or.inr (Or.inr ⟨rfl, rfl, rfl, rfl⟩)) (by omega)]; exact a3, fun x hx => by rw [nr x hx]; exact a4 x hx, by rw [nri]; exact a5, by rw [nri]; exact a6, by rw [nro]; exact a7⟩
        have h45 := hc.1
        rw [nf _ _ _ _ (Or.inr (Or.inl ⟨hc, hs, rfl, Or.inl rfl⟩)) (by omega), nf _ _ _ _ (Or.inr (Or.inl ⟨hc, hs, rfl, Or.inr rfl⟩)) (by omega)]
        exact a2 kd a hc hs
      · obtain ⟨d1, d2, d3, d4, d5, d6, d7⟩ := c3 k (by omega) h2
        have hgk := hg k
        refine ⟨fun j hj => ?_, d2, d3, fun x hx => ?_, d5, fun B hB => d6 B ?_, fun B hB => d7 B ?_⟩
        · rw [d1 j hj, b3]
          exact b4 _ _ _ _ (fun h => by
            rcases h with ⟨f1, f2, f3⟩ | ⟨f1, f2, f3, f4⟩ | ⟨f1, f2, f3, f4⟩
            · omega
            · have := f1.1; omega
            · omega)
        · have hx4 := d4 x hx
          rw [b3, hsv k (by omega) h2 x hx, b5 _ (TR_rs (st := 3 * k) (by omega) hx (by omega) (by omega))] at hx4
          exact hx4
        · rw [b5 _ (TR_ri (by omega) (by omega) e)]; exact hB
        · rw [b5 _ (TR_ro (by omega) (by omega) e)]; exact hB
    · rw [c4 _ _ _ _ (fun k k1 k2 => h k (by omega) k2), b4 _ _ _ _ (h i (by omega) (by omega))]
    · rw [c5 _ (fun k k1 k2 => h k (by omega) k2), b5 _ (h i (by omega) (by omega))]
theorem crash_INV {S : TS} {so : Nat → Nat} {cl : Prop} {t : Nat} {w : TW} (h : INV S so cl t w) (ht : t ≤ 100000) :
    INV S so cl t (w_X10_crash S w).1 ∧ (∀ k, k < zn S → ∀ j, j < 8 → (w_X10_crash S w).1.1 0 0 (3 * k) j = w.1 0 0 (3 * k + (w.2.1 0 k).1) j ∧ (w_X10_crash S w).1.1 0 0 (3 * k + ((w_X10_crash S w).1.2.1 0 k).1) j = w.1 0 0 (3 * k + (w.2.1 0 k).1) j) ∧
      (∀ a j, (w_X10_crash S w).1.1 8 0 a j = w.1 8 0 a j) ∧ (w_X10_crash S w).1.1 7 0 0 2 = w.1 7 0 0 2 ∧ (∀ a, (w_X10_crash S w).1.1 2 0 a 10 = w.1 2 0 a 10) ∧ (w_X10_crash S w).1.1 6 0 0 4 = w.1 6 0 0 4 ∧ ∀ j, j < 12 → (w_X10_crash S w).1.2.2 (rl j) = w.2.2 (rl j) := by
  obtain ⟨g0, g, c, d, N, M, C, e, f, ⟨C1, g1⟩, i, j, l, P, p⟩ := h
  have hn := g0.1
  have hz := g0.2.1
  have hN := INV.bN hn j ht
  have low : ∀ k, k < zn S → ∀ s, s < 3 → ∀ x, x < 4 → (w.2.2 (rs x 0 (3 * k + s))).2.length ≤ N k + 17 := fun k hk s hs x hx => by
    have hh := (f.2.2.2 k hk).1 s hs
    have hx4 : x = 0 ∨ x = 1 ∨ x = 2 ∨ x = 3 := by omega
    rcases hx4 with rfl | rfl | rfl | rfl
    · have := hh.1.1.1; omega
    · have := hh.1.2.1.1; omega
    · have := hh.2.1.1.1; omega
    · have := hh.2.2.1.1.1; omega
  obtain ⟨w1, hw1⟩ : ∃ w1, w1 = zset w 7 0 0 3 (w.1 7 0 0 3 + 1) := ⟨_, rfl⟩
  have q1 : w1.2 = w.2 := by rw [hw1]; rfl
  have qq1 : w1.2.2 = w.2.2 := by rw [q1]
  have qG1 : w1.2.1 = w.2.1 := by rw [q1]
  have F1 : ∀ kd f a j, kd ≠ 7 → w1.1 kd f a j = w.1 kd f a j := fun kd f a j h => by rw [hw1, zset_F, if_neg (by omega)]
  obtain ⟨z, z1, z2, z3, z4, z5⟩ := gb_loop (S := S) hn (zn S) 0 w1 (by omega) (by rw [qG1]; exact g) (fun k _ hk x hx => by
    rw [qG1, qq1]
    have := low k hk (w.2.1 0 k).1 (by have := g 0 k; omega) x hx
    have := hN k hk
    omega)
  obtain ⟨b, hb⟩ : ∃ b, b = zset (zset z 6 0 0 5 0) 6 0 0 3 (-1) := ⟨_, rfl⟩
  have eb : (w_X10_crash S w).1 = b := by
    unfold w_X10_crash w_X2_goBack
    simp only [zlet_eq]
    rw [← hw1, z1, hb]
  rw [eb]
  have bq : b.2 = z.2 := by rw [hb]; rfl
  have bqq : b.2.2 = z.2.2 := by rw [bq]
  have bG : b.2.1 = w.2.1 := by rw [bq, z2, qG1]
  have bF : ∀ kd f a j, kd ≠ 6 → b.1 kd f a j = z.1 kd f a j := fun kd f a j h => by rw [hb, zset_F, if_neg (by omega), zset_F, if_neg (by omega)]
  have zF' : ∀ kd f a j, kd ≠ 7 → (∀ k, k < zn S → ¬ TFk S k kd f a j) → z.1 kd f a j = w.1 kd f a j := fun kd f a j h7 h => (z4 _ _ _ _ (fun k _ hk => h k hk)).trans (F1 _ _ _ _ h7)
  have gb : ∀ k, k < zn S → GBk S k w1 z := fun k hk => z3 k (by omega) hk
  have hgs : ∀ k, ((w.2.1 0 k).1 = 1 ∧ (w.2.1 0 k).2 = 2) ∨ ((w.2.1 0 k).1 = 2 ∧ (w.2.1 0 k).2 = 1) := fun k => g 0 k
  -- now
  have now : ∀ k, k < zn S → ∀ j, j < 8 → b.1 0 0 (3 * k) j = w.1 0 0 (3 * k + (w.2.1 0 k).1) j := fun k hk j hj => by
    rw [bF _ _ _ _ (by omega), (gb k hk).1 j hj, qG1, F1 _ _ _ _ (by omega)]
  have sav : ∀ k, k < zn S → ∀ s, s < 3 → s ≠ 0 → ∀ j, b.1 0 0 (3 * k + s) j = w.1 0 0 (3 * k + s) j := fun k hk s hs h0 j => by
    rw [bF _ _ _ _ (by omega), zF' _ _ _ _ (by omega) (fun k' _ h => by
      rcases h with ⟨f1, f2, f3⟩ | ⟨f1, f2, f3, f4⟩ | ⟨f1, f2, f3, f4⟩
      · omega
      · have := f1.1; omega
      · omega)]
  have rsv : ∀ k, k < zn S → ∀ s, s < 3 → s ≠ 0 → ∀ x, x < 4 → b.2.2 (rs x 0 (3 * k + s)) = w.2.2 (rs x 0 (3 * k + s)) := fun k hk s hs h0 x hx => by
    rw [bqq, z5 _ (fun k' _ _ => TR_rs (by omega) hx (by omega) (by omega)), qq1]
  have rnow : ∀ k, k < zn S → ∀ x, x < 4 → (b.2.2 (rs x 0 (3 * k))).2 = (w.2.2 (rs x 0 (3 * k + (w.2.1 0 k).1))).2 ∧ ∀ B, RBd B (w.2.2 (rs x 0 (3 * k))) → (w.2.2 (rs x 0 (3 * k + (w.2.1 0 k).1))).2.length ≤ B → B ≤ 4194304 → RBd B (b.2.2 (rs x 0 (3 * k))) := fun k hk x hx => by
    have h4 := (gb k hk).2.2.2.1 x hx
    rw [qG1, qq1] at h4
    rw [bqq]
    exact h4
  have rlog : ∀ u, u < 12 → b.2.2 (rl u) = w.2.2 (rl u) := fun u hu => by
    rw [bqq, z5 _ (fun k' _ _ h => by
      rcases h with ⟨y, hy, e⟩ | e | e
      · exact rl_rs hy (by omega) (by omega) e
      · exact rl_ri (by omega) (by omega) e
      · exact rl_ro (by omega) (by omega) e), qq1]
  have r1 : ∀ i, (∀ x st, x < 4 → st < 36 → i ≠ rs x 0 st) → (∀ u, u < 12 → i ≠ ri 0 u) → (∀ u, u < 12 → i ≠ ro 0 u) → b.2.2 i = w.2.2 i := fun i h1 h2 h3 => by
    rw [bqq, z5 _ (fun k' _ hk' h => by
      rcases h with ⟨y, hy, e⟩ | e | e
      · exact h1 y _ hy (by omega) e
      · exact h2 _ (by omega) e
      · exact h3 _ (by omega) e), qq1]
  have f7 : b.1 7 0 0 2 = w.1 7 0 0 2 := by
    rw [bF _ _ _ _ (by omega), z4 _ _ _ _ (fun k' _ _ h => by
      rcases h with ⟨f1, f2, f3⟩ | ⟨f1, f2, f3, f4⟩ | ⟨f1, f2, f3, f4⟩
      · omega
      · have := f1.1; omega
      · omega), hw1, zset_F, if_neg (by omega)]
  have keep : ∀ kd f a j, kd ≠ 6 → kd ≠ 7 → (∀ k, k < zn S → ¬ TFk S k kd f a j) → b.1 kd f a j = w.1 kd f a j := fun kd f a j h6 h7 h => (bF _ _ _ _ h6).trans (zF' _ _ _ _ h7 h)
  have k8 : ∀ a j, b.1 8 0 a j = w.1 8 0 a j := fun a j => keep _ _ _ _ (by omega) (by omega) (fun k' _ h => by
      rcases h with ⟨f1, f2, f3⟩ | ⟨f1, f2, f3, f4⟩ | ⟨f1, f2, f3, f4⟩
      · omega
      · have := f1.1; omega
      · omega)
  have k10 : ∀ a, b.1 2 0 a 10 = w.1 2 0 a 10 := fun a => keep _ _ _ _ (by omega) (by omega) (fun k' _ h => by
      rcases h with ⟨f1, f2, f3⟩ | ⟨f1, f2, f3, f4⟩ | ⟨f1, f2, f3, f4⟩
      · omega
      · have := f1.1; omega
      · omega)
  have k6 : ∀ j, j ≠ 3 → j ≠ 5 → b.1 6 0 0 j = w.1 6 0 0 j := fun j h3 h5 => by
    rw [hb, zset_F, if_neg (by omega), zset_F, if_neg (by omega)]
    exact zF' _ _ _ _ (by omega) (fun k' _ h => by
      rcases h with ⟨f1, f2, f3⟩ | ⟨f1, f2, f3, f4⟩ | ⟨f1, f2, f3, f4⟩
      · omega
      · have := f1.1; omega
      · omega)
  have chan : ∀ kd a, CI S kd a → b.1 kd 0 a 1 = 0 ∧ b.1 kd 0 a 2 = 0 := fun kd a hc => by
    have h45 := hc.1
    have hu : src S kd a < a := hc.lt hz
    have hcn := hc.2.1
    rw [bF _ _ _ _ (by omega), bF _ _ _ _ (by omega)]
    exact (gb (src S kd a) (by omega)).2.1 kd a hc rfl
  have owes : ∀ k, k < zn S → b.1 2 0 k 11 = 0 := fun k hk => by rw [bF _ _ _ _ (by omega)]; exact (gb k hk).2.2.1
  have emp : ∀ kd a, CI S kd a → pend S b 0 kd a = [] ∧ gvn b 0 kd a = 0 := fun kd a hc => by
    have hu : src S kd a < a := hc.lt hz
    have hcn := hc.2.1
    have e0 : (b.2.2 (rin S 0 kd a)).2 = [] := by rw [bqq]; exact (gb (src S kd a) (by omega)).2.2.2.2.1
    refine ⟨by unfold pend; rw [e0, List.drop_nil], ?_⟩
    show (b.1 kd 0 a 1).toInt.toNat = 0
    rw [(chan kd a hc).1]
    rfl
  have h5 : b.1 6 0 0 5 = 0 := by rw [hb, zset_F, if_neg (by omega), zset_F, if_pos ⟨rfl, rfl, rfl, rfl⟩]
  have h3 : b.1 6 0 0 3 = -1 := by rw [hb, zset_F, if_pos ⟨rfl, rfl, rfl, rfl⟩]
  have ZLb : ZL S b 0 := by
    have ez : zlast b 0 = 0 := by unfold zlast; rw [h3]; decide
    exact ⟨by rw [ez, h3]; decide, by rw [ez]; omega⟩
  have SBb : ∀ k, k < zn S → SB (so k) b 0 k (N k) (M k) := fun k hk => by
    obtain ⟨a1, a2, a3, a4, a5, a6⟩ := f.2.2.2 k hk
    have hg := hgs k
    have hNk := hN k hk
    refine ⟨fun s hs => ?_, fun s hs i hi => ?_, by rw [bqq]; exact (gb k hk).2.2.2.2.2.1 _ (by rw [qq1]; exact a3), by rw [bqq]; exact (gb k hk).2.2.2.2.2.2 _ (by rw [qq1]; exact a4), by rw [bqq, (gb k hk).2.2.2.2.1]; exact (fun x h => by cases h), fun h0 s hs => ?_⟩
    · by_cases e : s = 0
      · subst e; exact (a1 (w.2.1 0 k).1 (by omega)).copy (a1 0 (by omega)) (by omega) (rnow k hk)
      · exact (a1 s hs).same (rsv k hk s hs e)
    · by_cases e : s = 0
      · subst e; rw [Nat.add_zero, now k hk i (by omega)]; exact a2 _ (by omega) i hi
      · rw [sav k hk s hs e]; exact a2 s hs i hi
    · by_cases e : s = 0
      · subst e
        obtain ⟨tk, x, y⟩ := a6 h0 (w.2.1 0 k).1 (by omega)
        exact ⟨tk, by rw [Nat.add_zero, now k hk 4 (by omega)]; exact x, by rw [rlog k (by omega)]; exact y⟩
      · obtain ⟨tk, x, y⟩ := a6 h0 s hs
        exact ⟨tk, by rw [sav k hk s hs e]; exact x, by rw [rlog k (by omega)]; exact y⟩
  have ag1 : AG 1 w b := by
    refine ⟨fun kd a j h7 => ?_, fun x st hx hst => r1 _ (fun y s hy hs e => by have := (rs_eq hx hy (by omega) (by omega) e).2.1; omega) (fun u hu => rs_ri hx (by omega) hst) (fun u hu e => ro_rs hx (by omega) hst e.symm), fun k hk => r1 _ (fun y s hy hs e => rs_ri hy (by omega) hs e.symm) (fun u hu e => by unfold ri at e; omega) (fun u hu e => by unfold ri ro at e; omega), fun k hk => r1 _ (fun y s hy hs e => ro_rs hy (by omega) hs e) (fun u hu e => by unfold ri ro at e; omega) (fun u hu e => by unfold ro at e; omega), rlog, fun k => by rw [bG]⟩
    have hT : ∀ k, k < zn S → ¬ TFk S k kd 1 a j := fun k' _ h => by
      rcases h with ⟨f1, f2, f3⟩ | ⟨f1, f2, f3, f4⟩ | ⟨f1, f2, f3, f4⟩ <;> omega
    by_cases e6 : kd = 6
    · rw [hb, zset_F, if_neg (by omega), zset_F, if_neg (by omega)]; exact zF' _ _ _ _ h7 hT
    · exact keep _ _ _ _ e6 h7 hT
  have sIb : ∀ k, k < zn S → ∀ j, j < 8 → sI b (3 * k) j = sI w (3 * k + (w.2.1 0 k).1) j := fun k hk j hj => by unfold sI; rw [now k hk j hj]
  have sIs : ∀ k, k < zn S → ∀ j, sI b (3 * k + (w.2.1 0 k).1) j = sI w (3 * k + (w.2.1 0 k).1) j := fun k hk j => by unfold sI; rw [sav k hk _ (by have := hgs k; omega) (by have := hgs k; omega)]
  refine ⟨⟨g0.ag k8 rlog, by rw [bG]; exact g, ZLb, fun i hi => ?_, N, M, C, e, ⟨fun kd a hc => ?_, by rw [k6 2 (by omega) (by omega)]; exact f.2.1, f.2.2.1, SBb⟩, ⟨C1, g1.ag hn hz ag1⟩, i, j, l, fun _ => false, ⟨fun k hk => ?_, fun kd a hc => ?_, fun _ _ _ => rfl, fun h => absurd h5 h⟩⟩, fun k hk j hj => ⟨now k hk j hj, by rw [bG, sav k hk _ (by have := hgs k; omega) (by have := hgs k; omega)]⟩, k8, f7, k10, k6 4 (by omega) (by omega), rlog⟩
  · rw [bqq, z5 i (fun k _ hk h => ?_), qq1]
    · exact d i hi
    · obtain ⟨h1, h2, h3, -⟩ := dr_k hn (fl := 0) (by omega) hk hi
      rcases h with ⟨y, hy, e⟩ | e | e
      · exact h1 y 0 hy (by omega) e
      · exact h2 e
      · exact h3 e
  · obtain ⟨e1, e2⟩ := emp kd a hc
    rw [e2, (chan kd a hc).1]
    exact ⟨rfl, Nat.zero_le _⟩
  · obtain ⟨p1, p2, p3, p4, p5, p6, p7, p8, p9⟩ := p.1 k hk
    have hg := hgs k
    have sl : SI S (so k) cl (2 * t) b k (3 * k) := by
      unfold SI SIm SIc sI at p2 ⊢
      rw [now k hk 0 (by omega), now k hk 1 (by omega), now k hk 2 (by omega), now k hk 4 (by omega), now k hk 5 (by omega), now k hk 6 (by omega), now k hk 7 (by omega), (rnow k hk 0 (by omega)).1, (rnow k hk 2 (by omega)).1, (rnow k hk 3 (by omega)).1, rlog k (by omega)]
      refine ⟨⟨fun i hi => ?_, p2.1.2⟩, p2.2⟩
      rw [now k hk i (by omega)]
      exact p2.1.1 i hi
    refine ⟨sl, ?_, (fun h => by cases h), ?_, (fun h => by cases h), fun _ => owes k hk, fun _ => ⟨fun _ => Or.inl h5, fun _ => owes k hk⟩, fun h => p8 (by rw [← k10 k]; exact h), fun kd hc h => absurd (chan kd k hc).2 h⟩
    · rw [bG]
      exact p2.same (fun j => sav k hk _ (by omega) (by omega) j) (fun x hx => rsv k hk _ (by omega) (by omega) x hx) (rlog k (by omega))
    · rw [bG, sIs k hk, sIb k hk 4 (by omega)]; exact Int.le_refl _
  · obtain ⟨⟨p1, p2, p3⟩, p4, p5⟩ := p.2.1 kd a hc
    have hu : src S kd a < a := hc.lt hz
    have hcn := hc.2.1
    have h45 := hc.1
    obtain ⟨e1, -⟩ := emp kd a hc
    refine ⟨⟨by rw [e1]; trivial, ?_, ?_⟩, ⟨fun _ => ⟨by rw [e1]; exact nob.nil, (chan kd a hc).2, rfl⟩, (fun h => by cases h), (fun h => by cases h)⟩, (fun h => by cases h)⟩
    · rw [e1, sIb a hcn _ (by omega), sIb _ (by omega) 0 (by omega)]
      exact p3
    · rw [bG, sIs a hcn, sIs _ (by omega)]
      exact p3
