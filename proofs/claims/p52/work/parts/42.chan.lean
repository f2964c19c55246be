/-! ===== channels: which there are, what waits in them ===== -/
def CI (S : TS) (kd c : Nat) : Prop := (kd = 4 ∨ kd = 5) ∧ c < zn S ∧ (zp S (kd - 4) c).isSome = true
theorem CI.some {S : TS} {kd c : Nat} (h : CI S kd c) : zp S (kd - 4) c = some (zsrc S (kd - 4) c) := by
  obtain ⟨p, hp⟩ := Option.isSome_iff_exists.mp h.2.2
  unfold zsrc
  rw [hp]
  rfl
theorem CI.lt {S : TS} {kd c : Nat} (hz : zok S) (h : CI S kd c) : zsrc S (kd - 4) c < c := hz _ _ _ h.2.1 h.some
theorem ci_och {S : TS} {kd c : Nat} (h : CI S kd c) : (kd, c) ∈ och S (zsrc S (kd - 4) c) := by
  have hs := h.some
  unfold och
  refine List.mem_flatMap.mpr ⟨c, List.mem_range.mpr h.2.1, ?_⟩
  rcases h.1 with e | e
  · subst e
    refine List.mem_append_left _ ?_
    rw [if_pos hs]
    exact List.mem_singleton.mpr rfl
  · subst e
    refine List.mem_append_right _ ?_
    rw [if_pos hs]
    exact List.mem_singleton.mpr rfl
theorem och_ci {S : TS} {k : Nat} {x : Nat × Nat} (h : x ∈ och S k) : CI S x.1 x.2 ∧ zsrc S (x.1 - 4) x.2 = k := by
  rcases och_mem h with ⟨h1, h2, h3⟩ | ⟨h1, h2, h3⟩
  · rw [h1]; exact ⟨⟨Or.inl rfl, h2, by rw [show (4 - 4 : Nat) = 0 from rfl, h3]; rfl⟩, by unfold zsrc; rw [show (4 - 4 : Nat) = 0 from rfl, h3]; rfl⟩
  · rw [h1]; exact ⟨⟨Or.inr rfl, h2, by rw [show (5 - 4 : Nat) = 1 from rfl, h3]; rfl⟩, by unfold zsrc; rw [show (5 - 4 : Nat) = 1 from rfl, h3]; rfl⟩
theorem ochd_at {S : TS} {k : Nat} {x : Nat × Nat} (h : x ∈ och S k) : ∃ i, i < (och S k).length ∧ ochd S k i = x := by
  obtain ⟨i, hi, e⟩ := List.getElem_of_mem h
  refine ⟨i, hi, ?_⟩
  unfold ochd
  rw [List.getD_eq_getElem?_getD, List.getElem?_eq_getElem hi, e]
  rfl
theorem och_nodup (S : TS) (k : Nat) : (och S k).Pairwise (· ≠ ·) := by
  unfold och
  rw [List.pairwise_flatMap]
  constructor
  · intro c _
    by_cases h1 : zp S 0 c = some k <;> by_cases h2 : zp S 1 c = some k <;> simp [h1, h2]
  · refine List.Pairwise.imp ?_ (List.pairwise_lt_range (n := zn S))
    intro a b hab x hx y hy e
    subst e
    have hxa : x.2 = a := by
      rcases List.mem_append.mp hx with h | h
      · split at h
        · rw [List.mem_singleton.mp h]
        · cases h
      · split at h
        · rw [List.mem_singleton.mp h]
        · cases h
    have hxb : x.2 = b := by
      rcases List.mem_append.mp hy with h | h
      · split at h
        · rw [List.mem_singleton.mp h]
        · cases h
      · split at h
        · rw [List.mem_singleton.mp h]
        · cases h
    omega
theorem ochd_inj {S : TS} {k i j : Nat} (hi : i < (och S k).length) (hj : j < (och S k).length) (h : ochd S k i = ochd S k j) : i = j := by
  unfold ochd at h
  rw [List.getD_eq_getElem?_getD, List.getD_eq_getElem?_getD, List.getElem?_eq_getElem hi, List.getElem?_eq_getElem hj] at h
  have h : (och S k)[i] = (och S k)[j] := h
  have hp := List.pairwise_iff_getElem.mp (och_nodup S k)
  rcases Nat.lt_trichotomy i j with h1 | h1 | h1
  · exact absurd h (hp i j hi hj h1)
  · exact h1
  · exact absurd h.symm (hp j i hj hi h1)
/-- how many were given; what waits -/
abbrev gvn (w : TW) (fl kd c : Nat) : Nat := (w.1 kd fl c 1).toInt.toNat
abbrev rin (S : TS) (fl kd c : Nat) : Nat := ri fl (zsrc S (kd - 4) c)
def pend (S : TS) (w : TW) (fl kd c : Nat) : List Int64 := (w.2.2 (rin S fl kd c)).2.drop (gvn w fl kd c)
def CHK (S : TS) (w : TW) (fl : Nat) : Prop := ∀ kd c, CI S kd c → w.1 kd fl c 1 = nI (gvn w fl kd c) ∧ gvn w fl kd c ≤ (w.2.2 (rin S fl kd c)).2.length
theorem zmin_nI {a b : Nat} (ha : a < 2 ^ 31) (hb : b < 2 ^ 31) : zmin (nI a) (nI b) = nI (min a b) := by
  apply Int32.toInt_inj.mp
  rw [zi_min, zi_nI ha, zi_nI hb, zi_nI (by omega)]
  omega
theorem lg_loop {S : TS} {w : TW} {fl k : Nat} (hg : ∀ i, i < (och S k).length → w.1 (ochd S k i).1 fl (ochd S k i).2 1 = nI (gvn w fl (ochd S k i).1 (ochd S k i).2) ∧ gvn w fl (ochd S k i).1 (ochd S k i).2 < 2 ^ 31) : ∀ (n i v : Nat), i + n = (och S k).length → v < 2 ^ 31 →
    ∃ g, r_X4_leastGiven S w.1 w.2.1 w.2.2 fl k n i (nI v) = nI g ∧ g ≤ v ∧ (∀ j, i ≤ j → j < (och S k).length → g ≤ gvn w fl (ochd S k j).1 (ochd S k j).2) ∧ (g = v ∨ ∃ j, j < (och S k).length ∧ g = gvn w fl (ochd S k j).1 (ochd S k j).2) := by
  intro n
  induction n with
  | zero => intro i v hi hv; exact ⟨v, rfl, Nat.le_refl _, fun j h1 h2 => by omega, Or.inl rfl⟩
  | succ n ih =>
    intro i v hi hv
    obtain ⟨h1, h2⟩ := hg i (by omega)
    simp only [r_X4_leastGiven]
    rw [h1, zmin_nI hv h2]
    obtain ⟨g, g1, g2, g3, g4⟩ := ih (i + 1) (min v (gvn w fl (ochd S k i).1 (ochd S k i).2)) (by omega) (by omega)
    refine ⟨g, g1, by omega, fun j j1 j2 => ?_, ?_⟩
    · by_cases e : j = i
      · subst e; omega
      · exact g3 j (by omega) j2
    · rcases g4 with g4 | g4
      · rcases Nat.le_total v (gvn w fl (ochd S k i).1 (ochd S k i).2) with hl | hl
        · left; omega
        · exact Or.inr ⟨i, by omega, by omega⟩
      · exact Or.inr g4
theorem lg_ok {S : TS} {w : TW} {fl k : Nat} (hC : CHK S w fl) (hl : (w.2.2 (ri fl k)).2.length < 2 ^ 31) : ∃ g, v_X4_leastGiven S w.1 w.2.1 w.2.2 fl k = nI g ∧ g ≤ (w.2.2 (ri fl k)).2.length ∧ (∀ kd c, CI S kd c → zsrc S (kd - 4) c = k → g ≤ gvn w fl kd c) ∧ (g = (w.2.2 (ri fl k)).2.length ∨ ∃ kd c, CI S kd c ∧ zsrc S (kd - 4) c = k ∧ g = gvn w fl kd c) := by
  have hg : ∀ i, i < (och S k).length → w.1 (ochd S k i).1 fl (ochd S k i).2 1 = nI (gvn w fl (ochd S k i).1 (ochd S k i).2) ∧ gvn w fl (ochd S k i).1 (ochd S k i).2 < 2 ^ 31 := fun i hi => by
    obtain ⟨h1, h2⟩ := och_ci (ochd_mem hi)
    obtain ⟨h3, h4⟩ := hC _ _ h1
    unfold rin at h4
    rw [h2] at h4
    exact ⟨h3, by omega⟩
  obtain ⟨g, g1, g2, g3, g4⟩ := lg_loop hg (och S k).length 0 (w.2.2 (ri fl k)).2.length (by omega) hl
  refine ⟨g, g1, g2, fun kd c hc hz => ?_, ?_⟩
  · have hm := ci_och hc
    rw [hz] at hm
    obtain ⟨i, hi, e⟩ := ochd_at hm
    have := g3 i (by omega) hi
    rw [e] at this
    exact this
  · rcases g4 with h | ⟨j, hj, e⟩
    · exact Or.inl h
    · obtain ⟨h1, h2⟩ := och_ci (ochd_mem hj)
      exact Or.inr ⟨_, _, h1, h2, e⟩
/-- what forgetting subtracts -/
theorem fg_loop {S : TS} {fl k : Nat} (gv : Int32) : ∀ (n i : Nat) (w : TW), i + n = (och S k).length → ∃ c : TW, r_X4_forgetGiven S fl k gv n i w = c ∧ c.2 = w.2 ∧
    (∀ kd f a j, (¬ ∃ m, i ≤ m ∧ m < (och S k).length ∧ ochd S k m = (kd, a)) ∨ f ≠ fl ∨ j ≠ 1 → c.1 kd f a j = w.1 kd f a j) ∧ ∀ m, i ≤ m → m < (och S k).length → c.1 (ochd S k m).1 fl (ochd S k m).2 1 = w.1 (ochd S k m).1 fl (ochd S k m).2 1 - gv := by
  intro n
  induction n with
  | zero => intro i w hi; exact ⟨w, rfl, rfl, fun _ _ _ _ _ => rfl, fun m h1 h2 => by omega⟩
  | succ n ih =>
    intro i w hi
    obtain ⟨c, c1, c2, c3, c4⟩ := ih (i + 1) (zset w ((ochd S k i).1) fl ((ochd S k i).2) 1 ((w.1 ((ochd S k i).1) fl ((ochd S k i).2) 1) - gv)) (by omega)
    refine ⟨c, c1, c2, fun kd f a j h => ?_, fun m m1 m2 => ?_⟩
    · have hne : ¬ (kd = (ochd S k i).1 ∧ f = fl ∧ a = (ochd S k i).2 ∧ j = 1) := fun ⟨e1, e2, e3, e4⟩ => by
        rcases h with h | h | h
        · exact h ⟨i, Nat.le_refl _, by omega, by rw [e1, e3]⟩
        · exact h e2
        · exact h e4
      rw [c3 kd f a j (by
        rcases h with h | h
        · exact Or.inl fun ⟨m, m1, m2, m3⟩ => h ⟨m, by omega, m2, m3⟩
        · exact Or.inr h), zset_F, if_neg hne]
    · by_cases e : m = i
      · subst e
        rw [c3 _ _ _ _ (Or.inl fun ⟨m', m1', m2', m3'⟩ => by have := ochd_inj m2' m2 m3'; omega), zset_F, if_pos ⟨rfl, rfl, rfl, rfl⟩]
      · rw [c4 m (by omega) m2, zset_F, if_neg (fun ⟨e1, _, e3, _⟩ => e (ochd_inj m2 (by omega) (by rw [Prod.ext_iff]; exact ⟨e1, e3⟩)))]
/-- a stage that has room forgets what all were given -/
theorem fg_ok {S : TS} {w : TW} {fl k C : Nat} (hf : fl < 2) (hC : CHK S w fl) (hl : (w.2.2 (ri fl k)).2.length < 2 ^ 31) (hC2 : C ≤ 20) (hb : ¬ v_X4_isBelow S w.1 w.2.1 w.2.2 fl k (nI C) = 0) :
    ∃ b : TW, w_X4_forgetGiven S w fl k = b ∧ b.2.1 = w.2.1 ∧ (∀ kd f a j, ¬ (CI S kd a ∧ zsrc S (kd - 4) a = k ∧ f = fl ∧ j = 1) → b.1 kd f a j = w.1 kd f a j) ∧ (∀ i, i ≠ ri fl k → b.2.2 i = w.2.2 i) ∧ CHK S b fl ∧ (∀ kd c, CI S kd c → pend S b fl kd c = pend S w fl kd c) ∧ (b.2.2 (ri fl k)).2.length ≤ 2 * C ∧ (∀ B, RBd B (w.2.2 (ri fl k)) → RBd B (b.2.2 (ri fl k))) ∧ ∀ x ∈ (b.2.2 (ri fl k)).2, x ∈ (w.2.2 (ri fl k)).2 := by
  obtain ⟨g, g1, g2, g3, g4⟩ := lg_ok hC hl
  -- how far the room goes
  have hroom : (w.2.2 (ri fl k)).2.length - g < C := by
    unfold v_X4_isBelow at hb
    rw [g1] at hb
    by_cases c : nI C ≤ (v_X6_length S w.1 w.2.1 w.2.2 (ri fl k)) - nI g
    · rw [if_pos c] at hb; exact absurd rfl hb
    · have e : (v_X6_length S w.1 w.2.1 w.2.2 (ri fl k)) - nI g = nI ((w.2.2 (ri fl k)).2.length - g) := pk_sub g2
      rw [e, nI_leI (by omega) (by omega)] at c
      omega
  unfold w_X4_forgetGiven
  rw [g1]
  have same : ((w.2.2 (ri fl k)).2.length ≤ 2 * C) → ∃ b : TW, w = b ∧ b.2.1 = w.2.1 ∧ (∀ kd f a j, ¬ (CI S kd a ∧ zsrc S (kd - 4) a = k ∧ f = fl ∧ j = 1) → b.1 kd f a j = w.1 kd f a j) ∧ (∀ i, i ≠ ri fl k → b.2.2 i = w.2.2 i) ∧ CHK S b fl ∧ (∀ kd c, CI S kd c → pend S b fl kd c = pend S w fl kd c) ∧ (b.2.2 (ri fl k)).2.length ≤ 2 * C ∧ (∀ B, RBd B (w.2.2 (ri fl k)) → RBd B (b.2.2 (ri fl k))) ∧ ∀ x ∈ (b.2.2 (ri fl k)).2, x ∈ (w.2.2 (ri fl k)).2 := fun h =>
    ⟨w, rfl, rfl, fun _ _ _ _ _ => rfl, fun _ _ => rfl, hC, fun _ _ _ => rfl, h, fun _ h => h, fun _ h => h⟩
  by_cases c1 : nI g ≤ 0
  · rw [if_pos c1]
    refine same ?_
    have := (nI_leI (a := g) (b := 0) (by omega) (by omega)).mp c1
    omega
  rw [if_neg c1]
  have c1' : ¬ g ≤ 0 := fun h => c1 ((nI_leI (a := g) (b := 0) (by omega) (by omega)).mpr h)
  have eh : (v_X6_length S w.1 w.2.1 w.2.2 (ri fl k)) / 2 = nI ((w.2.2 (ri fl k)).2.length / 2) := pk_div (d := 2) hl (by omega) (by omega)
  rw [eh]
  by_cases c2 : nI g < nI ((w.2.2 (ri fl k)).2.length / 2)
  · rw [if_pos c2]
    refine same ?_
    have := (nI_ltI (by omega) (by omega)).mp c2
    omega
  rw [if_neg c2, nI_clamp (by omega)]
  simp only [zlet_eq]
  obtain ⟨v, hv⟩ : ∃ v, v = zrw w (ri fl k) (qrem (w.2.2 (ri fl k)) 0 g) := ⟨_, rfl⟩
  rw [← hv]
  have hvq : ∀ i, i ≠ ri fl k → v.2.2 i = w.2.2 i := fun i hi => by rw [hv, zrw_q, if_neg hi]
  have hvr : v.2.2 (ri fl k) = qrem (w.2.2 (ri fl k)) 0 g := by rw [hv, zrw_q, if_pos rfl]
  have hvr2 : (v.2.2 (ri fl k)).2 = (w.2.2 (ri fl k)).2.drop g := by
    rw [hvr]
    unfold qrem
    rw [if_pos (by omega)]
    show List.take 0 _ ++ List.drop (0 + g) _ = _
    rw [Nat.zero_add]
    rfl
  have hvF : v.1 = w.1 := by rw [hv]; rfl
  obtain ⟨b, b1, b2, b3, b4⟩ := fg_loop (S := S) (fl := fl) (k := k) (nI g) (och S k).length 0 v (by omega)
  have hbq : b.2.2 = v.2.2 := congrArg Prod.snd b2
  have hbF : ∀ kd f a j, ¬ (CI S kd a ∧ zsrc S (kd - 4) a = k ∧ f = fl ∧ j = 1) → b.1 kd f a j = w.1 kd f a j := fun kd f a j hn => by
    rw [b3 kd f a j (by
      by_cases hf2 : f = fl
      · by_cases hj : j = 1
        · left
          rintro ⟨m, m1, m2, m3⟩
          have h9 := och_ci (ochd_mem m2)
          rw [m3] at h9
          exact hn ⟨h9.1, h9.2, hf2, hj⟩
        · exact Or.inr (Or.inr hj)
      · exact Or.inr (Or.inl hf2)), hvF]
  -- the channels of this stage
  have own : ∀ kd c, CI S kd c → zsrc S (kd - 4) c = k → b.1 kd fl c 1 = nI (gvn w fl kd c - g) ∧ gvn b fl kd c = gvn w fl kd c - g ∧ gvn w fl kd c ≤ (w.2.2 (ri fl k)).2.length ∧ g ≤ gvn w fl kd c := fun kd c hc hz => by
    have hm := ci_och hc
    rw [hz] at hm
    obtain ⟨i, hi, e⟩ := ochd_at hm
    have h4 := b4 i (by omega) hi
    rw [e, hvF] at h4
    obtain ⟨h5, h6⟩ := hC _ _ hc
    unfold rin at h6
    rw [hz] at h6
    have h7 := g3 kd c hc hz
    have h8 : b.1 kd fl c 1 = nI (gvn w fl kd c - g) := by
      rw [h4]
      show w.1 kd fl c 1 - nI g = _
      rw [h5, pk_sub h7]
    refine ⟨h8, ?_, h6, h7⟩
    show (b.1 kd fl c 1).toInt.toNat = _
    rw [h8, zi_nI (by omega)]
    omega
  have other : ∀ kd c, CI S kd c → zsrc S (kd - 4) c ≠ k → b.1 kd fl c 1 = w.1 kd fl c 1 ∧ b.2.2 (rin S fl kd c) = w.2.2 (rin S fl kd c) := fun kd c hc hz => by
    refine ⟨hbF _ _ _ _ (fun h => hz h.2.1), ?_⟩
    rw [hbq, hvq _ (fun e => hz (by unfold rin ri at e; omega))]
  refine ⟨b, b1, (congrArg Prod.fst b2).trans (by rw [hv]; rfl), hbF, fun i hi => by rw [hbq, hvq i hi], fun kd c hc => ?_, fun kd c hc => ?_, ?_, fun B hB => ?_, fun x hx => ?_⟩
  · by_cases hz : zsrc S (kd - 4) c = k
    · obtain ⟨o1, o2, o3, o4⟩ := own kd c hc hz
      refine ⟨by rw [o1, o2], ?_⟩
      unfold rin
      rw [hz, hbq, hvr2, List.length_drop, o2]
      omega
    · obtain ⟨o1, o2⟩ := other kd c hc hz
      have h9 := hC kd c hc
      unfold gvn at h9 ⊢
      rw [o1, o2]
      exact h9
  · unfold pend
    by_cases hz : zsrc S (kd - 4) c = k
    · obtain ⟨o1, o2, o3, o4⟩ := own kd c hc hz
      unfold rin
      rw [hz, hbq, hvr2, List.drop_drop, o2]
      congr 1
      omega
    · obtain ⟨o1, o2⟩ := other kd c hc hz
      unfold gvn
      rw [o1, o2]
  · rw [hbq, hvr2, List.length_drop]
    omega
  · rw [hbq, hvr]
    exact hB.rem
  · rw [hbq, hvr2] at hx
    exact List.mem_of_mem_drop hx
