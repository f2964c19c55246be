/-! ===== one step: what it is made of ===== -/
theorem lgr_congr {S : TS} {F F' : TF} {G G' : TG} {q q' : TQ} {fl k : Nat} (h : ∀ kd c, kd = 4 ∨ kd = 5 → F' kd fl c 1 = F kd fl c 1) : ∀ (n i : Nat) (v : Int32), r_X4_leastGiven S F' G' q' fl k n i v = r_X4_leastGiven S F G q fl k n i v := by
  intro n
  induction n with
  | zero => intro i v; rfl
  | succ n ih =>
    intro i v
    simp only [r_X4_leastGiven]
    rw [ih, h _ _ (ochd_45 S k i)]
theorem bel_congr {S : TS} {F F' : TF} {G G' : TG} {q q' : TQ} {fl k : Nat} {C : Int32} (h : ∀ kd c, kd = 4 ∨ kd = 5 → F' kd fl c 1 = F kd fl c 1) (hq : q' (ri fl k) = q (ri fl k)) : v_X4_isBelow S F' G' q' fl k C = v_X4_isBelow S F G q fl k C := by
  unfold v_X4_isBelow v_X4_leastGiven v_X6_length
  rw [lgr_congr (G := G) (q := q) h, hq]
theorem cw_ok {S : TS} {F : TF} {G : TG} {q : TQ} {fl k : Nat} {C : Int32} (h : ¬ v_X8_canWork S F G q fl k C = 0) : ¬ v_X4_isBelow S F G q fl k C = 0 ∧
    ((F 8 0 k 0 = 0 ∧ (¬ F 2 fl k 11 = 0 ∨ 0 < v_X8_unread S F G q fl k ∨ (¬ F 2 fl k 10 = 0 ∧ ¬ F 0 fl (3 * k) 0 = 1000000))) ∨
     (¬ F 8 0 k 0 = 0 ∧ ((zp S 0 k).isSome = true ∧ ¬ v_X1_canGive S F G q 4 fl k = 0 ∨ (zp S 1 k).isSome = true ∧ ¬ v_X1_canGive S F G q 5 fl k = 0))) := by
  unfold v_X8_canWork at h
  by_cases a : v_X4_isBelow S F G q fl k C = 0
  · rw [if_pos a] at h; exact absurd rfl h
  rw [if_neg a] at h
  refine ⟨a, ?_⟩
  by_cases b : F 8 0 k 0 = 0
  · rw [if_pos b] at h
    refine Or.inl ⟨b, ?_⟩
    by_cases c : F 2 fl k 11 = 0
    · rw [if_pos c] at h
      by_cases d : 0 < v_X8_unread S F G q fl k
      · exact Or.inr (Or.inl d)
      · rw [if_neg d] at h
        by_cases e : F 2 fl k 10 = 0
        · rw [if_pos e] at h; exact absurd rfl h
        · rw [if_neg e] at h
          by_cases f : F 0 fl (3 * k) 0 = 1000000
          · rw [if_pos f] at h; exact absurd rfl h
          · exact Or.inr (Or.inr ⟨e, f⟩)
    · exact Or.inl c
  · rw [if_neg b] at h
    refine Or.inr ⟨b, ?_⟩
    by_cases c : (zp S 0 k).isSome = true
    · rw [if_pos c] at h
      by_cases d : v_X1_canGive S F G q 4 fl k = 0
      · rw [if_pos d] at h
        by_cases e : (zp S 1 k).isSome = true
        · rw [if_pos e] at h
          by_cases f : v_X1_canGive S F G q 5 fl k = 0
          · rw [if_pos f] at h; exact absurd rfl h
          · exact Or.inr ⟨e, f⟩
        · rw [if_neg e] at h; exact absurd rfl h
      · exact Or.inl ⟨c, d⟩
    · rw [if_neg c] at h
      by_cases e : (zp S 1 k).isSome = true
      · rw [if_pos e] at h
        by_cases f : v_X1_canGive S F G q 5 fl k = 0
        · rw [if_pos f] at h; exact absurd rfl h
        · exact Or.inr ⟨e, f⟩
      · rw [if_neg e] at h; exact absurd rfl h
theorem cw_yes {S : TS} {F : TF} {G : TG} {q : TQ} {fl k : Nat} {C : Int32} (h1 : ¬ v_X4_isBelow S F G q fl k C = 0) (h2 : (F 8 0 k 0 = 0 ∧ (¬ F 2 fl k 11 = 0 ∨ 0 < v_X8_unread S F G q fl k ∨ (¬ F 2 fl k 10 = 0 ∧ ¬ F 0 fl (3 * k) 0 = 1000000))) ∨
     (¬ F 8 0 k 0 = 0 ∧ ((zp S 0 k).isSome = true ∧ ¬ v_X1_canGive S F G q 4 fl k = 0 ∨ (zp S 1 k).isSome = true ∧ ¬ v_X1_canGive S F G q 5 fl k = 0))) : v_X8_canWork S F G q fl k C = 1 := by
  unfold v_X8_canWork
  rw [if_neg h1]
  rcases h2 with ⟨a, b⟩ | ⟨a, b⟩
  · rw [if_pos a]
    rcases b with b | b | ⟨b, c⟩
    · rw [if_neg b]
    · rw [if_pos b]; split <;> rfl
    · rw [if_neg b, if_neg c]; split
      · split <;> rfl
      · rfl
  · rw [if_neg a]
    rcases b with ⟨b, c⟩ | ⟨b, c⟩
    · rw [if_pos b, if_neg c]
    · rw [if_pos b, if_neg c]; split
      · split <;> rfl
      · rfl
theorem cg_len {S : TS} {w : TW} {fl kd c : Nat} (hC : CHK S w fl) (hc : CI S kd c) : v_X1_length S w.1 w.2.1 w.2.2 kd fl c = nI (pend S w fl kd c).length := by
  obtain ⟨h1, h2⟩ := hC kd c hc
  unfold v_X1_length v_X6_length pend
  rw [List.length_drop, h1]
  exact pk_sub h2
theorem cg_iff {S : TS} {w : TW} {fl kd c : Nat} (hC : CHK S w fl) (hc : CI S kd c) (hl : (w.2.2 (rin S fl kd c)).2.length < 2 ^ 31) : ¬ v_X1_canGive S w.1 w.2.1 w.2.2 kd fl c = 0 ↔ w.1 kd fl c 2 = 0 ∧ pend S w fl kd c ≠ [] := by
  unfold v_X1_canGive
  rw [cg_len hC hc]
  have hle : (pend S w fl kd c).length ≤ (w.2.2 (rin S fl kd c)).2.length := by unfold pend; rw [List.length_drop]; omega
  by_cases a : w.1 kd fl c 2 = 0
  · rw [if_pos a]
    by_cases b : nI (pend S w fl kd c).length ≤ 0
    · rw [if_pos b]
      have := (nI_leI (a := (pend S w fl kd c).length) (b := 0) (by omega) (by omega)).mp b
      exact ⟨fun h => absurd rfl h, fun h => absurd (List.eq_nil_of_length_eq_zero (by omega)) h.2⟩
    · rw [if_neg b]
      refine ⟨fun _ => ⟨a, fun h => b (by rw [h]; decide)⟩, fun _ => by decide⟩
  · rw [if_neg a]
    exact ⟨fun h => absurd rfl h, fun h => absurd h.1 a⟩
/-- the next item, and what waits behind it -/
theorem give_ok {S : TS} {w : TW} {fl kd c B : Nat} (hC : CHK S w fl) (hc : CI S kd c) (hR : RBd B (w.2.2 (rin S fl kd c))) (hB : B ≤ 4194304) (hp : pend S w fl kd c ≠ []) :
    ∃ x rest, pend S w fl kd c = x :: rest ∧ w_X1_give S w kd fl c = (zset w kd fl c 1 (nI (gvn w fl kd c + 1)), x) := by
  obtain ⟨h1, h2⟩ := hC kd c hc
  have hlt : gvn w fl kd c < (w.2.2 (rin S fl kd c)).2.length := by
    rcases Nat.lt_or_ge (gvn w fl kd c) (w.2.2 (rin S fl kd c)).2.length with h | h
    · exact h
    · exact absurd (by unfold pend; exact List.drop_eq_nil_of_le h) hp
  refine ⟨(w.2.2 (rin S fl kd c)).2[gvn w fl kd c], (w.2.2 (rin S fl kd c)).2.drop (gvn w fl kd c + 1), by unfold pend; exact List.drop_eq_getElem_cons hlt, ?_⟩
  have e1 := at_in (S := S) (F := w.1) (G := w.2.1) hR hB hlt
  unfold w_X1_give
  rw [zlet_eq, ← e1, ← nI_1, ← h1]
/-- the cases of a step, behind what is forgotten -/
def STC (S : TS) (fl k so : Nat) (w2 : TW) (r : TW × Int32) : Prop :=
  (so = 0 ∧ ¬ w2.1 2 fl k 11 = 0 ∧ r = (w_X2_passBarrier S w2 fl k, 1)) ∨
  (so = 0 ∧ w2.1 2 fl k 11 = 0 ∧ r = (w_X8_raiseMark S (w_X8_read S w2 fl k).1 fl k (w_X8_read S w2 fl k).2, 1)) ∨
  (so ≠ 0 ∧ ∃ kd x rest w3, CI S kd k ∧ w2.1 kd fl k 2 = 0 ∧ pend S w2 fl kd k = x :: rest ∧ w3 = zset (zset w2 kd fl k 1 (nI (gvn w2 fl kd k + 1))) 0 fl (3 * k) 3 (nI (kd - 4)) ∧
    ((v_X3_kind x = 0 ∧ r = (w_X8_takeEvent S w3 fl k x (nI (kd - 4)), 1)) ∨
     (v_X3_kind x = 1 ∧ r = (w_X8_raiseMark S (w_X8_leastMark S w3 fl k (v_X3_time x) (nI (kd - 4))).1 fl k (w_X8_leastMark S w3 fl k (v_X3_time x) (nI (kd - 4))).2, 1)) ∨
     (¬ v_X3_kind x = 0 ∧ ¬ v_X3_kind x = 1 ∧ CI S (9 - kd) k ∧ r = (w_X2_takeBarrier S w3 fl k kd (9 - kd), 1)) ∨
     (¬ v_X3_kind x = 0 ∧ ¬ v_X3_kind x = 1 ∧ ¬ CI S (9 - kd) k ∧ r = (w_X2_takeBarrierN S w3 fl k kd, 1))))
/-- what is the same behind the forgetting -/
def P0 (S : TS) (fl k C : Nat) (w b : TW) : Prop := b.2.1 = w.2.1 ∧ (∀ kd f a j, ¬ (CI S kd a ∧ zsrc S (kd - 4) a = k ∧ f = fl ∧ j = 1) → ¬ (kd = 6 ∧ f = fl ∧ a = 0 ∧ j = 3) → b.1 kd f a j = w.1 kd f a j) ∧ b.1 6 fl 0 3 = nI k ∧ (∀ i, i ≠ ri fl k → b.2.2 i = w.2.2 i) ∧ CHK S b fl ∧ (∀ kd c, CI S kd c → pend S b fl kd c = pend S w fl kd c) ∧ (b.2.2 (ri fl k)).2.length ≤ 2 * C ∧ (∀ B, RBd B (w.2.2 (ri fl k)) → RBd B (b.2.2 (ri fl k))) ∧ ∀ x ∈ (b.2.2 (ri fl k)).2, x ∈ (w.2.2 (ri fl k)).2
theorem step_cases {S : TS} {w : TW} {fl k so C B : Nat} (hn : zn S ≤ 12) (hz : zok S) (hf : fl < 2) (hk : k < zn S) (hC : CHK S w fl) (hR : ∀ u, u < zn S → RBd B (w.2.2 (ri fl u))) (hB : B ≤ 4194304) (hcap : w.1 6 fl 0 2 = nI C) (hC2 : C ≤ 20) (hs : w.1 8 0 k 0 = nI so) (hs8 : so < 8) (hcw : ¬ v_X8_canWork S w.1 w.2.1 w.2.2 fl k (w.1 6 fl 0 2) = 0) :
    ∃ w2, P0 S fl k C w w2 ∧ STC S fl k so w2 (w_X2_step S w fl k) := by
  obtain ⟨hbel, hcw2⟩ := cw_ok hcw
  have hlk := (hR k hk).1
  obtain ⟨w1, hw1⟩ : ∃ w1, w1 = zset w 6 fl 0 3 (nI k) := ⟨_, rfl⟩
  have hF1 : ∀ kd f a j, ¬ (kd = 6 ∧ f = fl ∧ a = 0 ∧ j = 3) → w1.1 kd f a j = w.1 kd f a j := fun kd f a j h => by rw [hw1, zset_F, if_neg h]
  have hq1 : w1.2.2 = w.2.2 := by rw [hw1]; rfl
  have hC1 : CHK S w1 fl := fun kd c hc => by
    have := hC kd c hc
    have h45 := hc.1
    unfold gvn at *
    rw [hF1 kd fl c 1 (by omega), hq1]
    exact this
  have hp1 : ∀ kd c, CI S kd c → pend S w1 fl kd c = pend S w fl kd c := fun kd c hc => by
    have h45 := hc.1
    unfold pend gvn
    rw [hF1 kd fl c 1 (by omega), hq1]
  have hb1 : ¬ v_X4_isBelow S w1.1 w1.2.1 w1.2.2 fl k (nI C) = 0 := by
    rw [← hcap, bel_congr (F := w.1) (G := w.2.1) (q := w.2.2) (fun kd c h => hF1 kd fl c 1 (by omega)) (by rw [hq1])]
    exact hbel
  obtain ⟨w2, f1, f2, f3, f4, f5, f6, f7, f8, f9⟩ := fg_ok hf hC1 (by rw [hq1]; omega) hC2 hb1
  have hP0 : P0 S fl k C w w2 := by
    refine ⟨f2.trans (by rw [hw1]; rfl), fun kd f a j h h' => (f3 kd f a j h).trans (hF1 kd f a j h'), ?_, fun i hi => (f4 i hi).trans (by rw [hq1]), f5, fun kd c hc => (f6 kd c hc).trans (hp1 kd c hc), f7, fun B' hB' => f8 B' (by rw [hq1]; exact hB'), fun x hx => by have := f9 x hx; rw [hq1] at this; exact this⟩
    rw [f3 6 fl 0 3 (by intro h; have := h.1.1; omega), hw1, zset_F, if_pos ⟨rfl, rfl, rfl, rfl⟩]
  refine ⟨w2, hP0, ?_⟩
  obtain ⟨-, p2, -, p4, p5, p6, -, -, -⟩ := hP0
  have g8 : ∀ j, w2.1 8 0 k j = w.1 8 0 k j := fun j => p2 _ _ _ _ (fun h => by have := h.1.1; omega) (by omega)
  have g0 : ∀ j, w2.1 0 fl (3 * k) j = w.1 0 fl (3 * k) j := fun j => p2 _ _ _ _ (fun h => by have := h.1.1; omega) (by omega)
  have g2 : ∀ j, w2.1 2 fl k j = w.1 2 fl k j := fun j => p2 _ _ _ _ (fun h => by have := h.1.1; omega) (by omega)
  have gs : ∀ kd, CI S kd k → w2.1 kd fl k 2 = w.1 kd fl k 2 := fun kd hc => p2 _ _ _ _ (by omega) (by have := hc.1; omega)
  have cgs : ∀ kd, CI S kd k → (¬ v_X1_canGive S w2.1 w2.2.1 w2.2.2 kd fl k = 0 ↔ ¬ v_X1_canGive S w.1 w.2.1 w.2.2 kd fl k = 0) := fun kd hc => by
    have hu := hc.lt hz
    have hr : w2.2.2 (rin S fl kd k) = w.2.2 (rin S fl kd k) := p4 _ (by unfold rin ri; omega)
    have hl : (w.2.2 (rin S fl kd k)).2.length < 2 ^ 31 := by have := (hR (zsrc S (kd - 4) k) (by omega)).1; unfold rin; omega
    rw [cg_iff p5 hc (by rw [hr]; exact hl), cg_iff hC hc hl, p6 kd k hc, gs kd hc]
  have cgz : ∀ kd, CI S kd k → (v_X1_canGive S w2.1 w2.2.1 w2.2.2 kd fl k = 0 ↔ v_X1_canGive S w.1 w.2.1 w.2.2 kd fl k = 0) := fun kd hc => by
    have := cgs kd hc
    constructor
    · intro h; exact Classical.byContradiction fun h2 => (this.mpr h2) h
    · intro h; exact Classical.byContradiction fun h2 => (this.mp h2) h
  -- one side
  have side : ∀ kd, CI S kd k → ¬ v_X1_canGive S w2.1 w2.2.1 w2.2.2 kd fl k = 0 → ∃ x rest, w2.1 kd fl k 2 = 0 ∧ pend S w2 fl kd k = x :: rest ∧ w_X1_give S w2 kd fl k = (zset w2 kd fl k 1 (nI (gvn w2 fl kd k + 1)), x) := fun kd hc hg => by
    have hu := hc.lt hz
    have hr : w2.2.2 (rin S fl kd k) = w.2.2 (rin S fl kd k) := p4 _ (by unfold rin ri; omega)
    have hRr : RBd B (w2.2.2 (rin S fl kd k)) := by rw [hr]; exact hR _ (by omega)
    have hl : (w2.2.2 (rin S fl kd k)).2.length < 2 ^ 31 := by have := hRr.1; omega
    obtain ⟨a1, a2⟩ := (cg_iff p5 hc hl).mp hg
    obtain ⟨x, rest, b1, b2⟩ := give_ok p5 hc hRr hB a2
    exact ⟨x, rest, a1, b1, b2⟩
  have e1 : w_X2_step S w fl k = (fun w2 : TW => if (w2.1 8 0 k 0) = 0 then if (w2.1 2 fl k 11) = 0 then zlet (w_X8_read S w2 fl k) (fun w5 => zlet (w_X8_raiseMark S w5.1 fl k w5.2) (fun w6 => (w6, (1 : Int32)))) else zlet (w_X2_passBarrier S w2 fl k) (fun w7 => (w7, (1 : Int32))) else if (v_X8_turnsToSecond S w2.1 w2.2.1 w2.2.2 fl k) = 0 then if (zp S 0 k).isSome = true then if (v_X1_canGive S w2.1 w2.2.1 w2.2.2 4 fl k) = 0 then (w2, (0 : Int32)) else zlet (w_X1_give S w2 4 fl k) (fun w11 => zlet (zset w11.1 0 fl (3 * k) 3 0) (fun w12 => if (v_X3_kind w11.2) = 0 then zlet (w_X8_takeEvent S w12 fl k w11.2 0) (fun w14 => (w14, (1 : Int32))) else if (v_X3_kind w11.2) = 1 then zlet (w_X8_leastMark S w12 fl k (v_X3_time w11.2) 0) (fun w16 => zlet (w_X8_raiseMark S w16.1 fl k w16.2) (fun w17 => (w17, (1 : Int32)))) else if (zp S 1 k).isSome = true then zlet (w_X2_takeBarrier S w12 fl k 4 5) (fun w19 => (w19, (1 : Int32))) else zlet (w_X2_takeBarrierN S w12 fl k 4) (fun w20 => (w20, (1 : Int32))))) else (w2, (0 : Int32)) else if (zp S 1 k).isSome = true then if (v_X1_canGive S w2.1 w2.2.1 w2.2.2 5 fl k) = 0 then (w2, (0 : Int32)) else zlet (w_X1_give S w2 5 fl k) (fun w23 => zlet (zset w23.1 0 fl (3 * k) 3 1) (fun w24 => if (v_X3_kind w23.2) = 0 then zlet (w_X8_takeEvent S w24 fl k w23.2 1) (fun w26 => (w26, (1 : Int32))) else if (v_X3_kind w23.2) = 1 then zlet (w_X8_leastMark S w24 fl k (v_X3_time w23.2) 1) (fun w28 => zlet (w_X8_raiseMark S w28.1 fl k w28.2) (fun w29 => (w29, (1 : Int32)))) else if (zp S 0 k).isSome = true then zlet (w_X2_takeBarrier S w24 fl k 5 4) (fun w31 => (w31, (1 : Int32))) else zlet (w_X2_takeBarrierN S w24 fl k 5) (fun w32 => (w32, (1 : Int32))))) else (w2, (0 : Int32))) w2 := by
    rw [← f1, hw1]
    rfl
  rw [e1]
  dsimp only
  rw [g8 0, g2 11]
  by_cases h0 : w.1 8 0 k 0 = 0
  · have hso : so = 0 := by rw [hs] at h0; exact (nI_eq (a := so) (b := 0) (by omega) (by omega)).mp h0
    rw [if_pos h0]
    by_cases ho : w.1 2 fl k 11 = 0
    · rw [if_pos ho]
      exact Or.inr (Or.inl ⟨hso, by rw [g2]; exact ho, rfl⟩)
    · rw [if_neg ho]
      exact Or.inl ⟨hso, by rw [g2]; exact ho, rfl⟩
  · rw [if_neg h0]
    have hso : so ≠ 0 := fun e => h0 (by rw [hs, e]; rfl)
    have hci : ∀ kd, kd = 4 ∨ kd = 5 → (zp S (kd - 4) k).isSome = true → CI S kd k := fun kd h45 h => ⟨h45, hk, h⟩
    have hany : (zp S 0 k).isSome = true ∧ ¬ v_X1_canGive S w2.1 w2.2.1 w2.2.2 4 fl k = 0 ∨ (zp S 1 k).isSome = true ∧ ¬ v_X1_canGive S w2.1 w2.2.1 w2.2.2 5 fl k = 0 := by
      rcases hcw2 with ⟨a, -⟩ | ⟨-, ⟨b, c⟩ | ⟨b, c⟩⟩
      · exact absurd a h0
      · exact Or.inl ⟨b, (cgs 4 (hci 4 (Or.inl rfl) b)).mpr c⟩
      · exact Or.inr ⟨b, (cgs 5 (hci 5 (Or.inr rfl) b)).mpr c⟩
    refine Or.inr (Or.inr ⟨hso, ?_⟩)
    by_cases ht : (v_X8_turnsToSecond S w2.1 w2.2.1 w2.2.2 fl k) = 0
    · rw [if_pos ht]
      have hfirst : (zp S 0 k).isSome = true ∧ ¬ v_X1_canGive S w2.1 w2.2.1 w2.2.2 4 fl k = 0 := by
        rcases hany with h | ⟨h1, h2⟩
        · exact h
        · unfold v_X8_turnsToSecond at ht
          rw [if_pos h1, if_neg h2] at ht
          split at ht
          · exact absurd ht (by decide)
          · split at ht
            · rename_i h3
              split at ht
              · exact absurd ht (by decide)
              · rename_i h4; exact ⟨h3, h4⟩
            · exact absurd ht (by decide)
      have hc := hci 4 (Or.inl rfl) hfirst.1
      obtain ⟨x, rest, s1, s2, s3⟩ := side 4 hc hfirst.2
      rw [if_pos hfirst.1, if_neg hfirst.2, s3]
      refine ⟨4, x, rest, _, hc, s1, s2, rfl, ?_⟩
      simp only [zlet_eq]
      by_cases k0 : v_X3_kind x = 0
      · rw [if_pos k0]; exact Or.inl ⟨k0, rfl⟩
      rw [if_neg k0]
      by_cases k1 : v_X3_kind x = 1
      · rw [if_pos k1]; exact Or.inr (Or.inl ⟨k1, rfl⟩)
      rw [if_neg k1]
      by_cases o : (zp S 1 k).isSome = true
      · rw [if_pos o]; exact Or.inr (Or.inr (Or.inl ⟨k0, k1, hci 5 (Or.inr rfl) o, rfl⟩))
      · rw [if_neg o]; exact Or.inr (Or.inr (Or.inr ⟨k0, k1, fun h => o h.2.2, rfl⟩))
    · rw [if_neg ht]
      have hsec : (zp S 1 k).isSome = true ∧ ¬ v_X1_canGive S w2.1 w2.2.1 w2.2.2 5 fl k = 0 := by
        unfold v_X8_turnsToSecond at ht
        by_cases h1 : (zp S 1 k).isSome = true
        · rw [if_pos h1] at ht
          by_cases h2 : v_X1_canGive S w2.1 w2.2.1 w2.2.2 5 fl k = 0
          · rw [if_pos h2] at ht; exact absurd rfl ht
          · exact ⟨h1, h2⟩
        · rw [if_neg h1] at ht; exact absurd rfl ht
      have hc := hci 5 (Or.inr rfl) hsec.1
      obtain ⟨x, rest, s1, s2, s3⟩ := side 5 hc hsec.2
      rw [if_pos hsec.1, if_neg hsec.2, s3]
      refine ⟨5, x, rest, _, hc, s1, s2, rfl, ?_⟩
      simp only [zlet_eq]
      by_cases k0 : v_X3_kind x = 0
      · rw [if_pos k0]; exact Or.inl ⟨k0, rfl⟩
      rw [if_neg k0]
      by_cases k1 : v_X3_kind x = 1
      · rw [if_pos k1]; exact Or.inr (Or.inl ⟨k1, rfl⟩)
      rw [if_neg k1]
      by_cases o : (zp S 0 k).isSome = true
      · rw [if_pos o]; exact Or.inr (Or.inr (Or.inl ⟨k0, k1, hci 4 (Or.inl rfl) o, rfl⟩))
      · rw [if_neg o]; exact Or.inr (Or.inr (Or.inr ⟨k0, k1, fun h => o h.2.2, rfl⟩))
