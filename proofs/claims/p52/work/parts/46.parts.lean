/-! ===== reading the log; marks of inputs ===== -/
theorem unr_ok {S : TS} {w : TW} {fl k tk : Nat} (h4 : w.1 0 fl (3 * k) 4 = nI tk) (hle : tk ≤ (w.2.2 (rl k)).2.length) : v_X8_unread S w.1 w.2.1 w.2.2 fl k = nI ((w.2.2 (rl k)).2.length - tk) := by
  unfold v_X8_unread v_X6_length
  rw [h4]
  exact pk_sub hle
theorem read_ok {S : TS} {w : TW} {fl k tk B : Nat} (h4 : w.1 0 fl (3 * k) 4 = nI tk) (hle : tk ≤ (w.2.2 (rl k)).2.length) (hR : RBd B (w.2.2 (rl k))) (hB : B ≤ 4194304) :
    (tk < (w.2.2 (rl k)).2.length ∧ ∃ ev, ev ∈ (w.2.2 (rl k)).2 ∧ w_X8_read S w fl k = (w_X8_emit S (zset w 0 fl (3 * k) 4 (nI (tk + 1))) fl k ev, v_X3_time ev - w.1 8 0 k 3)) ∨
    (tk = (w.2.2 (rl k)).2.length ∧ w_X8_read S w fl k = (w, 1000000)) := by
  have hl := hR.1
  unfold w_X8_read
  rw [unr_ok h4 hle]
  by_cases c : tk < (w.2.2 (rl k)).2.length
  · left
    refine ⟨c, v_X6_at S w.1 w.2.1 w.2.2 (rl k) (w.1 0 fl (3 * k) 4), by rw [h4]; exact at_mem hR hB c, ?_⟩
    rw [if_pos (show (0 : Int32) < nI _ from nI_lt (a := 0) (by omega) (by omega))]
    simp only [zlet_eq]
    have e4 : w.1 0 fl (3 * k) 4 + 1 = nI (tk + 1) := by rw [h4, nI_1]
    rw [e4]
    congr 1
    have : (w_X8_emit S (zset w 0 fl (3 * k) 4 (nI (tk + 1))) fl k (v_X6_at S w.1 w.2.1 w.2.2 (rl k) (w.1 0 fl (3 * k) 4))).1 8 0 k 3 = w.1 8 0 k 3 := by
      rw [(loc_X8_emit S (zset w 0 fl (3 * k) 4 (nI (tk + 1))) fl k _ Loc.rf).2.1 8 0 k 3 (by omega), zset_F, if_neg (by omega)]
    rw [this]
  · right
    refine ⟨by omega, ?_⟩
    rw [if_neg (show ¬ (0 : Int32) < nI _ from nI_nlt (a := 0) (by omega) (by omega))]
theorem least_ok {S : TS} (w : TW) (fl k kd : Nat) (t : Int32) (h45 : kd = 4 ∨ kd = 5) : ∃ b : TW, b = zset w 0 fl (3 * k) (kd - 3) t ∧ w_X8_leastMark S w fl k t (nI (kd - 4)) = (b, if (zp S 1 k).isSome = true then zmin (b.1 0 fl (3 * k) 1) (b.1 0 fl (3 * k) 2) else b.1 0 fl (3 * k) 1) := by
  refine ⟨_, rfl, ?_⟩
  unfold w_X8_leastMark
  rcases h45 with rfl | rfl
  · rw [if_pos (show nI (4 - 4) = 0 from rfl)]
    simp only [zlet_eq]
    split <;> rfl
  · rw [if_neg (show ¬ nI (5 - 4) = 0 by decide)]
    simp only [zlet_eq]
    split <;> rfl
/-! ===== a checkpoint is complete ===== -/
theorem ccr_ok {S : TS} (fl : Nat) : ∀ (n i : Nat) (w : TW), (r_X2_completeCheckpoint S fl n i w).1 = w.1 ∧ (r_X2_completeCheckpoint S fl n i w).2.2 = w.2.2 ∧ ∀ f k, (r_X2_completeCheckpoint S fl n i w).2.1 f k = if f = fl ∧ i ≤ k ∧ k < i + n then ((w.2.1 f k).2, (w.2.1 f k).1) else w.2.1 f k := by
  intro n
  induction n with
  | zero => intro i w; exact ⟨rfl, rfl, fun f k => by rw [if_neg (by omega)]; rfl⟩
  | succ n ih =>
    intro i w
    rw [er_X2_completeCheckpoint, zlet_eq]
    obtain ⟨h1, h2, h3⟩ := ih (i + 1) (w_X8_adoptSaved S w fl i)
    have e1 : (w_X8_adoptSaved S w fl i).1 = w.1 := by unfold w_X8_adoptSaved; simp only [zlet_eq]; rfl
    have e2 : (w_X8_adoptSaved S w fl i).2.2 = w.2.2 := by unfold w_X8_adoptSaved; simp only [zlet_eq]; rfl
    have e3 : ∀ f k, (w_X8_adoptSaved S w fl i).2.1 f k = if f = fl ∧ k = i then ((w.2.1 f k).2, (w.2.1 f k).1) else w.2.1 f k := fun f k => by
      unfold w_X8_adoptSaved
      simp only [zlet_eq]
      show (if f = fl ∧ k = i then ((if fl = fl ∧ i = i then ((w.2.1 fl i).2, (w.2.1 fl i).2) else w.2.1 fl i).1, (w.2.1 fl i).1) else if f = fl ∧ k = i then _ else w.2.1 f k) = _
      by_cases h : f = fl ∧ k = i
      · rw [if_pos h, if_pos h, if_pos ⟨rfl, rfl⟩, h.1, h.2]
      · rw [if_neg h, if_neg h, if_neg h]
    refine ⟨h1.trans e1, h2.trans e2, fun f k => ?_⟩
    rw [h3 f k, e3 f k]
    by_cases c : f = fl ∧ k = i
    · rw [if_neg (by omega), if_pos c, if_pos (by omega)]
    · by_cases c2 : f = fl ∧ i + 1 ≤ k ∧ k < i + 1 + n
      · rw [if_pos c2, if_neg c, if_pos (by omega)]
      · rw [if_neg c2, if_neg c, if_neg (by omega)]
theorem cc_ok {S : TS} (w : TW) (fl : Nat) : ∃ b : TW, w_X2_completeCheckpoint S w fl = b ∧ b.2.2 = w.2.2 ∧ (∀ kd f a j, ¬ (kd = 6 ∧ f = fl ∧ a = 0 ∧ (j = 5 ∨ j = 6)) → b.1 kd f a j = w.1 kd f a j) ∧ b.1 6 fl 0 5 = 0 ∧ ∀ k, k < zn S → b.2.1 fl k = ((w.2.1 fl k).2, (w.2.1 fl k).1) := by
  obtain ⟨h1, h2, h3⟩ := ccr_ok (S := S) fl (zn S) 0 w
  refine ⟨_, rfl, ?_⟩
  unfold w_X2_completeCheckpoint
  simp only [zlet_eq]
  generalize r_X2_completeCheckpoint S fl (zn S) 0 w = c at *
  refine ⟨h2, fun kd f a j hn => ?_, ?_, fun k hk => ?_⟩
  · rw [zset_F, if_neg (by omega), zset_F, if_neg (by omega), h1]
  · rw [zset_F, if_pos ⟨rfl, rfl, rfl, rfl⟩]
  · show c.2.1 fl k = _
    rw [h3 fl k, if_pos ⟨rfl, Nat.zero_le _, by omega⟩]
/-! ===== a barrier is passed ===== -/
/-- what passing makes of a stage's world v, ahead of the count -/
def PBA (S : TS) (fl k : Nat) (v c : TW) : Prop :=
  EM S fl k v c [v_X3_barrier] ∧ c.2.1 = v.2.1 ∧ (∀ kd f a j, ¬ (kd = 2 ∧ f = fl ∧ a = k ∧ j = 11) → ¬ (fl = 0 ∧ kd = 0 ∧ f = fl ∧ a = 3 * k + (v.2.1 fl k).2) → ¬ (fl = 0 ∧ kd = 6 ∧ f = fl ∧ a = 0 ∧ j = 7) → c.1 kd f a j = v.1 kd f a j) ∧ c.1 2 fl k 11 = 0 ∧
    (∀ i, i ≠ ri fl k → (fl = 0 → ∀ x, x < 4 → i ≠ rs x fl (3 * k + (v.2.1 fl k).2)) → c.2.2 i = v.2.2 i) ∧
    (fl = 0 → (∀ j, j < 8 → c.1 0 fl (3 * k + (v.2.1 fl k).2) j = v.1 0 fl (3 * k) j) ∧ (∀ x, x < 4 → (c.2.2 (rs x fl (3 * k + (v.2.1 fl k).2))).2 = (v.2.2 (rs x fl (3 * k))).2 ∧ ∀ B, RBd B (v.2.2 (rs x fl (3 * k + (v.2.1 fl k).2))) → (v.2.2 (rs x fl (3 * k))).2.length ≤ B → B ≤ 4194304 → RBd B (c.2.2 (rs x fl (3 * k + (v.2.1 fl k).2)))) ∧ c.1 6 fl 0 7 = v.1 6 fl 0 7 - 1)
theorem pb_ok {S : TS} (hn : zn S ≤ 12) (v : TW) (fl k : Nat) (hf : fl < 2) (hk : k < 12) (hG : GS v.2.1) (hl : ∀ x, x < 4 → (v.2.2 (rs x fl (3 * k))).2.length < 2 ^ 31) :
    ∃ c : TW, PBA S fl k v c ∧ ((fl ≠ 0 ∧ w_X2_passBarrier S v fl k = c) ∨ (fl = 0 ∧ ¬ v.1 6 fl 0 7 - 1 = 0 ∧ w_X2_passBarrier S v fl k = c) ∨ (fl = 0 ∧ v.1 6 fl 0 7 - 1 = 0 ∧ w_X2_passBarrier S v fl k = w_X2_completeCheckpoint S c fl)) := by
  have hgk := hG fl k
  obtain ⟨v1, h1⟩ : ∃ v1, v1 = zset v 2 fl k 11 0 := ⟨_, rfl⟩
  have f1 : ∀ kd f a j, ¬ (kd = 2 ∧ f = fl ∧ a = k ∧ j = 11) → v1.1 kd f a j = v.1 kd f a j := fun kd f a j h => by rw [h1, zset_F, if_neg h]
  have f1' : v1.1 2 fl k 11 = 0 := by rw [h1, zset_F, if_pos ⟨rfl, rfl, rfl, rfl⟩]
  have q1 : v1.2 = v.2 := by rw [h1]; rfl
  have hkb : ¬ v_X3_kind v_X3_barrier = 0 := by rw [ba_kind]; decide
  have hF2 : (w_X8_emit S v1 fl k v_X3_barrier).1 = v1.1 := by rw [emit_F hn, if_neg hkb]
  have hr2 := emit_row hn v1 fl k v_X3_barrier
  have hE2 := emit_EM hn v1 fl k v_X3_barrier
  have hg2 : (w_X8_emit S v1 fl k v_X3_barrier).2.1 = v.2.1 := by rw [(loc_X8_emit S v1 fl k v_X3_barrier Loc.rf).1, q1]
  have hEv : EM S fl k v (w_X8_emit S v1 fl k v_X3_barrier) [v_X3_barrier] := by unfold EM at *; rw [← q1]; exact hE2
  have hb : w_X2_passBarrier S v fl k = (fun w2 : TW => if (nI fl) = 0 then zlet (w_X9_become S w2 fl (3 * k + (w2.2.1 fl k).2) fl (3 * k)) (fun w4 => zlet (zset w4 6 fl 0 7 ((w4.1 6 fl 0 7) - 1)) (fun w5 => if (w5.1 6 fl 0 7) = 0 then zlet (w_X2_completeCheckpoint S w5 fl) (fun w7 => w7) else w5)) else w2) (w_X8_emit S v1 fl k v_X3_barrier) := by
    unfold w_X2_passBarrier
    rw [zlet_eq, zlet_eq, h1]
  rw [hb]
  dsimp only
  generalize w_X8_emit S v1 fl k v_X3_barrier = v2 at *
  have f2 : ∀ kd f a j, ¬ (kd = 2 ∧ f = fl ∧ a = k ∧ j = 11) → v2.1 kd f a j = v.1 kd f a j := fun kd f a j h => by rw [hF2]; exact f1 kd f a j h
  have r2 : ∀ i, i ≠ ri fl k → v2.2.2 i = v.2.2 i := fun i hi => by rw [hr2 i hi, q1]
  by_cases c0 : fl = 0
  · have e0 : nI fl = 0 := by rw [c0]; rfl
    rw [if_pos e0, hg2]
    simp only [zlet_eq]
    have hrr : ∀ x, x < 4 → v2.2.2 (rs x fl (3 * k)) = v.2.2 (rs x fl (3 * k)) := fun x hx => r2 _ (rs_ri hx hf (by omega))
    have hrc : ∀ x, x < 4 → v2.2.2 (rs x fl (3 * k + (v.2.1 fl k).2)) = v.2.2 (rs x fl (3 * k + (v.2.1 fl k).2)) := fun x hx => r2 _ (rs_ri hx hf (by omega))
    obtain ⟨b, b1, b2, b3, b4, b5, b6⟩ := sb_ok (S := S) v2 fl (3 * k + (v.2.1 fl k).2) fl (3 * k) hf hf (by omega) (fun x hx => by rw [hrr x hx]; exact hl x hx)
    rw [b1]
    have e7 : b.1 6 fl 0 7 = v.1 6 fl 0 7 := by rw [b4 _ _ _ _ (by omega), f2 _ _ _ _ (by omega)]
    rw [e7]
    obtain ⟨c, hc⟩ : ∃ c, c = zset b 6 fl 0 7 (v.1 6 fl 0 7 - 1) := ⟨_, rfl⟩
    have e7' : c.1 6 fl 0 7 = v.1 6 fl 0 7 - 1 := by rw [hc, zset_F, if_pos ⟨rfl, rfl, rfl, rfl⟩]
    have cF : ∀ kd f a j, ¬ (kd = 6 ∧ f = fl ∧ a = 0 ∧ j = 7) → c.1 kd f a j = b.1 kd f a j := fun kd f a j h => by rw [hc, zset_F, if_neg h]
    have cq : c.2 = b.2 := by rw [hc]; rfl
    have hri : ∀ x, x < 4 → ri fl k ≠ rs x fl (3 * k + (v.2.1 fl k).2) := fun x hx e => rs_ri hx hf (by omega) e.symm
    have hPBA : PBA S fl k v c := by
      refine ⟨?_, ?_, fun kd f a j n1 n2 n3 => ?_, ?_, fun i i1 i2 => ?_, fun _ => ⟨fun j hj => ?_, fun x hx => ⟨?_, fun B B1 B2 B3 => ?_⟩, e7'⟩⟩
      · unfold EM at *
        rw [cq, b6 _ (fun x hx => hri x hx)]
        exact hEv
      · rw [cq, b2, hg2]
      · rw [cF _ _ _ _ (fun h => n3 ⟨c0, h⟩), b4 _ _ _ _ (fun h => n2 ⟨c0, h⟩), f2 _ _ _ _ n1]
      · rw [cF _ _ _ _ (by omega), b4 _ _ _ _ (by omega), hF2, f1']
      · rw [cq, b6 i (fun x hx => i2 c0 x hx), r2 i i1]
      · rw [cF _ _ _ _ (by omega), b3 j hj, f2 _ _ _ _ (by omega)]
      · rw [cq, (b5 x hx).1, hrr x hx]
      · rw [cq]
        exact (b5 x hx).2 B (by rw [hrc x hx]; exact B1) (by rw [hrr x hx]; exact B2) B3
    refine ⟨c, hPBA, Or.inr ?_⟩
    rw [← hc, e7']
    by_cases c7 : v.1 6 fl 0 7 - 1 = 0
    · rw [if_pos c7]; exact Or.inr ⟨c0, c7, rfl⟩
    · rw [if_neg c7]; exact Or.inl ⟨c0, c7, rfl⟩
  · have e0 : ¬ nI fl = 0 := nI_ne0 (by omega) (by omega)
    rw [if_neg e0]
    refine ⟨v2, ⟨hEv, hg2, fun kd f a j n1 _ _ => f2 kd f a j n1, by rw [hF2, f1'], fun i i1 _ => r2 i i1, fun h => absurd h c0⟩, Or.inl ⟨c0, rfl⟩⟩
