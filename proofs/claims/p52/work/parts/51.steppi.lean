/-! ===== a step, as the protocol sees it ===== -/
theorem PI_gen {S : TS} {so : Nat → Nat} {cl : Prop} {T k : Nat} {w b : TW} {P : Nat → Bool} (hz : zok S) (hn : zn S ≤ 12) (hG : GS w.2.1) (hk : k < zn S) (h : PI S so cl T w P)
    (d1 : ∀ st j, st < 36 → st ≠ 3 * k → b.1 0 0 st j = w.1 0 0 st j) (d2 : ∀ kd c, CI S kd c → c ≠ k → b.1 kd 0 c 2 = w.1 kd 0 c 2) (d3 : b.2.1 = w.2.1) (d4 : ∀ c j, b.1 2 0 c j = w.1 2 0 c j) (d5 : ∀ j, j ≠ 3 → b.1 6 0 0 j = w.1 6 0 0 j) (d6 : ∀ x st, x < 4 → st < 36 → st ≠ 3 * k → b.2.2 (rs x 0 st) = w.2.2 (rs x 0 st)) (d7 : ∀ j, b.2.2 (rl j) = w.2.2 (rl j))
    (d8 : ∀ i, i < 8 → i ≠ 3 → b.1 0 0 (3 * k) i = w.1 0 0 (3 * k) i) (d9 : ∀ x, x < 4 → b.2.2 (rs x 0 (3 * k)) = w.2.2 (rs x 0 (3 * k))) (d10 : ∀ kd c, CI S kd c → c ≠ k → pend S b 0 kd c = pend S w 0 kd c)
    (own : ∀ kd, CI S kd k → LK (EE (src S kd k)) cl (sI w (3 * k) (kd - 3)) (pend S b 0 kd k) ∧ lm (sI w (3 * k) (kd - 3)) (pend S b 0 kd k) = sI w (3 * src S kd k) 0 ∧ CH3 (pend S b 0 kd k) (b.1 kd 0 k 2) (sI w (3 * k) (kd - 3)) (sI w (3 * src S kd k + (w.2.1 0 (src S kd k)).2) 0) (P (src S kd k)) (P k))
    (nb : ∀ kd, CI S kd k → ¬ b.1 kd 0 k 2 = 0 → CI S (9 - kd) k ∧ b.1 (9 - kd) 0 k 2 = 0) : PI S so cl T b P := by
  obtain ⟨hPS, hPC, hPG⟩ := h
  have sF : ∀ j s i, j < zn S → s < 3 → i < 8 → i ≠ 3 → b.1 0 0 (3 * j + s) i = w.1 0 0 (3 * j + s) i := fun j s i hj hs hi h3 => by
    by_cases e : 3 * j + s = 3 * k
    · rw [e]; exact d8 i hi h3
    · exact d1 _ _ (by omega) e
  have sj : ∀ j s i, j < zn S → s < 3 → i < 8 → i ≠ 3 → sI b (3 * j + s) i = sI w (3 * j + s) i := fun j s i hj hs hi h3 => by unfold sI; rw [sF j s i hj hs hi h3]
  have sj0 : ∀ j i, j < zn S → i < 8 → i ≠ 3 → sI b (3 * j) i = sI w (3 * j) i := fun j i hj hi h3 => sj j 0 i hj (by omega) hi h3
  have hrs : ∀ j s x, j < zn S → s < 3 → x < 4 → b.2.2 (rs x 0 (3 * j + s)) = w.2.2 (rs x 0 (3 * j + s)) := fun j s x hj hs hx => by
    by_cases e : 3 * j + s = 3 * k
    · rw [e]; exact d9 x hx
    · exact d6 _ _ hx (by omega) e
  refine ⟨fun j hj => ?_, fun kd c hc => ?_, ?_⟩
  · obtain ⟨p1, p2, p3, p4, p5, p6, p7, p8, p9⟩ := hPS j hj
    have hg := hG 0 j
    have cp : ∀ s, s < 3 → SI S (so j) cl T w j (3 * j + s) → SI S (so j) cl T b j (3 * j + s) := fun s hs h => by
      unfold SI SIm SIc sI at *
      rw [sF j s 0 hj hs (by omega) (by omega), sF j s 1 hj hs (by omega) (by omega), sF j s 2 hj hs (by omega) (by omega), sF j s 4 hj hs (by omega) (by omega), sF j s 5 hj hs (by omega) (by omega), sF j s 6 hj hs (by omega) (by omega), sF j s 7 hj hs (by omega) (by omega), hrs j s 0 hj hs (by omega), hrs j s 2 hj hs (by omega), hrs j s 3 hj hs (by omega), d7 j]
      refine ⟨⟨fun i hi => ?_, h.1.2⟩, h.2⟩
      rw [sF j s i hj hs (by omega) (by omega)]
      exact h.1.1 i hi
    refine ⟨cp 0 (by omega) p1, ?_, fun hP => ?_, ?_, fun hP => ?_, fun h0 => by rw [d4]; exact p6 h0, fun h0 => by rw [d4, d5 5 (by omega)]; exact p7 h0, fun h0 => p8 (by rw [← d4]; exact h0), fun kd hc hs => ?_⟩
    · rw [d3]; exact cp _ (by omega) p2
    · rw [d3]; exact cp _ (by omega) (p3 hP)
    · rw [d3, sj j _ 4 hj (by omega) (by omega) (by omega), sj0 j 4 hj (by omega) (by omega)]; exact p4
    · rw [d3, sj j _ 4 hj (by omega) (by omega) (by omega), sj0 j 4 hj (by omega) (by omega)]; exact p5 hP
    · by_cases e : j = k
      · subst e; exact nb kd hc hs
      · rw [d2 kd j hc e] at hs
        obtain ⟨a, c⟩ := p9 kd hc hs
        exact ⟨a, by rw [d2 _ j a e]; exact c⟩
  · obtain ⟨⟨p1, p2, p3⟩, p4, p5⟩ := hPC kd c hc
    have hcn := hc.2.1
    have h45 := hc.1
    have hu : src S kd c < c := hc.lt hz
    have hgc := hG 0 c
    have hgu := hG 0 (src S kd c)
    have e3 : sI b (3 * c + (b.2.1 0 c).1) (kd - 3) = sI b (3 * src S kd c + (b.2.1 0 (src S kd c)).1) 0 := by
      rw [d3, sj c _ _ hcn (by omega) (by omega) (by omega), sj (src S kd c) _ _ (by omega) (by omega) (by omega) (by omega)]
      exact p3
    have e5 : P c = true → sI b (3 * c + (b.2.1 0 c).2) (kd - 3) = sI b (3 * src S kd c + (b.2.1 0 (src S kd c)).2) 0 := fun hP => by
      rw [d3, sj c _ _ hcn (by omega) (by omega) (by omega), sj (src S kd c) _ _ (by omega) (by omega) (by omega) (by omega)]
      exact p5 hP
    have ecm : sI b (3 * src S kd c + (b.2.1 0 (src S kd c)).2) 0 = sI w (3 * src S kd c + (w.2.1 0 (src S kd c)).2) 0 := by rw [d3, sj (src S kd c) _ _ (by omega) (by omega) (by omega) (by omega)]
    have emu : sI b (3 * src S kd c) 0 = sI w (3 * src S kd c) 0 := sj0 _ _ (by omega) (by omega) (by omega)
    have em : sI b (3 * c) (kd - 3) = sI w (3 * c) (kd - 3) := sj0 c _ hcn (by omega) (by omega)
    by_cases ec : c = k
    · subst ec
      obtain ⟨o1, o2, o3⟩ := own kd hc
      exact ⟨⟨by rw [em]; exact o1, by rw [em, emu]; exact o2, e3⟩, by rw [em, ecm]; exact o3, e5⟩
    · have ep := d10 kd c hc ec
      exact ⟨⟨by rw [ep, em]; exact p1, by rw [ep, em, emu]; exact p2, e3⟩, by rw [ep, em, d2 kd c hc ec, ecm]; exact p4, e5⟩
  · unfold PG at *
    rw [d5 5 (by omega), d5 7 (by omega)]
    exact hPG
/-- the barrier at the head of a channel -/
theorem CH3.bar {x : Int64} {rest : List Int64} {sh : Int32} {m cm : Int} {Pu Pc : Bool} (h : CH3 (x :: rest) sh m cm Pu Pc) (hx : isB x) : Pu = true ∧ Pc = false ∧ nob rest ∧ m = cm := by
  obtain ⟨h1, h2, h3⟩ := h
  have no : ¬ nob (x :: rest) := fun h => h x List.mem_cons_self hx
  cases Pu with
  | false => exact absurd (h1 rfl).1 no
  | true =>
    cases Pc with
    | true => exact absurd (h2 rfl rfl).1 no
    | false =>
      refine ⟨rfl, rfl, ?_⟩
      rcases h3 rfl rfl with ⟨-, p, -⟩ | ⟨-, A, b, B, e, f, g, i, j⟩
      · exact absurd p no
      · cases A with
        | nil =>
          have := List.cons.inj e
          rw [this.2]
          exact ⟨i, j⟩
        | cons y A =>
          have := (List.cons.inj e).1
          rw [this] at hx
          exact absurd hx (g y List.mem_cons_self)
/-- v: what stands behind the taking of a barrier, both inputs open; then it is passed -/
theorem PD_of {S : TS} {cl : Prop} {k : Nat} {w v c : TW} {P : Nat → Bool} (hn : zn S ≤ 12) (hz : zok S) (hG : GS w.2.1) (hk : k < zn S) (hC : CHK S v 0)
    (v1 : ∀ st j, st < 36 → ¬ (st = 3 * k ∧ j = 3) → v.1 0 0 st j = w.1 0 0 st j) (v2 : ∀ kd a, CI S kd a → a ≠ k → v.1 kd 0 a 2 = w.1 kd 0 a 2) (v3 : ∀ kd, CI S kd k → v.1 kd 0 k 2 = 0) (v4 : v.2 = w.2) (v5 : ∀ a j, v.1 2 0 a j = w.1 2 0 a j) (v6 : ∀ j, j ≠ 3 → v.1 6 0 0 j = w.1 6 0 0 j) (v7 : ∀ kd a, CI S kd a → a ≠ k → pend S v 0 kd a = pend S w 0 kd a)
    (v8 : ∀ kd, CI S kd k → nob (pend S v 0 kd k) ∧ LK (EE (src S kd k)) cl (sI w (3 * k) (kd - 3)) (pend S v 0 kd k) ∧ lm (sI w (3 * k) (kd - 3)) (pend S v 0 kd k) = sI w (3 * src S kd k) 0 ∧ sI w (3 * k) (kd - 3) = sI w (3 * src S kd k + (w.2.1 0 (src S kd k)).2) 0 ∧ P (src S kd k) = true)
    (hP : PBA S 0 k v c) : PD S cl k w c P := by
  have hGv : GS v.2.1 := by rw [v4]; exact hG
  have ev : v.2.1 = w.2.1 := by rw [v4]
  have eq : v.2.2 = w.2.2 := by rw [v4]
  have hch := hP.ch (by omega) (by omega) hGv
  obtain ⟨-, q2, q3⟩ := eff_emit hn hz hC hP.1 hch.1 hch.2
  have hg := hG 0 k
  obtain ⟨p1, p2, p3, p4, p5, p6⟩ := hP
  rw [ev] at p3 p5 p6
  obtain ⟨p61, p62, p63⟩ := p6 rfl
  refine ⟨fun st j h1 h2 h3 => ?_, fun j hj h3 => ?_, fun kd a hc ha => ?_, fun kd hc => ?_, p2.trans ev, fun a j h => ?_, p4, fun j h3 h7 => ?_, by rw [p63, v6 7 (by omega)], fun x st hx h1 h2 => ?_, fun x hx => ?_, fun j => ?_, fun kd a hc hs => ?_, fun kd a hc hs ha => ?_, fun kd hc => ?_⟩
  · rw [p3 _ _ _ _ (by omega) (by omega) (by omega)]; exact v1 st j h1 h3
  · rw [p61 j hj]; exact v1 _ _ (by omega) (by omega)
  · have h45 := hc.1
    rw [p3 _ _ _ _ (by omega) (by omega) (by omega)]; exact v2 kd a hc ha
  · have h45 := hc.1
    rw [p3 _ _ _ _ (by omega) (by omega) (by omega)]; exact v3 kd hc
  · rw [p3 _ _ _ _ (by omega) (by omega) (by omega)]; exact v5 a j
  · rw [p3 _ _ _ _ (by omega) (by omega) (by omega)]; exact v6 j h3
  · rw [p5 _ (rs_ri hx (by omega) h1) (fun _ y hy e => by have := (rs_eq hx hy (by omega) (by omega) e).2.2; omega), eq]
  · rw [(p62 x hx).1, eq]
  · rw [p5 _ (rl_ri (by omega) (by omega)) (fun _ y hy e => rl_rs hy (by omega) (by omega) e), eq]
  · have hu : src S kd a < a := hc.lt hz
    rw [q2 kd a hc hs, v7 kd a hc (by omega)]
  · rw [q3 kd a hc hs, v7 kd a hc ha]
  · have hu : src S kd k < k := hc.lt hz
    rw [q3 kd k hc (by show src S kd k ≠ k; omega)]
    exact v8 kd hc
