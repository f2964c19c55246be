theorem PI.mono {S : TS} {so : Nat → Nat} {cl : Prop} {T T' : Nat} {w : TW} {P : Nat → Bool} (h : PI S so cl T w P) (ht : T ≤ T') : PI S so cl T' w P := by
  refine ⟨fun k hk => ?_, h.2⟩
  obtain ⟨p1, p2, p3, p4⟩ := h.1 k hk
  exact ⟨p1.mono ht, p2.mono ht, fun hP => (p3 hP).mono ht, p4⟩
theorem pass_PI {S : TS} {so : Nat → Nat} {cl : Prop} {T k : Nat} {w v : TW} {P : Nat → Bool} (hn : zn S ≤ 12) (hz : zok S) (hG : GS w.2.1) (hk : k < zn S) (hC : CHK S v 0) (h : PI S so cl T w P) (hPk : P k = false) (hbg : ¬ w.1 6 0 0 5 = 0) (hl : ∀ x, x < 4 → (v.2.2 (rs x 0 (3 * k))).2.length < 2 ^ 31)
    (v1 : ∀ st j, st < 36 → ¬ (st = 3 * k ∧ j = 3) → v.1 0 0 st j = w.1 0 0 st j) (v2 : ∀ kd a, CI S kd a → a ≠ k → v.1 kd 0 a 2 = w.1 kd 0 a 2) (v3 : ∀ kd, CI S kd k → v.1 kd 0 k 2 = 0) (v4 : v.2 = w.2) (v5 : ∀ a j, v.1 2 0 a j = w.1 2 0 a j) (v6 : ∀ j, j ≠ 3 → v.1 6 0 0 j = w.1 6 0 0 j) (v7 : ∀ kd a, CI S kd a → a ≠ k → pend S v 0 kd a = pend S w 0 kd a)
    (v8 : ∀ kd, CI S kd k → nob (pend S v 0 kd k) ∧ LK (EE (src S kd k)) cl (sI w (3 * k) (kd - 3)) (pend S v 0 kd k) ∧ lm (sI w (3 * k) (kd - 3)) (pend S v 0 kd k) = sI w (3 * src S kd k) 0 ∧ sI w (3 * k) (kd - 3) = sI w (3 * src S kd k + (w.2.1 0 (src S kd k)).2) 0 ∧ P (src S kd k) = true) :
    ∃ P', PI S so cl T (w_X2_passBarrier S v 0 k) P' ∧ ∀ j, j < zn S → sI (w_X2_passBarrier S v 0 k) (3 * j) 0 = sI w (3 * j) 0 := by
  have hGv : GS v.2.1 := by rw [v4]; exact hG
  obtain ⟨c, c1, c2⟩ := pb_ok hn v 0 k (by omega) (by omega) hGv hl
  have hD := PD_of hn hz hG hk hC v1 v2 v3 v4 v5 v6 v7 v8 c1
  obtain ⟨a1, a2⟩ := PI_pass hz hn hG hk h hD hPk
  obtain ⟨d1, d2, d3, d4, d5, d6, d7, d8, d9, -⟩ := hD
  obtain ⟨g1, g2⟩ := h.2.2.2 hbg
  have hcn := cnP_k (P := P) hk hPk
  have hle := cnP_le P (zn S)
  have e7 : v.1 6 0 0 7 - 1 = nI (cnP (Pk P k) (zn S)) := by rw [v6 7 (by omega), g1, ← hcn, nI_pred]
  have hg := hG 0 k
  have mk : ∀ j, j < zn S → sI c (3 * j) 0 = sI w (3 * j) 0 := fun j hj => by unfold sI; rw [d1 _ _ (by omega) (by omega) (by omega)]
  rcases c2 with ⟨e, -⟩ | ⟨-, e, f⟩ | ⟨-, e, f⟩
  · exact absurd rfl e
  · rw [f]
    refine ⟨Pk P k, ⟨a1, a2, ⟨fun h0 => absurd (by rw [← d8 5 (by omega) (by omega)]; exact h0) hbg, fun _ => ⟨?_, ?_⟩⟩⟩, mk⟩
    · rw [d9, ← v6 7 (by omega)]; exact e7
    · rw [e7] at e
      exact Nat.pos_of_ne_zero (fun h0 => e (by rw [h0]; rfl))
  · rw [f]
    rw [e7] at e
    have h0 : cnP (Pk P k) (zn S) = 0 := (nI_eq (a := cnP (Pk P k) (zn S)) (b := 0) (by omega) (by omega)).mp e
    obtain ⟨y, y1, y2, y3, y4, y5⟩ := cc_ok (S := S) c 0
    rw [y1]
    exact ⟨_, PI_cc hn hz a1 a2 (cnP_0 h0) y2 y3 y4 y5, fun j hj => by unfold sI; rw [y3 _ _ _ _ (by omega)]; exact mk j hj⟩
theorem LD_of {S : TS} {k : Nat} {w2 w3 b : TW} {L : List Int64} (hn : zn S ≤ 12) (hz : zok S) (hk : k < zn S) (hC3 : CHK S w3 0) (hL : Loc 0 k w3 b) (hE : EM S 0 k w3 b L) (q3 : w3.2 = w2.2) (f3 : ∀ kd f a j, ¬ (a = k ∧ j = 1 ∧ (kd = 4 ∨ kd = 5)) → ¬ (kd = 0 ∧ f = 0 ∧ a = 3 * k) → w3.1 kd f a j = w2.1 kd f a j) (p3 : ∀ kd c, CI S kd c → c ≠ k → pend S w3 0 kd c = pend S w2 0 kd c)
    (hin : ∀ kd, CI S kd k → (pend S w3 0 kd k = pend S w2 0 kd k ∧ sI b (3 * k) (kd - 3) = sI w2 (3 * k) (kd - 3)) ∨ (∃ x, ¬ isB x ∧ pend S w2 0 kd k = x :: pend S w3 0 kd k ∧ sI b (3 * k) (kd - 3) = lm1 (sI w2 (3 * k) (kd - 3)) x ∧ w2.1 kd 0 k 2 = 0)) : LD S k w2 b L := by
  have hch := hL.ch (by omega) (by omega)
  obtain ⟨-, r2, r3⟩ := eff_emit hn hz hC3 hE hch.1 hch.2
  have hq : w3.2.2 = w2.2.2 := by rw [q3]
  have no : ∀ i, (∀ x, x < 4 → i ≠ rs x 0 (3 * k)) → i ≠ ri 0 k → i ≠ ro 0 k → b.2.2 i = w2.2.2 i := fun i a b c => by
    rw [hL.2.2 i (fun h => by
      rcases h with h | h | h | h | h | h
      · exact a 0 (by omega) h
      · exact a 1 (by omega) h
      · exact a 2 (by omega) h
      · exact a 3 (by omega) h
      · exact b h
      · exact c h), hq]
  have hF : ∀ kd f a j, ¬ (kd = 0 ∧ f = 0 ∧ a = 3 * k) → ¬ (a = k ∧ j = 1 ∧ (kd = 4 ∨ kd = 5)) → b.1 kd f a j = w2.1 kd f a j := fun kd f a j h1 h2 => (hL.2.1 kd f a j h1).trans (f3 kd f a j h2 h1)
  refine ⟨fun st j h1 h2 => hF _ _ _ _ (by omega) (by omega), fun kd c hc => ?_, hL.1.trans (by rw [q3]), fun c j => hF _ _ _ _ (by omega) (by omega), fun j _ => hF _ _ _ _ (by omega) (by omega), fun x st hx h1 h2 => ?_, fun j => no _ (fun x hx e => rl_rs hx (by omega) (by omega) e) (rl_ri (by omega) (by omega)) (rl_ro (by omega) (by omega)), fun kd c hc hs => ?_, fun kd hc => ?_, fun kd c hc hs hck => ?_⟩
  · have := hc.1
    exact hF _ _ _ _ (by omega) (by omega)
  · exact no _ (fun y hy e => by have := (rs_eq hx hy (by omega) (by omega) e).2.2; omega) (rs_ri hx (by omega) h1) (fun e => ro_rs hx (by omega) h1 e.symm)
  · have hu : src S kd c < c := hc.lt hz
    rw [r2 kd c hc hs, p3 kd c hc (by omega)]
  · have hu : src S kd k < k := hc.lt hz
    rw [r3 kd k hc (by show src S kd k ≠ k; omega)]
    exact hin kd hc
  · rw [r3 kd c hc hs, p3 kd c hc hck]
theorem OKm.lt {cl : Prop} {m : Int} (h : OKm cl m) : m ≤ 1000000 := by
  obtain ⟨-, h | h⟩ := h <;> omega
theorem OKm.nl {cl : Prop} {m : Int} (h : OKm cl m) (h1 : m ≠ 1000000) : m < 1000000 := by have := h.lt; omega
/-- counts behind a raising: nothing changes that they speak of -/
theorem SIc.same {so T : Nat} {w b : TW} {st : Nat} (h : SIc so T w st) (h4 : b.1 0 0 st 4 = w.1 0 0 st 4) (h6 : b.1 0 0 st 6 = w.1 0 0 st 6) (h7 : b.1 0 0 st 7 = w.1 0 0 st 7) (h5 : so ≠ 3 → so ≠ 4 → b.1 0 0 st 5 = w.1 0 0 st 5) : SIc so T b st := by
  obtain ⟨tk, lt, a, c, d, e, f, g, i⟩ := h
  exact ⟨tk, lt, by rw [h4]; exact a, by rw [h6]; exact c, d, e, fun h => by rw [h5 (by omega) (by omega), h4]; exact f h, fun h => by rw [h5 (by omega) (by omega)]; exact g h, fun h => by rw [h5 (by omega) (by omega), h4, h7]; exact i h⟩
/-- .. behind an event -/
theorem SIc.ev {S : TS} {so T k E N : Nat} {w b : TW} (h : SIc so T w (3 * k)) (h0 : so ≠ 0) (hT : TEV S 0 k so E N w b) : SIc so (T + 1) b (3 * k) := by
  obtain ⟨tk, lt, a, c, d, e, f, g, i⟩ := h
  obtain ⟨L, -, -, -, -, -, t4, t6, t1, t2, t7, t8, -⟩ := hT
  have e4 : b.1 0 0 (3 * k) 4 = nI (tk + 1) := by rw [t4, a, nI_1]
  have e6 : ∃ lt', b.1 0 0 (3 * k) 6 = nI lt' ∧ lt' ≤ tk + 1 := by
    rcases t6 with h | h
    · exact ⟨lt, by rw [h, c], by omega⟩
    · exact ⟨lt + 1, by rw [h, c, nI_1], by omega⟩
  obtain ⟨lt', l1, l2⟩ := e6
  refine ⟨tk + 1, lt', e4, l1, l2, by omega, fun h => ?_, fun h => ?_, fun h => ?_⟩
  · rw [t4, t2 (h.resolve_left h0), f h]
  · obtain ⟨em, m1, m2⟩ := g h
    rcases t1 h with h5 | h5
    · exact ⟨em, by rw [h5, m1], by omega⟩
    · exact ⟨em + 1, by rw [h5, m1, nI_1], by omega⟩
  · obtain ⟨i1, i2⟩ := i h
    obtain ⟨x, y⟩ := t7 h
    exact ⟨by rw [x, i1], by rw [y, t4, i2]⟩
theorem sI_nI {w : TW} {st j n : Nat} (h : w.1 0 0 st j = nI n) (hn : n < 2147483648) : sI w st j = n := by unfold sI; rw [h, zi_nI hn]
