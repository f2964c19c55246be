/-! ===== which rows a step leaves alone ===== -/
theorem loc_rows {fl k i : Nat} {w b : TW} (h : Loc fl k w b) (h1 : ∀ x s, x < 4 → s < 3 → i ≠ rs x fl (3 * k + s)) (h2 : i ≠ ri fl k) (h3 : i ≠ ro fl k) : b.2.2 i = w.2.2 i := h.2.2 i (fun h => by
  rcases h with h | h | h | h | h | h
  · exact h1 0 0 (by omega) (by omega) h
  · exact h1 1 0 (by omega) (by omega) h
  · exact h1 2 0 (by omega) (by omega) h
  · exact h1 3 0 (by omega) (by omega) h
  · exact h2 h
  · exact h3 h)
theorem pass_rows {S : TS} (hn : zn S ≤ 12) (v : TW) (fl k i : Nat) (hf : fl < 2) (hk : k < 12) (hG : GS v.2.1) (hl : ∀ x, x < 4 → (v.2.2 (rs x fl (3 * k))).2.length < 2 ^ 31) (h1 : ∀ x s, x < 4 → s < 3 → i ≠ rs x fl (3 * k + s)) (h2 : i ≠ ri fl k) : (w_X2_passBarrier S v fl k).2.2 i = v.2.2 i := by
  obtain ⟨c, c1, c2⟩ := pb_ok hn v fl k hf hk hG hl
  have hg := hG fl k
  have e : c.2.2 i = v.2.2 i := c1.2.2.2.2.1 i h2 (fun _ x hx => h1 x _ hx (by omega))
  rcases c2 with ⟨-, f⟩ | ⟨-, -, f⟩ | ⟨-, -, f⟩
  · rw [f, e]
  · rw [f, e]
  · rw [f]
    obtain ⟨y, y1, y2, -⟩ := cc_ok (S := S) c fl
    rw [y1, y2, e]
theorem step_rows {S : TS} {so : Nat → Nat} {w : TW} {fl k C : Nat} {N M : Nat → Nat} (hGI : GI S so w) (hG : GS w.2.1) (hf : fl < 2) (hB : BI S so w fl N M C) (hN : ∀ j, j < zn S → N j + 100 ≤ 4194304) (hk : k < zn S) (hcw : ¬ v_X8_canWork S w.1 w.2.1 w.2.2 fl k (w.1 6 fl 0 2) = 0) (i : Nat) (h1 : ∀ x s, x < 4 → s < 3 → i ≠ rs x fl (3 * k + s)) (h2 : i ≠ ri fl k) (h3 : i ≠ ro fl k) : (w_X2_step S w fl k).1.2.2 i = w.2.2 i := by
  obtain ⟨hn, hz, hgi⟩ := hGI
  obtain ⟨hC, hcap, hC9, hSB⟩ := hB
  have hk12 : k < 12 := by omega
  obtain ⟨hpl, -⟩ := hgi k hk
  obtain ⟨w2, hP0, hST⟩ := step_cases (S := S) (w := w) (fl := fl) (k := k) (so := so k) (C := C) (B := 4194304) hn hz hf hk hC (fun u hu => (hSB u hu).2.2.1.mono (by have := hN u hu; omega)) (Nat.le_refl _) hcap (by omega) hpl.1 hpl.2.1 hcw
  obtain ⟨p1, -, -, p4, -⟩ := hP0
  have hG2 : GS w2.2.1 := by rw [p1]; exact hG
  have e2 : w2.2.2 i = w.2.2 i := p4 i h2
  have low : ∀ v : TW, v.2.2 = w2.2.2 → ∀ x, x < 4 → (v.2.2 (rs x fl (3 * k))).2.length < 2 ^ 31 := fun v hv x hx => by
    rw [hv, p4 _ (rs_ri hx hf (by omega))]
    have hh := (hSB k hk).1 0 (by omega)
    have hNk := hN k hk
    have hx4 : x = 0 ∨ x = 1 ∨ x = 2 ∨ x = 3 := by omega
    rcases hx4 with rfl | rfl | rfl | rfl
    · have := hh.1.1.1; simp only [Nat.add_zero] at this; omega
    · have := hh.1.2.1.1; simp only [Nat.add_zero] at this; omega
    · have := hh.2.1.1.1; simp only [Nat.add_zero] at this; omega
    · have := hh.2.2.1.1.1; simp only [Nat.add_zero] at this; omega
  rcases hST with ⟨s0, ow, hr⟩ | ⟨s0, ow, hr⟩ | ⟨s0, kd, x, rest, w3, hc, hsh, hpd, hw3, hk3⟩
  · rw [hr]; show (w_X2_passBarrier S w2 fl k).2.2 i = _
    rw [pass_rows hn w2 fl k i hf hk12 hG2 (low w2 rfl) h1 h2, e2]
  · rw [hr]; show (w_X8_raiseMark S (w_X8_read S w2 fl k).1 fl k (w_X8_read S w2 fl k).2).2.2 i = _
    rw [loc_rows (loc_X8_raiseMark S _ fl k _ (loc_X8_read S w2 fl k Loc.rf)) h1 h2 h3, e2]
  · have hq3 : w3.2 = w2.2 := by rw [hw3]; rfl
    have hqq : w3.2.2 = w2.2.2 := by rw [hq3]
    have hG3 : GS w3.2.1 := by rw [hq3]; exact hG2
    have e3 : w3.2.2 i = w.2.2 i := by rw [hqq, e2]
    rcases hk3 with ⟨k0, hr⟩ | ⟨k1, hr⟩ | ⟨k0, k1, o, hr⟩ | ⟨k0, k1, o, hr⟩
    · rw [hr]; show (w_X8_takeEvent S w3 fl k x (nI (kd - 4))).2.2 i = _
      rw [loc_rows (loc_X8_takeEvent S w3 fl k x _ Loc.rf) h1 h2 h3, e3]
    · rw [hr]; show (w_X8_raiseMark S (w_X8_leastMark S w3 fl k (v_X3_time x) (nI (kd - 4))).1 fl k (w_X8_leastMark S w3 fl k (v_X3_time x) (nI (kd - 4))).2).2.2 i = _
      rw [loc_rows (loc_X8_raiseMark S _ fl k _ (loc_X8_leastMark S w3 fl k _ _ Loc.rf)) h1 h2 h3, e3]
    · rw [hr]; show (w_X2_takeBarrier S w3 fl k kd (9 - kd)).2.2 i = _
      unfold w_X2_takeBarrier
      simp only [zlet_eq]
      split
      · exact e3
      · rw [pass_rows hn (zset w3 (9 - kd) fl k 2 0) fl k i hf hk12 hG3 (low _ hqq) h1 h2]; exact e3
    · rw [hr]; show (w_X2_takeBarrierN S w3 fl k kd).2.2 i = _
      unfold w_X2_takeBarrierN
      simp only [zlet_eq]
      rw [pass_rows hn w3 fl k i hf hk12 hG3 (low w3 hqq) h1 h2, e3]
/-! ===== worlds that agree on a flow ===== -/
def AG (f : Nat) (w b : TW) : Prop := (∀ kd a j, kd ≠ 7 → b.1 kd f a j = w.1 kd f a j) ∧ (∀ x st, x < 4 → st < 36 → b.2.2 (rs x f st) = w.2.2 (rs x f st)) ∧ (∀ k, k < 12 → b.2.2 (ri f k) = w.2.2 (ri f k)) ∧ (∀ k, k < 12 → b.2.2 (ro f k) = w.2.2 (ro f k)) ∧ (∀ k, k < 12 → b.2.2 (rl k) = w.2.2 (rl k)) ∧ ∀ k, b.2.1 f k = w.2.1 f k
theorem AG.rf {f : Nat} {w : TW} : AG f w w := ⟨fun _ _ _ _ => rfl, fun _ _ _ _ => rfl, fun _ _ => rfl, fun _ _ => rfl, fun _ _ => rfl, fun _ => rfl⟩
theorem AG.tr {f : Nat} {a b c : TW} (h : AG f a b) (g : AG f b c) : AG f a c := ⟨fun kd x j n => (g.1 kd x j n).trans (h.1 kd x j n), fun x st a b => (g.2.1 x st a b).trans (h.2.1 x st a b), fun k hk => (g.2.2.1 k hk).trans (h.2.2.1 k hk), fun k hk => (g.2.2.2.1 k hk).trans (h.2.2.2.1 k hk), fun k hk => (g.2.2.2.2.1 k hk).trans (h.2.2.2.2.1 k hk), fun k => (g.2.2.2.2.2 k).trans (h.2.2.2.2.2 k)⟩
theorem AG.pnd {S : TS} {f : Nat} {w b : TW} (hn : zn S ≤ 12) (hz : zok S) (h : AG f w b) {kd c : Nat} (hc : CI S kd c) : pend S b f kd c = pend S w f kd c ∧ gvn b f kd c = gvn w f kd c ∧ b.2.2 (rin S f kd c) = w.2.2 (rin S f kd c) := by
  have hu : src S kd c < c := hc.lt hz
  have hcn := hc.2.1
  have h45 := hc.1
  have e1 : gvn b f kd c = gvn w f kd c := by unfold gvn; rw [h.1 _ _ _ (by omega)]
  have e2 : b.2.2 (rin S f kd c) = w.2.2 (rin S f kd c) := h.2.2.1 _ (by show src S kd c < 12; omega)
  exact ⟨by unfold pend; rw [e1, e2], e1, e2⟩
theorem AG.chk {S : TS} {f : Nat} {w b : TW} (hn : zn S ≤ 12) (hz : zok S) (h : AG f w b) (hC : CHK S w f) : CHK S b f := fun kd c hc => by
  have h45 := hc.1
  obtain ⟨-, e1, e2⟩ := h.pnd hn hz hc
  rw [e1, e2, h.1 _ _ _ (by omega)]
  exact hC kd c hc
theorem SB.ag {so f k N M : Nat} {w b : TW} (hk : k < 12) (h : AG f w b) (hS : SB so w f k N M) : SB so b f k N M := by
  obtain ⟨h1, h2, h3, h4, h5, h6⟩ := hS
  obtain ⟨a1, a2, a3, a4, a5, -⟩ := h
  refine ⟨fun s hs => (h1 s hs).same (fun x hx => a2 _ _ hx (by omega)), fun s hs i hi => by rw [a1 _ _ _ (by omega)]; exact h2 s hs i hi, by rw [a3 k hk]; exact h3, by rw [a4 k hk]; exact h4, by rw [a3 k hk]; exact h5, fun h0 s hs => ?_⟩
  obtain ⟨tk, x, y⟩ := h6 h0 s hs
  exact ⟨tk, by rw [a1 _ _ _ (by omega)]; exact x, by rw [a5 k hk]; exact y⟩
theorem BI.ag {S : TS} {so : Nat → Nat} {w b : TW} {f : Nat} {N M : Nat → Nat} {C : Nat} (hn : zn S ≤ 12) (hz : zok S) (h : AG f w b) (hB : BI S so w f N M C) : BI S so b f N M C :=
  ⟨h.chk hn hz hB.1, by rw [h.1 _ _ _ (by omega)]; exact hB.2.1, hB.2.2.1, fun k hk => (hB.2.2.2 k hk).ag (by omega) h⟩
theorem BI.mono {S : TS} {so : Nat → Nat} {w : TW} {f : Nat} {N M N' M' : Nat → Nat} {C : Nat} (hB : BI S so w f N M C) (hN : ∀ j, N j ≤ N' j) (hM : ∀ j, M j ≤ M' j) : BI S so w f N' M' C :=
  ⟨hB.1, hB.2.1, hB.2.2.1, fun k hk => (hB.2.2.2 k hk).mono (hN k) (hM k)⟩
theorem PI.ag {S : TS} {so : Nat → Nat} {cl : Prop} {T : Nat} {w b : TW} {P : Nat → Bool} (hn : zn S ≤ 12) (hz : zok S) (hG : GS w.2.1) (h : AG 0 w b) (hP : PI S so cl T w P) : PI S so cl T b P := by
  obtain ⟨a1, a2, a3, a4, a5, a6⟩ := h
  have hs : ∀ st i, sI b st i = sI w st i := fun st i => by unfold sI; rw [a1 _ _ _ (by omega)]
  refine ⟨fun k hk => ?_, fun kd c hc => ?_, ?_⟩
  · obtain ⟨p1, p2, p3, p4, p5, p6, p7, p8, p9⟩ := hP.1 k hk
    have hg := hG 0 k
    have cp : ∀ s, s < 3 → SI S (so k) cl T w k (3 * k + s) → SI S (so k) cl T b k (3 * k + s) := fun s hs h => h.same (fun j => a1 _ _ _ (by omega)) (fun x hx => a2 _ _ hx (by omega)) (a5 k (by omega))
    refine ⟨cp 0 (by omega) p1, by rw [a6]; exact cp _ (by omega) p2, fun h => by rw [a6]; exact cp _ (by omega) (p3 h), by rw [a6, hs, hs]; exact p4, fun h => by rw [a6, hs, hs]; exact p5 h, fun h => by rw [a1 _ _ _ (by omega)]; exact p6 h, fun h => by rw [a1 _ _ _ (by omega), a1 _ _ _ (by omega)]; exact p7 h, fun h => p8 (by rw [← a1 _ _ _ (by omega)]; exact h), fun kd hc hsh => ?_⟩
    have h45 := hc.1
    rw [a1 _ _ _ (by omega)] at hsh
    obtain ⟨x, y⟩ := p9 kd hc hsh
    exact ⟨x, by rw [a1 _ _ _ (by omega)]; exact y⟩
  · have h45 := hc.1
    obtain ⟨e, -⟩ := AG.pnd hn hz ⟨a1, a2, a3, a4, a5, a6⟩ hc
    obtain ⟨⟨p1, p2, p3⟩, p4, p5⟩ := hP.2.1 kd c hc
    exact ⟨⟨by rw [e, hs]; exact p1, by rw [e, hs, hs]; exact p2, by rw [a6, a6, hs, hs]; exact p3⟩, by rw [e, a1 _ _ _ (by omega), hs, a6, hs]; exact p4, fun h => by rw [a6, a6, hs, hs]; exact p5 h⟩
  · unfold PG
    rw [a1 _ _ _ (by omega), a1 _ _ _ (by omega)]
    exact hP.2.2
theorem GI.ag {S : TS} {so : Nat → Nat} {w b : TW} (h : GI S so w) (h8 : ∀ a j, b.1 8 0 a j = w.1 8 0 a j) (hl : ∀ k, k < 12 → b.2.2 (rl k) = w.2.2 (rl k)) : GI S so b := by
  obtain ⟨hn, hz, hg⟩ := h
  refine ⟨hn, hz, fun k hk => ?_⟩
  obtain ⟨a, c, d⟩ := hg k hk
  rw [hl k (by omega)]
  exact ⟨a.same (fun j => h8 k j), c, d⟩
/-- the other flow, behind a step -/
theorem step_ag {S : TS} {so : Nat → Nat} {w : TW} {fl f k C : Nat} {N M : Nat → Nat} (hGI : GI S so w) (hG : GS w.2.1) (hf : fl < 2) (hf2 : f < 2) (hne : f ≠ fl) (hB : BI S so w fl N M C) (hN : ∀ j, j < zn S → N j + 100 ≤ 4194304) (hk : k < zn S) (hcw : ¬ v_X8_canWork S w.1 w.2.1 w.2.2 fl k (w.1 6 fl 0 2) = 0) : AG f w (w_X2_step S w fl k).1 := by
  have hfl := fl_X2_step S w fl k (w0 := w) FL.rf
  have hk12 : k < 12 := by have := hGI.1; omega
  have hr := step_rows hGI hG hf hB hN hk hcw
  refine ⟨fun kd a j _ => hfl.1 _ _ _ _ (Or.inl hne), fun x st hx hst => hr _ (fun y s hy hs e => hne (rs_eq hx hy hf2 hf e).2.1) (rs_ri hx hf2 hst) (fun e => ro_rs hx hf2 hst e.symm), fun j hj => hr _ (fun y s hy hs e => rs_ri hy hf (by omega) e.symm) (fun e => by unfold ri at e; omega) (fun e => by unfold ri ro at e; omega), fun j hj => hr _ (fun y s hy hs e => ro_rs hy hf (by omega) e) (fun e => by unfold ri ro at e; omega) (fun e => by unfold ro at e; omega), fun j hj => hr _ (fun y s hy hs e => rl_rs hy hf (by omega) e) (rl_ri hf hk12) (rl_ro hf hk12), fun j => hfl.2.2 _ _ hne⟩
theorem step_gi {S : TS} {so : Nat → Nat} {w : TW} {fl k C : Nat} {N M : Nat → Nat} (hGI : GI S so w) (hG : GS w.2.1) (hf : fl < 2) (hB : BI S so w fl N M C) (hN : ∀ j, j < zn S → N j + 100 ≤ 4194304) (hk : k < zn S) (hcw : ¬ v_X8_canWork S w.1 w.2.1 w.2.2 fl k (w.1 6 fl 0 2) = 0) : GI S so (w_X2_step S w fl k).1 ∧ (∀ j, j < 12 → (w_X2_step S w fl k).1.2.2 (rl j) = w.2.2 (rl j)) := by
  have hfl := fl_X2_step S w fl k (w0 := w) FL.rf
  have hk12 : k < 12 := by have := hGI.1; omega
  have hr := step_rows hGI hG hf hB hN hk hcw
  have hl : ∀ j, j < 12 → (w_X2_step S w fl k).1.2.2 (rl j) = w.2.2 (rl j) := fun j hj => hr _ (fun y s hy hs e => rl_rs hy hf (by omega) e) (rl_ri hf hk12) (rl_ro hf hk12)
  exact ⟨hGI.ag (fun a j => hfl.1 _ _ _ _ (Or.inr (Or.inr rfl))) hl, hl⟩
