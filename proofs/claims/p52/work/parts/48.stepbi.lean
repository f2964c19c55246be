/-! ===== a step keeps what always holds ===== -/
theorem Loc.ch {fl k : Nat} {v b : TW} (hf : fl < 2) (hk : k < 12) (h : Loc fl k v b) : (∀ kd c, kd = 4 ∨ kd = 5 → b.1 kd fl c 1 = v.1 kd fl c 1) ∧ (∀ u, u < 12 → u ≠ k → b.2.2 (ri fl u) = v.2.2 (ri fl u)) :=
  ⟨fun kd c h45 => h.2.1 _ _ _ _ (by omega), fun u hu hne => (TOn.loc hf hk h).2.2.1 u hu hne⟩
theorem PBA.ch {S : TS} {fl k : Nat} {v c : TW} (hf : fl < 2) (hk : k < 12) (hG : GS v.2.1) (h : PBA S fl k v c) : (∀ kd a, kd = 4 ∨ kd = 5 → c.1 kd fl a 1 = v.1 kd fl a 1) ∧ (∀ u, u < 12 → u ≠ k → c.2.2 (ri fl u) = v.2.2 (ri fl u)) :=
  ⟨fun kd a h45 => h.2.2.1 _ _ _ _ (by omega) (by omega) (by omega), fun u hu hne => (TOn.pba hf hk hG h).2.2.1 u hu hne⟩
theorem SR.copy {so E N : Nat} {v c : TW} {fl st st' : Nat} (h : SR so E N v fl st) (h' : SR so E N v fl st') (hN : N ≤ 4194304) (hc : ∀ x, x < 4 → (c.2.2 (rs x fl st')).2 = (v.2.2 (rs x fl st)).2 ∧ ∀ B, RBd B (v.2.2 (rs x fl st')) → (v.2.2 (rs x fl st)).2.length ≤ B → B ≤ 4194304 → RBd B (c.2.2 (rs x fl st'))) : SR so E N c fl st' := by
  obtain ⟨⟨a1, a2, a3⟩, ⟨b1, b2, b3⟩, ⟨c1, c2, c3⟩, d, e⟩ := h
  obtain ⟨⟨a1', a2', a3'⟩, ⟨b1', b2', b3'⟩, ⟨c1', c2', c3'⟩, -, -⟩ := h'
  obtain ⟨q0, r0⟩ := hc 0 (by omega)
  obtain ⟨q1, r1⟩ := hc 1 (by omega)
  obtain ⟨q2, r2⟩ := hc 2 (by omega)
  obtain ⟨q3, r3⟩ := hc 3 (by omega)
  refine ⟨⟨r0 N a1' a1.1 hN, r1 N a2' a2.1 hN, by rw [q0]; exact a3⟩, ⟨r2 17 b1' b1.1 (by omega), by rw [q2]; exact b2, by rw [q2]; exact b3⟩, ⟨r3 17 c1' c1.1 (by omega), by rw [q3]; exact c2, by rw [q3]; exact c3⟩, fun h => by rw [q0]; exact d h, fun h => by rw [q2, q3]; exact e h⟩
theorem SB.same {so : Nat} {w b : TW} {fl k N M : Nat} (h : SB so w fl k N M) (hF : ∀ s i, s < 3 → i < 5 → i ≠ 3 → b.1 0 fl (3 * k + s) i = w.1 0 fl (3 * k + s) i) (hq : b.2.2 = w.2.2) : SB so b fl k N M := by
  obtain ⟨h1, h2, h3, h4, h5, h6⟩ := h
  refine ⟨fun s hs => (h1 s hs).same (fun x _ => by rw [hq]), fun s hs i hi => ?_, by rw [hq]; exact h3, by rw [hq]; exact h4, by rw [hq]; exact h5, fun h0 s hs => ?_⟩
  · rw [hF s i hs (by omega) (by omega)]; exact h2 s hs i hi
  · obtain ⟨tk, a, c⟩ := h6 h0 s hs
    exact ⟨tk, by rw [hF s 4 hs (by omega) (by omega)]; exact a, by rw [hq]; exact c⟩
theorem SB.mono {so : Nat} {w : TW} {fl k N N' M M' : Nat} (h : SB so w fl k N M) (hN : N ≤ N') (hM : M ≤ M') : SB so w fl k N' M' := by
  obtain ⟨h1, h2, h3, h4, h5, h6⟩ := h
  exact ⟨fun s hs => (h1 s hs).mono hN, h2, h3.mono (by omega), h4.mono hM, h5, h6⟩
theorem SB.pba {S : TS} {so : Nat} {v c : TW} {fl k N M : Nat} (hf : fl < 2) (hk : k < 12) (hG : GS v.2.1) (hN : N + 60 ≤ 4194304) (h : SB so v fl k N M) (hlen : (v.2.2 (ri fl k)).2.length ≤ 20) (hP : PBA S fl k v c) : SB so c fl k N M := by
  have hg := hG fl k
  obtain ⟨h1, h2, h3, h4, h5, h6⟩ := h
  have hT := TOn.pba hf hk hG hP
  obtain ⟨p1, p2, p3, p4, p5, p6⟩ := hP
  -- a state that is not the one that is saved
  have oth : ∀ s, s < 3 → ¬ (fl = 0 ∧ s = (v.2.1 fl k).2) → (∀ i, c.1 0 fl (3 * k + s) i = v.1 0 fl (3 * k + s) i) ∧ ∀ x, x < 4 → c.2.2 (rs x fl (3 * k + s)) = v.2.2 (rs x fl (3 * k + s)) := fun s hs hne =>
    ⟨fun i => p3 _ _ _ _ (by omega) (by omega) (by omega), fun x hx => p5 _ (fun e => rs_ri hx hf (by omega) e) (fun h0 y hy e => by have := (rs_eq hx hy hf hf e).2.2; omega)⟩
  have hrl : c.2.2 (rl k) = v.2.2 (rl k) := hT.2.2.2.2.1 k
  refine ⟨fun s hs => ?_, fun s hs i hi => ?_, ?_, by rw [p5 _ (ro_ri hf hk) (fun _ x hx e => ro_rs hx hf (by omega) e)]; exact h4, ?_, fun h0 s hs => ?_⟩
  · by_cases e : fl = 0 ∧ s = (v.2.1 fl k).2
    · obtain ⟨e0, es⟩ := e
      subst es
      exact (h1 0 (by omega)).copy (h1 _ hs) (by omega) (p6 e0).2.1
    · exact (h1 s hs).same (oth s hs e).2
  · by_cases e : fl = 0 ∧ s = (v.2.1 fl k).2
    · obtain ⟨e0, es⟩ := e
      subst es
      rw [(p6 e0).1 i (by omega)]
      exact h2 0 (by omega) i hi
    · rw [(oth s hs e).1 i]; exact h2 s hs i hi
  · exact p1.2 (N + 40) h3 (by simp only [List.length_cons, List.length_nil]; omega)
  · rw [p1.1]
    refine ITk.app h5 (fun x hx h0 => ?_)
    rw [List.mem_singleton.mp hx, ba_kind] at h0
    exact absurd h0 (by decide)
  · by_cases e : fl = 0 ∧ s = (v.2.1 fl k).2
    · obtain ⟨e0, es⟩ := e
      subst es
      obtain ⟨tk, a, b⟩ := h6 h0 0 (by omega)
      exact ⟨tk, by rw [(p6 e0).1 4 (by omega)]; exact a, by rw [hrl]; exact b⟩
    · obtain ⟨tk, a, b⟩ := h6 h0 s hs
      exact ⟨tk, by rw [(oth s hs e).1 4]; exact a, by rw [hrl]; exact b⟩
theorem raise_ch {S : TS} {so fl k N M : Nat} (hn : zn S ≤ 12) (hz : zok S) (hf : fl < 2) (hk : k < 12) (v : TW) (t : Int32) (hN : N + 60 ≤ 4194304) (hp : PLk v k so) (h : SB so v fl k N M) (ht : t.toInt < 1048576) (hC : CHK S v fl) : CHK S (w_X8_raiseMark S v fl k t) fl := by
  have hb := EE_b hk
  by_cases hlt : v.1 0 fl (3 * k) 0 < t
  · have hm := h.2.1 0 (by omega) 0 (by omega)
    have h0 := zi_lt.mp hlt
    have h0' : -1 ≤ (v.1 0 fl (3 * k) 0).toInt := hm.1
    obtain ⟨L, r1, r2, r3, -⟩ := rm_ok hn v fl k hf hk t t.toInt.toNat (zi_of (by omega)) (by omega) hb.1 (by omega) hp (h.1 0 (by omega)) hlt
    have hc := Loc.ch hf hk (loc_X8_raiseMark S v fl k t Loc.rf)
    exact (eff_emit hn hz hC r3 hc.1 hc.2).1
  · rw [rm_not v fl k t hlt]; exact hC
/-- what a step makes of what always holds -/
theorem step_BI {S : TS} {so : Nat → Nat} {w : TW} {fl k C : Nat} {N M : Nat → Nat} (hGI : GI S so w) (hG : GS w.2.1) (hf : fl < 2) (hB : BI S so w fl N M C) (hN : ∀ j, j < zn S → N j + 100 ≤ 4194304) (hk : k < zn S) (hcw : ¬ v_X8_canWork S w.1 w.2.1 w.2.2 fl k (w.1 6 fl 0 2) = 0) :
    BI S so (w_X2_step S w fl k).1 fl (fun j => if j = k then N j + 8 else N j) (fun j => if j = k then M j + 1 else M j) C ∧ (w_X2_step S w fl k).2 = 1 := by
  obtain ⟨hn, hz, hgi⟩ := hGI
  obtain ⟨hC, hcap, hC9, hSB⟩ := hB
  have hk12 : k < 12 := by omega
  obtain ⟨hpl, hlogR, hlogE, hs0, hs1, hs2⟩ := hgi k hk
  have hb := EE_b hk12
  have hNk := hN k hk
  obtain ⟨w2, hP0, hST⟩ := step_cases (S := S) (w := w) (fl := fl) (k := k) (so := so k) (C := C) (B := 4194304) hn hz hf hk hC (fun u hu => (hSB u hu).2.2.1.mono (by have := hN u hu; omega)) (Nat.le_refl _) hcap (by omega) hpl.1 hpl.2.1 hcw
  have hT2 := TOn.p0 hf hk12 hn hP0
  obtain ⟨p1, p2, p3, p4, p5, p6, p7, p8, p9⟩ := hP0
  have hG2 : GS w2.2.1 := by rw [p1]; exact hG
  have f0 : ∀ s i, w2.1 0 fl (3 * k + s) i = w.1 0 fl (3 * k + s) i := fun s i => p2 _ _ _ _ (fun h => by have := h.1.1; omega) (by omega)
  have hS2 : SB (so k) w2 fl k (N k) (M k) := by
    obtain ⟨h1, h2, h3, h4, h5, h6⟩ := hSB k hk
    refine ⟨fun s hs => (h1 s hs).same (fun x hx => p4 _ (rs_ri hx hf (by omega))), fun s hs i hi => by rw [f0]; exact h2 s hs i hi, p8 _ h3, by rw [p4 _ (ro_ri hf hk12)]; exact h4, fun x hx => h5 x (p9 x hx), fun h0 s hs => ?_⟩
    obtain ⟨tk, a, c⟩ := h6 h0 s hs
    exact ⟨tk, by rw [f0]; exact a, by rw [p4 _ (rl_ri hf hk12)]; exact c⟩
  have hpl2 : PLk w2 k (so k) := hpl.same (fun j => by have := hT2.2.2.2.2.2; exact p2 _ _ _ _ (fun h => by have := h.1.1; omega) (by omega))
  have hlen2 : (w2.2.2 (ri fl k)).2.length ≤ 18 := by omega
  have cap2 : w2.1 6 fl 0 2 = nI C := by rw [p2 _ _ _ _ (fun h => by have := h.1.1; omega) (by omega)]; exact hcap
  have hrl2 : w2.2.2 (rl k) = w.2.2 (rl k) := p4 _ (rl_ri hf hk12)
  -- the end: from what stands behind
  have fin : ∀ b : TW, TOn fl k w2 b → CHK S b fl → b.1 6 fl 0 2 = nI C → SB (so k) b fl k (N k + 8) (M k + 1) → BI S so b fl (fun j => if j = k then N j + 8 else N j) (fun j => if j = k then M j + 1 else M j) C := fun b t c d e => by
    refine ⟨c, d, hC9, fun j hj => ?_⟩
    by_cases h : j = k
    · subst h; simp only [if_pos]; exact e
    · simp only [if_neg h]; exact (hSB j hj).to (hT2.tr t) (by omega) h
  have pass : ∀ v : TW, TOn fl k w2 v → CHK S v fl → v.1 6 fl 0 2 = nI C → GS v.2.1 → SB (so k) v fl k (N k) (M k) → (v.2.2 (ri fl k)).2.length ≤ 20 → BI S so (w_X2_passBarrier S v fl k) fl (fun j => if j = k then N j + 8 else N j) (fun j => if j = k then M j + 1 else M j) C := fun v t c d g e hlen => by
    obtain ⟨z, hz1, hz2⟩ := pb_ok hn v fl k hf hk12 g (fun x hx => by
      have hh := e.1 0 (by omega)
      have hx4 : x = 0 ∨ x = 1 ∨ x = 2 ∨ x = 3 := by omega
      rcases hx4 with rfl | rfl | rfl | rfl
      · have := hh.1.1.1; simp only [Nat.add_zero] at this; omega
      · have := hh.1.2.1.1; simp only [Nat.add_zero] at this; omega
      · have := hh.2.1.1.1; simp only [Nat.add_zero] at this; omega
      · have := hh.2.2.1.1.1; simp only [Nat.add_zero] at this; omega)
    have hTz := TOn.pba hf hk12 g hz1
    have hch := hz1.ch hf hk12 g
    have hCz := (eff_emit hn hz c hz1.1 hch.1 hch.2).1
    have hSz := SB.pba hf hk12 g (by omega) e hlen hz1
    have hcapz : z.1 6 fl 0 2 = nI C := by rw [hz1.2.2.1 _ _ _ _ (by omega) (by omega) (by omega)]; exact d
    rcases hz2 with ⟨-, h⟩ | ⟨-, -, h⟩ | ⟨-, -, h⟩
    · rw [h]; exact fin z (t.tr hTz) hCz hcapz (hSz.mono (by omega) (by omega))
    · rw [h]; exact fin z (t.tr hTz) hCz hcapz (hSz.mono (by omega) (by omega))
    · rw [h]
      obtain ⟨y, y1, y2, y3, y4, y5⟩ := cc_ok (S := S) z fl
      rw [y1]
      have hTy : TOn fl k z y := ⟨fun j s i _ _ _ => y3 _ _ _ _ (by omega), fun j s x _ _ _ _ => by rw [y2], fun j _ _ => by rw [y2], fun j _ _ => by rw [y2], fun j => by rw [y2], fun i => by funext j; exact y3 _ _ _ _ (by omega)⟩
      have hCy : CHK S y fl := fun kd a ha => by
        have := hCz kd a ha
        have h45 := ha.1
        unfold gvn at *
        rw [y3 _ _ _ _ (by omega), y2]
        exact this
      exact fin y (t.tr (hTz.tr hTy)) hCy (by rw [y3 _ _ _ _ (by omega)]; exact hcapz) ((hSz.same (fun s i _ _ _ => y3 _ _ _ _ (by omega)) y2).mono (by omega) (by omega))
  rcases hST with ⟨s0, ow, hr⟩ | ⟨s0, ow, hr⟩ | ⟨s0, kd, x, rest, w3, hc, hsh, hpd, h3, hk3⟩
  · rw [hr]
    exact ⟨pass w2 ⟨fun _ _ _ _ _ _ => rfl, fun _ _ _ _ _ _ _ => rfl, fun _ _ _ => rfl, fun _ _ _ => rfl, fun _ => rfl, fun _ => rfl⟩ p5 cap2 hG2 hS2 (by omega), rfl⟩
  · rw [hr]
    refine ⟨?_, rfl⟩
    obtain ⟨tk, t1, t2⟩ := hS2.2.2.2.2.2 s0 0 (by omega)
    have hlog : RBd 60 (w2.2.2 (rl k)) := by rw [hrl2]; exact hlogR
    obtain ⟨sl, sl1, sl2⟩ := hpl2.2.2.2.2.2.2.2 s0
    rcases read_ok (S := S) (w := w2) (fl := fl) (k := k) t1 t2 hlog (by omega) with ⟨r1, ev, r2, r3⟩ | ⟨r1, r3⟩
    · rw [r3]
      have hev : v_X3_kind ev = 0 ∧ (v_X3_time ev).toInt ≤ EE k := by
        rw [hrl2] at r2
        have := hlogE ev r2
        exact ⟨this.1, by omega⟩
      obtain ⟨v1, hv1⟩ : ∃ v1, v1 = zset w2 0 fl (3 * k) 4 (nI (tk + 1)) := ⟨_, rfl⟩
      rw [← hv1]
      have hq1 : v1.2.2 = w2.2.2 := by rw [hv1]; rfl
      have hL : Loc fl k w2 (w_X8_emit S v1 fl k ev) := loc_X8_emit S v1 fl k ev (by rw [hv1]; exact Loc.set ⟨rfl, rfl, rfl⟩ Loc.rf)
      have hEm : EM S fl k w2 (w_X8_emit S v1 fl k ev) [ev] := by have := emit_EM hn v1 fl k ev; unfold EM at *; rw [← hq1]; exact this
      have hrow := emit_row hn v1 fl k ev
      have hfr := emit_f hn v1 fl k ev
      have hv1F : ∀ j, j ≠ 4 → v1.1 0 fl (3 * k) j = w2.1 0 fl (3 * k) j := fun j hj => by rw [hv1, zset_F, if_neg (by omega)]
      have hSv : SB (so k) (w_X8_emit S v1 fl k ev) fl k (N k) (M k) := by
        refine hS2.loc hf hk12 hL (Nat.le_refl _) ((hS2.1 0 (by omega)).same (fun x hx => by rw [Nat.add_zero, hrow _ (rs_ri hx hf (by omega)), hq1])) (fun j hj => ?_) ?_ (by rw [hrow _ (ro_ri hf hk12), hq1]; exact hS2.2.2.2.1) ?_ (fun _ => ⟨tk + 1, ?_, ?_⟩)
        · rw [hfr _ _ _ _ (by omega), hv1F j (by omega)]; exact hS2.2.1 0 (by omega) j hj
        · exact hEm.2 _ hS2.2.2.1 (by simp only [List.length_cons, List.length_nil]; omega)
        · rw [hEm.1]; exact ITk.app hS2.2.2.2.2.1 (EvL.it (EvL.one hev))
        · rw [hfr _ _ _ _ (by omega), hv1, zset_F, if_pos ⟨rfl, rfl, rfl, rfl⟩]
        · rw [hrow _ (rl_ri hf hk12), hq1]; omega
      have hch := Loc.ch hf hk12 hL
      have hCv := (eff_emit hn hz p5 hEm hch.1 hch.2).1
      have hplv : PLk (w_X8_emit S v1 fl k ev) k (so k) := hpl2.same (fun j => hL.2.1 _ _ _ _ (by omega))
      have htl : ((v_X3_time ev) - w2.1 8 0 k 3).toInt < 1048576 := by
        obtain ⟨t, ht, et⟩ := it_timeE ev
        rw [et, sl1, fb_subI (by rw [zi_nI (by omega), zi_nI (by omega)]; omega) (by rw [zi_nI (by omega), zi_nI (by omega)]; omega), zi_nI (by omega), zi_nI (by omega)]
        omega
      have hlv : ((w_X8_emit S v1 fl k ev).2.2 (ri fl k)).2.length ≤ 20 := by
        rw [hEm.1, List.length_append]
        have := emq_len (S := S) (k := k) (L := [ev])
        simp only [List.length_cons, List.length_nil] at this
        omega
      have hLr := loc_X8_raiseMark S (w_X8_emit S v1 fl k ev) fl k (v_X3_time ev - w2.1 8 0 k 3) hL
      exact fin _ (TOn.loc hf hk12 hLr) (raise_ch hn hz hf hk12 _ _ (by omega) hplv hSv htl hCv) (by rw [hLr.2.1 _ _ _ _ (by omega)]; exact cap2) ((raise_SB hn hf hk12 _ _ (by omega) hplv hSv hlv htl).mono (by omega) (by omega))
    · rw [r3]
      have hLr := loc_X8_raiseMark S w2 fl k 1000000 (w0 := w2) Loc.rf
      have htl : (1000000 : Int32).toInt < 1048576 := by rw [zi_L]; decide
      exact fin _ (TOn.loc hf hk12 hLr) (raise_ch hn hz hf hk12 _ _ (by omega) hpl2 hS2 htl p5) (by rw [hLr.2.1 _ _ _ _ (by omega)]; exact cap2) ((raise_SB hn hf hk12 _ _ (by omega) hpl2 hS2 (by omega) htl).mono (by omega) (by omega))
  · have hu := hc.lt hz
    have h45 := hc.1
    have hru : (w2.2.2 (rin S fl kd k)) = w.2.2 (rin S fl kd k) := p4 _ (fun e => by have := ri_eq e; omega)
    have hRu := (hSB (zsrc S (kd - 4) k) (by omega)).2.2.1
    obtain ⟨a1, a2, a3, a4, a5⟩ := eff_take p5 (by rw [hru]; have := hRu.1; have := hN (zsrc S (kd - 4) k) (by omega); unfold rin; omega) hc hpd h3
    have hq3 : w3.2.2 = w2.2.2 := by rw [a4]
    have hT3 : TOn fl k w2 w3 := ⟨fun j s i _ hj hs => a5 _ _ _ _ (by omega) (by omega), fun j s x _ _ _ _ => by rw [hq3], fun j _ _ => by rw [hq3], fun j _ _ => by rw [hq3], fun j => by rw [hq3], fun i => by funext j; exact a5 _ _ _ _ (by omega) (by omega)⟩
    have hS3 : SB (so k) w3 fl k (N k) (M k) := hS2.same (fun s i hs hi h3 => a5 _ _ _ _ (by omega) (by omega)) hq3
    have hpl3 : PLk w3 k (so k) := hpl2.same (fun j => a5 _ _ _ _ (by omega) (by omega))
    have cap3 : w3.1 6 fl 0 2 = nI C := by rw [a5 _ _ _ _ (by omega) (by omega)]; exact cap2
    have hG3 : GS w3.2.1 := by rw [a4]; exact hG2
    have hlen3 : (w3.2.2 (ri fl k)).2.length ≤ 18 := by rw [hq3]; exact hlen2
    -- the item stood in the row of its source
    have hxin : x ∈ (w.2.2 (ri fl (zsrc S (kd - 4) k))).2 := by
      have : x ∈ pend S w2 fl kd k := by rw [hpd]; exact List.mem_cons_self
      unfold pend at this
      rw [hru] at this
      exact List.mem_of_mem_drop this
    rcases hk3 with ⟨k0, hr⟩ | ⟨k1, hr⟩ | ⟨k0, k1, o, hr⟩ | ⟨k0, k1, o, hr⟩
    · rw [hr]
      refine ⟨?_, rfl⟩
      have hxt := (hSB (zsrc S (kd - 4) k) (by omega)).2.2.2.2.1 x hxin k0
      obtain ⟨L, e1, e2, e3, e4, e5, e6, e7, e8, e9, e10, e11, e12⟩ := te_ok hn w3 fl k hf hk12 x (nI (kd - 4)) k0 hxt (EE_le hu) hb.2.1 (by omega) hpl3 s0 (hS3.1 0 (by omega))
      have hL := loc_X8_takeEvent S w3 fl k x (nI (kd - 4)) (w0 := w3) Loc.rf
      have hch := Loc.ch hf hk12 hL
      refine fin _ (hT3.tr (TOn.loc hf hk12 hL)) (eff_emit hn hz a1 e3 hch.1 hch.2).1 (by rw [hL.2.1 _ _ _ _ (by omega)]; exact cap3) (hS3.loc hf hk12 hL (by omega) e4 (fun j hj => by rw [e5 j (by omega)]; exact hS3.2.1 0 (by omega) j hj) ?_ (e12 _ hS3.2.2.2.1) ?_ (fun h0 => absurd h0 s0))
      · exact e3.2 _ (hS3.2.2.1.mono (by omega)) (by omega)
      · rw [e3.1]; exact ITk.app hS3.2.2.2.2.1 (EvL.it e2)
    · rw [hr]
      refine ⟨?_, rfl⟩
      obtain ⟨b, b1, b2⟩ := least_ok (S := S) w3 fl k kd (v_X3_time x) h45
      rw [b2]
      obtain ⟨t, ht, et⟩ := it_timeE x
      have hLb : Loc fl k w3 b := by rw [b1]; exact Loc.set ⟨rfl, rfl, rfl⟩ Loc.rf
      have hqb : b.2 = w3.2 := by rw [b1]; rfl
      have hqb2 : b.2.2 = w3.2.2 := by rw [hqb]
      have hFb : ∀ j, j ≠ kd - 3 → b.1 0 fl (3 * k) j = w3.1 0 fl (3 * k) j := fun j hj => by rw [b1, zset_F, if_neg (by omega)]
      have hFk : b.1 0 fl (3 * k) (kd - 3) = nI t := by rw [b1, zset_F, if_pos ⟨rfl, rfl, rfl, rfl⟩, et]
      have hMb : MI b fl (3 * k) := fun j hj => by
        by_cases e : j = kd - 3
        · rw [e, hFk, zi_nI (by omega)]; omega
        · rw [hFb j e]; exact hS3.2.1 0 (by omega) j hj
      have hSb : SB (so k) b fl k (N k) (M k) := hS3.loc hf hk12 hLb (Nat.le_refl _) ((hS3.1 0 (by omega)).same (fun x hx => by rw [hqb2])) hMb (by rw [hqb2]; exact hS3.2.2.1) (by rw [hqb2]; exact hS3.2.2.2.1) (by rw [hqb2]; exact hS3.2.2.2.2.1) (fun h0 => absurd h0 s0)
      have hCb : CHK S b fl := fun kd' c' hc' => by
        have := a1 kd' c' hc'
        have h45' := hc'.1
        unfold gvn at *
        rw [(Loc.ch hf hk12 hLb).1 _ _ h45', hqb2]
        exact this
      have hplb : PLk b k (so k) := hpl3.same (fun j => hLb.2.1 _ _ _ _ (by omega))
      have htl : (if (zp S 1 k).isSome = true then zmin (b.1 0 fl (3 * k) 1) (b.1 0 fl (3 * k) 2) else b.1 0 fl (3 * k) 1).toInt < 1048576 := by
        have m1 := (hMb 1 (by omega)).2
        split
        · rw [zi_min]; omega
        · exact m1
      have hLr := loc_X8_raiseMark S b fl k (if (zp S 1 k).isSome = true then zmin (b.1 0 fl (3 * k) 1) (b.1 0 fl (3 * k) 2) else b.1 0 fl (3 * k) 1) hLb
      exact fin _ (hT3.tr (TOn.loc hf hk12 hLr)) (raise_ch hn hz hf hk12 _ _ (by omega) hplb hSb htl hCb) (by rw [hLr.2.1 _ _ _ _ (by omega)]; exact cap3) ((raise_SB hn hf hk12 _ _ (by omega) hplb hSb (by rw [hqb2]; omega) htl).mono (by omega) (by omega))
    · rw [hr]
      refine ⟨?_, rfl⟩
      show BI S so (w_X2_takeBarrier S w3 fl k kd (9 - kd)) fl _ _ C
      unfold w_X2_takeBarrier
      have upd : ∀ kd' v', kd' = 4 ∨ kd' = 5 → TOn fl k w3 (zset w3 kd' fl k 2 v') ∧ CHK S (zset w3 kd' fl k 2 v') fl ∧ (zset w3 kd' fl k 2 v').1 6 fl 0 2 = nI C ∧ SB (so k) (zset w3 kd' fl k 2 v') fl k (N k) (M k) := fun kd' v' h45' => by
        have hFz : ∀ kd a b j, ¬ (kd = kd' ∧ a = fl ∧ b = k ∧ j = 2) → (zset w3 kd' fl k 2 v').1 kd a b j = w3.1 kd a b j := fun kd a b j h => by rw [zset_F, if_neg h]
        refine ⟨⟨fun j s i _ _ _ => hFz _ _ _ _ (by omega), fun _ _ _ _ _ _ _ => rfl, fun _ _ _ => rfl, fun _ _ _ => rfl, fun _ => rfl, fun i => by funext j; exact hFz _ _ _ _ (by omega)⟩, fun kd' c' hc' => ?_, by rw [hFz _ _ _ _ (by omega)]; exact cap3, hS3.same (fun s i _ _ _ => hFz _ _ _ _ (by omega)) rfl⟩
        have := a1 kd' c' hc'
        unfold gvn at *
        rw [hFz _ _ _ _ (by omega)]
        exact this
      by_cases c0 : (w3.1 (9 - kd) fl k 2) = 0
      · rw [if_pos c0, zlet_eq]
        obtain ⟨u1, u2, u3, u4⟩ := upd kd 1 h45
        exact fin _ (hT3.tr u1) u2 u3 (u4.mono (by omega) (by omega))
      · rw [if_neg c0]
        simp only [zlet_eq]
        obtain ⟨u1, u2, u3, u4⟩ := upd (9 - kd) 0 o.1
        exact pass _ (hT3.tr u1) u2 u3 hG3 u4 (by show (w3.2.2 (ri fl k)).2.length ≤ 20; omega)
    · rw [hr]
      refine ⟨?_, rfl⟩
      show BI S so (w_X2_takeBarrierN S w3 fl k kd) fl _ _ C
      unfold w_X2_takeBarrierN
      simp only [zlet_eq]
      exact pass w3 hT3 a1 cap3 hG3 hS3 (by omega)
