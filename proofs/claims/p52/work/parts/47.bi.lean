/-! ===== what always holds of a flow: its rows, its channels ===== -/
def EE (k : Nat) : Nat := 400 + 32 * (k + 1)
def MI (w : TW) (fl st : Nat) : Prop := ∀ j, j < 3 → -1 ≤ (w.1 0 fl st j).toInt ∧ (w.1 0 fl st j).toInt < 1048576
def TKL (w : TW) (fl st k : Nat) : Prop := ∃ tk, w.1 0 fl st 4 = nI tk ∧ tk ≤ (w.2.2 (rl k)).2.length
def ITk (k : Nat) (L : List Int64) : Prop := ∀ x ∈ L, v_X3_kind x = 0 → (v_X3_time x).toInt ≤ EE k
def SB (so : Nat) (w : TW) (fl k N M : Nat) : Prop := (∀ s, s < 3 → SR so (EE k) N w fl (3 * k + s)) ∧ (∀ s, s < 3 → MI w fl (3 * k + s)) ∧ RBd (N + 40) (w.2.2 (ri fl k)) ∧ RBd M (w.2.2 (ro fl k)) ∧ ITk k (w.2.2 (ri fl k)).2 ∧ (so = 0 → ∀ s, s < 3 → TKL w fl (3 * k + s) k)
/-- what all share: how the stages were wired, the logs -/
def GI (S : TS) (so : Nat → Nat) (w : TW) : Prop := zn S ≤ 12 ∧ zok S ∧ ∀ k, k < zn S → PLk w k (so k) ∧ RBd 60 (w.2.2 (rl k)) ∧ EvL 400 (w.2.2 (rl k)).2 ∧ (so k = 0 → ¬ (zp S 0 k).isSome = true) ∧ (so k ≠ 0 → (zp S 0 k).isSome = true) ∧ ((zp S 1 k).isSome = true ↔ so k = 5 ∨ so k = 6)
def BI (S : TS) (so : Nat → Nat) (w : TW) (fl : Nat) (N M : Nat → Nat) (C : Nat) : Prop := CHK S w fl ∧ w.1 6 fl 0 2 = nI C ∧ C ≤ 9 ∧ ∀ k, k < zn S → SB (so k) w fl k (N k) (M k)
/-- only the stage k is touched -/
def TOn (fl k : Nat) (w b : TW) : Prop := (∀ j s i, j < 12 → j ≠ k → s < 3 → b.1 0 fl (3 * j + s) i = w.1 0 fl (3 * j + s) i) ∧ (∀ j s x, j < 12 → j ≠ k → s < 3 → x < 4 → b.2.2 (rs x fl (3 * j + s)) = w.2.2 (rs x fl (3 * j + s))) ∧ (∀ j, j < 12 → j ≠ k → b.2.2 (ri fl j) = w.2.2 (ri fl j)) ∧ (∀ j, j < 12 → j ≠ k → b.2.2 (ro fl j) = w.2.2 (ro fl j)) ∧ (∀ j, b.2.2 (rl j) = w.2.2 (rl j)) ∧ (∀ i, b.1 8 0 i = w.1 8 0 i)
theorem TOn.tr {fl k : Nat} {a b c : TW} (h : TOn fl k a b) (g : TOn fl k b c) : TOn fl k a c :=
  ⟨fun j s i h0 h1 h2 => (g.1 j s i h0 h1 h2).trans (h.1 j s i h0 h1 h2), fun j s x h0 h1 h2 h3 => (g.2.1 j s x h0 h1 h2 h3).trans (h.2.1 j s x h0 h1 h2 h3), fun j h0 h1 => (g.2.2.1 j h0 h1).trans (h.2.2.1 j h0 h1), fun j h0 h1 => (g.2.2.2.1 j h0 h1).trans (h.2.2.2.1 j h0 h1), fun j => (g.2.2.2.2.1 j).trans (h.2.2.2.2.1 j), fun i => (g.2.2.2.2.2 i).trans (h.2.2.2.2.2 i)⟩
theorem SB.to {so : Nat} {w b : TW} {fl k j N M : Nat} (h : SB so w fl j N M) (ht : TOn fl k w b) (hj12 : j < 12) (hj : j ≠ k) : SB so b fl j N M := by
  obtain ⟨h1, h2, h3, h4, h5, h6⟩ := h
  obtain ⟨t1, t2, t3, t4, t5, -⟩ := ht
  refine ⟨fun s hs => (h1 s hs).same (fun x hx => t2 j s x hj12 hj hs hx), fun s hs i hi => ?_, by rw [t3 j hj12 hj]; exact h3, by rw [t4 j hj12 hj]; exact h4, by rw [t3 j hj12 hj]; exact h5, fun h0 s hs => ?_⟩
  · rw [t1 j s i hj12 hj hs]; exact h2 s hs i hi
  · obtain ⟨tk, a, b⟩ := h6 h0 s hs
    exact ⟨tk, by rw [t1 j s 4 hj12 hj hs]; exact a, by rw [t5 j]; exact b⟩
theorem rl_rs {x fl st k : Nat} (hx : x < 4) (hf : fl < 2) (hst : st < 36) : rl k ≠ rs x fl st := by unfold rl rs; omega
theorem rl_ri {fl k j : Nat} (hf : fl < 2) (hk : k < 12) : rl j ≠ ri fl k := by unfold rl ri; omega
theorem rl_ro {fl k j : Nat} (hf : fl < 2) (hk : k < 12) : rl j ≠ ro fl k := by unfold rl ro; omega
theorem ri_eq {fl k j : Nat} (h : ri fl j = ri fl k) : j = k := by unfold ri at h; omega
theorem TOn.p0 {S : TS} {fl k C : Nat} {w b : TW} (hf : fl < 2) (hk : k < 12) (hj : zn S ≤ 12) (h : P0 S fl k C w b) : TOn fl k w b := by
  obtain ⟨-, h2, -, h4, -⟩ := h
  refine ⟨fun j s i _ _ _ => h2 _ _ _ _ (fun h => by have := h.1.1; omega) (by omega), fun j s x _ _ hs hx => h4 _ (fun e => ?_), fun j _ hj => h4 _ (fun e => hj (ri_eq e)), fun j _ _ => h4 _ (ro_ri hf hk), fun j => h4 _ (rl_ri hf hk), fun i => ?_⟩
  · unfold rs ri at e; omega
  · funext j; exact h2 _ _ _ _ (fun h => by have := h.1.1; omega) (by omega)
theorem TOn.loc {fl k : Nat} {w b : TW} (hf : fl < 2) (hk : k < 12) (h : Loc fl k w b) : TOn fl k w b := by
  obtain ⟨-, h2, h4⟩ := h
  have no : ∀ i, (∀ x, x < 4 → i ≠ rs x fl (3 * k)) → i ≠ ri fl k → i ≠ ro fl k → ¬ OwnR fl k i := fun i a b c h => by
    rcases h with h | h | h | h | h | h
    · exact a 0 (by omega) h
    · exact a 1 (by omega) h
    · exact a 2 (by omega) h
    · exact a 3 (by omega) h
    · exact b h
    · exact c h
  refine ⟨fun j s i _ hj hs => h2 _ _ _ _ (by omega), fun j s x _ hj hs hx => h4 _ (no _ (fun y hy e => ?_) (fun e => ?_) (fun e => ?_)), fun j _ hj => h4 _ (no _ (fun y hy e => ?_) (fun e => hj (ri_eq e)) (fun e => ?_)), fun j _ hj => h4 _ (no _ (fun y hy e => ?_) (fun e => ?_) (fun e => ?_)), fun j => h4 _ (no _ (fun y hy e => rl_rs hy hf (by omega) e) (rl_ri hf hk) (rl_ro hf hk)), fun i => ?_⟩
  · have := (rs_eq hx hy hf hf e).2.2; omega
  · unfold rs ri at e; omega
  · unfold rs ro at e; omega
  · unfold rs ri at e; omega
  · unfold ro ri at e; omega
  · unfold rs ro at e; omega
  · unfold ro ri at e; omega
  · unfold ro at e; omega
  · funext j; exact h2 _ _ _ _ (by omega)
theorem TOn.pba {S : TS} {fl k : Nat} {w b : TW} (hf : fl < 2) (hk : k < 12) (hG : GS w.2.1) (h : PBA S fl k w b) : TOn fl k w b := by
  obtain ⟨-, -, h2, -, h4, -⟩ := h
  have hg := hG fl k
  refine ⟨fun j s i _ hj hs => h2 _ _ _ _ (by omega) (by omega) (by omega), fun j s x _ hj hs hx => h4 _ (fun e => ?_) (fun _ y hy e => ?_), fun j _ hj => h4 _ (fun e => hj (ri_eq e)) (fun _ y hy e => rs_ri hy hf (by omega) e.symm), fun j _ hj => h4 _ (ro_ri hf hk) (fun _ y hy e => ro_rs hy hf (by omega) e), fun j => h4 _ (rl_ri hf hk) (fun _ y hy e => rl_rs hy hf (by omega) e), fun i => ?_⟩
  · unfold rs ri at e; omega
  · have := (rs_eq hx hy hf hf e).2.2; omega
  · funext j; exact h2 _ _ _ _ (by omega) (by omega) (by omega)
/-- a stage's own part behind what touches its own state alone -/
theorem SB.loc {so : Nat} {w b : TW} {fl k N N' M M' : Nat} (hf : fl < 2) (hk : k < 12) (h : SB so w fl k N M) (hL : Loc fl k w b) (hNN : N ≤ N') (h1 : SR so (EE k) N' b fl (3 * k)) (h2 : MI b fl (3 * k)) (h3 : RBd (N' + 40) (b.2.2 (ri fl k))) (h4 : RBd M' (b.2.2 (ro fl k))) (h5 : ITk k (b.2.2 (ri fl k)).2) (h6 : so = 0 → TKL b fl (3 * k) k) : SB so b fl k N' M' := by
  obtain ⟨g1, g2, g3, g4, g5, g6⟩ := h
  obtain ⟨-, l2, l3⟩ := hL
  have hq : ∀ s x, s < 3 → s ≠ 0 → x < 4 → b.2.2 (rs x fl (3 * k + s)) = w.2.2 (rs x fl (3 * k + s)) := fun s x hs h0 hx => l3 _ (fun h => by
    rcases h with h | h | h | h | h | h
    · have := (rs_eq hx (by omega) hf hf h).2.2; omega
    · have := (rs_eq hx (by omega) hf hf h).2.2; omega
    · have := (rs_eq hx (by omega) hf hf h).2.2; omega
    · have := (rs_eq hx (by omega) hf hf h).2.2; omega
    · unfold rs ri at h; omega
    · unfold rs ro at h; omega)
  have hrl : b.2.2 (rl k) = w.2.2 (rl k) := l3 _ (fun h => by
    rcases h with h | h | h | h | h | h
    · exact rl_rs (by omega) hf (by omega) h
    · exact rl_rs (by omega) hf (by omega) h
    · exact rl_rs (by omega) hf (by omega) h
    · exact rl_rs (by omega) hf (by omega) h
    · exact rl_ri hf hk h
    · exact rl_ro hf hk h)
  refine ⟨fun s hs => ?_, fun s hs => ?_, h3, h4, h5, fun h0 s hs => ?_⟩
  · by_cases e : s = 0
    · subst e; exact h1
    · exact ((g1 s hs).mono hNN).same (fun x hx => hq s x hs e hx)
  · by_cases e : s = 0
    · subst e; exact h2
    · intro j hj; rw [l2 _ _ _ _ (by omega)]; exact g2 s hs j hj
  · by_cases e : s = 0
    · subst e; exact h6 h0
    · obtain ⟨tk, a, c⟩ := g6 h0 s hs
      exact ⟨tk, by rw [l2 _ _ _ _ (by omega)]; exact a, by rw [hrl]; exact c⟩
theorem ITk.app {S : TS} {k : Nat} {L M : List Int64} (h : ITk k L) (g : ITk k M) : ITk k (L ++ emq S k M) := fun x hx => by
  rcases List.mem_append.mp hx with h1 | h1
  · exact h x h1
  · unfold emq at h1
    split at h1
    · cases h1
    · exact g x h1
theorem EvL.it {k : Nat} {L : List Int64} (h : EvL (EE k) L) : ITk k L := fun x hx _ => (h x hx).2
theorem it_mk {k : Nat} {L : List Int64} {t : Nat} (h : EvL (EE k) L) (ht : t < 2 ^ 20) : ITk k (L ++ [v_X3_mark (nI t)]) := fun x hx h0 => by
  rcases List.mem_append.mp hx with h1 | h1
  · exact (h x h1).2
  · rw [List.mem_singleton.mp h1, mk_kind t ht] at h0
    exact absurd h0 (by decide)
theorem EE_le {u k : Nat} (h : u < k) : EE u + 20 ≤ EE k := by unfold EE; omega
theorem EE_b {k : Nat} (h : k < 12) : EE k ≤ 900000 ∧ EE k < 2 ^ 20 ∧ 400 ≤ EE k := by unfold EE; omega
/-- a stage behind the taking of an item -/
theorem raise_SB {S : TS} {so fl k N M : Nat} (hn : zn S ≤ 12) (hf : fl < 2) (hk : k < 12) (v : TW) (t : Int32) (hN : N + 60 ≤ 4194304) (hp : PLk v k so) (h : SB so v fl k N M) (hlen : (v.2.2 (ri fl k)).2.length ≤ 20) (ht : t.toInt < 1048576) : SB so (w_X8_raiseMark S v fl k t) fl k N M := by
  have hb := EE_b hk
  by_cases hlt : v.1 0 fl (3 * k) 0 < t
  · have hm := h.2.1 0 (by omega) 0 (by omega)
    have h0 := zi_lt.mp hlt
    have h0' : -1 ≤ (v.1 0 fl (3 * k) 0).toInt := hm.1
    have et := zi_of (x := t) (by omega)
    have hS := h.1 0 (by omega)
    obtain ⟨L, r1, r2, r3, r4, r5, r6, r7, r8, -⟩ := rm_ok hn v fl k hf hk t t.toInt.toNat et (by omega) hb.1 (by omega) hp hS hlt
    refine h.loc hf hk (loc_X8_raiseMark S v fl k t Loc.rf) (Nat.le_refl _) r4 (fun j hj => ?_) ?_ (by rw [r8]; exact h.2.2.2.1) ?_ (fun h0 => ?_)
    · by_cases e : j = 0
      · subst e; rw [r5]; omega
      · rw [r6 j (by omega) (by omega)]; exact h.2.1 0 (by omega) j hj
    · refine r3.2 (N + 40) h.2.2.1 ?_
      rw [List.length_append, List.length_cons, List.length_nil]
      omega
    · rw [r3.1]
      refine ITk.app h.2.2.2.2.1 ?_
      rw [et]
      exact it_mk r2 (by omega)
    · obtain ⟨tk, a, c⟩ := h.2.2.2.2.2 h0 0 (by omega)
      refine ⟨tk, by rw [r6 4 (by omega) (by omega)]; exact a, ?_⟩
      rw [(TOn.loc hf hk (loc_X8_raiseMark S v fl k t Loc.rf)).2.2.2.2.1 k]
      exact c
  · rw [rm_not v fl k t hlt]; exact h
