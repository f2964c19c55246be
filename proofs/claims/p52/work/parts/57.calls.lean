/-! ===== calls that set single things ===== -/
theorem BI.of {S : TS} {so : Nat → Nat} {w b : TW} {f : Nat} {N M : Nat → Nat} {C C' : Nat} (hB : BI S so w f N M C) (h0 : ∀ st j, b.1 0 f st j = w.1 0 f st j) (h45 : ∀ kd c, kd = 4 ∨ kd = 5 → b.1 kd f c 1 = w.1 kd f c 1) (hcap : b.1 6 f 0 2 = nI C') (hC : C' ≤ 9) (hq : b.2.2 = w.2.2) : BI S so b f N M C' := by
  refine ⟨fun kd c hc => ?_, hcap, hC, fun k hk => (hB.2.2.2 k hk).same (fun s i _ _ _ => h0 _ _) hq⟩
  have := hB.1 kd c hc
  unfold gvn at *
  rw [h45 kd c hc.1, hq]
  exact this
/-- where the protocol's own fields stay -/
theorem PI.of {S : TS} {so : Nat → Nat} {cl cl' : Prop} {T : Nat} {w b : TW} {P : Nat → Bool} (hn : zn S ≤ 12) (hz : zok S) (hGS : GS w.2.1) (hcl : cl → cl') (hP : PI S so cl T w P) (h0 : ∀ st j, b.1 0 0 st j = w.1 0 0 st j) (h45 : ∀ kd c j, kd = 4 ∨ kd = 5 → b.1 kd 0 c j = w.1 kd 0 c j) (hq : ∀ i, (∀ k, k < zn S → i ≠ rl k) → b.2.2 i = w.2.2 i) (hG : b.2.1 = w.2.1)
    (hl : ∀ k, k < zn S → cl → b.2.2 (rl k) = w.2.2 (rl k)) (h11 : ∀ k, k < zn S → (so k ≠ 0 → b.1 2 0 k 11 = 0) ∧ (so k = 0 → (b.1 2 0 k 11 = 0 ↔ (b.1 6 0 0 5 = 0 ∨ P k = true)))) (h10 : ∀ k, k < zn S → ¬ b.1 2 0 k 10 = 0 → cl') (hPG : PG S b P) : PI S so cl' T b P := by
  have hs : ∀ st i, sI b st i = sI w st i := fun st i => by unfold sI; rw [h0]
  have hr : ∀ x st, x < 4 → st < 36 → b.2.2 (rs x 0 st) = w.2.2 (rs x 0 st) := fun x st hx hst => hq _ (fun k _ e => rl_rs hx (by omega) hst e.symm)
  have okm : ∀ m, OKm cl m → OKm cl' m := fun m h => ⟨h.1, h.2.imp id (fun h => ⟨hcl h.1, h.2⟩)⟩
  have lk : ∀ E (L : List Int64) m, LK E cl m L → LK E cl' m L := fun E L => by
    induction L with
    | nil => intro m _; trivial
    | cons x L ih => intro m h; exact ⟨h.1, fun h2 => ⟨(h.2.1 h2).1, (h.2.1 h2).2.imp id (fun h => ⟨hcl h.1, h.2⟩)⟩, ih _ h.2.2⟩
  refine ⟨fun k hk => ?_, fun kd c hc => ?_, hPG⟩
  · obtain ⟨p1, p2, p3, p4, p5, p6, p7, p8, p9⟩ := hP.1 k hk
    have hg := hGS 0 k
    have cp : ∀ st, st < 36 → SI S (so k) cl T w k st → SI S (so k) cl' T b k st := fun st hst h => by
      obtain ⟨⟨a1, a2, a3, a4⟩, a5⟩ := h
      refine ⟨⟨fun j hj => by rw [hs]; exact okm _ (a1 j hj), by rw [hs, hs, hs]; exact a2, by rw [hs, hs]; exact a3, fun h => ?_⟩, ?_⟩
      · rw [hs] at h
        obtain ⟨c1, c2, c3⟩ := a4 h
        have hc : cl := by
          rcases (a1 0 (by omega)).2 with h2 | h2
          · omega
          · exact h2.1
        rw [hs, hs, hr 0 _ (by omega) hst, hr 2 _ (by omega) hst, hr 3 _ (by omega) hst, h0, hl k hk hc]
        exact ⟨c1, c2, c3⟩
      · unfold SIc at *
        simp only [h0]
        exact a5
    refine ⟨cp _ (by omega) p1, by rw [hG]; exact cp _ (by omega) p2, fun h => by rw [hG]; exact cp _ (by omega) (p3 h), by rw [hG, hs, hs]; exact p4, fun h => by rw [hG, hs, hs]; exact p5 h, (h11 k hk).1, (h11 k hk).2, h10 k hk, fun kd hc hsh => ?_⟩
    rw [h45 _ _ _ hc.1] at hsh
    obtain ⟨x, y⟩ := p9 kd hc hsh
    exact ⟨x, by rw [h45 _ _ _ x.1]; exact y⟩
  · obtain ⟨⟨p1, p2, p3⟩, p4, p5⟩ := hP.2.1 kd c hc
    have hu : src S kd c < c := hc.lt hz
    have hcn := hc.2.1
    have ep : pend S b 0 kd c = pend S w 0 kd c := by
      unfold pend gvn
      rw [h45 _ _ _ hc.1, hq _ (fun k hk e => rl_ri (fl := 0) (k := src S kd c) (j := k) (by omega) (by omega) e.symm)]
    exact ⟨⟨by rw [ep, hs]; exact lk _ _ _ p1, by rw [ep, hs, hs]; exact p2, by rw [hG, hs, hs]; exact p3⟩, by rw [ep, h45 _ _ _ hc.1, hs, hG, hs]; exact p4, fun h => by rw [hG, hs, hs]; exact p5 h⟩
/-- fields that no invariant speaks of -/
theorem set_INV {S : TS} {so : Nat → Nat} {cl cl' : Prop} {t : Nat} {w b : TW} (hcl : cl → cl') (h : INV S so cl t w) (hF : ∀ kd f a j, kd ≠ 7 → ¬ (kd = 2 ∧ j = 10) → b.1 kd f a j = w.1 kd f a j) (hq : b.2 = w.2) (h10 : ∀ k, k < zn S → ¬ b.1 2 0 k 10 = 0 → cl') : INV S so cl' t b := by
  obtain ⟨a, g, c, d, N, M, C, e, f, ⟨C1, g1⟩, i, j, l, P, p⟩ := h
  have hqq : b.2.2 = w.2.2 := by rw [hq]
  refine ⟨a.ag (fun x y => hF _ _ _ _ (by omega) (by omega)) (fun k _ => by rw [hqq]), by rw [hq]; exact g, c.eq (hF _ _ _ _ (by omega) (by omega)), fun i hi => by rw [hqq]; exact d i hi, N, M, C, e, f.of (fun _ _ => hF _ _ _ _ (by omega) (by omega)) (fun kd c h => hF _ _ _ _ (by omega) (by omega)) (by rw [hF _ _ _ _ (by omega) (by omega)]; exact f.2.1) f.2.2.1 hqq, ⟨C1, g1.of (fun _ _ => hF _ _ _ _ (by omega) (by omega)) (fun kd c h => hF _ _ _ _ (by omega) (by omega)) (by rw [hF _ _ _ _ (by omega) (by omega)]; exact g1.2.1) g1.2.2.1 hqq⟩, i, j, l, P, ?_⟩
  refine p.of a.1 a.2.1 g hcl (fun _ _ => hF _ _ _ _ (by omega) (by omega)) (fun kd c j h => hF _ _ _ _ (by omega) (by omega)) (fun _ _ => by rw [hqq]) (by rw [hq]) (fun _ _ _ => by rw [hqq]) (fun k hk => ?_) h10 ?_
  · obtain ⟨-, -, -, -, -, p6, p7, -⟩ := p.1 k hk
    rw [hF _ _ _ _ (by omega) (by omega), hF _ _ _ _ (by omega) (by omega)]
    exact ⟨p6, p7⟩
  · unfold PG
    rw [hF _ _ _ _ (by omega) (by omega), hF _ _ _ _ (by omega) (by omega)]
    exact p.2.2
/-- an event is offered -/
theorem offer_INV {S : TS} {so : Nat → Nat} {t k a tm : Nat} {v : Int32} {w : TW} (h : INV S so False t w) (hk : k < zn S) (ha : a < 256) (htm : tm ≤ 400) (hlen : (w.2.2 (rl k)).2.length < 60) : INV S so False t (w_X10_offer S w k a v tm).1 ∧ (w_X10_offer S w k a v tm).1.1 = w.1 ∧ ∀ i, (w_X10_offer S w k a v tm).1.2.2 i = if i = rl k then qadd (w.2.2 (rl k)) (v_X3_event (nI a) v (nI tm)) else w.2.2 i := by
  obtain ⟨g0, g, c, d, N, M, C, e, f, ⟨C1, g1⟩, i, j, l, P, p⟩ := h
  obtain ⟨b, hb⟩ : ∃ b, b = zrw w (rl k) (qadd (w.2.2 (rl k)) (v_X3_event (nI a) v (nI tm))) := ⟨_, rfl⟩
  have e1 : (w_X10_offer S w k a v tm).1 = b := by unfold w_X10_offer; rw [zlet_eq, hb]
  rw [e1]
  have hF : b.1 = w.1 := by rw [hb]; rfl
  have hGG : b.2.1 = w.2.1 := by rw [hb]; rfl
  have hq : ∀ i, b.2.2 i = if i = rl k then qadd (w.2.2 (rl k)) (v_X3_event (nI a) v (nI tm)) else w.2.2 i := fun i => by rw [hb]; rfl
  have hn := g0.1
  have hz := g0.2.1
  have hqn : ∀ i, i ≠ rl k → b.2.2 i = w.2.2 i := fun i hi => by rw [hq, if_neg hi]
  have hrs : ∀ x f st, x < 4 → f < 2 → st < 36 → b.2.2 (rs x f st) = w.2.2 (rs x f st) := fun x f st hx hf hst => hqn _ (fun e => rl_rs hx hf hst e.symm)
  have hri : ∀ f u, f < 2 → u < 12 → b.2.2 (ri f u) = w.2.2 (ri f u) := fun f u hf hu => hqn _ (fun e => rl_ri hf hu e.symm)
  have hro : ∀ f u, f < 2 → u < 12 → b.2.2 (ro f u) = w.2.2 (ro f u) := fun f u hf hu => hqn _ (fun e => rl_ro hf hu e.symm)
  have hll : ∀ u, (w.2.2 (rl u)).2.length ≤ (b.2.2 (rl u)).2.length := fun u => by
    rw [hq]
    by_cases e : rl u = rl k
    · rw [if_pos e, e]
      show _ ≤ (((w.2.2 (rl k)).2 ++ [_]).length)
      rw [List.length_append]; omega
    · rw [if_neg e]; omega
  have hBI : ∀ fl C', fl < 2 → BI S so w fl N M C' → BI S so b fl N M C' := fun fl C' hf hB => by
    refine ⟨fun kd c hc => ?_, by rw [hF]; exact hB.2.1, hB.2.2.1, fun u hu => ?_⟩
    · have hu : src S kd c < c := hc.lt hz
      have hcn := hc.2.1
      have := hB.1 kd c hc
      have e9 : b.2.2 (rin S fl kd c) = w.2.2 (rin S fl kd c) := hri fl _ hf (by show src S kd c < 12; omega)
      unfold gvn at *
      rw [hF, e9]
      exact this
    · obtain ⟨h1, h2, h3, h4, h5, h6⟩ := hB.2.2.2 u hu
      refine ⟨fun s hs => (h1 s hs).same (fun x hx => hrs x fl _ hx hf (by omega)), fun s hs i hi => by rw [hF]; exact h2 s hs i hi, by rw [hri fl u hf (by omega)]; exact h3, by rw [hro fl u hf (by omega)]; exact h4, by rw [hri fl u hf (by omega)]; exact h5, fun h0 s hs => ?_⟩
      obtain ⟨tk, x, y⟩ := h6 h0 s hs
      exact ⟨tk, by rw [hF]; exact x, Nat.le_trans y (hll u)⟩
  refine ⟨⟨⟨hn, hz, fun u hu => ?_⟩, by rw [hGG]; exact g, c.eq (by rw [hF]), fun i hi => ?_, N, M, C, e, hBI 0 C (by omega) f, ⟨C1, hBI 1 C1 (by omega) g1⟩, i, j, l, P, ?_⟩, hF, hq⟩
  · obtain ⟨x1, x2, x3, x4⟩ := g0.2.2 u hu
    refine ⟨x1.same (fun j => by rw [hF]), ?_, ?_, x4⟩
    · rw [hq]
      by_cases e : rl u = rl k
      · rw [if_pos e, ← e]; exact x2.add (by rw [e]; exact hlen)
      · rw [if_neg e]; exact x2
    · rw [hq]
      by_cases e : rl u = rl k
      · rw [if_pos e, ← e]
        refine x3.app (EvL.one ⟨ev_kind _ _ _ ha (by omega), ?_⟩)
        rw [ev_time _ _ _ ha (by omega), zi_nI (by omega)]; omega
      · rw [if_neg e]; exact x3
  · rw [hqn i (dr_k hn (fl := 0) (by omega) hk hi).2.2.2]; exact d i hi
  · refine p.of hn hz g id (fun _ _ => by rw [hF]) (fun _ _ _ _ => by rw [hF]) (fun i hi => hqn i (hi k hk)) hGG (fun _ _ h => h.elim) (fun u hu => ?_) (fun u hu h => ?_) ?_
    · obtain ⟨-, -, -, -, -, p6, p7, -⟩ := p.1 u hu
      rw [hF]
      exact ⟨p6, p7⟩
    · obtain ⟨-, -, -, -, -, -, -, p8, -⟩ := p.1 u hu
      exact p8 (by rw [← hF]; exact h)
    · unfold PG
      rw [hF]
      exact p.2.2
/-! ===== a checkpoint is begun ===== -/
theorem bc_loop {S : TS} (fl : Nat) : ∀ (n i : Nat) (w : TW), ∃ c : TW, r_X2_beginCheckpoint S fl n i w = c ∧ c.2 = w.2 ∧ (∀ kd f a j, ¬ (kd = 2 ∧ f = fl ∧ j = 11 ∧ i ≤ a ∧ a < i + n) → c.1 kd f a j = w.1 kd f a j) ∧ ∀ a, i ≤ a → a < i + n → c.1 2 fl a 11 = if w.1 8 0 a 0 = 0 then 1 else 0 := by
  intro n
  induction n with
  | zero => intro i w; exact ⟨w, rfl, rfl, fun _ _ _ _ _ => rfl, fun a h1 h2 => by omega⟩
  | succ n ih =>
    intro i w
    rw [er_X2_beginCheckpoint]
    have go : ∀ v : Int32, v = (if w.1 8 0 i 0 = 0 then 1 else 0) → ∃ c : TW, zlet (zset w 2 fl i 11 v) (fun w2 => r_X2_beginCheckpoint S fl n (i + 1) w2) = c ∧ c.2 = w.2 ∧ (∀ kd f a j, ¬ (kd = 2 ∧ f = fl ∧ j = 11 ∧ i ≤ a ∧ a < i + (n + 1)) → c.1 kd f a j = w.1 kd f a j) ∧ ∀ a, i ≤ a → a < i + (n + 1) → c.1 2 fl a 11 = if w.1 8 0 a 0 = 0 then 1 else 0 := fun v hv => by
      rw [zlet_eq]
      obtain ⟨c, c1, c2, c3, c4⟩ := ih (i + 1) (zset w 2 fl i 11 v)
      refine ⟨c, c1, c2, fun kd f a j h => ?_, fun a h1 h2 => ?_⟩
      · rw [c3 _ _ _ _ (by omega), zset_F, if_neg (by omega)]
      · by_cases e : a = i
        · subst e
          rw [c3 _ _ _ _ (by omega), zset_F, if_pos ⟨rfl, rfl, rfl, rfl⟩, hv]
        · have e8 : (zset w 2 fl i 11 v).1 8 0 a 0 = w.1 8 0 a 0 := by rw [zset_F, if_neg (by omega)]
          rw [c4 a (by omega) (by omega), e8]
    by_cases h : w.1 8 0 i 0 = 0
    · rw [if_pos h]; exact go 1 (by rw [if_pos h])
    · rw [if_neg h]; exact go 0 (by rw [if_neg h])
theorem ckp_INV {S : TS} {so : Nat → Nat} {cl : Prop} {t bn : Nat} {w : TW} (h : INV S so cl t w) (h0n : 0 < zn S) (hb0 : w.1 6 0 0 5 = 0) (hb4 : w.1 6 0 0 4 = nI bn) (hbn : bn ≤ 100000) :
    INV S so cl t (w_X10_checkpoint S w).1 ∧ (w_X10_checkpoint S w).1.1 6 0 0 4 = nI (bn + 1) ∧ (w_X10_checkpoint S w).1.2 = w.2 ∧ ∀ kd f a j, kd ≠ 6 → ¬ (kd = 2 ∧ j = 11) → (w_X10_checkpoint S w).1.1 kd f a j = w.1 kd f a j := by
  obtain ⟨g0, g, c, d, N, M, C, e, f, ⟨C1, g1⟩, i, j, l, P, p⟩ := h
  have hn := g0.1
  obtain ⟨w3, hw3⟩ : ∃ w3, w3 = zset (zset (zset w 6 0 0 4 (nI (bn + 1))) 6 0 0 5 (nI (bn + 1))) 6 0 0 7 (nI (zn S)) := ⟨_, rfl⟩
  obtain ⟨b, b1, b2, b3, b4⟩ := bc_loop (S := S) 0 (zn S) 0 w3
  have eb : (w_X10_checkpoint S w).1 = b := by
    unfold w_X10_checkpoint w_X2_beginCheckpoint
    simp only [zlet_eq]
    rw [hb4, nI_1, n6_self, ← hw3, b1]
  rw [eb]
  have q3 : w3.2 = w.2 := by rw [hw3]; rfl
  have hq : b.2 = w.2 := b2.trans q3
  have hqq : b.2.2 = w.2.2 := by rw [hq]
  have hF3 : ∀ kd f a j, ¬ (kd = 6 ∧ f = 0 ∧ a = 0 ∧ (j = 4 ∨ j = 5 ∨ j = 7)) → w3.1 kd f a j = w.1 kd f a j := fun kd f a j h => by
    rw [hw3, zset_F, if_neg (by omega), zset_F, if_neg (by omega), zset_F, if_neg (by omega)]
  have hF : ∀ kd f a j, ¬ (kd = 6 ∧ f = 0 ∧ a = 0 ∧ (j = 4 ∨ j = 5 ∨ j = 7)) → ¬ (kd = 2 ∧ j = 11) → b.1 kd f a j = w.1 kd f a j := fun kd f a j h1 h2 => (b3 _ _ _ _ (by omega)).trans (hF3 _ _ _ _ h1)
  have h5 : b.1 6 0 0 5 = nI (bn + 1) := by rw [b3 _ _ _ _ (by omega), hw3, zset_F, if_neg (by omega), zset_F, if_pos ⟨rfl, rfl, rfl, rfl⟩]
  have h7 : b.1 6 0 0 7 = nI (zn S) := by rw [b3 _ _ _ _ (by omega), hw3, zset_F, if_pos ⟨rfl, rfl, rfl, rfl⟩]
  have h4 : b.1 6 0 0 4 = nI (bn + 1) := by rw [b3 _ _ _ _ (by omega), hw3, zset_F, if_neg (by omega), zset_F, if_neg (by omega), zset_F, if_pos ⟨rfl, rfl, rfl, rfl⟩]
  have hne : ¬ nI (bn + 1) = 0 := nI_ne0 (by omega) (by omega)
  have hPf := p.2.2.1 hb0
  refine ⟨⟨g0.ag (fun x y => hF _ _ _ _ (by omega) (by omega)) (fun k _ => by rw [hqq]), by rw [hq]; exact g, c.eq (hF _ _ _ _ (by omega) (by omega)), fun i hi => by rw [hqq]; exact d i hi, N, M, C, e, f.of (fun _ _ => hF _ _ _ _ (by omega) (by omega)) (fun kd c h => hF _ _ _ _ (by omega) (by omega)) (by rw [hF _ _ _ _ (by omega) (by omega)]; exact f.2.1) f.2.2.1 hqq, ⟨C1, g1.of (fun _ _ => hF _ _ _ _ (by omega) (by omega)) (fun kd c h => hF _ _ _ _ (by omega) (by omega)) (by rw [hF _ _ _ _ (by omega) (by omega)]; exact g1.2.1) g1.2.2.1 hqq⟩, i, j, l, P, ?_⟩, h4, hq, fun kd f a j h1 h2 => hF _ _ _ _ (by omega) h2⟩
  refine p.of hn g0.2.1 g id (fun _ _ => hF _ _ _ _ (by omega) (by omega)) (fun kd c j h => hF _ _ _ _ (by omega) (by omega)) (fun _ _ => by rw [hqq]) (by rw [hq]) (fun _ _ _ => by rw [hqq]) (fun k hk => ?_) (fun k hk h => ?_) ⟨fun h => absurd (by rw [← h5]; exact h) hne, fun _ => ⟨by rw [h7, cnP_f hPf], by rw [cnP_f hPf]; exact h0n⟩⟩
  · have hs := (g0.2.2 k hk).1
    have e8 : w3.1 8 0 k 0 = nI (so k) := by rw [hF3 _ _ _ _ (by omega)]; exact hs.1
    have := b4 k (by omega) (by omega)
    rw [e8] at this
    rw [h5, this]
    refine ⟨fun h0 => ?_, fun h0 => ?_⟩
    · rw [if_neg (nI_ne0 (by omega) (by have := hs.2.1; omega))]
    · rw [h0, if_pos (show nI 0 = 0 from rfl)]
      refine ⟨fun h => absurd h (by decide), fun h => ?_⟩
      rcases h with h | h
      · exact absurd h hne
      · rw [hPf k hk] at h; cases h
  · obtain ⟨-, -, -, -, -, -, -, p8, -⟩ := p.1 k hk
    exact p8 (by rw [← hF _ _ _ _ (by omega) (by omega)]; exact h)
