theorem zlet_eq {α β : Type} (a : α) (f : α → β) : zlet a f = f a := zlet_e rfl rfl
theorem tij_ok {S : TS} {E E0 N so : Nat} (hn : zn S ≤ 12) (w w1 : TW) (fl k : Nat) (hf : fl < 2) (hk : k < 12) (x : Int64) (i1 : Int32) (h1 : w1 = zset w 0 fl (3 * k) 4 (w.1 0 fl (3 * k) 4 + 1)) (hx : (v_X3_time x).toInt ≤ E0) (hE0 : E0 ≤ E) (h : SR so E N w fl (3 * k)) (hso : so = 5) : TEV S fl k so E N w (w_X8_takeIntoJoin S w1 fl k x i1) := by
  have hq1 : w1.2.2 = w.2.2 := by rw [h1]; rfl
  have h' : SR so E N w1 fl (3 * k) := h.same (fun x _ => by rw [hq1])
  have hxE : (v_X3_time x).toInt ≤ E := by omega
  obtain ⟨hS0, hJ2, hJ3, hS4, hS5⟩ := h'
  have hfuel : zfuel = 8388608 := zfuel_eq
  -- the row xr is looked at, the row xo gets the event
  have side : ∀ (xr xo : Nat), (xr = 3 ∧ xo = 2) ∨ (xr = 2 ∧ xo = 3) → ∃ L c, L.length ≤ 16 ∧ EX (RS23 fl (3 * k)) S fl k E w1 c L ∧ SR so E (N + 8) c fl (3 * k) ∧
      c = (fun w4 : TW => if (v_X6_length S w4.1 w4.2.1 w4.2.2 (rs xo fl (3 * k))) ≤ 16 then w4 else zrw w4 (rs xo fl (3 * k)) (qrem (w4.2.2 (rs xo fl (3 * k))) 0 1)) (zrw (r_X8_takeIntoJoin S fl k x i1 xr zfuel 0 w1) (rs xo fl (3 * k)) (qadd ((r_X8_takeIntoJoin S fl k x i1 xr zfuel 0 w1).2.2 (rs xo fl (3 * k))) x)) := by
    intro xr xo hxx
    have hr4 : xr < 4 := by omega
    have ho4 : xo < 4 := by omega
    have hne : xr ≠ xo := by omega
    have hJr : JR E (w1.2.2 (rs xr fl (3 * k))) := by rcases hxx with ⟨rfl, -⟩ | ⟨rfl, -⟩ <;> assumption
    have hJo : JR E (w1.2.2 (rs xo fl (3 * k))) := by rcases hxx with ⟨-, rfl⟩ | ⟨-, rfl⟩ <;> assumption
    obtain ⟨L, l1, l2⟩ := tij_loop (S := S) (E := E) (B := 17) hn fl k hf hk x i1 xr hr4 hxE (by omega) zfuel 0 w1 hJr.1 hJr.2.2 (by omega) (by omega)
    generalize r_X8_takeIntoJoin S fl k x i1 xr zfuel 0 w1 = c at *
    have hc : ∀ y, y < 4 → c.2.2 (rs y fl (3 * k)) = w1.2.2 (rs y fl (3 * k)) := fun y hy => l2.2.2.1 _ (rs_ri hy hf (by omega))
    have hp := hJo.push hxE
    have e0 : (zrw c (rs xo fl (3 * k)) (qadd (c.2.2 (rs xo fl (3 * k))) x)).2.2 (rs xo fl (3 * k)) = qadd (w1.2.2 (rs xo fl (3 * k))) x := by rw [zrw_q, if_pos rfl, hc _ ho4]
    have hX : RS23 fl (3 * k) (rs xo fl (3 * k)) := by rcases hxx with ⟨-, rfl⟩ | ⟨-, rfl⟩; exact Or.inl rfl; exact Or.inr rfl
    -- what stands behind
    have fin : ∀ d : TW, d.1 = c.1 → (∀ i, i ≠ rs xo fl (3 * k) → d.2.2 i = c.2.2 i) → JR E (d.2.2 (rs xo fl (3 * k))) → EX (RS23 fl (3 * k)) S fl k E w1 d L ∧ SR so E (N + 8) d fl (3 * k) := fun d d1 d2 d3 => by
      have hx2 : EX (RS23 fl (3 * k)) S fl k E c d [] := EX.of (n23 fl k fl (3 * k) hf (by omega)) d1 (fun i hi => d2 i (fun e => hi (by rw [e]; exact hX)))
      refine ⟨by have := l2.ex (X := RS23 fl (3 * k)) |>.tr hx2; rw [List.append_nil] at this; exact this, ?_⟩
      have hd : ∀ y, y < 4 → y ≠ xo → d.2.2 (rs y fl (3 * k)) = w1.2.2 (rs y fl (3 * k)) := fun y hy hyo => by rw [d2 _ (fun e => hyo (rs_inj hy ho4 e)), hc y hy]
      refine ⟨(hS0.mono (by omega)).same (hd 0 (by omega) (by omega)) (hd 1 (by omega) (by omega)), ?_, ?_, fun h9 => by rw [hd 0 (by omega) (by omega)]; exact hS4 h9, fun h9 => absurd hso h9⟩
      · rcases hxx with ⟨-, rfl⟩ | ⟨-, rfl⟩
        · exact d3
        · rw [hd 2 (by omega) (by omega)]; exact hJ2
      · rcases hxx with ⟨-, rfl⟩ | ⟨-, rfl⟩
        · rw [hd 3 (by omega) (by omega)]; exact hJ3
        · exact d3
    refine ⟨L, _, by have := hJr.2.1; omega, ?_, ?_, rfl⟩
    all_goals
      dsimp only
      have ev : v_X6_length S (zrw c (rs xo fl (3 * k)) (qadd (c.2.2 (rs xo fl (3 * k))) x)).1 (zrw c (rs xo fl (3 * k)) (qadd (c.2.2 (rs xo fl (3 * k))) x)).2.1 (zrw c (rs xo fl (3 * k)) (qadd (c.2.2 (rs xo fl (3 * k))) x)).2.2 (rs xo fl (3 * k)) = nI (qadd (w1.2.2 (rs xo fl (3 * k))) x).2.length := by
        show nI ((zrw c (rs xo fl (3 * k)) (qadd (c.2.2 (rs xo fl (3 * k))) x)).2.2 (rs xo fl (3 * k))).2.length = _
        rw [e0]
      rw [ev, e0]
      by_cases c6 : nI (qadd (w1.2.2 (rs xo fl (3 * k))) x).2.length ≤ 16
      · rw [if_pos c6] at hp ⊢
        have := fin (zrw c (rs xo fl (3 * k)) (qadd (c.2.2 (rs xo fl (3 * k))) x)) rfl (fun i hi => by rw [zrw_q, if_neg hi]) (by rw [e0]; exact hp)
        first | exact this.1 | exact this.2
      · rw [if_neg c6] at hp ⊢
        have := fin (zrw (zrw c (rs xo fl (3 * k)) (qadd (c.2.2 (rs xo fl (3 * k))) x)) (rs xo fl (3 * k)) (qrem (qadd (w1.2.2 (rs xo fl (3 * k))) x) 0 1)) rfl (fun i hi => by rw [zrw_q, if_neg hi, zrw_q, if_neg hi]) (by rw [zrw_q, if_pos rfl]; exact hp)
        first | exact this.1 | exact this.2
  have hXo : ¬ RS23 fl (3 * k) (ro fl k) := fun h => by rcases h with h | h <;> exact ro_rs (by omega) hf (by omega) h
  unfold w_X8_takeIntoJoin
  by_cases c1 : (w1.1 0 fl (3 * k) 0) ≤ (v_X3_time x)
  · rw [if_pos c1]
    by_cases c2 : i1 = 0
    · rw [if_pos c2]
      obtain ⟨L, c, a1, a2, a3, a4⟩ := side 3 2 (Or.inl ⟨rfl, rfl⟩)
      exact TEV.ofEX hf hk h1 a2 hXo a1 a3 (Or.inr (Or.inr hso)) (Or.inl a4.symm)
    · rw [if_neg c2]
      obtain ⟨L, c, a1, a2, a3, a4⟩ := side 2 3 (Or.inr ⟨rfl, rfl⟩)
      exact TEV.ofEX hf hk h1 a2 hXo a1 a3 (Or.inr (Or.inr hso)) (Or.inl a4.symm)
  · rw [if_neg c1]
    refine TEV.ofEX (X := RS23 fl (3 * k)) (c := w1) (L := []) hf hk h1 EX.rf hXo (by simp) ((h.same (fun x _ => by rw [hq1])).mono (by omega)) (Or.inr (Or.inr hso)) (Or.inr ?_)
    show zset w1 0 fl (3 * k) 6 (w1.1 0 fl (3 * k) 6 + 1) = _
    rw [show w1.1 0 fl (3 * k) 6 = w.1 0 fl (3 * k) 6 by rw [h1, zset_F, if_neg (by omega)]]
theorem so17 {so : Nat} (h : so < 8) (h0 : so ≠ 0) : so = 1 ∨ so = 2 ∨ so = 3 ∨ so = 4 ∨ so = 5 ∨ so = 6 ∨ so = 7 := by omega
/-- an event is taken -/
theorem te_ok {S : TS} {so E E0 N : Nat} (hn : zn S ≤ 12) (w : TW) (fl k : Nat) (hf : fl < 2) (hk : k < 12) (x : Int64) (i1 : Int32) (hkd : v_X3_kind x = 0) (hx : (v_X3_time x).toInt ≤ E0) (hE0 : E0 + 20 ≤ E) (hE : E < 2 ^ 20) (hN : N + 8 ≤ 4194304) (hp : PLk w k so) (h0 : so ≠ 0) (h : SR so E N w fl (3 * k)) : TEV S fl k so E N w (w_X8_takeEvent S w fl k x i1) := by
  obtain ⟨w1, h1⟩ : ∃ w1, w1 = zset w 0 fl (3 * k) 4 (w.1 0 fl (3 * k) 4 + 1) := ⟨_, rfl⟩
  have hq1 : w1.2.2 = w.2.2 := by rw [h1]; rfl
  have hp1 : ∀ j, w1.1 8 0 k j = w.1 8 0 k j := fun j => by rw [h1, zset_F, if_neg (by omega)]
  have hS1 : SR so E N w1 fl (3 * k) := h.same (fun x _ => by rw [hq1])
  obtain ⟨q0, q8, q3, q4, q34, q5, q2, -⟩ := hp
  have hxE : v_X3_kind x = 0 ∧ (v_X3_time x).toInt ≤ E := ⟨hkd, by omega⟩
  have e8 : w1.1 8 0 k 0 = nI so := (hp1 0).trans q0
  show TEV S fl k so E N w ((fun w1 : TW => if (w1.1 8 0 k 0) = 1 then if (v_X8_passes S w1.1 w1.2.1 w1.2.2 fl k x) = 0 then w1 else zlet (w_X8_emit S w1 fl k x) (fun w4 => w4) else if (w1.1 8 0 k 0) = 2 then zlet (w_X8_emit S w1 fl k (v_X8_mapped S w1.1 w1.2.1 w1.2.2 fl k x)) (fun w6 => w6) else if (w1.1 8 0 k 0) = 3 then zlet (w_X8_takeIntoWindows S w1 fl k x) (fun w8 => w8) else if (w1.1 8 0 k 0) = 4 then zlet (w_X8_takeIntoSession S w1 fl k x) (fun w10 => w10) else if (w1.1 8 0 k 0) = 5 then zlet (w_X8_takeIntoJoin S w1 fl k x i1) (fun w12 => w12) else if (w1.1 8 0 k 0) = 6 then zlet (w_X8_emit S w1 fl k x) (fun w14 => w14) else zlet (w_X8_putOut S w1 fl k x) (fun w15 => w15)) (zset w 0 fl (3 * k) 4 (w.1 0 fl (3 * k) 4 + 1)))
  rw [← h1]
  dsimp only
  rw [e8]
  simp only [zlet]
  have hf1 : ∀ j, j ≠ 4 → w1.1 0 fl (3 * k) j = w.1 0 fl (3 * k) j := fun j hj => by rw [h1, zset_F, if_neg (by omega)]
  have h4 : w1.1 0 fl (3 * k) 4 = w.1 0 fl (3 * k) 4 + 1 := by rw [h1, zset_F, if_pos ⟨rfl, rfl, rfl, rfl⟩]
  have hso := so17 q8 h0
  obtain ⟨t, ht, et⟩ := it_timeE x
  have htE : (t : Int) ≤ E0 := by rw [et, zi_nI (by omega)] at hx; exact hx
  rcases hso with rfl | rfl | rfl | rfl | rfl | rfl | rfl
  · rw [if_pos (by decide)]
    by_cases c : (v_X8_passes S w1.1 w1.2.1 w1.2.2 fl k x) = 0
    · rw [if_pos c]
      refine ⟨[], by simp, EvL.nil, EM.of (by rw [hq1]), hS1.mono (by omega), fun j hj => hf1 j (by omega), h4, Or.inl (hf1 6 (by omega)), fun _ => Or.inl (hf1 5 (by omega)), by omega, by omega, fun _ => hf1 7 (by omega), fun M hM => by rw [hq1]; exact hM.mono (by omega)⟩
    · rw [if_neg c]
      exact TEV.ofEM hn hf hk h1 h x hxE (by omega)
  · rw [if_neg (by decide), if_pos (by decide)]
    obtain ⟨m, m1, m2, m3⟩ := q2 rfl
    exact TEV.ofEM hn hf hk h1 h _ (mapped_ok x hxE.2 ((hp1 5).trans m1) m2 m3) (by omega)
  · rw [if_neg (by decide), if_neg (by decide), if_pos (by decide)]
    obtain ⟨sp, s1, s2, s3, s4⟩ := q3 rfl
    obtain ⟨L, c, a1, a2, a3, a4⟩ := tiws_SP (S := S) hn w1 fl k hf hk x t sp et hE (by omega) hN hS1.1 ((hp1 7).trans s2) ((hp1 6).trans s1) s3 s4
    have hX : ∀ y, y = 2 ∨ y = 3 → c.2.2 (rs y fl (3 * k)) = w1.2.2 (rs y fl (3 * k)) := fun y hy => a2.2.2.1 _ (rs_ri (by omega) hf (by omega)) (fun h => by rcases h with h | h <;> (have := rs_inj (by omega) (by omega) h; omega))
    refine TEV.ofEX hf hk h1 a2 (fun h => by rcases h with h | h <;> exact ro_rs (by omega) hf (by omega) h) (by omega) ?_ (Or.inl rfl) (by rw [← hf1 6 (by omega)]; exact a4)
    exact ⟨a3, by rw [hX 2 (by omega)]; exact hS1.2.1, by rw [hX 3 (by omega)]; exact hS1.2.2.1, fun h => absurd (Or.inl rfl) h, fun h => by rw [hX 2 (by omega), hX 3 (by omega)]; exact hS1.2.2.2.2 h⟩
  · rw [if_neg (by decide), if_neg (by decide), if_neg (by decide), if_pos (by decide)]
    obtain ⟨g, s1, s2, s3⟩ := q4 rfl
    obtain ⟨c, a1, a2, a3, a4⟩ := tis_SP (S := S) (E := E) (N := N) w1 fl k x t g et ((hp1 9).trans s1) s2 hE (by omega) hS1.1 (by omega)
    have hX : ∀ y, y = 2 ∨ y = 3 → c.2.2 (rs y fl (3 * k)) = w1.2.2 (rs y fl (3 * k)) := fun y hy => a2 _ (fun h => by rcases h with h | h <;> (have := rs_inj (by omega) (by omega) h; omega))
    refine TEV.ofEX (X := RS01 fl (3 * k)) (c := c) (L := []) hf hk h1 (EX.of (n01 fl k fl (3 * k) hf (by omega)) a3 a2) (fun h => by rcases h with h | h <;> exact ro_rs (by omega) hf (by omega) h) (by simp) ?_ (Or.inr (Or.inl rfl)) (by rw [← hf1 6 (by omega)]; exact a4)
    exact ⟨a1.mono (by omega), by rw [hX 2 (by omega)]; exact hS1.2.1, by rw [hX 3 (by omega)]; exact hS1.2.2.1, fun h => absurd (Or.inr rfl) h, fun h => by rw [hX 2 (by omega), hX 3 (by omega)]; exact hS1.2.2.2.2 h⟩
  · rw [if_neg (by decide), if_neg (by decide), if_neg (by decide), if_neg (by decide), if_pos (by decide)]
    exact tij_ok hn w w1 fl k hf hk x i1 h1 hx (by omega) h rfl
  · rw [if_neg (by decide), if_neg (by decide), if_neg (by decide), if_neg (by decide), if_neg (by decide), if_pos (by decide)]
    exact TEV.ofEM hn hf hk h1 h x hxE (by omega)
  · rw [if_neg (by decide), if_neg (by decide), if_neg (by decide), if_neg (by decide), if_neg (by decide), if_neg (by decide)]
    obtain ⟨b, hb1, hb2, hb3⟩ : ∃ b : TW, b = w_X8_putOut S w1 fl k x ∧ b.1 = (zset w1 0 fl (3 * k) 7 (w1.1 0 fl (3 * k) 7 + 1)).1 ∧ ((∀ i, b.2.2 i = w1.2.2 i) ∨ ∀ i, b.2.2 i = if i = ro fl k then qadd (w1.2.2 (ro fl k)) x else w1.2.2 i) := by
      refine ⟨_, rfl, ?_, ?_⟩
      · unfold w_X8_putOut; simp only [zlet]; split <;> rfl
      · unfold w_X8_putOut; simp only [zlet]
        split
        · exact Or.inr fun i => rfl
        · exact Or.inl fun i => rfl
    rw [← hb1]
    have hbf : ∀ j, j ≠ 7 → b.1 0 fl (3 * k) j = w1.1 0 fl (3 * k) j := fun j hj => by rw [hb2, zset_F, if_neg (by omega)]
    have hbr : ∀ i, i ≠ ro fl k → b.2.2 i = w1.2.2 i := fun i hi => by
      rcases hb3 with h | h
      · exact h i
      · rw [h i, if_neg hi]
    refine ⟨[], by simp, EvL.nil, EM.of (by rw [hbr _ (fun e => ro_ri hf hk e.symm), hq1]), (hS1.mono (by omega)).same (fun y hy => hbr _ (fun e => ro_rs hy hf (by omega) e.symm)), fun j hj => (hbf j (by omega)).trans (hf1 j (by omega)), (hbf 4 (by omega)).trans h4, Or.inl ((hbf 6 (by omega)).trans (hf1 6 (by omega))), by omega, by omega, fun _ => ⟨(hbf 5 (by omega)).trans (hf1 5 (by omega)), ?_⟩, fun h => absurd rfl h, fun M hM => ?_⟩
    · rw [hb2, zset_F, if_pos ⟨rfl, rfl, rfl, rfl⟩, hf1 7 (by omega)]
    · rcases hb3 with h | h
      · rw [h, hq1]; exact hM.mono (by omega)
      · rw [h, if_pos rfl, hq1]; exact (hM.mono (by omega)).add (by have := hM.1; omega)
/-! ===== a mark is raised ===== -/
def RMK (S : TS) (fl k so E N : Nat) (t : Int32) (w b : TW) : Prop :=
  ∃ L, L.length ≤ N ∧ EvL E L ∧ EM S fl k w b (L ++ [v_X3_mark t]) ∧ SR so E N b fl (3 * k) ∧ b.1 0 fl (3 * k) 0 = t ∧ (∀ j, 1 ≤ j → j ≠ 5 → b.1 0 fl (3 * k) j = w.1 0 fl (3 * k) j) ∧ (so ≠ 3 → so ≠ 4 → b.1 0 fl (3 * k) 5 = w.1 0 fl (3 * k) 5) ∧
    b.2.2 (ro fl k) = w.2.2 (ro fl k) ∧ (t = 1000000 → (b.2.2 (rs 0 fl (3 * k))).2 = [] ∧ (b.2.2 (rs 2 fl (3 * k))).2 = [] ∧ (b.2.2 (rs 3 fl (3 * k))).2 = [])
theorem fe_j {S : TS} {F : TF} {G : TG} {q : TQ} {fl k B : Nat} (t : Int32) (h : RBd B (q (rs 0 fl k))) (hB : B ≤ 4194304) : (v_X7_firstEndingAbove S F G q fl k t).toNatClampNeg ≤ (q (rs 0 fl k)).2.length := by
  unfold v_X7_firstEndingAbove
  obtain ⟨j, h1, h2, h3⟩ := pf_j (S := S) (F := F) (G := G) (l1 := ((t + 1).toInt64) <<< ((29 : Int32).toInt64 &&& 63)) h hB
  rw [h3]
  exact h1
theorem rem_all {p : Nat × List Int64} : (qrem p 0 p.2.length).2 = [] := by
  unfold qrem
  rw [if_pos (by omega)]
  show List.take 0 _ ++ List.drop (0 + _) _ = []
  rw [Nat.zero_add, List.drop_length]
  rfl
theorem fe_last {S : TS} {F : TF} {G : TG} {q : TQ} {fl k B E tn la : Nat} (h : RBd B (q (rs 0 fl k))) (hB : B ≤ 4194304) (hN : NE E (q (rs 0 fl k)).2) (hE : E + 20 < tn) (htn : tn < 2 ^ 20) (hla : la ≤ 20) : (v_X7_firstEndingAbove S F G q fl k (nI tn - nI la)).toNatClampNeg = (q (rs 0 fl k)).2.length := by
  have := h.1
  rw [pk_sub (show la ≤ tn by omega), fe_all (tn := tn - la + 1) h hB hN (by omega) (nI_1 _) (by omega) (by omega), nI_clamp (by omega)]
theorem fireFrom_ok {S : TS} {E N : Nat} (hn : zn S ≤ 12) (w : TW) (fl k : Nat) (hf : fl < 2) (hk : k < 12) (i1 : Int32) (tn la : Nat) (hE : E ≤ 900000) (hN : N ≤ 4194304) (h : SPn E N w fl (3 * k)) (ht : w.1 0 fl (3 * k) 0 = nI tn) (htn : tn < 2 ^ 20) (hla : w.1 8 0 k 8 = nI la) (hla2 : la ≤ 20) :
    ∃ L, L.length ≤ N ∧ EX (RS01 fl (3 * k)) S fl k E w (w_X8_fireFrom S w fl k i1) L ∧ SPn E N (w_X8_fireFrom S w fl k i1) fl (3 * k) ∧ (tn = 1000000 → ((w_X8_fireFrom S w fl k i1).2.2 (rs 0 fl (3 * k))).2 = []) := by
  obtain ⟨a, ea3⟩ : ∃ a, (v_X7_firstEndingAbove S w.1 w.2.1 w.2.2 fl (3 * k) (w.1 0 fl (3 * k) 0)).toNatClampNeg = a := ⟨_, rfl⟩
  obtain ⟨b, eb3⟩ : ∃ b, (v_X7_firstEndingAbove S w.1 w.2.1 w.2.2 fl (3 * k) i1).toNatClampNeg = b := ⟨_, rfl⟩
  have ha := fe_j (S := S) (F := w.1) (G := w.2.1) (w.1 0 fl (3 * k) 0) h.1 hN
  have hb := fe_j (S := S) (F := w.1) (G := w.2.1) i1 h.1 hN
  have hh := h.1.1
  rw [ea3] at ha
  rw [eb3] at hb
  unfold w_X8_fireFrom
  rw [ea3, eb3]
  obtain ⟨L, l1, l2⟩ := fires_EO (S := S) (E := E) (B := N) hn fl k a hf hk hN (by omega) (a - b) b w h.1 h.2.2 (by omega)
  simp only [zlet_eq]
  generalize r_X8_fireFrom S fl k a (a - b) b w = c at *
  have hc : ∀ y, y < 4 → c.2.2 (rs y fl (3 * k)) = w.2.2 (rs y fl (3 * k)) := fun y hy => l2.2.2.1 _ (rs_ri hy hf (by omega))
  have hSc : SPn E N c fl (3 * k) := h.same (hc 0 (by omega)) (hc 1 (by omega))
  have ec : (c.1 0 fl (3 * k) 0) - (c.1 8 0 k 8) = nI tn - nI la := by rw [l2.2.2.2 _ _ _ _ (by omega), l2.2.2.2 _ _ _ _ (by omega), ht, hla]
  rw [ec]
  obtain ⟨d, hd⟩ : ∃ d, d = (v_X7_firstEndingAbove S c.1 c.2.1 c.2.2 fl (3 * k) (nI tn - nI la)).toNatClampNeg := ⟨_, rfl⟩
  rw [← hd]
  obtain ⟨r1, r2, r3, r4⟩ := remove_SP (S := S) c fl (3 * k) 0 d hSc
  refine ⟨L, by omega, ?_, r1, fun hL => ?_⟩
  · have := l2.ex (X := RS01 fl (3 * k)) |>.tr (EX.of (n01 fl k fl (3 * k) hf (by omega)) r3 r2)
    rw [List.append_nil] at this
    exact this
  · rw [fe_last hSc.1 hN hSc.2.2 (by omega) htn hla2] at hd
    rw [r4, hd]
    exact rem_all
theorem rm_ok {S : TS} {so E N : Nat} (hn : zn S ≤ 12) (w : TW) (fl k : Nat) (hf : fl < 2) (hk : k < 12) (t : Int32) (tn : Nat) (ht : t = nI tn) (htn : tn < 2 ^ 20) (hE : E ≤ 900000) (hN : N ≤ 4194304) (hp : PLk w k so) (h : SR so E N w fl (3 * k)) (hlt : w.1 0 fl (3 * k) 0 < t) : RMK S fl k so E N t w (w_X8_raiseMark S w fl k t) := by
  obtain ⟨w1, h1⟩ : ∃ w1, w1 = zset w 0 fl (3 * k) 0 t := ⟨_, rfl⟩
  have hq1 : w1.2.2 = w.2.2 := by rw [h1]; rfl
  have hp1 : ∀ j, w1.1 8 0 k j = w.1 8 0 k j := fun j => by rw [h1, zset_F, if_neg (by omega)]
  have hS1 : SR so E N w1 fl (3 * k) := h.same (fun x _ => by rw [hq1])
  obtain ⟨q0, q8, q3, q4, q34, q5, q2, -⟩ := hp
  have e8 : w1.1 8 0 k 0 = nI so := (hp1 0).trans q0
  have h0 : w1.1 0 fl (3 * k) 0 = nI tn := by rw [h1, zset_F, if_pos ⟨rfl, rfl, rfl, rfl⟩, ht]
  have hf1 : ∀ j, 1 ≤ j → w1.1 0 fl (3 * k) j = w.1 0 fl (3 * k) j := fun j hj => by rw [h1, zset_F, if_neg (by omega)]
  have hmk : v_X3_kind (v_X3_mark t) ≠ 0 := by rw [ht, mk_kind tn htn]; decide
  -- from what stands ahead of the mark's own emission
  have fin : ∀ (X : Nat → Prop) (c : TW) (L : List Int64), L.length ≤ N → EX X S fl k E w1 c L → ¬ X (ro fl k) → SR so E N c fl (3 * k) → (so ≠ 3 → so ≠ 4 → c.1 = w1.1) → (tn = 1000000 → (c.2.2 (rs 0 fl (3 * k))).2 = [] ∧ (c.2.2 (rs 2 fl (3 * k))).2 = [] ∧ (c.2.2 (rs 3 fl (3 * k))).2 = []) → RMK S fl k so E N t w (w_X8_emit S c fl k (v_X3_mark t)) := by
    intro X c L hL hX hXo hSc h5 hlast
    have hEm := emit_EM hn c fl k (v_X3_mark t)
    have hr := emit_row hn c fl k (v_X3_mark t)
    have hF : (w_X8_emit S c fl k (v_X3_mark t)).1 = c.1 := by rw [emit_F hn, if_neg hmk]
    have hrs : ∀ y, y < 4 → (w_X8_emit S c fl k (v_X3_mark t)).2.2 (rs y fl (3 * k)) = c.2.2 (rs y fl (3 * k)) := fun y hy => hr _ (rs_ri hy hf (by omega))
    refine ⟨L, hL, hX.2.1, ?_, hSc.same hrs, ?_, fun j hj hj5 => ?_, fun s3 s4 => ?_, ?_, fun hl => ?_⟩
    · have := hX.1.tr hEm
      unfold EM at *
      rw [← hq1]
      exact this
    · rw [hF, hX.2.2.2 _ _ _ _ (by omega), h0, ht]
    · rw [hF, hX.2.2.2 _ _ _ _ (by omega), hf1 j hj]
    · rw [hF, h5 s3 s4, hf1 5 (by omega)]
    · rw [hr _ (ro_ri hf hk), hX.2.2.1 _ (ro_ri hf hk) hXo, hq1]
    · rw [hrs 0 (by omega), hrs 2 (by omega), hrs 3 (by omega)]
      apply hlast
      rw [ht, zi_eq, zi_L, zi_nI (by omega)] at hl
      omega
  have b1 : w_X8_raiseMark S w fl k t = (fun w2 : TW => if (w2.1 8 0 k 0) = 3 then zlet (w_X8_fireFrom S w2 fl k (w.1 0 fl (3 * k) 0)) (fun w4 => zlet (w_X8_emit S w4 fl k (v_X3_mark t)) (fun w5 => w5)) else if (w2.1 8 0 k 0) = 4 then zlet (w_X8_fireFrom S w2 fl k (w.1 0 fl (3 * k) 0)) (fun w7 => zlet (w_X8_emit S w7 fl k (v_X3_mark t)) (fun w8 => w8)) else if (w2.1 8 0 k 0) = 5 then zlet (w_X8_forgetBelow S w2 (rs 2 fl (3 * k)) (t - (w2.1 8 0 k 11))) (fun w10 => zlet (w_X8_forgetBelow S w10 (rs 3 fl (3 * k)) (t - (w10.1 8 0 k 10))) (fun w11 => zlet (w_X8_emit S w11 fl k (v_X3_mark t)) (fun w12 => w12))) else zlet (w_X8_emit S w2 fl k (v_X3_mark t)) (fun w13 => w13)) w1 := by
    rw [h1]
    unfold w_X8_raiseMark
    rw [if_pos hlt]
    rfl
  rw [b1]
  dsimp only
  rw [e8]
  simp only [zlet]
  have wnd : so = 3 ∨ so = 4 → RMK S fl k so E N t w (w_X8_emit S (w_X8_fireFrom S w1 fl k (w.1 0 fl (3 * k) 0)) fl k (v_X3_mark t)) := fun h34 => by
    obtain ⟨la, l1, l2⟩ := q34 h34
    obtain ⟨L, f1, f2, f3, f4⟩ := fireFrom_ok (S := S) (E := E) (N := N) hn w1 fl k hf hk (w.1 0 fl (3 * k) 0) tn la hE hN hS1.1 h0 htn ((hp1 8).trans l1) l2
    generalize w_X8_fireFrom S w1 fl k (w.1 0 fl (3 * k) 0) = c at *
    have hX : ∀ y, y = 2 ∨ y = 3 → c.2.2 (rs y fl (3 * k)) = w1.2.2 (rs y fl (3 * k)) := fun y hy => f2.2.2.1 _ (rs_ri (by omega) hf (by omega)) (fun h => by rcases h with h | h <;> (have := rs_inj (by omega) (by omega) h; omega))
    have h5 := hS1.2.2.2.2 (by omega)
    refine fin _ c L f1 f2 (fun h => by rcases h with h | h <;> exact ro_rs (by omega) hf (by omega) h) ⟨f3, by rw [hX 2 (by omega)]; exact hS1.2.1, by rw [hX 3 (by omega)]; exact hS1.2.2.1, fun h => absurd h34 h, fun h => by rw [hX 2 (by omega), hX 3 (by omega)]; exact h5⟩ (by omega) (fun hl => ⟨f4 hl, ?_, ?_⟩)
    · rw [hX 2 (by omega)]; exact h5.1
    · rw [hX 3 (by omega)]; exact h5.2
  by_cases s3 : so = 3
  · have p3 : nI so = 3 := by rw [s3]; rfl
    rw [if_pos p3]; exact wnd (Or.inl s3)
  have n3 : ¬ nI so = 3 := fun e => s3 ((nI_eq (a := so) (b := 3) (by omega) (by omega)).mp e)
  rw [if_neg n3]
  by_cases s4 : so = 4
  · have p4 : nI so = 4 := by rw [s4]; rfl
    rw [if_pos p4]; exact wnd (Or.inr s4)
  have n4 : ¬ nI so = 4 := fun e => s4 ((nI_eq (a := so) (b := 4) (by omega) (by omega)).mp e)
  rw [if_neg n4]
  have hsp := hS1.2.2.2.1 (by omega)
  by_cases s5 : so = 5
  · have p5 : nI so = 5 := by rw [s5]; rfl
    rw [if_pos p5]
    obtain ⟨ga, gb, g1, g2, g3, g4⟩ := q5 s5
    obtain ⟨c, c1, c2, c3, c4, c5, c6, c7⟩ := fb_all (S := S) (B := 17) w1 (rs 2 fl (3 * k)) (t - (w1.1 8 0 k 11)) (by omega) hS1.2.1.1
    rw [c1]
    obtain ⟨d, d1, d2, d3, d4, d5, d6, d7⟩ := fb_all (S := S) (B := 17) c (rs 3 fl (3 * k)) (t - (c.1 8 0 k 10)) (by omega) (by rw [c3 _ (fun e => by have := rs_inj (by omega) (by omega) e; omega)]; exact hS1.2.2.1.1)
    rw [d1]
    have c32 : c.2.2 (rs 3 fl (3 * k)) = w1.2.2 (rs 3 fl (3 * k)) := c3 _ (fun e => by have := rs_inj (by omega) (by omega) e; omega)
    have d23 : d.2.2 (rs 2 fl (3 * k)) = c.2.2 (rs 2 fl (3 * k)) := d3 _ (fun e => by have := rs_inj (by omega) (by omega) e; omega)
    have d01 : ∀ y, y < 2 → d.2.2 (rs y fl (3 * k)) = w1.2.2 (rs y fl (3 * k)) := fun y hy => by rw [d3 _ (fun e => by have := rs_inj (by omega) (by omega) e; omega), c3 _ (fun e => by have := rs_inj (by omega) (by omega) e; omega)]
    have hdF : d.1 = w1.1 := d2.trans c2
    refine fin (RS23 fl (3 * k)) d [] (by simp) (EX.of (n23 fl k fl (3 * k) hf (by omega)) hdF (fun i hi => by rw [d3 i (fun e => hi (Or.inr e)), c3 i (fun e => hi (Or.inl e))])) (fun h => by rcases h with h | h <;> exact ro_rs (by omega) hf (by omega) h) ⟨hS1.1.same (d01 0 (by omega)) (d01 1 (by omega)), ?_, ?_, fun _ => by rw [d01 0 (by omega)]; exact hsp, fun h => absurd s5 h⟩ (fun _ _ => hdF) (fun hl => ⟨by rw [d01 0 (by omega)]; exact hsp, ?_, ?_⟩)
    · rw [d23]
      exact ⟨c4, Nat.le_trans c6 hS1.2.1.2.1, fun x hx => hS1.2.1.2.2 x (c5 x hx)⟩
    · rw [c32] at d5 d6
      exact ⟨d4, Nat.le_trans d6 hS1.2.2.1.2.1, fun x hx => hS1.2.2.1.2.2 x (d5 x hx)⟩
    · rw [d23]
      apply c7
      intro x hx
      have := hS1.2.1.2.2 x hx
      rw [hp1 11, g2, ht, pk_sub (by omega), zi_lt, zi_nI (by omega)]
      omega
    · apply d7
      intro x hx
      rw [c32] at hx
      have := hS1.2.2.1.2.2 x hx
      rw [c2, hp1 10, g1, ht, pk_sub (by omega), zi_lt, zi_nI (by omega)]
      omega
  · have n5 : ¬ nI so = 5 := fun e => s5 ((nI_eq (a := so) (b := 5) (by omega) (by omega)).mp e)
    rw [if_neg n5]
    have h23 := hS1.2.2.2.2 s5
    exact fin (fun _ => False) w1 [] (by simp) EX.rf (fun h => h) hS1 (fun _ _ => rfl) (fun _ => ⟨hsp, h23⟩)
theorem rm_not {S : TS} (w : TW) (fl k : Nat) (t : Int32) (h : ¬ w.1 0 fl (3 * k) 0 < t) : w_X8_raiseMark S w fl k t = w := by
  unfold w_X8_raiseMark
  rw [if_neg h]
