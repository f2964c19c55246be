/-! ===== what a step does to the channels ===== -/
theorem eff_take {S : TS} {w2 w3 : TW} {fl k kd : Nat} {x : Int64} {rest : List Int64} (hC : CHK S w2 fl) (hl : (w2.2.2 (rin S fl kd k)).2.length < 2 ^ 31) (hc : CI S kd k) (hp : pend S w2 fl kd k = x :: rest) (h3 : w3 = zset (zset w2 kd fl k 1 (nI (gvn w2 fl kd k + 1))) 0 fl (3 * k) 3 (nI (kd - 4))) :
    CHK S w3 fl ∧ pend S w3 fl kd k = rest ∧ (∀ kd' c, CI S kd' c → ¬ (kd' = kd ∧ c = k) → pend S w3 fl kd' c = pend S w2 fl kd' c) ∧ w3.2 = w2.2 ∧ (∀ kd' f a j, ¬ (kd' = kd ∧ f = fl ∧ a = k ∧ j = 1) → ¬ (kd' = 0 ∧ f = fl ∧ a = 3 * k ∧ j = 3) → w3.1 kd' f a j = w2.1 kd' f a j) := by
  have h45 := hc.1
  have hF : ∀ kd' f a j, ¬ (kd' = kd ∧ f = fl ∧ a = k ∧ j = 1) → ¬ (kd' = 0 ∧ f = fl ∧ a = 3 * k ∧ j = 3) → w3.1 kd' f a j = w2.1 kd' f a j := fun kd' f a j h1 h2 => by
    rw [h3, zset_F, if_neg h2, zset_F, if_neg h1]
  have hg : w3.1 kd fl k 1 = nI (gvn w2 fl kd k + 1) := by rw [h3, zset_F, if_neg (by omega), zset_F, if_pos ⟨rfl, rfl, rfl, rfl⟩]
  have hq : w3.2 = w2.2 := by rw [h3]; rfl
  have hqq : w3.2.2 = w2.2.2 := by rw [hq]
  have hlen : gvn w2 fl kd k < (w2.2.2 (rin S fl kd k)).2.length := by
    rcases Nat.lt_or_ge (gvn w2 fl kd k) (w2.2.2 (rin S fl kd k)).2.length with h | h
    · exact h
    · unfold pend at hp
      rw [List.drop_eq_nil_of_le h] at hp
      cases hp
  have hgn : gvn w3 fl kd k = gvn w2 fl kd k + 1 := by
    show (w3.1 kd fl k 1).toInt.toNat = _
    rw [hg, zi_nI (by omega)]
    omega
  refine ⟨fun kd' c hc' => ?_, ?_, fun kd' c hc' hne => ?_, hq, hF⟩
  · by_cases e : kd' = kd ∧ c = k
    · obtain ⟨rfl, rfl⟩ := e
      rw [hgn, hqq]
      exact ⟨hg, hlen⟩
    · have h9 := hC kd' c hc'
      have := hc'.1
      unfold gvn at *
      rw [hF kd' fl c 1 (fun h => e ⟨h.1, h.2.2.1⟩) (by omega), hqq]
      exact h9
  · unfold pend at hp ⊢
    rw [hgn, hqq]
    rw [List.drop_eq_getElem_cons hlen] at hp
    exact (List.cons.inj hp).2
  · unfold pend gvn
    have := hc'.1
    rw [hF kd' fl c 1 (fun h => hne ⟨h.1, h.2.2.1⟩) (by omega), hqq]
theorem eff_emit {S : TS} {w3 b : TW} {fl k : Nat} {L : List Int64} (hn : zn S ≤ 12) (hz : zok S) (hC : CHK S w3 fl) (hE : EM S fl k w3 b L) (h1 : ∀ kd c, kd = 4 ∨ kd = 5 → b.1 kd fl c 1 = w3.1 kd fl c 1) (h2 : ∀ u, u < 12 → u ≠ k → b.2.2 (ri fl u) = w3.2.2 (ri fl u)) :
    CHK S b fl ∧ (∀ kd c, CI S kd c → zsrc S (kd - 4) c = k → pend S b fl kd c = pend S w3 fl kd c ++ L) ∧ (∀ kd c, CI S kd c → zsrc S (kd - 4) c ≠ k → pend S b fl kd c = pend S w3 fl kd c) := by
  have own : ∀ kd c, CI S kd c → zsrc S (kd - 4) c = k → (b.2.2 (rin S fl kd c)).2 = (w3.2.2 (rin S fl kd c)).2 ++ L := fun kd c hc hz => by
    unfold rin
    rw [hz, hE.1]
    have hm := ci_och hc
    rw [hz] at hm
    unfold emq
    rw [if_neg (fun h => by rw [List.eq_nil_of_length_eq_zero h] at hm; cases hm)]
  have oth : ∀ kd c, CI S kd c → zsrc S (kd - 4) c ≠ k → b.2.2 (rin S fl kd c) = w3.2.2 (rin S fl kd c) := fun kd c hc h => h2 _ (by have := hc.lt hz; have := hc.2.1; omega) h
  refine ⟨fun kd c hc => ?_, fun kd c hc hz => ?_, fun kd c hc hz => ?_⟩
  · have h9 := hC kd c hc
    unfold gvn at *
    rw [h1 kd c hc.1]
    refine ⟨h9.1, ?_⟩
    by_cases hz : zsrc S (kd - 4) c = k
    · rw [own kd c hc hz, List.length_append]; omega
    · rw [oth kd c hc hz]; exact h9.2
  · have h9 := (hC kd c hc).2
    unfold pend gvn at *
    rw [h1 kd c hc.1, own kd c hc hz, List.drop_append_of_le_length h9]
  · unfold pend gvn
    rw [h1 kd c hc.1, oth kd c hc hz]
/-! ===== a state takes over another one ===== -/
theorem rs_eq {x y fl f st a : Nat} (hx : x < 4) (hy : y < 4) (hf : fl < 2) (hf2 : f < 2) (h : rs x fl st = rs y f a) : x = y ∧ fl = f ∧ st = a := by unfold rs at h; omega
theorem sb_row {w : TW} {i o : Nat} {B : Nat} (hl : (w.2.2 o).2.length < 2 ^ 31) : (qbec (w.2.2 i) (w.2.2 o) (zfrom 0 (w.2.2 o).2.length)).2 = (w.2.2 o).2 ∧ (RBd B (w.2.2 i) → (w.2.2 o).2.length ≤ B → B ≤ 4194304 → RBd B (qbec (w.2.2 i) (w.2.2 o) (zfrom 0 (w.2.2 o).2.length))) := by
  rw [zfrom0 _ hl]
  exact ⟨by rw [bec_2, List.drop_zero], fun h1 h2 h3 => h1.bec (by omega) h3⟩
/-- a chain of writes of single rows -/
theorem zrw_chain (w : TW) (i0 i1 i2 i3 : Nat) (p0 p1 p2 p3 : Nat × List Int64) (j : Nat) : (zrw (zrw (zrw (zrw w i0 p0) i1 p1) i2 p2) i3 p3).2.2 j = if j = i3 then p3 else if j = i2 then p2 else if j = i1 then p1 else if j = i0 then p0 else w.2.2 j := rfl
def CPn (w : TW) (fl st fl2 st2 n : Nat) (b : TW) : Prop := (∀ j, j < n → b.1 0 fl st j = w.1 0 fl2 st2 j) ∧ (∀ kd f a j, ¬ (kd = 0 ∧ f = fl ∧ a = st) → b.1 kd f a j = w.1 kd f a j) ∧ b.2 = w.2
theorem CPn.go {w b : TW} {fl st fl2 st2 n : Nat} (hne : ¬ (fl2 = fl ∧ st2 = st)) (h : CPn w fl st fl2 st2 n b) : CPn w fl st fl2 st2 (n + 1) (zset b 0 fl st n (b.1 0 fl2 st2 n)) := by
  obtain ⟨h1, h2, h3⟩ := h
  refine ⟨fun j hj => ?_, fun kd f a j hn => ?_, h3⟩
  · rw [zset_F]
    by_cases e : j = n
    · rw [if_pos ⟨rfl, rfl, rfl, e⟩, e]
      exact h2 _ _ _ _ (fun h => hne ⟨h.2.1, h.2.2⟩)
    · rw [if_neg (fun h => e h.2.2.2)]
      exact h1 j (by omega)
  · rw [zset_F, if_neg (fun h => hn ⟨h.1, h.2.1, h.2.2.1⟩)]
    exact h2 kd f a j hn
theorem sb_ok {S : TS} (w : TW) (fl st fl2 st2 : Nat) (hf : fl < 2) (hf2 : fl2 < 2) (hne : ¬ (fl2 = fl ∧ st2 = st)) (hl : ∀ x, x < 4 → (w.2.2 (rs x fl2 st2)).2.length < 2 ^ 31) :
    ∃ b : TW, w_X9_become S w fl st fl2 st2 = b ∧ b.2.1 = w.2.1 ∧ (∀ j, j < 8 → b.1 0 fl st j = w.1 0 fl2 st2 j) ∧ (∀ kd f a j, ¬ (kd = 0 ∧ f = fl ∧ a = st) → b.1 kd f a j = w.1 kd f a j) ∧ (∀ x, x < 4 → (b.2.2 (rs x fl st)).2 = (w.2.2 (rs x fl2 st2)).2 ∧ ∀ B, RBd B (w.2.2 (rs x fl st)) → (w.2.2 (rs x fl2 st2)).2.length ≤ B → B ≤ 4194304 → RBd B (b.2.2 (rs x fl st))) ∧ ∀ i, (∀ x, x < 4 → i ≠ rs x fl st) → b.2.2 i = w.2.2 i := by
  obtain ⟨w8, h8, hF, hF2⟩ : ∃ w8 : TW, w_X9_become S w fl st fl2 st2 = (fun w8 : TW => zlet (w_X7_become S w8 fl st fl2 st2) (fun w9 => zlet (zrw w9 (rs 2 fl st) (qbec (w9.2.2 (rs 2 fl st)) (w9.2.2 (rs 2 fl2 st2)) (zfrom 0 (w9.2.2 (rs 2 fl2 st2)).2.length))) (fun w10 => zlet (zrw w10 (rs 3 fl st) (qbec (w10.2.2 (rs 3 fl st)) (w10.2.2 (rs 3 fl2 st2)) (zfrom 0 (w10.2.2 (rs 3 fl2 st2)).2.length))) (fun w11 => w11)))) w8 ∧ ((∀ j, j < 8 → w8.1 0 fl st j = w.1 0 fl2 st2 j) ∧ (∀ kd f a j, ¬ (kd = 0 ∧ f = fl ∧ a = st) → w8.1 kd f a j = w.1 kd f a j)) ∧ w8.2 = w.2 := by
    have c0 : CPn w fl st fl2 st2 0 w := ⟨fun j h => absurd h (Nat.not_lt_zero _), fun _ _ _ _ _ => rfl, rfl⟩
    have c8 := ((((((((c0.go hne).go hne).go hne).go hne).go hne).go hne).go hne).go hne)
    refine ⟨_, ?_, ⟨c8.1, c8.2.1⟩, c8.2.2⟩
    unfold w_X9_become
    rw [zlet_eq, zlet_eq, zlet_eq, zlet_eq, zlet_eq, zlet_eq, zlet_eq, zlet_eq]
  rw [h8]
  simp only [zlet_eq]
  have hne' : ∀ x y, x < 4 → y < 4 → rs x fl2 st2 ≠ rs y fl st := fun x y hx hy e => by
    have := rs_eq hx hy hf2 hf e
    exact hne ⟨this.2.1, this.2.2⟩
  have hxy : ∀ x y, x < 4 → y < 4 → x ≠ y → rs x fl st ≠ rs y fl st := fun x y hx hy h e => h (rs_inj hx hy e)
  have hq8 : w8.2.2 = w.2.2 := by rw [hF2]
  have e7 : w_X7_become S w8 fl st fl2 st2 = zrw (zrw w8 (rs 0 fl st) (qbec (w.2.2 (rs 0 fl st)) (w.2.2 (rs 0 fl2 st2)) (zfrom 0 (w.2.2 (rs 0 fl2 st2)).2.length))) (rs 1 fl st) (qbec (w.2.2 (rs 1 fl st)) (w.2.2 (rs 1 fl2 st2)) (zfrom 0 (w.2.2 (rs 1 fl2 st2)).2.length)) := by
    unfold w_X7_become
    simp only [zlet_eq]
    rw [hq8]
    congr 1
    rw [zrw_q, if_neg (hxy 1 0 (by omega) (by omega) (by omega)), zrw_q, if_neg (hne' 1 0 (by omega) (by omega)), hq8]
  obtain ⟨P, hP⟩ : ∃ P : Nat → Nat × List Int64, P = fun x => qbec (w.2.2 (rs x fl st)) (w.2.2 (rs x fl2 st2)) (zfrom 0 (w.2.2 (rs x fl2 st2)).2.length) := ⟨_, rfl⟩
  have eb : zrw (zrw (w_X7_become S w8 fl st fl2 st2) (rs 2 fl st) (qbec ((w_X7_become S w8 fl st fl2 st2).2.2 (rs 2 fl st)) ((w_X7_become S w8 fl st fl2 st2).2.2 (rs 2 fl2 st2)) (zfrom 0 ((w_X7_become S w8 fl st fl2 st2).2.2 (rs 2 fl2 st2)).2.length))) (rs 3 fl st) (qbec ((zrw (w_X7_become S w8 fl st fl2 st2) (rs 2 fl st) (qbec ((w_X7_become S w8 fl st fl2 st2).2.2 (rs 2 fl st)) ((w_X7_become S w8 fl st fl2 st2).2.2 (rs 2 fl2 st2)) (zfrom 0 ((w_X7_become S w8 fl st fl2 st2).2.2 (rs 2 fl2 st2)).2.length))).2.2 (rs 3 fl st)) ((zrw (w_X7_become S w8 fl st fl2 st2) (rs 2 fl st) (qbec ((w_X7_become S w8 fl st fl2 st2).2.2 (rs 2 fl st)) ((w_X7_become S w8 fl st fl2 st2).2.2 (rs 2 fl2 st2)) (zfrom 0 ((w_X7_become S w8 fl st fl2 st2).2.2 (rs 2 fl2 st2)).2.length))).2.2 (rs 3 fl2 st2)) (zfrom 0 ((zrw (w_X7_become S w8 fl st fl2 st2) (rs 2 fl st) (qbec ((w_X7_become S w8 fl st fl2 st2).2.2 (rs 2 fl st)) ((w_X7_become S w8 fl st fl2 st2).2.2 (rs 2 fl2 st2)) (zfrom 0 ((w_X7_become S w8 fl st fl2 st2).2.2 (rs 2 fl2 st2)).2.length))).2.2 (rs 3 fl2 st2)).2.length)) = zrw (zrw (zrw (zrw w8 (rs 0 fl st) (P 0)) (rs 1 fl st) (P 1)) (rs 2 fl st) (P 2)) (rs 3 fl st) (P 3) := by
    have a2 : (w_X7_become S w8 fl st fl2 st2).2.2 (rs 2 fl st) = w.2.2 (rs 2 fl st) := by rw [e7, zrw_q, if_neg (hxy 2 1 (by omega) (by omega) (by omega)), zrw_q, if_neg (hxy 2 0 (by omega) (by omega) (by omega)), hq8]
    have a3 : (w_X7_become S w8 fl st fl2 st2).2.2 (rs 2 fl2 st2) = w.2.2 (rs 2 fl2 st2) := by rw [e7, zrw_q, if_neg (hne' 2 1 (by omega) (by omega)), zrw_q, if_neg (hne' 2 0 (by omega) (by omega)), hq8]
    have a4 : (w_X7_become S w8 fl st fl2 st2).2.2 (rs 3 fl st) = w.2.2 (rs 3 fl st) := by rw [e7, zrw_q, if_neg (hxy 3 1 (by omega) (by omega) (by omega)), zrw_q, if_neg (hxy 3 0 (by omega) (by omega) (by omega)), hq8]
    have a5 : (w_X7_become S w8 fl st fl2 st2).2.2 (rs 3 fl2 st2) = w.2.2 (rs 3 fl2 st2) := by rw [e7, zrw_q, if_neg (hne' 3 1 (by omega) (by omega)), zrw_q, if_neg (hne' 3 0 (by omega) (by omega)), hq8]
    rw [zrw_q, if_neg (hxy 3 2 (by omega) (by omega) (by omega)), zrw_q, if_neg (hne' 3 2 (by omega) (by omega)), a2, a3, a4, a5, e7, hP]
  rw [eb]
  refine ⟨_, rfl, ?_, hF.1, hF.2, fun x hx => ?_, fun i hi => ?_⟩
  · show w8.2.1 = w.2.1
    rw [hF2]
  · have hx4 : x = 0 ∨ x = 1 ∨ x = 2 ∨ x = 3 := by omega
    have e : (zrw (zrw (zrw (zrw w8 (rs 0 fl st) (P 0)) (rs 1 fl st) (P 1)) (rs 2 fl st) (P 2)) (rs 3 fl st) (P 3)).2.2 (rs x fl st) = P x := by
      rw [zrw_chain]
      rcases hx4 with rfl | rfl | rfl | rfl
      · rw [if_neg (hxy 0 3 (by omega) (by omega) (by omega)), if_neg (hxy 0 2 (by omega) (by omega) (by omega)), if_neg (hxy 0 1 (by omega) (by omega) (by omega)), if_pos rfl]
      · rw [if_neg (hxy 1 3 (by omega) (by omega) (by omega)), if_neg (hxy 1 2 (by omega) (by omega) (by omega)), if_pos rfl]
      · rw [if_neg (hxy 2 3 (by omega) (by omega) (by omega)), if_pos rfl]
      · rw [if_pos rfl]
    rw [e, hP]
    refine ⟨(sb_row (B := 0) (hl x hx)).1, fun B h1 h2 h3 => (sb_row (hl x hx)).2 h1 h2 h3⟩
  · rw [zrw_chain, if_neg (hi 3 (by omega)), if_neg (hi 2 (by omega)), if_neg (hi 1 (by omega)), if_neg (hi 0 (by omega)), hq8]
