/-! ===== what the law's check of soundness asks ===== -/
theorem zsm_two (f g : Nat → Nat) : ∀ n, zsm (fun k => f k + g k) n = zsm f n + zsm g n
  | 0 => rfl
  | n + 1 => by
    show zsm (fun k => f k + g k) n + (f n + g n) = zsm f n + f n + (zsm g n + g n)
    rw [zsm_two f g n]
    omega
theorem zsm_swap (f : Nat → Nat → Nat) (m : Nat) : ∀ n, zsm (fun k => zsm (fun c => f k c) m) n = zsm (fun c => zsm (fun k => f k c) n) m
  | 0 => by
    show 0 = zsm (fun _ => 0) m
    induction m with
    | zero => rfl
    | succ m ih => show 0 = zsm (fun _ => 0) m + 0; omega
  | n + 1 => by
    show zsm (fun k => zsm (fun c => f k c) m) n + zsm (fun c => f n c) m = zsm (fun c => zsm (fun k => f k c) n + f n c) m
    rw [zsm_swap f m n, zsm_two]
theorem zsm_pt {p n : Nat} (hp : p < n) : zsm (fun k => if k = p then 1 else 0) n = 1 := by
  have := zsm_upd (f := fun _ => 0) (g := fun k => if k = p then 1 else 0) (i := p) (fun j hj => if_neg hj) n hp
  simp only [if_pos] at this
  have z0 : ∀ n, zsm (fun _ => 0) n = 0 := fun n => by
    induction n with
    | zero => rfl
    | succ n ih => show zsm (fun _ => 0) n + 0 = 0; omega
  rw [z0] at this
  omega
theorem zsm_none : ∀ n, zsm (fun _ => 0) n = 0
  | 0 => rfl
  | n + 1 => by show zsm (fun _ => 0) n + 0 = 0; rw [zsm_none n]
/-- how many channels come into a stage -/
def cin (S : TS) (c : Nat) : Nat := (if (zp S 0 c).isSome = true then 1 else 0) + (if (zp S 1 c).isSome = true then 1 else 0)
theorem och_cnt (S : TS) (k : Nat) : (och S k).length = zsm (fun c => (if zp S 0 c = some k then 1 else 0) + (if zp S 1 c = some k then 1 else 0)) (zn S) := by
  unfold och
  generalize zn S = n
  induction n with
  | zero => rfl
  | succ n ih =>
    rw [List.range_succ, List.flatMap_append, List.length_append, ih]
    show _ = zsm _ n + _
    congr 1
    by_cases h1 : zp S 0 n = some k <;> by_cases h2 : zp S 1 n = some k <;> simp [h1, h2]
theorem cnt_ch {S : TS} (hz : zok S) : zsm (fun k => (och S k).length) (zn S) = zsm (cin S) (zn S) := by
  have e : (fun k => (och S k).length) = fun k => zsm (fun c => (if zp S 0 c = some k then 1 else 0) + (if zp S 1 c = some k then 1 else 0)) (zn S) := funext fun k => och_cnt S k
  rw [e, zsm_swap]
  refine zsm_eq _ (fun c hc => ?_)
  rw [zsm_two]
  have one : ∀ x, zsm (fun k => if zp S x c = some k then 1 else 0) (zn S) = if (zp S x c).isSome = true then 1 else 0 := fun x => by
    cases h : zp S x c with
    | none =>
      rw [if_neg (by simp)]
      refine (zsm_eq (g := fun _ => 0) _ (fun k _ => ?_)).trans (zsm_none _)
      rw [if_neg (by simp)]
    | some p =>
      rw [if_pos (show (some p).isSome = true from rfl)]
      refine (zsm_eq (g := fun k => if k = p then 1 else 0) _ (fun k _ => ?_)).trans (zsm_pt (by have := hz x c p hc h; omega))
      by_cases e : k = p
      · rw [if_pos e, if_pos (by rw [e])]
      · rw [if_neg e, if_neg (by intro h; exact e (Option.some.inj h).symm)]
  rw [one 0, one 1]
  rfl
/-- the law's own sums -/
def TT (S : TS) (F : TF) (G : TG) (q : TQ) (x k : Nat) : Int32 := if (zp S x k).isSome = true then v_X1_length S F G q (4 + x) 0 k else 0
def fly (S : TS) (F : TF) (G : TG) (q : TQ) : Nat → Int32
  | 0 => 0
  | i + 1 => (fly S F G q i + TT S F G q 0 i) + TT S F G q 1 i
def rdy (S : TS) (F : TF) (G : TG) (q : TQ) : Nat → Int32
  | 0 => 0
  | i + 1 => rdy S F G q i ||| v_X10_isReady S F G q i
def alf (so : Nat → Nat) (q : TQ) : Nat → Nat
  | 0 => 0
  | i + 1 => alf so q i + (if so i = 0 then (q (rl i)).2.length else 0)
theorem fly_w {S : TS} {F : TF} {G : TG} {q : TQ} : ∀ (n i : Nat), r_X2_waiting S F G q 0 n i (fly S F G q i) = fly S F G q (i + n)
  | 0, i => rfl
  | n + 1, i => by
    simp only [r_X2_waiting]
    have e : (fly S F G q i + (if (zp S 0 i).isSome = true then v_X1_length S F G q 4 0 i else 0)) + (if (zp S 1 i).isSome = true then v_X1_length S F G q 5 0 i else 0) = fly S F G q (i + 1) := rfl
    rw [e, fly_w n (i + 1)]
    congr 1
    omega
theorem ch_w {S : TS} {F : TF} {G : TG} {q : TQ} : ∀ (n i v : Nat), r_X2_channels S F G q 0 n i (nI v) = nI (v + (zsm (fun k => (och S k).length) (i + n) - zsm (fun k => (och S k).length) i))
  | 0, i, v => by simp [r_X2_channels]
  | n + 1, i, v => by
    simp only [r_X2_channels]
    rw [nI_add, ch_w n (i + 1)]
    congr 1
    have e1 : zsm (fun k => (och S k).length) (i + 1) = zsm (fun k => (och S k).length) i + (och S i).length := rfl
    have e2 : i + 1 + n = i + (n + 1) := by omega
    have e3 := zsm_add (fun k => (och S k).length) (i + 1) n
    rw [e2] at e3
    rw [e2]
    omega
theorem rdy_01 {S : TS} {F : TF} {G : TG} {q : TQ} : ∀ i, (rdy S F G q i = 0 ∧ ∀ k, k < i → v_X10_isReady S F G q k = 0) ∨ (rdy S F G q i = 1 ∧ ∃ k, k < i ∧ ¬ v_X10_isReady S F G q k = 0)
  | 0 => Or.inl ⟨rfl, fun k h => absurd h (Nat.not_lt_zero _)⟩
  | i + 1 => by
    have h01 : v_X10_isReady S F G q i = 0 ∨ v_X10_isReady S F G q i = 1 := by
      unfold v_X10_isReady v_X8_canWork
      repeat (first | exact Or.inl rfl | exact Or.inr rfl | split)
    have e : rdy S F G q (i + 1) = rdy S F G q i ||| v_X10_isReady S F G q i := rfl
    rcases rdy_01 (S := S) (F := F) (G := G) (q := q) i with ⟨a, b⟩ | ⟨a, k, b, c⟩
    · rcases h01 with h | h
      · refine Or.inl ⟨by rw [e, a, h]; rfl, fun k hk => ?_⟩
        by_cases ek : k = i
        · rw [ek]; exact h
        · exact b k (by omega)
      · exact Or.inr ⟨by rw [e, a, h]; rfl, i, by omega, by rw [h]; decide⟩
    · refine Or.inr ⟨?_, k, by omega, c⟩
      rcases h01 with h | h <;> rw [e, a, h] <;> rfl
theorem bl0 {S : TS} {F : TF} {G : TG} {q : TQ} {k : Nat} : ¬ v_X10_isBlocked0 S F G q k = 0 ↔ (zp S 0 k).isSome = true ∧ ¬ F 4 0 k 2 = 0 := by
  unfold v_X10_isBlocked0
  by_cases h : (zp S 0 k).isSome = true
  · rw [if_pos h]
    by_cases h2 : F 4 0 k 2 = 0
    · rw [if_pos h2]; exact ⟨fun x => absurd rfl x, fun x => absurd h2 x.2⟩
    · rw [if_neg h2]; exact ⟨fun _ => ⟨h, h2⟩, fun _ => by decide⟩
  · rw [if_neg h]; exact ⟨fun x => absurd rfl x, fun x => absurd x.1 h⟩
theorem bl1 {S : TS} {F : TF} {G : TG} {q : TQ} {k : Nat} : ¬ v_X10_isBlocked1 S F G q k = 0 ↔ (zp S 1 k).isSome = true ∧ ¬ F 5 0 k 2 = 0 := by
  unfold v_X10_isBlocked1
  by_cases h : (zp S 1 k).isSome = true
  · rw [if_pos h]
    by_cases h2 : F 5 0 k 2 = 0
    · rw [if_pos h2]; exact ⟨fun x => absurd rfl x, fun x => absurd h2 x.2⟩
    · rw [if_neg h2]; exact ⟨fun _ => ⟨h, h2⟩, fun _ => by decide⟩
  · rw [if_neg h]; exact ⟨fun x => absurd rfl x, fun x => absurd x.1 h⟩
/-- one stage, as the check reads it -/
def SNk (S : TS) (so : Nat → Nat) (F : TF) (G : TG) (q : TQ) (k : Nat) : Prop :=
  (F 8 0 k 0 = nI (so k) ∧ so k < 8) ∧ (∀ x, x < 2 → (zp S x k).isSome = true → ∃ L, L < 2 ^ 31 ∧ v_X1_length S F G q (4 + x) 0 k = nI L) ∧ (¬ v_X10_isReady S F G q k = 0 → ¬ v_X10_hasRoom S F G q k = 0) ∧ (¬ v_X10_isBlocked0 S F G q k = 0 → v_X10_isBlocked1 S F G q k = 0) ∧
  (¬ F 0 0 (3 * k) 4 < F 0 0 (3 * k) 6 ∧ ¬ F 0 0 (3 * k) 6 < 0) ∧ (¬ v_X10_isBlocked0 S F G q k = 0 → ¬ F 6 0 0 5 = 0) ∧
  (so k = 0 → F 0 0 (3 * k) 5 = F 0 0 (3 * k) 4 ∧ ¬ v_X10_wouldReplay S F G q k < 0 ∧ F 0 0 (3 * k) 4 + v_X10_kept S F G q k = nI (q (rl k)).2.length) ∧ (so k = 2 ∨ so k = 6 → F 0 0 (3 * k) 5 = F 0 0 (3 * k) 4) ∧ (so k = 1 → ¬ F 0 0 (3 * k) 4 < F 0 0 (3 * k) 5) ∧
  (so k = 7 → F 0 0 (3 * k) 7 = F 0 0 (3 * k) 4 ∧ ¬ F 0 0 (3 * k) 7 < F 0 0 (3 * k + (G 0 k).1) 7 ∧ F 0 0 (3 * k) 5 = 0 ∧ v_X10_wouldLose S F G q k = F 0 0 (3 * k) 7 - F 0 0 (3 * k + (G 0 k).1) 7) ∧ (so k = 3 ∨ so k = 4 → v_X10_nextEnd S F G q k = -1 ∨ F 0 0 (3 * k) 0 < v_X10_nextEnd S F G q k)
def SND (S : TS) (so : Nat → Nat) (F : TF) (G : TG) (q : TQ) (z off : Nat) : Prop :=
  (∀ k, k < zn S → SNk S so F G q k) ∧ v_X10_inFlight S F G q = fly S F G q (zn S) ∧ v_X2_channels S F G q 0 = nI (zsm (cin S) (zn S)) ∧ alf so q (zn S) = off ∧ (F 6 0 0 3 = nI z - 1 ∧ z ≤ zn S) ∧
  ((v_X10_next S F G q z = -1 ∧ rdy S F G q (zn S) = 0) ∨ (∃ m, m < zn S ∧ v_X10_next S F G q z = nI m ∧ rdy S F G q (zn S) = 1 ∧ ¬ v_X10_isReady S F G q m = 0))
theorem INV.snd {S : TS} {so : Nat → Nat} {cl : Prop} {t : Nat} {w : TW} (h : INV S so cl t w) (ht : t ≤ 100000) : SND S so w.1 w.2.1 w.2.2 (zlast w 0) (alf so w.2.2 (zn S)) := by
  obtain ⟨g0, g, c, d, N, M, C, e, f, -, i, j, l, P, p⟩ := h
  have hn := g0.1
  have hz := g0.2.1
  have hN := INV.bN hn j ht
  refine ⟨fun k hk => ?_, ?_, ?_, rfl, c, ?_⟩
  · obtain ⟨pl, hlog, -, hs0, hs1, hs2⟩ := g0.2.2 k hk
    obtain ⟨⟨⟨s1, s2, s3, s4⟩, tk, lt, c1, c2, c3, c4, c5, c6, c7⟩, ⟨-, tk2, lt2, d1, d2, d3, d4, d5, d6, d7⟩, -, q4, -, q6, q7, -, q9⟩ := p.1 k hk
    obtain ⟨a1, a2, a3, a4, a5, a6⟩ := f.2.2.2 k hk
    have hNk := hN k hk
    have hEb := EE_b (k := k) (by omega)
    have h4 : sI w (3 * k) 4 = tk := sI_nI c1 (by omega)
    have h4b : sI w (3 * k + (w.2.1 0 k).1) 4 = tk2 := sI_nI d1 (by omega)
    have hle : tk2 ≤ tk := by omega
    refine ⟨⟨pl.1, pl.2.1⟩, fun x hx hs => ?_, fun h => (cw_ok h).1, fun h => ?_, ⟨?_, ?_⟩, fun h => ?_, fun h0 => ⟨c5 (Or.inl h0), ?_, ?_⟩, fun h => c5 (Or.inr h), fun h => ?_, fun h7 => ⟨(c7 h7).2, ?_, (c7 h7).1, rfl⟩, fun h34 => ?_⟩
    · have hc : CI S (4 + x) k := ⟨by omega, hk, by rw [show 4 + x - 4 = x by omega]; exact hs⟩
      have hu : src S (4 + x) k < k := hc.lt hz
      refine ⟨_, ?_, cg_len f.1 hc⟩
      have hr := (f.2.2.2 (src S (4 + x) k) (by omega)).2.2.1.1
      have h9 := hN (src S (4 + x) k) (by omega)
      have : (pend S w 0 (4 + x) k).length ≤ (w.2.2 (ri 0 (src S (4 + x) k))).2.length := by unfold pend; rw [List.length_drop]; show _ ≤ (w.2.2 (rin S 0 (4 + x) k)).2.length; omega
      omega
    · obtain ⟨x, y⟩ := bl0.mp h
      obtain ⟨-, z2⟩ := q9 4 ⟨Or.inl rfl, hk, x⟩ y
      exact Classical.byContradiction fun hb => (bl1.mp hb).2 z2
    · rw [c1, c2]; exact nI_nlt c3 (by omega)
    · rw [c2]; exact nI_pos (by omega)
    · obtain ⟨x, y⟩ := bl0.mp h
      intro hb
      obtain ⟨-, r4, -⟩ := p.2.1 4 k ⟨Or.inl rfl, hk, x⟩
      have hu : src S 4 k < k := CI.lt hz ⟨Or.inl rfl, hk, x⟩
      exact y (r4.1 (p.2.2.1 hb _ (by omega))).2.1
    · unfold v_X10_wouldReplay
      rw [c1, d1, pk_sub hle]; exact nI_pos (by omega)
    · unfold v_X10_kept v_X8_unread v_X6_length
      rw [if_pos (by rw [pl.1, h0]; rfl)]
      rw [Int32.add_comm, Int32.sub_add_cancel]
    · obtain ⟨em, m1, m2⟩ := c6 h
      rw [c1, m1]; exact nI_nlt m2 (by omega)
    · rw [(c7 h7).2, (d7 h7).2, c1, d1]; exact nI_nlt hle (by omega)
    · -- the next end
      have hS := a1 0 (by omega)
      obtain ⟨hm1, hm2⟩ := a2 0 (by omega) 0 (by omega)
      have hm1 : -1 ≤ (w.1 0 0 (3 * k) 0).toInt := hm1
      have hm2 : (w.1 0 0 (3 * k) 0).toInt < 1048576 := hm2
      have et : w.1 0 0 (3 * k) 0 + 1 = nI ((w.1 0 0 (3 * k) 0).toInt + 1).toNat := by
        have h9 := zi_of (x := w.1 0 0 (3 * k) 0 + 1) (by rw [zi_inc (by omega)]; omega)
        rw [zi_inc (by omega)] at h9
        exact h9
      obtain ⟨j, f1, f2, f3⟩ := fe_above (S := S) (F := w.1) (G := w.2.1) (q := w.2.2) (fl := 0) (k := 3 * k) (B := N k) (E := EE k) (t := w.1 0 0 (3 * k) 0) hS.1.1 (by omega) hS.1.2.2 (by omega) et (by omega)
      have hlen := hS.1.1.1
      have hlen : (w.2.2 (rs 0 0 (3 * k))).2.length ≤ N k := hlen
      unfold v_X10_nextEnd
      rw [f1]
      by_cases c9 : v_X7_length S w.1 w.2.1 w.2.2 0 (3 * k) ≤ nI j
      · rw [if_pos c9]; exact Or.inl rfl
      · rw [if_neg c9]
        right
        rcases f3 with f3 | ⟨en, f3, f4, f5⟩
        · exfalso
          apply c9
          rw [f3]
          exact nI_le (Nat.le_refl _) (by omega)
        · rw [f3, zi_lt, zi_nI (by omega)]; omega
  · unfold v_X10_inFlight v_X2_waiting
    have := fly_w (S := S) (F := w.1) (G := w.2.1) (q := w.2.2) (zn S) 0
    rw [Nat.zero_add] at this
    exact this
  · unfold v_X2_channels
    have := ch_w (S := S) (F := w.1) (G := w.2.1) (q := w.2.2) (zn S) 0 0
    rw [Nat.zero_add, Nat.zero_add, cnt_ch hz] at this
    exact this
  · have hr := rdy_01 (S := S) (F := w.1) (G := w.2.1) (q := w.2.2) (zn S)
    rcases nw_two (S := S) (w := w) (fl := 0) hn c.2 with ⟨a, b⟩ | ⟨m, m1, m2, m3⟩
    · refine Or.inl ⟨a, ?_⟩
      rcases hr with ⟨x, -⟩ | ⟨-, k, x, y⟩
      · exact x
      · exact absurd (b k x) y
    · refine Or.inr ⟨m, m1, m2, ?_, m3⟩
      rcases hr with ⟨-, x⟩ | ⟨x, -⟩
      · exact absurd (x m m1) m3
      · exact x
