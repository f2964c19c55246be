/-! ===== what each of the law's calls leaves ===== -/
theorem mx_sub {a d : Nat} (ha : a < 2 ^ 30) (hd : d < 2 ^ 30) : (if (0 : Int32) < nI a - nI d then nI a - nI d else 0) = nI (a - d) := by
  by_cases h : d ≤ a
  · rw [pk_sub h]
    exact mx0 (by omega)
  · have h2 : ¬ (0 : Int32) < nI a - nI d := fun h3 => by
      have h4 := zi_lt.mp h3
      rw [pk_sub_toInt ha hd, zi_0] at h4
      omega
    rw [if_neg h2, show a - d = 0 by omega]
    rfl
theorem z9n {w : TW} {kd fl k j kd' fl' k' j' : Nat} {v : Int32} (h : ¬ (kd' = kd ∧ fl' = fl ∧ k' = k)) : (zset w kd fl k j v).1 kd' fl' k' j' = w.1 kd' fl' k' j' := by
  show zF _ _ _ _ _ _ _ _ _ = _
  rw [zF_n h]
theorem z9j {w : TW} {kd fl k j j' : Nat} {v : Int32} (h : ¬ j' = j) : (zset w kd fl k j v).1 kd fl k j' = w.1 kd fl k j' := by
  show zF _ _ _ _ _ _ _ _ _ = _
  rw [zF_s]
  exact if_neg h
theorem z9s {w : TW} {kd fl k j : Nat} {v : Int32} : (zset w kd fl k j v).1 kd fl k j = v := by
  show zF _ _ _ _ _ _ _ _ _ = _
  rw [zF_s]
  exact if_pos rfl
theorem INV.cl {S : TS} {so : Nat → Nat} {cl : Prop} {t k : Nat} {w : TW} (h : INV S so cl t w) (hk : k < zn S) (h10 : ¬ w.1 2 0 k 10 = 0) : cl := by
  obtain ⟨g0, g, c, d, N, M, C, e, f, -, i, j, l, P, p⟩ := h
  obtain ⟨-, -, -, -, -, -, -, q, -⟩ := p.1 k hk
  exact q h10
theorem INV.opn {S : TS} {so : Nat → Nat} {t k : Nat} {w : TW} (h : INV S so False t w) (hk : k < zn S) : w.1 2 0 k 10 = 0 := Classical.byContradiction fun h9 => h.cl hk h9
theorem INV.out {S : TS} {so : Nat → Nat} {cl : Prop} {t : Nat} {w : TW} (h : INV S so cl t w) (ht : t ≤ 100000) : ∀ k, k < zn S → w.1 8 0 k 0 = 7 → ¬ w.1 0 0 (3 * k) 7 < 0 := fun k hk h7 => by
  obtain ⟨g0, g, c, d, N, M, C, e, f, -, i, j, l, P, p⟩ := h
  obtain ⟨⟨s1, tk, lt, c1, c2, c3, c4, c5, c6, c7⟩, -⟩ := p.1 k hk
  obtain ⟨pl, -⟩ := g0.2.2 k hk
  have h8 : so k = 7 := (nI_eq (by have := pl.2.1; omega) (by decide)).mp (pl.1.symm.trans h7)
  rw [(c7 h8).2, c1]
  exact nI_pos (by omega)
-- the logs
theorem alf_eq {so : Nat → Nat} {q q' : TQ} : ∀ n, n ≤ 12 → (∀ j, j < 12 → q' (rl j) = q (rl j)) → alf so q' n = alf so q n
  | 0, _, _ => rfl
  | n + 1, hn, h => by
    show alf so q' n + _ = alf so q n + _
    rw [alf_eq n (by omega) h, h n (by omega)]
theorem alf_le {so : Nat → Nat} {q : TQ} {k : Nat} : ∀ n, k < n → so k = 0 → (q (rl k)).2.length ≤ alf so q n
  | 0, h, _ => absurd h (Nat.not_lt_zero k)
  | n + 1, h, hs => by
    show _ ≤ alf so q n + _
    by_cases e : k = n
    · subst e
      rw [if_pos hs]
      omega
    · have := alf_le n (q := q) (by omega) hs
      omega
theorem alf_upd {so : Nat → Nat} {q q' : TQ} {k : Nat} (hs : so k = 0) (h1 : (q' (rl k)).2.length = (q (rl k)).2.length + 1) (h2 : ∀ j, j ≠ k → q' (rl j) = q (rl j)) : ∀ n, alf so q' n = alf so q n + if k < n then 1 else 0
  | 0 => by
    rw [if_neg (Nat.not_lt_zero k)]
    rfl
  | n + 1 => by
    show alf so q' n + _ = alf so q n + _ + _
    rw [alf_upd hs h1 h2 n]
    by_cases e : k = n
    · subst e
      rw [if_neg (Nat.lt_irrefl k), if_pos hs, if_pos hs, if_pos (Nat.lt_succ_self k), h1]
      omega
    · rw [h2 n (fun h => e h.symm)]
      by_cases h : k < n
      · have e1 : (if k < n + 1 then 1 else 0 : Nat) = 1 := if_pos (by omega)
        rw [if_pos h, e1]
        omega
      · have e1 : (if k < n + 1 then 1 else 0 : Nat) = 0 := if_neg (by omega)
        rw [if_neg h, e1]
        rfl
/-- what a call of the law's loop leaves -/
def RS (S : TS) (so : Nat → Nat) (cl : Prop) (t : Nat) (w w1 : TW) : Prop := INV S so cl t w1 ∧ w1.1 7 0 0 2 = w.1 7 0 0 2 ∧ w1.1 6 0 0 4 = w.1 6 0 0 4 ∧ (∀ j, j < 12 → w1.2.2 (rl j) = w.2.2 (rl j)) ∧ ∀ j, j < zn S → w.1 0 0 (3 * j) 0 ≤ w1.1 0 0 (3 * j) 0
theorem set4_INV {S : TS} {so : Nat → Nat} {cl : Prop} {t : Nat} {w : TW} {v : Int32} (h : INV S so cl t w) : INV S so cl t (zset w 7 0 0 4 v) :=
  set_INV (cl' := cl) (fun x => x) h (fun kd f a j h1 _ => z9n (fun h2 => h1 h2.1)) rfl (fun k hk h9 => h.cl hk (by rw [z9n (by omega)] at h9; exact h9))
theorem work_RS {S : TS} {so : Nat → Nat} {cl : Prop} {t mi : Nat} {w : TW} (h : INV S so cl t w) (hm : t + mi ≤ 100000) : RS S so cl (t + mi) w (w_X10_work S w mi).1 := by
  obtain ⟨a, b, c⟩ := work_INV (mi := mi) mi 0 t w h hm
  have e : (w_X10_work S w mi).1 = zset (r_X10_work S mi mi 0 w).1 7 0 0 4 (((r_X10_work S mi mi 0 w).1.1 7 0 0 4) + (nI (r_X10_work S mi mi 0 w).2)) := by
    unfold w_X10_work
    rw [zlet_eq, zlet_eq]
  rw [e]
  refine ⟨set4_INV a, ?_, ?_, b.2.2.2, fun j hj => ?_⟩
  · rw [z9j (by decide)]; exact b.1 7 0 2 (Or.inl rfl)
  · rw [z9n (by omega)]; exact b.2.2.1
  · rw [z9n (by omega)]; exact zi_le.mpr (c j hj)
theorem workAt_RS {S : TS} {so : Nat → Nat} {cl : Prop} {t k : Nat} {w : TW} (h : INV S so cl t w) (ht : t ≤ 90000) (hk : k < zn S) : RS S so cl (t + 1) w (w_X10_workAt S w k).1 := by
  unfold w_X10_workAt
  by_cases hc : v_X8_canWork S w.1 w.2.1 w.2.2 0 k (w.1 6 0 0 2) = 0
  · rw [if_pos hc]
    exact ⟨h.mono (by omega), rfl, rfl, fun _ _ => rfl, fun _ _ => zi_le.mpr (Int.le_refl _)⟩
  · rw [if_neg hc, zlet_eq]
    obtain ⟨s1, s2, s3, s4⟩ := step_INV0 h (by omega) hk hc
    rw [if_neg (by rw [s2]; decide), zlet_eq]
    refine ⟨set4_INV s1, ?_, ?_, s3.2.2.2, fun j hj => ?_⟩
    · show (zset _ 7 0 0 4 _).1 7 0 0 2 = _
      rw [z9j (by decide)]; exact s3.1 7 0 2 (Or.inl rfl)
    · show (zset _ 7 0 0 4 _).1 6 0 0 4 = _
      rw [z9n (by omega)]; exact s3.2.2.1
    · show _ ≤ (zset _ 7 0 0 4 _).1 0 0 (3 * j) 0
      rw [z9n (by omega)]; exact zi_le.mpr (s4 j hj)
theorem close_RS {S : TS} {so : Nat → Nat} {cl : Prop} {t k : Nat} {w : TW} (h : INV S so cl t w) (hk : k < zn S) :
    INV S so True t (w_X10_close S w k).1 ∧ (w_X10_close S w k).1.2 = w.2 ∧ (∀ kd f a j, ¬ (kd = 2 ∧ f = 0 ∧ a = k) → (w_X10_close S w k).1.1 kd f a j = w.1 kd f a j) ∧ (w_X10_close S w k).1.1 2 0 k 10 = 1 := by
  have e : (w_X10_close S w k).1 = zset w 2 0 k 10 1 := by
    unfold w_X10_close
    rw [zlet_eq]
  rw [e]
  refine ⟨set_INV (cl' := True) (fun _ => trivial) h (fun kd f a j h1 h2 => ?_) rfl (fun _ _ _ => trivial), rfl, fun kd f a j h1 => z9n h1, z9s⟩
  by_cases h3 : kd = 2 ∧ f = 0 ∧ a = k
  · obtain ⟨rfl, rfl, rfl⟩ := h3
    exact z9j (fun h4 => h2 ⟨rfl, h4⟩)
  · exact z9n h3
/-- a trial -/
theorem rest_RS {S : TS} {so : Nat → Nat} {cl : Prop} {t mi : Nat} {w : TW} (h : INV S so cl t w) (ht : t + mi ≤ 100000) (hm : mi ≤ 200) :
    INV S so cl (t + mi) (w_X10_itemsToRest S w mi).1 ∧ AG 0 w (w_X10_itemsToRest S w mi).1 ∧ (∀ a j, (w_X10_itemsToRest S w mi).1.1 7 0 a j = w.1 7 0 a j) ∧ ¬ (w_X10_itemsToRest S w mi).2 < -1 := by
  obtain ⟨b1, b2, b3, b4, -⟩ := become_INV h (by omega)
  obtain ⟨r1, r2, r3, r4, r5, r6⟩ := rest_INV (mi := mi) mi 0 t _ b1 b2 ht
  unfold w_X10_itemsToRest
  rw [zlet_eq, zlet_eq]
  have k1 := b3.tr r3
  have k2 := fun a j => (r4 a j).trans (b4 a j)
  split
  · refine ⟨r1, k1, k2, fun h9 => ?_⟩
    have h9 := zi_lt.mp h9
    rw [zi_m1] at h9
    have h8 : (nI (r_X10_itemsToRest S mi mi 0 (w_X2_become S w 1 0)).2).toInt < -1 := h9
    rw [zi_nI (by omega)] at h8
    omega
  · exact ⟨r1, k1, k2, (by decide : ¬ (-1 : Int32) < -1)⟩
theorem rest_zero {S : TS} {so : Nat → Nat} {cl : Prop} {t : Nat} {w : TW} (h : INV S so cl t w) (ht : t ≤ 100000) (hno : ∀ k, k < zn S → cwk S w 0 k = 0) : (w_X10_itemsToRest S w 1).2 = 0 := by
  obtain ⟨b1, b2, b3, b4, b5⟩ := become_INV h ht
  unfold w_X10_itemsToRest
  rw [zlet_eq, zlet_eq, er_X10_itemsToRest]
  rcases nw_two (S := S) (w := w_X2_become S w 1 0) (fl := 1) h.1.1 b2.2 with ⟨a, -⟩ | ⟨m, m1, m2, m3⟩
  · rw [if_pos a, if_pos a]
    rfl
  · exact absurd ((b5 m m1).trans (hno m m1)) m3
/-- all is at rest -/
theorem fin_ok {S : TS} {so : Nat → Nat} {cl : Prop} {t : Nat} {w : TW} (h : INV S so cl t w) (ht : t ≤ 100000) (hno : ∀ k, k < zn S → cwk S w 0 k = 0) (hclo : ∀ k, k < zn S → so k = 0 → ¬ w.1 2 0 k 10 = 0) :
    w.1 6 0 0 5 = 0 ∧ v_X10_inFlight S w.1 w.2.1 w.2.2 = 0 ∧ ∀ k, k < zn S → w.1 0 0 (3 * k) 0 = 1000000 ∧ v_X10_isBlocked0 S w.1 w.2.1 w.2.2 k = 0 ∧ v_X10_isBlocked1 S w.1 w.2.1 w.2.2 k = 0 ∧ v_X10_kept S w.1 w.2.1 w.2.2 k = 0 ∧ v_X10_isReady S w.1 w.2.1 w.2.2 k = 0 ∧ (w.1 8 0 k 0 = 7 → ¬ v_X10_wouldLose S w.1 w.2.1 w.2.2 k < 0 ∧ w.1 0 0 (3 * k) 7 = w.1 0 0 (3 * k) 4) := by
  obtain ⟨f1, f2, f3⟩ := rest_ok h ht hno hclo
  have hsn := h.snd ht
  refine ⟨f1, ?_, fun k hk => ?_⟩
  · rw [hsn.2.1]
    have hCH : CHK S w 0 := by
      obtain ⟨g0, g, c, d, N, M, C, e, f, -⟩ := h
      exact f.1
    have tt : ∀ x k, x < 2 → k < zn S → TT S w.1 w.2.1 w.2.2 x k = 0 := fun x k hx hk => by
      unfold TT
      by_cases hs : (zp S x k).isSome = true
      · have hc : CI S (4 + x) k := ⟨by omega, hk, by rw [show 4 + x - 4 = x by omega]; exact hs⟩
        rw [if_pos hs, cg_len hCH hc, (f2 _ _ hc).2]
        rfl
      · rw [if_neg hs]
    have : ∀ n, n ≤ zn S → fly S w.1 w.2.1 w.2.2 n = 0 := fun n => by
      induction n with
      | zero => intro _; rfl
      | succ n ih =>
        intro hn
        show (fly S w.1 w.2.1 w.2.2 n + _) + _ = 0
        rw [ih (by omega), tt 0 n (by omega) (by omega), tt 1 n (by omega) (by omega)]
        rfl
    exact this _ (Nat.le_refl _)
  · obtain ⟨k1, k2, k3, k4, k5⟩ := f3 k hk
    obtain ⟨g1, g2⟩ := (hsn.1 k hk).1
    refine ⟨k1, ?_, ?_, ?_, hno k hk, fun h7 => ?_⟩
    · exact Classical.byContradiction fun h9 => (bl0.mp h9).2 (f2 4 k ⟨Or.inl rfl, hk, (bl0.mp h9).1⟩).1
    · exact Classical.byContradiction fun h9 => (bl1.mp h9).2 (f2 5 k ⟨Or.inr rfl, hk, (bl1.mp h9).1⟩).1
    · unfold v_X10_kept
      by_cases h0 : w.1 8 0 k 0 = 0
      · rw [if_pos h0]
        have hs : so k = 0 := (nI_eq (by omega) (by decide)).mp (g1.symm.trans h0)
        unfold v_X8_unread v_X6_length
        rw [k5 hs, Int32.sub_self]
      · rw [if_neg h0]
        unfold v_X9_keptCount v_X7_length v_X6_length
        rw [k2, k3, k4]
        rfl
    · have hs : so k = 7 := (nI_eq (by omega) (by decide)).mp (g1.symm.trans h7)
      obtain ⟨g0, g, c, d, N, M, C, e, f, -, i, j, l, P, p⟩ := h
      obtain ⟨⟨s1, tk, lt, c1, c2, c3, c4, c5, c6, c7⟩, ⟨-, tk2, lt2, d1, d2, d3, d4, d5, d6, d7⟩, -, q4, -⟩ := p.1 k hk
      have h4 : sI w (3 * k) 4 = tk := sI_nI c1 (by omega)
      have h4b : sI w (3 * k + (w.2.1 0 k).1) 4 = tk2 := sI_nI d1 (by omega)
      have hle : tk2 ≤ tk := by omega
      refine ⟨?_, (c7 hs).2⟩
      unfold v_X10_wouldLose
      rw [(c7 hs).2, (d7 hs).2, c1, d1, pk_sub hle]
      exact nI_pos (by omega)
/-! ===== the room along the run ===== -/
def ZI (s : State) (Z : Nat × Nat) (n : Nat) : Prop := Z.1 ≤ s.heap.size + 2000 + n ∧ zh s.heap ≤ Z.2 ∧ Z.2 ≤ zh s.heap + 20000 + 12 * n
theorem ZI.zb {s : State} {Z : Nat × Nat} {n t : Nat} {S : TS} {so : Nat → Nat} {cl : Prop} {w : TW} (h : ZI s Z n) (hn : n ≤ 100) (hI : INV S so cl t w) (ht : t ≤ 14046) : ZB Z (s.heap.size + room_1.cells) (zh s.heap + room_1.slots) w := by
  obtain ⟨r1, r2⟩ := hI.room (by omega)
  obtain ⟨z1, z2, z3⟩ := h
  have c1 : 410000 ≤ room_1.cells := Nat.le_of_ble_eq_true rfl
  have c2 : 6450000 ≤ room_1.slots := Nat.le_of_ble_eq_true rfl
  have c3 : room_1.slots ≤ 8000000 := Nat.le_of_ble_eq_true rfl
  exact ⟨by omega, by omega, by omega⟩
theorem ZI.top {s : State} {Z : Nat × Nat} {n t : Nat} {S : TS} {so : Nat → Nat} {cl : Prop} {w : TW} {D : va_G} {yc : Nat → ClassId} {e0 : Nat} {B : Nat → Prop} {H : Heap} (h : ZI s Z n) (hn : n ≤ 100) (hI : INV S so cl t w) (ht : t ≤ 14046) (hW : LW s D yc e0 B S Z w H) : H.size + 1 ≤ s.heap.size + room_1.cells ∧ zh H + 12 ≤ zh s.heap + room_1.slots := by
  obtain ⟨r1, r2⟩ := hI.room (by omega)
  obtain ⟨z1, z2, z3⟩ := h
  have c1 : 410000 ≤ room_1.cells := Nat.le_of_ble_eq_true rfl
  have c2 : 6450000 ≤ room_1.slots := Nat.le_of_ble_eq_true rfl
  obtain ⟨own, g1, g2, g3, g4, g5, g6, g7⟩ := hW.1
  exact ⟨by omega, by omega⟩
theorem ZI.more {s : State} {Z : Nat × Nat} {n : Nat} (h : ZI s Z n) : ZI s (Z.1 + 1, Z.2 + 12) (n + 1) := by
  obtain ⟨z1, z2, z3⟩ := h
  exact ⟨by show Z.1 + 1 ≤ _; omega, by show _ ≤ Z.2 + 12; omega, by show Z.2 + 12 ≤ _; omega⟩
