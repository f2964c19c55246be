/-! ===== asking changes no checksum ===== -/
theorem dig_ok {S : TS} {w b : TW} {z : Nat} (hzz : z ≤ zn S) (hn : zn S ≤ 12) (hz : zok S) (h : AG 0 w b) (h7 : ∀ j, b.1 7 0 0 j = w.1 7 0 0 j) : v_X10_digest S b.1 b.2.1 b.2.2 z = v_X10_digest S w.1 w.2.1 w.2.2 z := by
  obtain ⟨a1, a2, a3, a4, a5, a6⟩ := h
  have hat : ∀ i j, b.2.2 i = w.2.2 i → v_X6_at S b.1 b.2.1 b.2.2 i j = v_X6_at S w.1 w.2.1 w.2.2 i j := fun i j e => by unfold v_X6_at; rw [e]
  have hlen : ∀ i, b.2.2 i = w.2.2 i → v_X6_length S b.1 b.2.1 b.2.2 i = v_X6_length S w.1 w.2.1 w.2.2 i := fun i e => by unfold v_X6_length; rw [e]
  have hch : ∀ x k, x < 2 → k < zn S → (zp S x k).isSome = true → v_X1_length S b.1 b.2.1 b.2.2 (4 + x) 0 k = v_X1_length S w.1 w.2.1 w.2.2 (4 + x) 0 k := fun x k hx hk hs => by
    obtain ⟨p, hp⟩ := Option.isSome_iff_exists.mp hs
    have hlt := hz x k p hk hp
    have e : zsrc S (4 + x - 4) k = p := by unfold zsrc; rw [show 4 + x - 4 = x by omega, hp]; rfl
    unfold v_X1_length
    rw [e, hlen _ (a3 p (by omega)), a1 _ _ _ (by omega)]
  have hcg : ∀ x k, x < 2 → k < zn S → (zp S x k).isSome = true → v_X1_canGive S b.1 b.2.1 b.2.2 (4 + x) 0 k = v_X1_canGive S w.1 w.2.1 w.2.2 (4 + x) 0 k := fun x k hx hk hs => by
    unfold v_X1_canGive
    rw [hch x k hx hk hs, a1 _ _ _ (by omega)]
  have hbel : ∀ k C, k < zn S → v_X4_isBelow S b.1 b.2.1 b.2.2 0 k C = v_X4_isBelow S w.1 w.2.1 w.2.2 0 k C := fun k C hk => bel_congr (fun kd c h => a1 _ _ _ (by omega)) (a3 k (by omega))
  have hun : ∀ k, k < zn S → v_X8_unread S b.1 b.2.1 b.2.2 0 k = v_X8_unread S w.1 w.2.1 w.2.2 0 k := fun k hk => by
    unfold v_X8_unread
    rw [hlen _ (a5 k (by omega)), a1 _ _ _ (by omega)]
  have hcw : ∀ k C, k < zn S → v_X8_canWork S b.1 b.2.1 b.2.2 0 k C = v_X8_canWork S w.1 w.2.1 w.2.2 0 k C := fun k C hk => by
    unfold v_X8_canWork
    rw [hbel k C hk, hun k hk, a1 8 _ _ (by omega), a1 2 _ _ (by omega), a1 2 _ _ (by omega), a1 0 _ _ (by omega)]
    by_cases i0 : (zp S 0 k).isSome = true
    · by_cases i1 : (zp S 1 k).isSome = true
      · rw [show v_X1_canGive S b.1 b.2.1 b.2.2 4 0 k = _ from hcg 0 k (by omega) hk i0, show v_X1_canGive S b.1 b.2.1 b.2.2 5 0 k = _ from hcg 1 k (by omega) hk i1]
      · simp only [if_neg i1]
        rw [show v_X1_canGive S b.1 b.2.1 b.2.2 4 0 k = _ from hcg 0 k (by omega) hk i0]
    · by_cases i1 : (zp S 1 k).isSome = true
      · simp only [if_neg i0]
        rw [show v_X1_canGive S b.1 b.2.1 b.2.2 5 0 k = _ from hcg 1 k (by omega) hk i1]
      · simp only [if_neg i0, if_neg i1]
  have hwait : ∀ n i v, i + n = zn S → r_X2_waiting S b.1 b.2.1 b.2.2 0 n i v = r_X2_waiting S w.1 w.2.1 w.2.2 0 n i v := fun n => by
    induction n with
    | zero => intro i v _; rfl
    | succ n ih =>
      intro i v hi
      simp only [r_X2_waiting]
      have e0 : (if (zp S 0 i).isSome = true then v_X1_length S b.1 b.2.1 b.2.2 4 0 i else 0) = (if (zp S 0 i).isSome = true then v_X1_length S w.1 w.2.1 w.2.2 4 0 i else 0) := by
        by_cases h : (zp S 0 i).isSome = true
        · rw [if_pos h, if_pos h]; exact hch 0 i (by omega) (by omega) h
        · rw [if_neg h, if_neg h]
      have e1 : (if (zp S 1 i).isSome = true then v_X1_length S b.1 b.2.1 b.2.2 5 0 i else 0) = (if (zp S 1 i).isSome = true then v_X1_length S w.1 w.2.1 w.2.2 5 0 i else 0) := by
        by_cases h : (zp S 1 i).isSome = true
        · rw [if_pos h, if_pos h]; exact hch 1 i (by omega) (by omega) h
        · rw [if_neg h, if_neg h]
      rw [e0, e1, ih _ _ (by omega)]
  have hfl : v_X10_inFlight S b.1 b.2.1 b.2.2 = v_X10_inFlight S w.1 w.2.1 w.2.2 := hwait _ _ _ (by omega)
  have hnw : ∀ n j, j + n = zn S → r_X2_nextToWork S b.1 b.2.1 b.2.2 0 z n j = r_X2_nextToWork S w.1 w.2.1 w.2.2 0 z n j := fun n => by
    induction n with
    | zero => intro j _; rfl
    | succ n ih =>
      intro j hj
      simp only [r_X2_nextToWork]
      rw [ih (j + 1) (by omega), a1 6 _ _ (by omega)]
      by_cases c : nI (zn S) ≤ nI (z + j)
      · have := (nI_leI (by omega) (by omega)).mp c
        rw [if_pos c, if_pos c, hcw (z + j - zn S) _ (by omega)]
      · have : ¬ zn S ≤ z + j := fun h => c ((nI_leI (by omega) (by omega)).mpr h)
        rw [if_neg c, if_neg c, hcw (z + j) _ (by omega)]
  have hnext : v_X10_next S b.1 b.2.1 b.2.2 z = v_X10_next S w.1 w.2.1 w.2.2 z := hnw _ _ (by omega)
  have hpf : ∀ k (l1 : Int64), k < zn S → ∀ n lo hi, r_X7_placeFor S b.1 b.2.1 b.2.2 0 (3 * k) l1 n lo hi = r_X7_placeFor S w.1 w.2.1 w.2.2 0 (3 * k) l1 n lo hi := fun k l1 hk n => by
    induction n with
    | zero => intro lo hi; rfl
    | succ n ih =>
      intro lo hi
      simp only [r_X7_placeFor]
      rw [hat _ _ (a2 0 (3 * k) (by omega) (by omega)), ih, ih]
  have hne : ∀ k, k < zn S → v_X10_nextEnd S b.1 b.2.1 b.2.2 k = v_X10_nextEnd S w.1 w.2.1 w.2.2 k := fun k hk => by
    have e1 : v_X7_firstEndingAbove S b.1 b.2.1 b.2.2 0 (3 * k) (b.1 0 0 (3 * k) 0) = v_X7_firstEndingAbove S w.1 w.2.1 w.2.2 0 (3 * k) (w.1 0 0 (3 * k) 0) := by
      unfold v_X7_firstEndingAbove v_X7_placeFor
      rw [a1 _ _ _ (by omega), hpf k _ hk, a2 0 (3 * k) (by omega) (by omega)]
    unfold v_X10_nextEnd
    rw [e1]
    unfold v_X7_length v_X7_endAt
    rw [hlen _ (a2 0 (3 * k) (by omega) (by omega)), hat _ _ (a2 0 (3 * k) (by omega) (by omega))]
  have hkept : ∀ k, k < zn S → v_X10_kept S b.1 b.2.1 b.2.2 k = v_X10_kept S w.1 w.2.1 w.2.2 k := fun k hk => by
    unfold v_X10_kept v_X9_keptCount v_X7_length
    rw [hun k hk, hlen _ (a2 0 (3 * k) (by omega) (by omega)), hlen _ (a2 2 (3 * k) (by omega) (by omega)), hlen _ (a2 3 (3 * k) (by omega) (by omega)), a1 8 _ _ (by omega)]
  have hrd : ∀ k, k < zn S → v_X10_isReady S b.1 b.2.1 b.2.2 k = v_X10_isReady S w.1 w.2.1 w.2.2 k := fun k hk => by
    unfold v_X10_isReady
    rw [hcw k _ hk, a1 6 _ _ (by omega)]
  have hhr : ∀ k, k < zn S → v_X10_hasRoom S b.1 b.2.1 b.2.2 k = v_X10_hasRoom S w.1 w.2.1 w.2.2 k := fun k hk => by
    unfold v_X10_hasRoom
    rw [hbel k _ hk, a1 6 _ _ (by omega)]
  have hq0 : ∀ k, k < zn S → v_X10_queued0 S b.1 b.2.1 b.2.2 k = v_X10_queued0 S w.1 w.2.1 w.2.2 k := fun k hk => by
    unfold v_X10_queued0
    by_cases h : (zp S 0 k).isSome = true
    · rw [if_pos h, if_pos h]; exact hch 0 k (by omega) hk h
    · rw [if_neg h, if_neg h]
  have hq1 : ∀ k, k < zn S → v_X10_queued1 S b.1 b.2.1 b.2.2 k = v_X10_queued1 S w.1 w.2.1 w.2.2 k := fun k hk => by
    unfold v_X10_queued1
    by_cases h : (zp S 1 k).isSome = true
    · rw [if_pos h, if_pos h]; exact hch 1 k (by omega) hk h
    · rw [if_neg h, if_neg h]
  have hb0 : ∀ k, v_X10_isBlocked0 S b.1 b.2.1 b.2.2 k = v_X10_isBlocked0 S w.1 w.2.1 w.2.2 k := fun k => by
    unfold v_X10_isBlocked0
    rw [a1 4 _ _ (by omega)]
  have hb1 : ∀ k, v_X10_isBlocked1 S b.1 b.2.1 b.2.2 k = v_X10_isBlocked1 S w.1 w.2.1 w.2.2 k := fun k => by
    unfold v_X10_isBlocked1
    rw [a1 5 _ _ (by omega)]
  have hout : ∀ k (l1 : Int64), k < zn S → ∀ n i d, r_X10_digestOfOutput S b.1 b.2.1 b.2.2 l1 k n i d = r_X10_digestOfOutput S w.1 w.2.1 w.2.2 l1 k n i d := fun k l1 hk n => by
    induction n with
    | zero => intro i d; rfl
    | succ n ih =>
      intro i d
      simp only [r_X10_digestOfOutput]
      have e : ∀ j, v_X10_outputAt S b.1 b.2.1 b.2.2 k j = v_X10_outputAt S w.1 w.2.1 w.2.2 k j := fun j => by
        unfold v_X10_outputAt
        exact hat _ _ (a4 k (by omega))
      rw [e, ih]
  have hdo : ∀ k (l1 : Int64), k < zn S → v_X10_digestOfOutput S b.1 b.2.1 b.2.2 l1 k = v_X10_digestOfOutput S w.1 w.2.1 w.2.2 l1 k := fun k l1 hk => by
    unfold v_X10_digestOfOutput
    rw [hout k _ hk, a1 0 _ _ (by omega), a6, a1 0 _ _ (by omega)]
  have hds : ∀ k (l1 : Int64), k < zn S → v_X10_digestOfStage S b.1 b.2.1 b.2.2 l1 k = v_X10_digestOfStage S w.1 w.2.1 w.2.2 l1 k := fun k l1 hk => by
    unfold v_X10_digestOfStage
    rw [hkept k hk, hrd k hk, hhr k hk, hq0 k hk, hq1 k hk, hb0 k, hb1 k, hne k hk]
    simp only [hdo k _ hk]
    rw [a1 8 _ _ (by omega), a1 8 _ _ (by omega), a1 0 _ _ (by omega), a1 0 _ _ (by omega), a1 0 _ _ (by omega), a1 0 _ _ (by omega)]
  have hl : ∀ n i d, i + n = zn S → r_X10_digest S b.1 b.2.1 b.2.2 z n i d = r_X10_digest S w.1 w.2.1 w.2.2 z n i d := fun n => by
    induction n with
    | zero => intro i d _; rfl
    | succ n ih =>
      intro i d hi
      simp only [r_X10_digest]
      rw [hds i _ (by omega), ih _ _ (by omega)]
  unfold v_X10_digest
  rw [hl _ _ _ (by omega), hfl, hnext, h7, h7, h7, a1 6 _ _ (by omega), a1 6 _ _ (by omega)]
