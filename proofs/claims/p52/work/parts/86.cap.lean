/-! ===== start, setCapacity ===== -/
theorem cap_INV {S : TS} {so : Nat → Nat} {cl : Prop} {t c : Nat} {w b : TW} (h : INV S so cl t w) (hc1 : 1 ≤ c) (hc : c ≤ 9) (hF : ∀ kd f a j, ¬ (kd = 6 ∧ f = 0 ∧ a = 0 ∧ j = 2) → b.1 kd f a j = w.1 kd f a j) (hcap : b.1 6 0 0 2 = nI c) (hq : b.2 = w.2) : INV S so cl t b := by
  obtain ⟨a, g, z, d, N, M, C, e, f, ⟨C1, g1⟩, i, j, l, P, p⟩ := h
  have hqq : b.2.2 = w.2.2 := by rw [hq]
  refine ⟨a.ag (fun x y => hF _ _ _ _ (by omega)) (fun k _ => by rw [hqq]), by rw [hq]; exact g, z.eq (hF _ _ _ _ (by omega)), fun i hi => by rw [hqq]; exact d i hi, N, M, c, hc1, f.of (fun _ _ => hF _ _ _ _ (by omega)) (fun kd c h => hF _ _ _ _ (by omega)) hcap hc hqq, ⟨C1, g1.of (fun _ _ => hF _ _ _ _ (by omega)) (fun kd c h => hF _ _ _ _ (by omega)) (by rw [hF _ _ _ _ (by omega)]; exact g1.2.1) g1.2.2.1 hqq⟩, i, j, l, P, ?_⟩
  refine p.of a.1 a.2.1 g id (fun _ _ => hF _ _ _ _ (by omega)) (fun kd c j h => hF _ _ _ _ (by omega)) (fun _ _ => by rw [hqq]) (by rw [hq]) (fun _ _ _ => by rw [hqq]) (fun k hk => ?_) (fun k hk h => ?_) ?_
  · obtain ⟨-, -, -, -, -, p6, p7, -⟩ := p.1 k hk
    rw [hF _ _ _ _ (by omega), hF _ _ _ _ (by omega)]
    exact ⟨p6, p7⟩
  · obtain ⟨-, -, -, -, -, -, -, p8, -⟩ := p.1 k hk
    rw [hF _ _ _ _ (by omega)] at h
    exact p8 h
  · unfold PG
    rw [hF _ _ _ _ (by omega), hF _ _ _ _ (by omega)]
    exact p.2.2
theorem setCapacity_INV {S : TS} {so : Nat → Nat} {cl : Prop} {t c : Nat} {w : TW} (h : INV S so cl t w) (hc1 : 1 ≤ c) (hc : c ≤ 9) : INV S so cl t (w_X10_setCapacity S w c).1 := by
  have e : (w_X10_setCapacity S w c).1 = zset w 6 0 0 2 (nI c) := rfl
  rw [e]
  refine cap_INV h hc1 hc (fun kd f a j hn => ?_) ?_ rfl
  · rw [zset_F, if_neg (fun h9 => hn ⟨h9.1, h9.2.1, h9.2.2.1, h9.2.2.2⟩)]
  · rw [zset_F, if_pos ⟨rfl, rfl, rfl, rfl⟩]
theorem start_INV {S : TS} {so : Nat → Nat} {cl : Prop} {t : Nat} {w : TW} (h : INV S so cl t w) : INV S so cl t (w_X10_start S w).1 ∧ (w_X10_start S w).1.1 7 0 0 2 = 1 ∧ (w_X10_start S w).2 = nI (zn S) ∧ (w_X10_start S w).1.2 = w.2 ∧ ∀ kd f a j, kd ≠ 7 → (w_X10_start S w).1.1 kd f a j = w.1 kd f a j := by
  have e : (w_X10_start S w) = (zset w 7 0 0 2 1, nI (zn S)) := rfl
  rw [e]
  have hF : ∀ kd f a j, kd ≠ 7 → (zset w 7 0 0 2 1).1 kd f a j = w.1 kd f a j := fun kd f a j hk => by
    rw [zset_F, if_neg (fun h9 => hk (by first | exact h9.1 | exact h9.1.symm))]
  refine ⟨set_INV id h (fun kd f a j hk _ => hF kd f a j hk) rfl (fun k hk h10 => ?_), by rw [zset_F, if_pos ⟨rfl, rfl, rfl, rfl⟩], rfl, rfl, hF⟩
  obtain ⟨a, g, z, d, N, M, C, e', f, -, i, j, l, P, p⟩ := h
  obtain ⟨-, -, -, -, -, -, -, p8, -⟩ := p.1 k hk
  change ¬ (zset w 7 0 0 2 1).1 2 0 k 10 = 0 at h10
  rw [hF _ _ _ _ (by decide)] at h10
  exact p8 h10
