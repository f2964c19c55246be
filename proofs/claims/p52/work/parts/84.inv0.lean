/-! ===== what always holds, holds at the start ===== -/
section I0
variable {S : TS} {pl : Nat → Nat → Int32} {so : Nat → Nat}
theorem rb0 {B i : Nat} (h : dr S i) : RBd B (q0 S i) := by
  rw [q0_in h]
  refine ⟨Nat.zero_le _, Nat.le_refl _, Nat.zero_le _, ?_⟩
  show 8 ≤ max 8 (2 * B)
  omega
theorem q0_nil {i : Nat} : (q0 S i).2 = [] := by
  unfold q0
  split <;> rfl
theorem sI0 {st j : Nat} (hj : j < 3) : sI (F0p pl, G0, q0 S) st j = -1 := by
  unfold sI
  have : F0p pl 0 0 st j = -1 := by
    unfold F0p
    rw [if_pos rfl, if_pos (by omega)]
  show (F0p pl 0 0 st j).toInt = -1
  rw [this]
  decide
theorem pend0 {fl kd c : Nat} : pend S (F0p pl, G0, q0 S) fl kd c = [] := by
  unfold pend
  show List.drop _ (q0 S _).2 = []
  rw [q0_nil, List.drop_nil]
theorem SI0 {k st T : Nat} {s : Nat} : SI S s False T (F0p pl, G0, q0 S) k st := by
  refine ⟨⟨fun j hj => ?_, fun _ _ => ?_, fun _ _ => ?_, fun h => ?_⟩, ?_⟩
  · rw [sI0 hj]; exact ⟨by omega, Or.inl (by omega)⟩
  · rw [sI0 (by decide), sI0 (by decide), sI0 (by decide)]; decide
  · rw [sI0 (by decide), sI0 (by decide)]; decide
  · rw [sI0 (by decide)] at h; exact absurd h (by decide)
  · exact ⟨0, 0, rfl, rfl, Nat.le_refl _, Nat.zero_le _, fun _ => rfl, fun _ => ⟨0, rfl, Nat.le_refl _⟩, fun _ => ⟨rfl, rfl⟩⟩
theorem SB0 (hn : zn S ≤ 12) {fl k : Nat} (hf : fl < 2) (hk : k < zn S) {s : Nat} : SB s (F0p pl, G0, q0 S) fl k 0 0 := by
  have h3 : ∀ s, s < 3 → 3 * k + s < 3 * zn S := fun s hs => by omega
  refine ⟨fun z hz => ⟨⟨rb0 (dr_s hn (by decide) hf (h3 z hz)), rb0 (dr_s hn (by decide) hf (h3 z hz)), ?_⟩, ⟨rb0 (dr_s hn (by decide) hf (h3 z hz)), ?_, ?_⟩, ⟨rb0 (dr_s hn (by decide) hf (h3 z hz)), ?_, ?_⟩, fun _ => q0_nil, fun _ => ⟨q0_nil, q0_nil⟩⟩, fun z hz j hj => ?_, rb0 (dr_i hn hf hk), rb0 (dr_o hn hf hk), ?_, fun _ z hz => ⟨0, rfl, Nat.zero_le _⟩⟩
  · intro x hx; rw [show ((F0p pl, G0, q0 S) : TW).2.2 = q0 S from rfl, q0_nil] at hx; cases hx
  · rw [show ((F0p pl, G0, q0 S) : TW).2.2 = q0 S from rfl, q0_nil]; exact Nat.zero_le _
  · intro x hx; rw [show ((F0p pl, G0, q0 S) : TW).2.2 = q0 S from rfl, q0_nil] at hx; cases hx
  · rw [show ((F0p pl, G0, q0 S) : TW).2.2 = q0 S from rfl, q0_nil]; exact Nat.zero_le _
  · intro x hx; rw [show ((F0p pl, G0, q0 S) : TW).2.2 = q0 S from rfl, q0_nil] at hx; cases hx
  · have : F0p pl 0 fl (3 * k + z) j = -1 := by
      unfold F0p
      rw [if_pos rfl, if_pos (by omega)]
    show -1 ≤ (F0p pl 0 fl (3 * k + z) j).toInt ∧ (F0p pl 0 fl (3 * k + z) j).toInt < 1048576
    rw [this]
    decide
  · intro x hx; rw [show ((F0p pl, G0, q0 S) : TW).2.2 = q0 S from rfl, q0_nil] at hx; cases hx
theorem BI0 (hn : zn S ≤ 12) {fl : Nat} (hf : fl < 2) : BI S so (F0p pl, G0, q0 S) fl (fun _ => 0) (fun _ => 0) 8 := by
  refine ⟨fun kd c hc => ?_, rfl, by decide, fun k hk => SB0 hn hf hk⟩
  have h0 : F0p pl kd fl c 1 = 0 := by
    rcases hc.1 with rfl | rfl <;> rfl
  have hg : gvn (F0p pl, G0, q0 S) fl kd c = 0 := by
    show (F0p pl kd fl c 1).toInt.toNat = 0
    rw [h0]
    decide
  rw [hg]
  exact ⟨h0, Nat.zero_le _⟩
theorem inv0 (hn : zn S ≤ 12) (hok : zok S) (hg : ∀ k, k < zn S → PLk (F0p pl, G0, q0 S) k (so k) ∧ (so k = 0 → ¬ (zp S 0 k).isSome = true) ∧ (so k ≠ 0 → (zp S 0 k).isSome = true) ∧ ((zp S 1 k).isSome = true ↔ so k = 5 ∨ so k = 6)) : INV S so False 0 (F0p pl, G0, q0 S) := by
  have hz0 : zlast (F0p pl, G0, q0 S) 0 = 0 := show ((-1 : Int32) + 1).toNatClampNeg = 0 by decide
  refine ⟨⟨hn, hok, fun k hk => ⟨(hg k hk).1, rb0 (dr_l hn hk), fun x hx => ?_, (hg k hk).2⟩⟩, fun _ _ => Or.inl ⟨rfl, rfl⟩, ⟨by rw [hz0]; rfl, by rw [hz0]; exact Nat.zero_le _⟩, (fun i hi => ?_), (fun _ => 0), (fun _ => 0), 8, by decide, BI0 hn (by decide), ⟨8, BI0 hn (by decide)⟩, (fun _ _ => ⟨rfl, rfl⟩), by decide, by decide, (fun _ => false), (fun k hk => ?_), (fun kd c hc => ?_), (fun _ _ _ => rfl), (fun h => absurd rfl h)⟩
  · rw [show ((F0p pl, G0, q0 S) : TW).2.2 = q0 S from rfl, q0_nil] at hx; cases hx
  · show (q0 S i).1 = 0
    rw [q0_out hi]
  · refine ⟨SI0, SI0, (fun h => absurd (show false = true from h) (by decide)), ?_, (fun h => absurd (show false = true from h) (by decide)), (fun _ => rfl), (fun _ => ⟨(fun _ => Or.inl rfl), (fun _ => rfl)⟩), (fun h => absurd rfl h), (fun kd hc h => ?_)⟩
    · show sI _ _ 4 ≤ sI _ _ 4
      unfold sI
      exact Int.le_refl _
    · exfalso
      apply h
      rcases hc.1 with rfl | rfl <;> rfl
  · have hz : F0p pl kd 0 c 2 = 0 := by
      rcases hc.1 with rfl | rfl <;> rfl
    have hj : kd - 3 < 3 := by
      rcases hc.1 with rfl | rfl <;> decide
    refine ⟨⟨by rw [pend0]; trivial, by rw [pend0]; exact (sI0 hj).trans (sI0 (by decide)).symm, (sI0 hj).trans (sI0 (by decide)).symm⟩, ⟨(fun _ => ⟨by rw [pend0]; exact (fun x hx => absurd hx List.not_mem_nil), hz, rfl⟩), (fun h => absurd (show false = true from h) (by decide)), (fun h => absurd (show false = true from h) (by decide))⟩, (fun h => absurd (show false = true from h) (by decide))⟩
end I0
