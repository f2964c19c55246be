/-! ===== what stays: which states are saved; who worked last ===== -/
def GS (G : TG) : Prop := ∀ fl k, ((G fl k).1 = 1 ∧ (G fl k).2 = 2) ∨ ((G fl k).1 = 2 ∧ (G fl k).2 = 1)
theorem GS.of {a b : TG} (e : a = b) (h : GS b) : GS a := by rw [e]; exact h
theorem zP_ifd {α : Type} {P : α → Prop} {c : Prop} {d : Decidable c} {a b : α} (h : c → P a) (k : ¬ c → P b) : P (@ite α c d a b) := by
  by_cases e : c
  · rw [if_pos e]; exact h e
  · rw [if_neg e]; exact k e
def zlast (w : TW) (fl : Nat) : Nat := (w.1 6 fl 0 3 + 1).toNatClampNeg
def ZL (S : TS) (w : TW) (fl : Nat) : Prop := w.1 6 fl 0 3 = nI (zlast w fl) - 1 ∧ zlast w fl ≤ zn S
theorem ZL.set {S : TS} {w : TW} {fl k : Nat} (hn : zn S ≤ 12) (hk : k < zn S) (h : w.1 6 fl 0 3 = nI k) : ZL S w fl := by
  have e : zlast w fl = k + 1 := by unfold zlast; rw [h, nI_1, nI_clamp (by omega)]
  exact ⟨by rw [e, h, nI_pred], by rw [e]; omega⟩
theorem ZL.eq {S : TS} {w w1 : TW} {fl fl1 : Nat} (h : ZL S w fl) (e : w1.1 6 fl1 0 3 = w.1 6 fl 0 3) : ZL S w1 fl1 := by
  unfold ZL zlast at *
  rw [e]
  exact h
theorem nw_key {S : TS} {F : TF} {G : TG} {q : TQ} {fl w : Nat} (hn : zn S ≤ 12) (hw : w ≤ zn S) : ∀ n j, j + n = zn S → r_X2_nextToWork S F G q fl w n j = -1 ∨ ∃ m, m < zn S ∧ r_X2_nextToWork S F G q fl w n j = nI m := by
  intro n
  induction n with
  | zero => intro j _; exact Or.inl rfl
  | succ n ih =>
    intro j hj
    simp only [r_X2_nextToWork]
    by_cases h1 : nI (zn S) ≤ nI (w + j)
    · rw [if_pos h1]
      have h2 := (nI_leI (by omega) (by omega)).mp h1
      split
      · exact ih (j + 1) (by omega)
      · exact Or.inr ⟨w + j - zn S, by omega, rfl⟩
    · rw [if_neg h1]
      have h2 : ¬ zn S ≤ w + j := fun h => h1 ((nI_leI (by omega) (by omega)).mpr h)
      split
      · exact ih (j + 1) (by omega)
      · exact Or.inr ⟨w + j, by omega, rfl⟩
theorem nw_ok {S : TS} {F : TF} {G : TG} {q : TQ} {fl w : Nat} (hn : zn S ≤ 12) (hw : w ≤ zn S) (h : ¬ v_X2_nextToWork S F G q fl w = -1) : v_X2_nextToWork S F G q fl w = nI (v_X2_nextToWork S F G q fl w).toNatClampNeg ∧ (v_X2_nextToWork S F G q fl w).toNatClampNeg < zn S := by
  have h2 : v_X2_nextToWork S F G q fl w = -1 ∨ ∃ m, m < zn S ∧ v_X2_nextToWork S F G q fl w = nI m := nw_key hn hw (zn S) 0 (by omega)
  rcases h2 with h2 | ⟨m, hm, e⟩
  · exact absurd h2 h
  · rw [e, nI_clamp (by omega)]
    exact ⟨rfl, hm⟩
theorem t2_01 {S : TS} {F : TF} {G : TG} {q : TQ} {fl k : Nat} (h : ¬ v_X8_turnsToSecond S F G q fl k = 0) : v_X8_turnsToSecond S F G q fl k = 1 := by
  have h2 : v_X8_turnsToSecond S F G q fl k = 0 ∨ v_X8_turnsToSecond S F G q fl k = 1 := by
    unfold v_X8_turnsToSecond
    repeat (first | exact Or.inl rfl | exact Or.inr rfl | split)
  rcases h2 with h2 | h2
  · exact absurd h2 h
  · exact h2
theorem zwithin {n m : Nat} (h1 : 1 ≤ n) (h2 : n ≤ m) (hm : m < 2 ^ 31) : ¬ v_X10_isWithin (nI n) 1 (nI m) = 0 := by
  unfold v_X10_isWithin
  have e1 : ¬ nI n < 1 := nI_nlt (a := n) (b := 1) h1 (by omega)
  have e2 : ¬ nI m < nI n := nI_nlt h2 hm
  rw [if_neg e1, if_neg e2]
  decide
theorem zF_id {F : TF} {kd fl k : Nat} : zF F kd fl k (F kd fl k) = F := by
  funext a b c
  unfold zF
  split
  · rename_i h; obtain ⟨rfl, rfl, rfl⟩ := h; rfl
  · rfl
