/-! ===== how much room all rows take ===== -/
theorem zsm_add (f : Nat → Nat) (m : Nat) : ∀ n, zsm f (m + n) = zsm f m + zsm (fun j => f (m + j)) n
  | 0 => rfl
  | n + 1 => by
    show zsm f (m + n) + f (m + n) = zsm f m + (zsm (fun j => f (m + j)) n + f (m + n))
    rw [zsm_add f m n]
    omega
theorem zsm_lt {f g : Nat → Nat} : ∀ n, (∀ i, i < n → f i ≤ g i) → zsm f n ≤ zsm g n
  | 0, _ => Nat.le_refl _
  | n + 1, h => Nat.add_le_add (zsm_lt n (fun i hi => h i (by omega))) (h n (by omega))
theorem zsm_grp {f : Nat → Nat} {a : Nat} {B : Nat → Nat} : ∀ b, (∀ k, k < b → zsm (fun j => f (a * k + j)) a ≤ B k) → zsm f (a * b) ≤ zsm B b
  | 0, _ => by rw [Nat.mul_zero]; exact Nat.le_refl _
  | b + 1, h => by
    rw [Nat.mul_succ, zsm_add]
    exact Nat.add_le_add (zsm_grp b (fun k hk => h k (by omega))) (h b (by omega))
theorem zsm_24 (A : Nat) : zsm (fun j => if j % 4 < 2 then A else 68) 24 = 12 * A + 816 := by
  simp [zsm]
  omega
theorem INV.room {S : TS} {so : Nat → Nat} {cl : Prop} {t : Nat} {w : TW} (h : INV S so cl t w) (ht : t ≤ 100000) : Phi w.2.2 ≤ 19776 + 456 * t ∧ 16 * Psi w.2.2 ≤ Phi w.2.2 := by
  obtain ⟨g0, g, c, d, N, M, C, e, f, ⟨C1, g1⟩, i, j, l, P, p⟩ := h
  have hn := g0.1
  have hSR : ∀ fl k s, fl < 2 → k < zn S → s < 3 → SR (so k) (EE k) (N k) w fl (3 * k + s) := fun fl k s hf hk hs => by
    by_cases e : fl = 0
    · subst e; exact (f.2.2.2 k hk).1 s hs
    · obtain rfl : fl = 1 := by omega
      exact (g1.2.2.2 k hk).1 s hs
  have hSB : ∀ fl k, fl < 2 → k < zn S → RBd (N k + 40) (w.2.2 (ri fl k)) ∧ RBd (M k) (w.2.2 (ro fl k)) := fun fl k hf hk => by
    by_cases e : fl = 0
    · subst e; exact ⟨(f.2.2.2 k hk).2.2.1, (f.2.2.2 k hk).2.2.2.1⟩
    · obtain rfl : fl = 1 := by omega
      exact ⟨(g1.2.2.2 k hk).2.2.1, (g1.2.2.2 k hk).2.2.2.1⟩
  refine ⟨?_, ?_⟩
  · have a1 : zsm (fun i => 2 * (w.2.2 i).1) (24 * 12) ≤ zsm (fun k => 12 * (16 + 4 * N k) + 816) 12 := by
      refine zsm_grp 12 (fun k hk => ?_)
      refine Nat.le_trans (zsm_lt 24 (g := fun j => if j % 4 < 2 then 16 + 4 * N k else 68) (fun j hj => ?_)) (Nat.le_of_eq (zsm_24 _))
      have ei : 24 * k + j = rs (j % 4) (j / 4 % 2) (3 * k + j / 8) := by unfold rs; omega
      by_cases hkn : k < zn S
      · have hs := hSR (j / 4 % 2) k (j / 8) (by omega) hkn (by omega)
        rw [ei]
        have hx : j % 4 = 0 ∨ j % 4 = 1 ∨ j % 4 = 2 ∨ j % 4 = 3 := by omega
        rcases hx with hx | hx | hx | hx <;> rw [hx]
        · have := hs.1.1.2.2.2; rw [if_pos (by omega)]; omega
        · have := hs.1.2.1.2.2.2; rw [if_pos (by omega)]; omega
        · have := hs.2.1.1.2.2.2; rw [if_neg (by omega)]; omega
        · have := hs.2.2.1.1.2.2.2; rw [if_neg (by omega)]; omega
      · have := d (24 * k + j) (fun h => by unfold dr at h; omega)
        rw [this]
        omega
    have a2 : zsm (fun j => 2 * (w.2.2 (288 + j)).1) (2 * 12) ≤ zsm (fun k => 2 * (16 + 4 * (N k + 40))) 12 := by
      refine zsm_grp 12 (fun k hk => ?_)
      have each : ∀ fl, fl < 2 → 2 * (w.2.2 (288 + (2 * k + fl))).1 ≤ 16 + 4 * (N k + 40) := fun fl hf => by
        have ei : 288 + (2 * k + fl) = ri fl k := by unfold ri; omega
        by_cases hkn : k < zn S
        · have := (hSB fl k hf hkn).1.2.2.2
          rw [ei]; omega
        · have := d (288 + (2 * k + fl)) (fun h => by unfold dr at h; omega)
          rw [this]; omega
      have e0 := each 0 (by omega)
      have e1 := each 1 (by omega)
      show 0 + 2 * (w.2.2 (288 + (2 * k + 0))).1 + 2 * (w.2.2 (288 + (2 * k + 1))).1 ≤ _
      omega
    have a3 : zsm (fun j => 2 * (w.2.2 (312 + j)).1) (2 * 12) ≤ zsm (fun k => 2 * (16 + 4 * M k)) 12 := by
      refine zsm_grp 12 (fun k hk => ?_)
      have each : ∀ fl, fl < 2 → 2 * (w.2.2 (312 + (2 * k + fl))).1 ≤ 16 + 4 * M k := fun fl hf => by
        have ei : 312 + (2 * k + fl) = ro fl k := by unfold ro; omega
        by_cases hkn : k < zn S
        · have := (hSB fl k hf hkn).2.2.2.2
          rw [ei]; omega
        · have := d (312 + (2 * k + fl)) (fun h => by unfold dr at h; omega)
          rw [this]; omega
      have e0 := each 0 (by omega)
      have e1 := each 1 (by omega)
      show 0 + 2 * (w.2.2 (312 + (2 * k + 0))).1 + 2 * (w.2.2 (312 + (2 * k + 1))).1 ≤ _
      omega
    have a4 : zsm (fun j => 2 * (w.2.2 (336 + j)).1) 12 ≤ zsm (fun _ => 256) 12 := by
      refine zsm_lt 12 (fun k hk => ?_)
      have ei : 336 + k = rl k := by unfold rl; omega
      by_cases hkn : k < zn S
      · have := (g0.2.2 k hkn).2.1.2.2.2
        rw [ei]; omega
      · have := d (336 + k) (fun h => by unfold dr at h; omega)
        rw [this]; omega
    have s1 : Phi w.2.2 = zsm (fun i => 2 * (w.2.2 i).1) (24 * 12) + zsm (fun j => 2 * (w.2.2 (288 + j)).1) (2 * 12) + zsm (fun j => 2 * (w.2.2 (312 + j)).1) (2 * 12) + zsm (fun j => 2 * (w.2.2 (336 + j)).1) 12 := by
      unfold Phi
      have z1 := zsm_add (fun i => 2 * (w.2.2 i).1) 336 12
      have z2 := zsm_add (fun i => 2 * (w.2.2 i).1) 312 24
      have z3 := zsm_add (fun i => 2 * (w.2.2 i).1) 288 24
      have n1 : (336 : Nat) + 12 = 348 := rfl
      have n2 : (312 : Nat) + 24 = 336 := rfl
      have n3 : (288 : Nat) + 24 = 312 := rfl
      rw [n1] at z1
      rw [n2] at z2
      rw [n3] at z3
      rw [z1, z2, z3]
    have b1 : zsm (fun k => 12 * (16 + 4 * N k) + 816) 12 + zsm (fun k => 2 * (16 + 4 * (N k + 40))) 12 + zsm (fun k => 2 * (16 + 4 * M k)) 12 + zsm (fun _ => 256) 12 = 56 * zsm N 12 + 8 * zsm M 12 + 19776 := by
      simp only [zsm]
      omega
    omega
  · have : ∀ n, 16 * zsm (fun i => (w.2.2 i).1 / 8) n ≤ zsm (fun i => 2 * (w.2.2 i).1) n := fun n => by
      induction n with
      | zero => exact Nat.le_refl _
      | succ n ih =>
        show 16 * (zsm (fun i => (w.2.2 i).1 / 8) n + (w.2.2 n).1 / 8) ≤ zsm (fun i => 2 * (w.2.2 i).1) n + 2 * (w.2.2 n).1
        omega
    exact this 348
