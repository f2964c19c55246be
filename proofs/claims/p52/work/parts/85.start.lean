/-! ===== the shape without stages; the shapes that wire makes ===== -/
def S0 (a u0 u1 l0 l1 : Nat) : TS := (fun kd fl _ => if kd = 7 then a else if fl = 0 then u0 else u1, fun _ => 0, fun _ fl _ => if fl = 0 then l0 else l1, 0, fun _ _ => none)
theorem S0_och {a u0 u1 l0 l1 b fl k : Nat} : lic (S0 a u0 u1 l0 l1) b fl k = [] := by
  unfold lic och
  split <;> rfl
section ST
variable {D : va_G} {yc : Nat → ClassId} {e0 : Nat} {A : Nat → Prop} {H : Heap} {pl : Nat → Nat → Int32} {a u0 u1 l0 l1 : Nat}
theorem ws_S0 (hP : va_P D vwCl [(a, .inr (9, [.ref u0, .ref u1, .int 0, .int 0, .int 0])), (u0, .inr (2, [.int 0, .ref l0, .int 8, .int (-1), .int 0, .int 0, .int 0, .int 0])), (l0, .inr (0, [.int 0, .ref e0, .int 0])), (u1, .inr (2, [.int 1, .ref l1, .int 8, .int (-1), .int 0, .int 0, .int 0, .int 0])), (l1, .inr (0, [.int 0, .ref e0, .int 0]))] H)
    (hD : va_D A [(a, .inr (9, [.ref u0, .ref u1, .int 0, .int 0, .int 0])), (u0, .inr (2, [.int 0, .ref l0, .int 8, .int (-1), .int 0, .int 0, .int 0, .int 0])), (l0, .inr (0, [.int 0, .ref e0, .int 0])), (u1, .inr (2, [.int 1, .ref l1, .int 8, .int (-1), .int 0, .int 0, .int 0, .int 0])), (l1, .inr (0, [.int 0, .ref e0, .int 0]))]) :
    ∃ own : TO, WX D yc e0 A own (obS (S0 a u0 u1 l0 l1) pl) (rwS (S0 a u0 u1 l0 l1)) (lsS (S0 a u0 u1 l0 l1)) H := by
  have hE : WX D yc e0 A (fun _ => (9, 0, 0, 0)) (fun _ _ _ _ _ => False) (fun _ _ => False) (fun _ _ _ _ _ => False) (#[] : Heap) := ⟨fun _ _ _ _ _ q => q.elim, fun _ _ q => q.elim, fun _ _ _ _ _ q => q.elim, fun _ _ _ _ _ _ _ _ _ q => q.elim⟩
  obtain ⟨own, -, hW⟩ := hE.addblk (H1 := H) _ [(0, 7, 0, 0), (0, 6, 0, 0), (3, 0, 0, 0), (0, 6, 1, 0), (3, 0, 1, 0)] (fun q hq => absurd hq (Nat.not_lt_zero q)) hP hD.1 (fun i q hi => ⟨hD.2 i q hi, Nat.zero_le _⟩)
  refine ⟨own, hW.mono (fun kd fl k a' e q => Or.inr ?_) (fun i r q => ?_) (fun b fl k a' L q => Or.inr ?_)⟩
  · obtain ⟨hd, ha, he⟩ := q
    have hz : zn (S0 a u0 u1 l0 l1) = 0 := rfl
    match kd, hd with
    | 0, hd => have := hd.2; rw [hz] at this; omega
    | 1, hd => have := hd.2; rw [hz] at this; omega
    | 2, hd => have := hd.2; rw [hz] at this; omega
    | 3, hd => have := hd.2; rw [hz] at this; omega
    | 4, hd => have := hd.2.1; rw [hz] at this; omega
    | 5, hd => have := hd.2.1; rw [hz] at this; omega
    | 8, hd => have := hd.2; rw [hz] at this; omega
    | kd + 9, hd => exact hd.elim
    | 7, hd =>
      obtain ⟨rfl, rfl⟩ := hd
      have he' : e = _ := (Sum.inr.inj he).symm
      exact ⟨0, rfl, by rw [ha, he']; rfl⟩
    | 6, hd =>
      obtain ⟨hf, rfl⟩ := hd
      have he' : e = _ := (Sum.inr.inj he).symm
      rcases (show fl = 0 ∨ fl = 1 by omega) with rfl | rfl
      · exact ⟨1, rfl, by rw [ha, he']; rfl⟩
      · exact ⟨3, rfl, by rw [ha, he']; rfl⟩
  · obtain ⟨hd, -⟩ := q
    have hz : zn (S0 a u0 u1 l0 l1) = 0 := rfl
    unfold dr at hd
    rw [hz] at hd
    omega
  · obtain ⟨hd, ha, hL⟩ := q
    rw [S0_och] at hL
    have hz : zn (S0 a u0 u1 l0 l1) = 0 := rfl
    rcases hd with ⟨rfl, hf, rfl⟩ | ⟨rfl, hf, hk⟩
    · rcases (show fl = 0 ∨ fl = 1 by omega) with rfl | rfl
      · exact ⟨hL, 2, rfl, by rw [ha]; rfl⟩
      · exact ⟨hL, 4, rfl, by rw [ha]; rfl⟩
    · rw [hz] at hk; omega
end ST
/-- what a shape and its plans keep while stages are added -/
def PLp (pp : Nat → Int32) (so : Nat) : Prop := pp 0 = nI so ∧ so < 8 ∧ (so = 3 → ∃ sp, pp 6 = nI 12 ∧ pp 7 = nI sp ∧ 1 ≤ sp ∧ sp ≤ 12) ∧ (so = 4 → ∃ g, pp 9 = nI g ∧ 1 ≤ g ∧ g ≤ 20) ∧ (so = 3 ∨ so = 4 → ∃ la, pp 8 = nI la ∧ la ≤ 20) ∧
  (so = 5 → ∃ a b, pp 10 = nI a ∧ pp 11 = nI b ∧ a ≤ 8 ∧ b ≤ 8) ∧ (so = 2 → ∃ m, pp 5 = nI m ∧ 1 ≤ m ∧ m ≤ 200) ∧ (so = 0 → ∃ s, pp 3 = nI s ∧ s ≤ 40)
def GW (S : TS) (pl : Nat → Nat → Int32) (so : Nat → Nat) : Prop := zok S ∧ zdis S ∧ (0 < zn S → so 0 = 0) ∧ ∀ k, k < zn S → PLp (pl k) (so k) ∧ (so k = 0 → ¬ (zp S 0 k).isSome = true) ∧ (so k ≠ 0 → (zp S 0 k).isSome = true) ∧ ((zp S 1 k).isSome = true ↔ so k = 5 ∨ so k = 6)
theorem GW.inv {S : TS} {pl : Nat → Nat → Int32} {so : Nat → Nat} (h : GW S pl so) (hn : zn S ≤ 12) : INV S so False 0 (F0p pl, G0, q0 S) := inv0 hn h.1 (fun k hk => h.2.2.2 k hk)
theorem GW.zero {a u0 u1 l0 l1 : Nat} {pl : Nat → Nat → Int32} : GW (S0 a u0 u1 l0 l1) pl (fun _ => 0) :=
  ⟨(fun _ k _ hk => absurd hk (Nat.not_lt_zero k)), (fun _ _ h => nomatch h.1), (fun _ => rfl), (fun k hk => absurd hk (Nat.not_lt_zero k))⟩
theorem GW.step {S S' : TS} {pl pl' : Nat → Nat → Int32} {so : Nat → Nat} {in1 in2 : Option Nat} {pp : Nat → Int32} {sn : Nat} (h : GW S pl so) (hx : SX S in1 in2 pl pp S' pl') (hp : PLp pp sn) (h1 : ∀ q, in1 = some q → q < zn S) (h2 : ∀ q, in2 = some q → q < zn S) (hne : ∀ q, ¬ (in1 = some q ∧ in2 = some q)) (hs : sn = 0 ↔ in1 = none) (hs2 : in2.isSome = true ↔ sn = 5 ∨ sn = 6) (hf : zn S = 0 → sn = 0) :
    GW S' pl' (fun k => if k = zn S then sn else so k) ∧ zn S' = zn S + 1 ∧ zg S' 7 0 0 = zg S 7 0 0 := by
  obtain ⟨⟨pa, lg, st, c1, c2, uu, rfl⟩, hx2, hx3⟩ := hx
  obtain ⟨g1, g2, g3, g4⟩ := h
  refine ⟨⟨ns_zok g1 h1 h2, fun c q hc => ?_, fun _ => ?_, fun k hk => ?_⟩, rfl, rfl⟩
  · by_cases hcn : c = zn S
    · subst hcn
      rw [ns_p0, ns_p1] at hc
      exact hne q hc
    · have e : ∀ x, zp (nS S in1 in2 pa lg st c1 c2 uu) x c = zp S x c := fun x => if_neg hcn
      rw [e, e] at hc
      exact g2 c q hc
  · by_cases h0 : zn S = 0
    · rw [h0]; exact hf h0
    · show (if 0 = zn S then sn else so 0) = 0
      rw [if_neg (fun h => h0 h.symm)]
      exact g3 (by omega)
  · rw [ns_n] at hk
    by_cases hkn : k = zn S
    · subst hkn
      show PLp _ (if zn S = zn S then sn else so (zn S)) ∧ ((if zn S = zn S then sn else so (zn S)) = 0 → _) ∧ ((if zn S = zn S then sn else so (zn S)) ≠ 0 → _) ∧ (_ ↔ (if zn S = zn S then sn else so (zn S)) = 5 ∨ (if zn S = zn S then sn else so (zn S)) = 6)
      rw [if_pos rfl, ns_p0, ns_p1]
      refine ⟨?_, fun hz => by rw [hs.mp hz]; decide, fun hz => ?_, hs2⟩
      · unfold PLp at hp ⊢
        rw [hx3 0 (by decide), hx3 6 (by decide), hx3 7 (by decide), hx3 9 (by decide), hx3 8 (by decide), hx3 10 (by decide), hx3 11 (by decide), hx3 5 (by decide), hx3 3 (by decide)]
        exact hp
      · cases hi : in1 with
        | none => exact absurd (hs.mpr hi) hz
        | some q => rfl
    · have hk' : k < zn S := by omega
      have e1 : (fun k => if k = zn S then sn else so k) k = so k := if_neg hkn
      rw [e1, ns_p hk', ns_p hk']
      obtain ⟨q1, q2⟩ := g4 k hk'
      refine ⟨?_, q2⟩
      have e2 : pl' k = pl k := funext fun j => hx2 k j hk'
      rw [e2]
      exact q1
