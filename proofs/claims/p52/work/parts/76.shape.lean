/-! ===== the shape behind wire: one stage more ===== -/
def F0p (pl : Nat → Nat → Int32) : TF := fun kd _ k j => if kd = 0 then (if j ≤ 2 then -1 else if j = 3 then 1 else 0) else if kd = 6 then (if j = 2 then 8 else if j = 3 then -1 else 0) else if kd = 8 then pl k j else 0
def G0 : TG := fun _ _ => (1, 2)
def obS (S : TS) (pl : Nat → Nat → Int32) : XO := fun kd fl k a e => dm S kd fl k ∧ a = zg S kd fl k ∧ cel S G0 kd fl k (F0p pl kd fl k) = .inr e
def rwS (S : TS) : XR := fun i r => dr S i ∧ r = zr S i
def lsS (S : TS) : XL := fun b fl k a L => dl S b fl k ∧ a = zl S b fl k ∧ L = lic S b fl k
/-- one stage more: its plan, its log, and for each flow its own cells (uu), its stage, its channels -/
def nS (S : TS) (in1 in2 : Option Nat) (pa lg : Nat) (st c1 c2 : Nat → Nat) (uu : Nat → Nat → Nat) : TS :=
  (fun kd fl k => if kd = 0 then (if k < 3 * zn S then zg S 0 fl k else uu fl (2 + (k - 3 * zn S))) else if kd = 1 then (if k < 3 * zn S then zg S 1 fl k else uu fl (9 + 9 * (k - 3 * zn S)))
    else if kd = 2 then (if k < zn S then zg S 2 fl k else st fl) else if kd = 3 then (if k < zn S then zg S 3 fl k else uu fl 0) else if kd = 4 then (if k < zn S then zg S 4 fl k else c1 fl)
    else if kd = 5 then (if k < zn S then zg S 5 fl k else c2 fl) else if kd = 8 then (if k < zn S then zg S 8 fl k else pa) else zg S kd fl k,
   fun i => if i < 288 then (if i / 8 < 3 * zn S then zr S i else uu ((i / 4) % 2) (9 + 9 * (i / 8 - 3 * zn S) + (if i % 4 = 0 then 3 else if i % 4 = 1 then 4 else if i % 4 = 2 then 1 else 2)))
    else if i < 312 then (if (i - 288) / 2 < zn S then zr S i else uu ((i - 288) % 2) 5) else if i < 336 then (if (i - 312) / 2 < zn S then zr S i else uu ((i - 312) % 2) 1) else (if i - 336 < zn S then zr S i else lg),
   fun b fl k => if b = 0 then zl S 0 fl k else if k < zn S then zl S 1 fl k else uu fl 6,
   zn S + 1,
   fun x k => if k = zn S then (if x = 0 then in1 else if x = 1 then in2 else none) else zp S x k)
section NS
variable {S : TS} {in1 in2 : Option Nat} {pa lg : Nat} {st c1 c2 : Nat → Nat} {uu : Nat → Nat → Nat} {fl k : Nat}
theorem ns_n : zn (nS S in1 in2 pa lg st c1 c2 uu) = zn S + 1 := rfl
theorem ns_p {x : Nat} (h : k < zn S) : zp (nS S in1 in2 pa lg st c1 c2 uu) x k = zp S x k := if_neg (by omega)
theorem ns_p0 : zp (nS S in1 in2 pa lg st c1 c2 uu) 0 (zn S) = in1 := if_pos rfl
theorem ns_p1 : zp (nS S in1 in2 pa lg st c1 c2 uu) 1 (zn S) = in2 := if_pos rfl
theorem ns_0 (h : k < 3 * zn S) : zg (nS S in1 in2 pa lg st c1 c2 uu) 0 fl k = zg S 0 fl k := if_pos h
theorem ns_0n {s : Nat} : zg (nS S in1 in2 pa lg st c1 c2 uu) 0 fl (3 * zn S + s) = uu fl (2 + s) := by
  show (if 3 * zn S + s < 3 * zn S then _ else _) = _
  rw [if_neg (by omega), Nat.add_sub_cancel_left]
theorem ns_1 (h : k < 3 * zn S) : zg (nS S in1 in2 pa lg st c1 c2 uu) 1 fl k = zg S 1 fl k := if_pos h
theorem ns_1n {s : Nat} : zg (nS S in1 in2 pa lg st c1 c2 uu) 1 fl (3 * zn S + s) = uu fl (9 + 9 * s) := by
  show (if 3 * zn S + s < 3 * zn S then _ else _) = _
  rw [if_neg (by omega), Nat.add_sub_cancel_left]
theorem ns_2 (h : k < zn S) : zg (nS S in1 in2 pa lg st c1 c2 uu) 2 fl k = zg S 2 fl k := if_pos h
theorem ns_2n : zg (nS S in1 in2 pa lg st c1 c2 uu) 2 fl (zn S) = st fl := if_neg (Nat.lt_irrefl _)
theorem ns_3 (h : k < zn S) : zg (nS S in1 in2 pa lg st c1 c2 uu) 3 fl k = zg S 3 fl k := if_pos h
theorem ns_3n : zg (nS S in1 in2 pa lg st c1 c2 uu) 3 fl (zn S) = uu fl 0 := if_neg (Nat.lt_irrefl _)
theorem ns_4 (h : k < zn S) : zg (nS S in1 in2 pa lg st c1 c2 uu) 4 fl k = zg S 4 fl k := if_pos h
theorem ns_4n : zg (nS S in1 in2 pa lg st c1 c2 uu) 4 fl (zn S) = c1 fl := if_neg (Nat.lt_irrefl _)
theorem ns_5 (h : k < zn S) : zg (nS S in1 in2 pa lg st c1 c2 uu) 5 fl k = zg S 5 fl k := if_pos h
theorem ns_5n : zg (nS S in1 in2 pa lg st c1 c2 uu) 5 fl (zn S) = c2 fl := if_neg (Nat.lt_irrefl _)
theorem ns_8 (h : k < zn S) : zg (nS S in1 in2 pa lg st c1 c2 uu) 8 fl k = zg S 8 fl k := if_pos h
theorem ns_8n : zg (nS S in1 in2 pa lg st c1 c2 uu) 8 fl (zn S) = pa := if_neg (Nat.lt_irrefl _)
theorem ns_rs {x : Nat} (hn : zn S ≤ 11) (hx : x < 4) (hf : fl < 2) (h : k < 3 * zn S) : zr (nS S in1 in2 pa lg st c1 c2 uu) (rs x fl k) = zr S (rs x fl k) := by
  show (if rs x fl k < 288 then _ else _) = _
  unfold rs
  rw [if_pos (by omega), if_pos (by omega)]
theorem ns_rsn {x s : Nat} (hn : zn S ≤ 11) (hx : x < 4) (hf : fl < 2) (hs : s < 3) : zr (nS S in1 in2 pa lg st c1 c2 uu) (rs x fl (3 * zn S + s)) = uu fl (9 + 9 * s + (if x = 0 then 3 else if x = 1 then 4 else if x = 2 then 1 else 2)) := by
  show (if rs x fl (3 * zn S + s) < 288 then _ else _) = _
  have e1 : rs x fl (3 * zn S + s) / 8 = 3 * zn S + s := by unfold rs; omega
  have e2 : rs x fl (3 * zn S + s) / 4 % 2 = fl := by unfold rs; omega
  have e3 : rs x fl (3 * zn S + s) % 4 = x := by unfold rs; omega
  have e4 : rs x fl (3 * zn S + s) < 288 := by unfold rs; omega
  rw [if_pos e4, e1, if_neg (by omega), e2, e3, Nat.add_sub_cancel_left]
theorem ns_ri (hn : zn S ≤ 11) (hf : fl < 2) (h : k < zn S) : zr (nS S in1 in2 pa lg st c1 c2 uu) (ri fl k) = zr S (ri fl k) := by
  show (if ri fl k < 288 then _ else if ri fl k < 312 then _ else _) = _
  unfold ri
  rw [if_neg (by omega), if_pos (by omega), if_pos (by omega)]
theorem ns_rin (hn : zn S ≤ 11) (hf : fl < 2) : zr (nS S in1 in2 pa lg st c1 c2 uu) (ri fl (zn S)) = uu fl 5 := by
  show (if ri fl (zn S) < 288 then _ else if ri fl (zn S) < 312 then _ else _) = _
  have e1 : (ri fl (zn S) - 288) % 2 = fl := by unfold ri; omega
  have e2 : ¬ ri fl (zn S) < 288 ∧ ri fl (zn S) < 312 ∧ ¬ (ri fl (zn S) - 288) / 2 < zn S := by unfold ri; omega
  rw [if_neg e2.1, if_pos e2.2.1, if_neg e2.2.2, e1]
theorem ns_ro (hn : zn S ≤ 11) (hf : fl < 2) (h : k < zn S) : zr (nS S in1 in2 pa lg st c1 c2 uu) (ro fl k) = zr S (ro fl k) := by
  show (if ro fl k < 288 then _ else if ro fl k < 312 then _ else if ro fl k < 336 then _ else _) = _
  unfold ro
  rw [if_neg (by omega), if_neg (by omega), if_pos (by omega), if_pos (by omega)]
theorem ns_ron (hn : zn S ≤ 11) (hf : fl < 2) : zr (nS S in1 in2 pa lg st c1 c2 uu) (ro fl (zn S)) = uu fl 1 := by
  show (if ro fl (zn S) < 288 then _ else if ro fl (zn S) < 312 then _ else if ro fl (zn S) < 336 then _ else _) = _
  have e1 : (ro fl (zn S) - 312) % 2 = fl := by unfold ro; omega
  have e2 : ¬ ro fl (zn S) < 288 ∧ ¬ ro fl (zn S) < 312 ∧ ro fl (zn S) < 336 ∧ ¬ (ro fl (zn S) - 312) / 2 < zn S := by unfold ro; omega
  rw [if_neg e2.1, if_neg e2.2.1, if_pos e2.2.2.1, if_neg e2.2.2.2, e1]
theorem ns_rl (hn : zn S ≤ 11) (h : k < zn S) : zr (nS S in1 in2 pa lg st c1 c2 uu) (rl k) = zr S (rl k) := by
  show (if rl k < 288 then _ else if rl k < 312 then _ else if rl k < 336 then _ else _) = _
  unfold rl
  rw [if_neg (by omega), if_neg (by omega), if_neg (by omega), if_pos (by omega)]
theorem ns_rln (hn : zn S ≤ 11) : zr (nS S in1 in2 pa lg st c1 c2 uu) (rl (zn S)) = lg := by
  show (if rl (zn S) < 288 then _ else if rl (zn S) < 312 then _ else if rl (zn S) < 336 then _ else _) = _
  unfold rl
  rw [if_neg (by omega), if_neg (by omega), if_neg (by omega), if_neg (by omega)]
theorem ns_l0 : zl (nS S in1 in2 pa lg st c1 c2 uu) 0 fl k = zl S 0 fl k := rfl
theorem ns_l1 (h : k < zn S) : zl (nS S in1 in2 pa lg st c1 c2 uu) 1 fl k = zl S 1 fl k := by
  show (if (1 : Nat) = 0 then zl S 0 fl k else if k < zn S then zl S 1 fl k else uu fl 6) = _
  rw [if_neg (by decide), if_pos h]
theorem ns_l1n : zl (nS S in1 in2 pa lg st c1 c2 uu) 1 fl (zn S) = uu fl 6 := by
  show (if (1 : Nat) = 0 then zl S 0 fl (zn S) else if zn S < zn S then zl S 1 fl (zn S) else uu fl 6) = _
  rw [if_neg (by decide), if_neg (Nat.lt_irrefl _)]
/-- what stood, stands -/
theorem ns_old (hn : zn S ≤ 11) (hok : zok S) {pl pl' : Nat → Nat → Int32} (hpl : ∀ k j, k < zn S → pl' k j = pl k j) {kd : Nat} (hd : dm S kd fl k) :
    zg (nS S in1 in2 pa lg st c1 c2 uu) kd fl k = zg S kd fl k ∧ cel (nS S in1 in2 pa lg st c1 c2 uu) G0 kd fl k (F0p pl' kd fl k) = cel S G0 kd fl k (F0p pl kd fl k) := by
  have hsrc : ∀ x, k < zn S → (zp S x k).isSome = true → zsrc S x k < zn S := fun x hk h => by
    obtain ⟨q, hq⟩ := Option.isSome_iff_exists.mp h
    have h9 := hok x k q hk hq
    unfold zsrc
    rw [hq]
    show q < _
    omega
  have hz : ∀ x, k < zn S → zsrc (nS S in1 in2 pa lg st c1 c2 uu) x k = zsrc S x k := fun x hk => by unfold zsrc; rw [ns_p hk]
  match kd, hd with
  | 0, hd => exact ⟨ns_0 hd.2, by show (.inr _ : va_E) = .inr _; rw [ns_1 hd.2, ns_rs hn (by decide) hd.1 hd.2, ns_rs hn (by decide) hd.1 hd.2]; rfl⟩
  | 1, hd => exact ⟨ns_1 hd.2, by show (.inr _ : va_E) = .inr _; rw [ns_rs hn (by decide) hd.1 hd.2, ns_rs hn (by decide) hd.1 hd.2]⟩
  | 2, hd =>
    refine ⟨ns_2 hd.2, ?_⟩
    have h3 : ∀ s, s < 3 → 3 * k + s < 3 * zn S := fun s hs => by have := hd.2; omega
    have hc : ∀ x, x < 2 → zch (nS S in1 in2 pa lg st c1 c2 uu) x fl k = zch S x fl k := fun x hx => by
      unfold zch
      rw [ns_p hd.2]
      match x, hx with
      | 0, _ => rw [show zg (nS S in1 in2 pa lg st c1 c2 uu) (4 + 0) fl k = zg S (4 + 0) fl k from ns_4 hd.2]
      | 1, _ => rw [show zg (nS S in1 in2 pa lg st c1 c2 uu) (4 + 1) fl k = zg S (4 + 1) fl k from ns_5 hd.2]
    have e0 : zg (nS S in1 in2 pa lg st c1 c2 uu) 0 fl (3 * k) = zg S 0 fl (3 * k) := ns_0 (h3 0 (by decide))
    have e1 : zg (nS S in1 in2 pa lg st c1 c2 uu) 0 fl (3 * k + (G0 fl k).1) = zg S 0 fl (3 * k + (G0 fl k).1) := ns_0 (h3 1 (by decide))
    have e2 : zg (nS S in1 in2 pa lg st c1 c2 uu) 0 fl (3 * k + (G0 fl k).2) = zg S 0 fl (3 * k + (G0 fl k).2) := ns_0 (h3 2 (by decide))
    show (.inr _ : va_E) = .inr _
    rw [ns_8 hd.2, ns_rl hn hd.2, hc 0 (by decide), hc 1 (by decide), ns_3 hd.2, ns_ro hn hd.1 hd.2, e0, e1, e2]
    rfl
  | 3, hd => exact ⟨ns_3 hd.2, by show (.inr _ : va_E) = .inr _; rw [ns_ri hn hd.1 hd.2, ns_l1 hd.2]⟩
  | 4, hd => exact ⟨ns_4 hd.2.1, by show (.inr _ : va_E) = .inr _; rw [hz 0 hd.2.1, ns_ri hn hd.1 (hsrc 0 hd.2.1 hd.2.2)]; rfl⟩
  | 5, hd => exact ⟨ns_5 hd.2.1, by show (.inr _ : va_E) = .inr _; rw [hz 1 hd.2.1, ns_ri hn hd.1 (hsrc 1 hd.2.1 hd.2.2)]; rfl⟩
  | 6, hd => exact ⟨rfl, by show (.inr _ : va_E) = .inr _; rw [ns_l0]; rfl⟩
  | 7, hd => exact ⟨rfl, rfl⟩
  | 8, hd =>
    refine ⟨ns_8 hd.2, ?_⟩
    have e : ∀ j, F0p pl' 8 fl k j = F0p pl 8 fl k j := fun j => hpl k j hd.2
    show (.inr _ : va_E) = .inr _
    simp only [e]
  | kd + 9, hd => exact hd.elim
end NS
