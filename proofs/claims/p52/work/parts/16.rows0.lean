/-! ===== rows: what their methods make of them ===== -/
theorem zc0 : (0 : Int32).toNatClampNeg = 0 := by decide
theorem rc_of {pp : Nat × List Int64} {f : Nat → Int64} (h : ∀ k, k < pp.2.length → pp.2[k]? = some (f k)) : RC pp f := fun j hj => by
  have h1 := h j hj
  rw [List.getElem?_eq_getElem hj] at h1
  exact (Option.some.inj h1).symm
theorem rc_at {pp : Nat × List Int64} {f : Nat → Int64} (h : RC pp f) {k : Nat} (hk : k < pp.2.length) : pp.2[k]? = some (f k) := by
  rw [List.getElem?_eq_getElem hk, h k hk]
theorem rc_add {cp cq : Nat} {xs : List Int64} {f : Nat → Int64} {v : Int64} (h : RC (cp, xs) f) (hn : xs.length < 2 ^ 31) : RC (cq, xs ++ [v]) (vp_updL f (nI xs.length : Int32).toNatClampNeg v) := by
  refine rc_of fun k hk => ?_
  have hk' : k < xs.length + 1 := by simpa using hk
  rw [nI_clamp hn]
  show (xs ++ [v])[k]? = _
  by_cases e : k = xs.length
  · subst e
    rw [pk_uLs]
    simp
  · rw [pk_uLn e, List.getElem?_append_left (by omega)]
    exact rc_at h (show k < xs.length by omega)
theorem rc_grow {cp cq : Nat} {xs : List Int64} {f : Nat → Int64} (h : RC (cp, xs) f) (hl : xs.length ≤ cp) (hn : cp < 2 ^ 31) : RC (cq, xs) (va_cpy f (fun _ => 0) (0 : Int32).toNatClampNeg (0 : Int32).toNatClampNeg (nI cp : Int32).toNatClampNeg) := by
  refine rc_of fun k hk => ?_
  have hk' : k < xs.length := hk
  rw [nI_clamp hn, zc0, pk_cpy_in (by omega) (by omega), Nat.zero_add]
  exact rc_at h hk
theorem rc_put {cp : Nat} {xs : List Int64} {f : Nat → Int64} {v : Int64} {j : Nat} (h : RC (cp, xs) f) (hj : j < xs.length) (hn : xs.length < 2 ^ 31) : RC (cp, xs.set j v) (vp_updL f (nI j : Int32).toNatClampNeg v) := by
  refine rc_of fun k hk => ?_
  have hk' : k < xs.length := by simpa using hk
  rw [nI_clamp (by omega)]
  show (xs.set j v)[k]? = _
  by_cases e : j = k
  · subst e
    rw [pk_uLs, List.getElem?_set_self hj]
  · rw [pk_uLn (fun h => e h.symm), List.getElem?_set_ne e]
    exact rc_at h hk'
theorem rc_ins {cp cq : Nat} {xs : List Int64} {f : Nat → Int64} {v : Int64} {j : Nat} (h : RC (cp, xs) f) (hj : j ≤ xs.length) (hn : xs.length + 1 < 2 ^ 31) : RC (cq, xs.take j ++ v :: xs.drop j) (vp_updL (va_cpy f f (nI j : Int32).toNatClampNeg (nI (j + 1) : Int32).toNatClampNeg (nI (xs.length - j) : Int32).toNatClampNeg) (nI j : Int32).toNatClampNeg v) := by
  refine rc_of fun k hk => ?_
  have hk' : k < xs.length + 1 := by
    have : k < (xs.take j ++ v :: xs.drop j).length := hk
    rw [List.length_append, List.length_take, List.length_cons, List.length_drop] at this
    omega
  rw [nI_clamp (by omega), nI_clamp (by omega), nI_clamp (by omega)]
  show (xs.take j ++ v :: xs.drop j)[k]? = _
  have ht : (xs.take j).length = j := by rw [List.length_take]; omega
  by_cases e : k = j
  · subst e
    rw [pk_uLs, List.getElem?_append_right (by omega), ht, Nat.sub_self]
    rfl
  · rw [pk_uLn e]
    by_cases e2 : k < j
    · rw [List.getElem?_append_left (by omega), List.getElem?_take_of_lt e2, pk_cpy_out (by omega)]
      exact rc_at h (show k < xs.length by omega)
    · rw [List.getElem?_append_right (by omega), ht, show k - j = (k - j - 1) + 1 by omega, List.getElem?_cons_succ, List.getElem?_drop, pk_cpy_in (by omega) (by omega), show j + (k - j - 1) = j + (k - (j + 1)) by omega]
      exact rc_at h (show j + (k - (j + 1)) < xs.length by omega)
theorem rc_rem {cp : Nat} {xs : List Int64} {f : Nat → Int64} {a b : Nat} (h : RC (cp, xs) f) (hj : a + b ≤ xs.length) (hn : xs.length < 2 ^ 31) : RC (cp, xs.take a ++ xs.drop (a + b)) (va_cpy f f (nI (a + b) : Int32).toNatClampNeg (nI a : Int32).toNatClampNeg (nI (xs.length - a - b) : Int32).toNatClampNeg) := by
  refine rc_of fun k hk => ?_
  have hk' : k < xs.length - b := by
    have : k < (xs.take a ++ xs.drop (a + b)).length := hk
    rw [List.length_append, List.length_take, List.length_drop] at this
    omega
  rw [nI_clamp (by omega), nI_clamp (by omega), nI_clamp (by omega)]
  show (xs.take a ++ xs.drop (a + b))[k]? = _
  have ht : (xs.take a).length = a := by rw [List.length_take]; omega
  by_cases e2 : k < a
  · rw [List.getElem?_append_left (by omega), List.getElem?_take_of_lt e2, pk_cpy_out (by omega)]
    exact rc_at h (show k < xs.length by omega)
  · rw [List.getElem?_append_right (by omega), ht, List.getElem?_drop, pk_cpy_in (by omega) (by omega)]
    exact rc_at h (show a + b + (k - a) < xs.length by omega)
theorem rc_take {cp : Nat} {xs : List Int64} {f : Nat → Int64} {n : Nat} (h : RC (cp, xs) f) : RC (cp, xs.take n) f := by
  refine rc_of fun k hk => ?_
  have hk' : k < min n xs.length := by
    have : k < (xs.take n).length := hk
    rw [List.length_take] at this
    exact this
  show (xs.take n)[k]? = _
  rw [List.getElem?_take_of_lt (by omega)]
  exact rc_at h (show k < xs.length by omega)
theorem rc_bec {cp cq : Nat} {ys : List Int64} {f g : Nat → Int64} {n : Nat} (h : RC (cp, ys) f) (hj : n ≤ ys.length) (hn : ys.length < 2 ^ 31) : RC (cq, ys.drop n) (va_cpy f g (nI n : Int32).toNatClampNeg (0 : Int32).toNatClampNeg (nI (ys.length - n) : Int32).toNatClampNeg) := by
  refine rc_of fun k hk => ?_
  have hk' : k < ys.length - n := by simpa using hk
  rw [nI_clamp (by omega), nI_clamp (by omega), zc0]
  show (ys.drop n)[k]? = _
  rw [List.getElem?_drop, pk_cpy_in (by omega) (by omega), Nat.sub_zero]
  exact rc_at h (show n + k < ys.length by omega)
/-- the room that a row takes for so many -/
def zroom : Nat → Nat → Nat → Nat
  | 0, r, _ => r
  | n + 1, r, w => if r < w then zroom n (2 * r) w else r
theorem zroom_ok : ∀ (n z w : Nat), z + n = 30 → w ≤ 8388608 → z ≤ 20 → w ≤ zroom n (8 * 2 ^ z) w ∧ RK (zroom n (8 * 2 ^ z) w) ∧ (8 * 2 ^ z < w → zroom n (8 * 2 ^ z) w < 2 * w) ∧ 8 * 2 ^ z ≤ zroom n (8 * 2 ^ z) w
  | 0, z, w, h, _, h3 => by omega
  | n + 1, z, w, h, hw, hz => by
    unfold zroom
    by_cases hlt : 8 * 2 ^ z < w
    · rw [if_pos hlt]
      have hz2 : z < 20 := by
        rcases Nat.lt_or_ge z 20 with h1 | h1
        · exact h1
        · have e : z = 20 := by omega
          subst e
          have : (2 : Nat) ^ 20 = 1048576 := by decide
          omega
      have e : 2 * (8 * 2 ^ z) = 8 * 2 ^ (z + 1) := by rw [Nat.pow_succ]; omega
      obtain ⟨h1, h2, h3, h4⟩ := zroom_ok n (z + 1) w (by omega) hw (by omega)
      rw [e]
      refine ⟨h1, h2, fun _ => ?_, by omega⟩
      by_cases h5 : 8 * 2 ^ (z + 1) < w
      · exact h3 h5
      · have : zroom n (8 * 2 ^ (z + 1)) w = 8 * 2 ^ (z + 1) := by
          cases n with
          | zero => rfl
          | succ n => show (if _ then _ else _) = _; rw [if_neg h5]
        omega
    · rw [if_neg hlt]
      exact ⟨by omega, ⟨z, hz, rfl⟩, fun h => absurd h hlt, Nat.le_refl _⟩
-- the rows behind the methods
def qput (p : Nat × List Int64) (j : Nat) (v : Int64) : Nat × List Int64 := (p.1, p.2.set j v)
def qadd (p : Nat × List Int64) (v : Int64) : Nat × List Int64 := (if p.2.length < p.1 then p.1 else 2 * p.1, p.2 ++ [v])
def qins (p : Nat × List Int64) (j : Nat) (v : Int64) : Nat × List Int64 := (if p.2.length < p.1 then p.1 else 2 * p.1, if j ≤ p.2.length then p.2.take j ++ v :: p.2.drop j else p.2)
def qrem (p : Nat × List Int64) (a b : Nat) : Nat × List Int64 := if a + b ≤ p.2.length then (p.1, p.2.take a ++ p.2.drop (a + b)) else p
def qsho (p : Nat × List Int64) (m : Int32) : Nat × List Int64 := if m < 0 then p else (p.1, p.2.take m.toNatClampNeg)
def qbec (p o : Nat × List Int64) (n : Nat) : Nat × List Int64 := (if o.2.length - n ≤ p.1 then p.1 else max p.1 (zroom 30 8 (o.2.length - n)), o.2.drop n)
def zfrom (m : Int32) (n : Nat) : Nat := (zmax 0 (zmin m (nI n))).toNatClampNeg
theorem zfrom_ok (m : Int32) {n : Nat} (hn : n < 2 ^ 31) : zmax 0 (zmin m (nI n)) = nI (zfrom m n) ∧ zfrom m n ≤ n := by
  unfold zfrom
  have e : zmax 0 (zmin m (nI n)) = 0 ∨ (zmax 0 (zmin m (nI n)) = m ∧ ¬ m < 0 ∧ ¬ nI n < m) ∨ zmax 0 (zmin m (nI n)) = nI n := by
    unfold zmax zmin
    by_cases h1 : nI n < m
    · rw [if_pos h1]
      by_cases h2 : (0 : Int32) < nI n
      · rw [if_pos h2]; exact Or.inr (Or.inr rfl)
      · rw [if_neg h2]; exact Or.inl rfl
    · rw [if_neg h1]
      by_cases h2 : (0 : Int32) < m
      · rw [if_pos h2]
        refine Or.inr (Or.inl ⟨rfl, fun h3 => ?_, h1⟩)
        rw [Int32.lt_iff_toInt_lt] at h2 h3
        omega
      · rw [if_neg h2]; exact Or.inl rfl
  rcases e with e | ⟨e, h1, h2⟩ | e
  · rw [e]; exact ⟨by rw [zc0]; rfl, by rw [zc0]; omega⟩
  · rw [e]
    obtain ⟨j, hj, rfl⟩ := nI_of h1
    rw [nI_clamp hj]
    refine ⟨rfl, ?_⟩
    have h3 : ¬ n < j := fun h4 => h2 (nI_lt h4 hj)
    omega
  · rw [e, nI_clamp hn]; exact ⟨rfl, Nat.le_refl _⟩
theorem zfrom0 (n : Nat) (hn : n < 2 ^ 31) : zfrom 0 n = 0 := by
  obtain ⟨h1, h2⟩ := zfrom_ok 0 hn
  by_cases h : n = 0
  · omega
  · unfold zfrom zmin
    rw [if_neg (nI_pos hn)]
    rfl
theorem zmin_l {a b : Nat} (h : a ≤ b) (hb : b < 2 ^ 31) : zmin (nI a) (nI b) = nI a := by
  unfold zmin
  rw [if_neg (nI_nlt h hb)]
theorem zsubgt {a b n : Nat} (h : n < a + b) (ha : a < 2 ^ 31) (hb : b < 2 ^ 31) (hn : n < 2 ^ 31) : nI n - nI b < nI a := by
  by_cases h1 : b ≤ n
  · rw [pk_sub h1]
    exact nI_lt (by omega) ha
  · rw [Int32.lt_iff_toInt_lt, Int32.toInt_sub, nI_toInt ha, nI_toInt hb, nI_toInt hn]
    have e : ((n : Int) - (b : Int)).bmod (2 ^ 32) = (n : Int) - b := by
      apply Int.bmod_eq_of_le
      · omega
      · omega
    rw [e]
    omega
theorem zsuble {a b n : Nat} (h : a + b ≤ n) (hn : n < 2 ^ 31) : ¬ nI n - nI b < nI a := by
  rw [pk_sub (by omega)]
  exact nI_nlt (by omega) (by omega)
theorem zrk_two {a b : Nat} (h : RK a) (k : RK b) (hab : a < b) : 2 * a ≤ b := by
  obtain ⟨z, -, rfl⟩ := h
  obtain ⟨y, -, rfl⟩ := k
  have h1 : z < y := by
    rcases Nat.lt_or_ge z y with h | h
    · exact h
    · have := Nat.pow_le_pow_right (n := 2) (by decide) h
      omega
  have h2 : 2 ^ (z + 1) ≤ 2 ^ y := Nat.pow_le_pow_right (by decide) h1
  rw [Nat.pow_succ] at h2
  omega
theorem zrk_lt {a b : Nat} (h : RK a) (k : RK b) (hab : a < b) : 1 + a / 8 ≤ b / 8 := by
  have h2 := zrk_two h k hab
  have h3 := h.ge
  obtain ⟨z, -, rfl⟩ := h
  obtain ⟨y, -, rfl⟩ := k
  omega
theorem mq_put (p : Nat × List Int64) (j : Nat) (v : Int64) : p.1 ≤ (qput p j v).1 := Nat.le_refl _
theorem mq_add (p : Nat × List Int64) (v : Int64) : p.1 ≤ (qadd p v).1 := by unfold qadd; dsimp only; split <;> omega
theorem mq_insert (p : Nat × List Int64) (j : Nat) (v : Int64) : p.1 ≤ (qins p j v).1 := by unfold qins; dsimp only; split <;> omega
theorem mq_remove (p : Nat × List Int64) (a b : Nat) : p.1 ≤ (qrem p a b).1 := by unfold qrem; split <;> exact Nat.le_refl _
theorem mq_shorten (p : Nat × List Int64) (m : Int32) : p.1 ≤ (qsho p m).1 := by unfold qsho; split <;> exact Nat.le_refl _
theorem mq_become (p o : Nat × List Int64) (n : Nat) : p.1 ≤ (qbec p o n).1 := by unfold qbec; dsimp only; split <;> omega
theorem zle0 {x : Int32} (h : ¬ x ≤ 0) : ¬ x < 0 := fun h2 => h (Int32.le_of_lt h2)
def zfuel : Nat := 8388608
theorem zfuel_eq : zfuel = 8388608 := rfl
theorem zdec {b : Int32} {n : Nat} (h : b = nI (n + 1) - 1) : b + (-1) = nI n - 1 := by
  rw [h, nI_pred, Int32.sub_eq_add_neg]
theorem zdec0 {b : Int32} (h : b = nI 0 - 1) : b < 0 := by rw [h]; decide
theorem zdecn {b : Int32} {n : Nat} (h : b = nI (n + 1) - 1) : b = nI n := by rw [h, nI_pred]
theorem zdecp {b : Int32} {n : Nat} (h : b = nI (n + 1) - 1) (hn : n < 2 ^ 31) : ¬ b < 0 := by rw [zdecn h]; exact nI_pos hn
theorem zk_fb {v : Int32} (h : v = 0 ∨ v = 1) : fits .boolean (.int v) = true := by rcases h with rfl | rfl <;> rfl
