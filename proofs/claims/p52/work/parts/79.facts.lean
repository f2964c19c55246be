/-! ===== the facts of a shape ===== -/
def zdis (S : TS) : Prop := ∀ c q, ¬ (zp S 0 c = some q ∧ zp S 1 c = some q)
theorem och_le {S : TS} (hd : zdis S) (k : Nat) : (lic S 1 0 k).length ≤ zn S ∧ (lic S 1 1 k).length ≤ zn S := by
  have key : ∀ m : Nat, ((List.range m).flatMap (fun c => (if zp S 0 c = some k then [(4, c)] else []) ++ (if zp S 1 c = some k then [(5, c)] else []))).length ≤ m := by
    intro m
    induction m with
    | zero => simp
    | succ m ih =>
      rw [List.range_succ, List.flatMap_append, List.length_append]
      have h1 : (List.flatMap (fun c => (if zp S 0 c = some k then [(4, c)] else []) ++ (if zp S 1 c = some k then [(5, c)] else [])) [m]).length ≤ 1 := by
        simp only [List.flatMap_cons, List.flatMap_nil, List.append_nil]
        by_cases h2 : zp S 0 m = some k
        · rw [if_pos h2, if_neg (fun h3 => hd m k ⟨h2, h3⟩)]; simp
        · rw [if_neg h2]
          by_cases h3 : zp S 1 m = some k
          · rw [if_pos h3]; simp
          · rw [if_neg h3]; simp
      omega
  have h2 := key (zn S)
  unfold lic och
  rw [if_neg (by decide), if_neg (by decide), List.length_map, List.length_map]
  exact ⟨h2, h2⟩
section SF
variable {S : TS} {pl : Nat → Nat → Int32}
theorem oS_ws : obS S pl 7 0 0 (zg S 7 0 0) (9, [.ref (zg S 6 0 0), .ref (zg S 6 1 0), .int 0, .int 0, .int 0]) := ⟨dm7, rfl, rfl⟩
theorem oS_f0 : obS S pl 6 0 0 (zg S 6 0 0) (2, [.int 0, .ref (zl S 0 0 0), .int 8, .int (-1), .int 0, .int 0, .int 0, .int 0]) := ⟨dm6 (by decide), rfl, rfl⟩
theorem oS_f1 : obS S pl 6 1 0 (zg S 6 1 0) (2, [.int 1, .ref (zl S 0 1 0), .int 8, .int (-1), .int 0, .int 0, .int 0, .int 0]) := ⟨dm6 (by decide), rfl, rfl⟩
theorem oS_st {f i : Nat} (hf : f < 2) (hi : i < zn S) (hl : i < (lic S 0 f 0).length) : obS S pl 2 f i (lic S 0 f 0)[i] (7, [.ref (zg S 8 0 i), .ref (zr S (rl i)), zch S 0 f i, zch S 1 f i, .int (nI f), .ref (zg S 3 f i), .ref (zr S (ro f i)), .ref (zg S 0 f (3 * i)), .ref (zg S 0 f (3 * i + 1)), .ref (zg S 0 f (3 * i + 2)), .int 0, .int 0]) :=
  ⟨dm2 hf hi, by rw [lic_at hl]; exact if_pos rfl, rfl⟩
theorem oS_o {f i : Nat} (hf : f < 2) (hi : i < zn S) : obS S pl 3 f i (zg S 3 f i) (3, [.ref (zr S (ri f i)), .ref (zl S 1 f i)]) := ⟨dm3 hf hi, rfl, rfl⟩
theorem oS_p {i : Nat} (hi : i < zn S) : obS S pl 8 0 i (zg S 8 0 i) (4, [.int (pl i 0), .int (pl i 1), .int (pl i 2), .int (pl i 3), .int (pl i 4), .int (pl i 5), .int (pl i 6), .int (pl i 7), .int (pl i 8), .int (pl i 9), .int (pl i 10), .int (pl i 11), .int (pl i 12), .int (pl i 13), .int (pl i 14)]) := ⟨dm8 hi, rfl, rfl⟩
theorem lS_0 {f : Nat} (hf : f < 2) : lsS S 0 f 0 (zl S 0 f 0) (lic S 0 f 0) := ⟨dl0 hf, rfl, rfl⟩
theorem lS_1 {f i : Nat} (hf : f < 2) (hi : i < zn S) : lsS S 1 f i (zl S 1 f i) (lic S 1 f i) := ⟨dl1 hf hi, rfl, rfl⟩
theorem lS_len {f : Nat} : (lic S 0 f 0).length = zn S := by
  unfold lic
  rw [if_pos rfl, List.length_map, List.length_range]
theorem lS_E0 {f : Nat} (hf : f < 2) : ∀ y ∈ lic S 0 f 0, ∃ kd fl k fs, obS S pl kd fl k y (7, fs) := by
  intro y hy
  unfold lic at hy
  rw [if_pos rfl] at hy
  obtain ⟨c, hc, rfl⟩ := List.mem_map.mp hy
  exact ⟨2, f, c, _, dm2 hf (List.mem_range.mp hc), rfl, rfl⟩
theorem lS_E1 {f i : Nat} (hf : f < 2) : ∀ y ∈ lic S 1 f i, ∃ kd fl k fs, obS S pl kd fl k y (1, fs) := by
  intro y hy
  unfold lic at hy
  rw [if_neg (by decide)] at hy
  obtain ⟨q, hq, rfl⟩ := List.mem_map.mp hy
  obtain ⟨h1, ⟨h2, h3⟩ | ⟨h2, h3⟩⟩ := och_lt hq
  · exact ⟨4, f, q.2, _, dm4 hf h1 (by rw [h3]; rfl), by rw [h2], rfl⟩
  · exact ⟨5, f, q.2, _, dm5 hf h1 (by rw [h3]; rfl), by rw [h2], rfl⟩
end SF
/-- what wire makes of a shape and its plans -/
def SX (S : TS) (in1 in2 : Option Nat) (pl : Nat → Nat → Int32) (pp : Nat → Int32) (S' : TS) (pl' : Nat → Nat → Int32) : Prop :=
  (∃ pa lg st c1 c2 uu, S' = nS S in1 in2 pa lg st c1 c2 uu) ∧ (∀ k j, k < zn S → pl' k j = pl k j) ∧ ∀ j, j < 13 → pl' (zn S) j = pp j
def pn (n : Nat) (pl : Nat → Nat → Int32) (pp : Nat → Int32) (d : Int32 × Int32) : Nat → Nat → Int32 := fun k j => if k = n then (if j = 13 then d.1 else if j = 14 then d.2 else pp j) else pl k j
theorem SX.mk {S : TS} {in1 in2 : Option Nat} {pl : Nat → Nat → Int32} {pp : Nat → Int32} {pa lg : Nat} {st c1 c2 : Nat → Nat} {uu : Nat → Nat → Nat} {d : Int32 × Int32} : SX S in1 in2 pl pp (nS S in1 in2 pa lg st c1 c2 uu) (pn (zn S) pl pp d) :=
  ⟨⟨pa, lg, st, c1, c2, uu, rfl⟩, fun k j hk => if_neg (by omega), fun j hj => by unfold pn; rw [if_pos rfl, if_neg (by omega), if_neg (by omega)]⟩
theorem oS_st2 {S : TS} {pl : Nat → Nat → Int32} {f i : Nat} (hf : f < 2) (hi : i < zn S) : obS S pl 2 f i (zg S 2 f i) (7, [.ref (zg S 8 0 i), .ref (zr S (rl i)), zch S 0 f i, zch S 1 f i, .int (nI f), .ref (zg S 3 f i), .ref (zr S (ro f i)), .ref (zg S 0 f (3 * i)), .ref (zg S 0 f (3 * i + 1)), .ref (zg S 0 f (3 * i + 2)), .int 0, .int 0]) := ⟨dm2 hf hi, rfl, rfl⟩
