theorem zset_F {w : TW} {kd fl k j : Nat} {v : Int32} (kd' fl' k' j' : Nat) : (zset w kd fl k j v).1 kd' fl' k' j' = if kd' = kd ∧ fl' = fl ∧ k' = k ∧ j' = j then v else w.1 kd' fl' k' j' := by
  show zF _ _ _ _ _ kd' fl' k' j' = _
  unfold zF
  by_cases h : kd' = kd ∧ fl' = fl ∧ k' = k
  · rw [if_pos h]
    obtain ⟨rfl, rfl, rfl⟩ := h
    by_cases h2 : j' = j
    · rw [if_pos h2, if_pos ⟨rfl, rfl, rfl, h2⟩]
    · rw [if_neg h2, if_neg (fun h => h2 h.2.2.2)]
  · rw [if_neg h, if_neg (fun h2 => h ⟨h2.1, h2.2.1, h2.2.2.1⟩)]
theorem zwithin0 {n m : Nat} (h2 : n ≤ m) (hm : m < 2 ^ 31) : ¬ v_X10_isWithin (nI n) 0 (nI m) = 0 := by
  unfold v_X10_isWithin
  have e1 : ¬ nI n < 0 := nI_pos (by omega)
  have e2 : ¬ nI m < nI n := nI_nlt h2 hm
  rw [if_neg e1, if_neg e2]
  decide
theorem n6_self {w : TW} {kd fl k j : Nat} {v : Int32} : (zset w kd fl k j v).1 kd fl k j = v := by rw [zset_F, if_pos ⟨rfl, rfl, rfl, rfl⟩]
theorem n6_set {w : TW} {kd fl k j : Nat} {v : Int32} {f6 : Nat} {v6 : Int32} (hn : ¬ (kd = 6 ∧ j = 3)) (h : w.1 6 f6 0 3 = v6) : (zset w kd fl k j v).1 6 f6 0 3 = v6 := by
  rw [zset_F, if_neg (fun h => hn ⟨h.1.symm, h.2.2.2.symm⟩)]
  exact h
theorem n6_row {w : TW} {i : Nat} {pp : Nat × List Int64} {f6 : Nat} {v6 : Int32} (h : w.1 6 f6 0 3 = v6) : (zrw w i pp).1 6 f6 0 3 = v6 := h
theorem n6_sav {w : TW} {fl k : Nat} {pp : Nat × Nat} {f6 : Nat} {v6 : Int32} (h : w.1 6 f6 0 3 = v6) : (zsav w fl k pp).1 6 f6 0 3 = v6 := h
theorem ochd_45 (S : TS) (k i : Nat) : (ochd S k i).1 = 4 ∨ (ochd S k i).1 = 5 := by
  by_cases h : i < (och S k).length
  · rcases och_mem (ochd_mem h) with ⟨h1, -⟩ | ⟨h1, -⟩
    · exact Or.inl h1
    · exact Or.inr h1
  · left
    unfold ochd
    rw [List.getD_eq_getElem?_getD, List.getElem?_eq_none (by omega)]
    rfl
theorem ochd_n6 (S : TS) (k i : Nat) : ¬ (ochd S k i).1 = 6 := fun h => by rcases ochd_45 S k i with e | e <;> omega
theorem n6_X1_give (S : TS) (w : TW) (kd : Nat) (fl : Nat) (k : Nat) {f6 : Nat} {v6 : Int32} (h : w.1 6 f6 0 3 = v6) : (w_X1_give S w kd fl k).1.1 6 f6 0 3 = v6 := by
  unfold w_X1_give
  exact (zP_let (P := (fun (b : TW × Int64) => b.1.1 6 f6 0 3 = v6)) (fun (b : TW) => b.1 6 f6 0 3 = v6) (n6_set (by first | exact fun h9 => absurd h9.2 (by decide) | exact fun h9 => absurd h9.1 (by decide) | exact fun h9 => absurd h9.1 (ochd_n6 _ _ _)) h) (fun w1 h8_ => h8_))
theorem n6_X7_insert (S : TS) (w : TW) (fl : Nat) (k : Nat) (j : Nat) (l1 : Int64) (l2 : Int64) {f6 : Nat} {v6 : Int32} (h : w.1 6 f6 0 3 = v6) : (w_X7_insert S w fl k j l1 l2).1 6 f6 0 3 = v6 := by
  unfold w_X7_insert
  exact (zP_let (P := (fun (b : TW) => b.1 6 f6 0 3 = v6)) (fun (b : TW) => b.1 6 f6 0 3 = v6) (n6_row h) (fun w1 h8_ => (zP_let (P := (fun (b : TW) => b.1 6 f6 0 3 = v6)) (fun (b : TW) => b.1 6 f6 0 3 = v6) (n6_row h8_) (fun w2 h8__ => h8__))))
theorem n6_X7_setAccount (S : TS) (w : TW) (fl : Nat) (k : Nat) (j : Nat) (l1 : Int64) {f6 : Nat} {v6 : Int32} (h : w.1 6 f6 0 3 = v6) : (w_X7_setAccount S w fl k j l1).1 6 f6 0 3 = v6 := by
  unfold w_X7_setAccount
  exact (zP_let (P := (fun (b : TW) => b.1 6 f6 0 3 = v6)) (fun (b : TW) => b.1 6 f6 0 3 = v6) (n6_row h) (fun w1 h8_ => h8_))
theorem n6_X7_remove (S : TS) (w : TW) (fl : Nat) (k : Nat) (a : Nat) (b : Nat) {f6 : Nat} {v6 : Int32} (h : w.1 6 f6 0 3 = v6) : (w_X7_remove S w fl k a b).1 6 f6 0 3 = v6 := by
  unfold w_X7_remove
  exact (zP_let (P := (fun (b : TW) => b.1 6 f6 0 3 = v6)) (fun (b : TW) => b.1 6 f6 0 3 = v6) (n6_row h) (fun w1 h8_ => (zP_let (P := (fun (b : TW) => b.1 6 f6 0 3 = v6)) (fun (b : TW) => b.1 6 f6 0 3 = v6) (n6_row h8_) (fun w2 h8__ => h8__))))
theorem n6_X7_become (S : TS) (w : TW) (fl : Nat) (k : Nat) (fl2 : Nat) (k2 : Nat) {f6 : Nat} {v6 : Int32} (h : w.1 6 f6 0 3 = v6) : (w_X7_become S w fl k fl2 k2).1 6 f6 0 3 = v6 := by
  unfold w_X7_become
  exact (zP_let (P := (fun (b : TW) => b.1 6 f6 0 3 = v6)) (fun (b : TW) => b.1 6 f6 0 3 = v6) (n6_row h) (fun w1 h8_ => (zP_let (P := (fun (b : TW) => b.1 6 f6 0 3 = v6)) (fun (b : TW) => b.1 6 f6 0 3 = v6) (n6_row h8_) (fun w2 h8__ => h8__))))
theorem n6_X9_become (S : TS) (w : TW) (fl : Nat) (k : Nat) (fl2 : Nat) (k2 : Nat) {f6 : Nat} {v6 : Int32} (h : w.1 6 f6 0 3 = v6) : (w_X9_become S w fl k fl2 k2).1 6 f6 0 3 = v6 := by
  unfold w_X9_become
  exact (zP_let (P := (fun (b : TW) => b.1 6 f6 0 3 = v6)) (fun (b : TW) => b.1 6 f6 0 3 = v6) (n6_set (by first | exact fun h9 => absurd h9.2 (by decide) | exact fun h9 => absurd h9.1 (by decide) | exact fun h9 => absurd h9.1 (ochd_n6 _ _ _)) h) (fun w1 h8_ => (zP_let (P := (fun (b : TW) => b.1 6 f6 0 3 = v6)) (fun (b : TW) => b.1 6 f6 0 3 = v6) (n6_set (by first | exact fun h9 => absurd h9.2 (by decide) | exact fun h9 => absurd h9.1 (by decide) | exact fun h9 => absurd h9.1 (ochd_n6 _ _ _)) h8_) (fun w2 h8__ => (zP_let (P := (fun (b : TW) => b.1 6 f6 0 3 = v6)) (fun (b : TW) => b.1 6 f6 0 3 = v6) (n6_set (by first | exact fun h9 => absurd h9.2 (by decide) | exact fun h9 => absurd h9.1 (by decide) | exact fun h9 => absurd h9.1 (ochd_n6 _ _ _)) h8__) (fun w3 h8___ => (zP_let (P := (fun (b : TW) => b.1 6 f6 0 3 = v6)) (fun (b : TW) => b.1 6 f6 0 3 = v6) (n6_set (by first | exact fun h9 => absurd h9.2 (by decide) | exact fun h9 => absurd h9.1 (by decide) | exact fun h9 => absurd h9.1 (ochd_n6 _ _ _)) h8___) (fun w4 h8____ => (zP_let (P := (fun (b : TW) => b.1 6 f6 0 3 = v6)) (fun (b : TW) => b.1 6 f6 0 3 = v6) (n6_set (by first | exact fun h9 => absurd h9.2 (by decide) | exact fun h9 => absurd h9.1 (by decide) | exact fun h9 => absurd h9.1 (ochd_n6 _ _ _)) h8____) (fun w5 h8_____ => (zP_let (P := (fun (b : TW) => b.1 6 f6 0 3 = v6)) (fun (b : TW) => b.1 6 f6 0 3 = v6) (n6_set (by first | exact fun h9 => absurd h9.2 (by decide) | exact fun h9 => absurd h9.1 (by decide) | exact fun h9 => absurd h9.1 (ochd_n6 _ _ _)) h8_____) (fun w6 h8______ => (zP_let (P := (fun (b : TW) => b.1 6 f6 0 3 = v6)) (fun (b : TW) => b.1 6 f6 0 3 = v6) (n6_set (by first | exact fun h9 => absurd h9.2 (by decide) | exact fun h9 => absurd h9.1 (by decide) | exact fun h9 => absurd h9.1 (ochd_n6 _ _ _)) h8______) (fun w7 h8_______ => (zP_let (P := (fun (b : TW) => b.1 6 f6 0 3 = v6)) (fun (b : TW) => b.1 6 f6 0 3 = v6) (n6_set (by first | exact fun h9 => absurd h9.2 (by decide) | exact fun h9 => absurd h9.1 (by decide) | exact fun h9 => absurd h9.1 (ochd_n6 _ _ _)) h8_______) (fun w8 h8________ => (zP_let (P := (fun (b : TW) => b.1 6 f6 0 3 = v6)) (fun (b : TW) => b.1 6 f6 0 3 = v6) (n6_X7_become _ _ _ _ _ _ h8________) (fun w9 h8_________ => (zP_let (P := (fun (b : TW) => b.1 6 f6 0 3 = v6)) (fun (b : TW) => b.1 6 f6 0 3 = v6) (n6_row h8_________) (fun w10 h8__________ => (zP_let (P := (fun (b : TW) => b.1 6 f6 0 3 = v6)) (fun (b : TW) => b.1 6 f6 0 3 = v6) (n6_row h8__________) (fun w11 h8___________ => h8___________))))))))))))))))))))))
theorem n6r_X4_forgetGiven (S : TS) (fl : Nat) (k : Nat) (gv : Int32) {f6 : Nat} {v6 : Int32} : ∀ (n : Nat) (i : Nat) (w : TW) (h : w.1 6 f6 0 3 = v6), (r_X4_forgetGiven S fl k gv n i w).1 6 f6 0 3 = v6 := by
  intro n
  induction n with
  | zero => intro i w h; exact h
  | succ n ih =>
    intro i w h
    rw [er_X4_forgetGiven]
    exact (zP_let (P := (fun (b : TW) => b.1 6 f6 0 3 = v6)) (fun (b : TW) => b.1 6 f6 0 3 = v6) (n6_set (by first | exact fun h9 => absurd h9.2 (by decide) | exact fun h9 => absurd h9.1 (by decide) | exact fun h9 => absurd h9.1 (ochd_n6 _ _ _)) h) (fun w2 h8_ => (ih _ _ h8_)))
theorem n6_X4_forgetGiven (S : TS) (w : TW) (fl : Nat) (k : Nat) {f6 : Nat} {v6 : Int32} (h : w.1 6 f6 0 3 = v6) : (w_X4_forgetGiven S w fl k).1 6 f6 0 3 = v6 := by
  unfold w_X4_forgetGiven
  exact (zP_ifd (P := (fun (b : TW) => b.1 6 f6 0 3 = v6)) (fun hq0 => h) (fun hq0 => (zP_ifd (P := (fun (b : TW) => b.1 6 f6 0 3 = v6)) (fun hq1 => h) (fun hq1 => (zP_let (P := (fun (b : TW) => b.1 6 f6 0 3 = v6)) (fun (b : TW) => b.1 6 f6 0 3 = v6) (n6_row h) (fun w3 h8_ => (zP_let (P := (fun (b : TW) => b.1 6 f6 0 3 = v6)) (fun (b : TW) => b.1 6 f6 0 3 = v6) (n6r_X4_forgetGiven _ _ _ _ _ _ _ h8_) (fun w4 h8__ => h8__))))))))
theorem n6r_X4_empty (S : TS) (fl : Nat) (k : Nat) {f6 : Nat} {v6 : Int32} : ∀ (n : Nat) (i : Nat) (w : TW) (h : w.1 6 f6 0 3 = v6), (r_X4_empty S fl k n i w).1 6 f6 0 3 = v6 := by
  intro n
  induction n with
  | zero => intro i w h; exact h
  | succ n ih =>
    intro i w h
    rw [er_X4_empty]
    exact (zP_let (P := (fun (b : TW) => b.1 6 f6 0 3 = v6)) (fun (b : TW) => b.1 6 f6 0 3 = v6) (n6_set (by first | exact fun h9 => absurd h9.2 (by decide) | exact fun h9 => absurd h9.1 (by decide) | exact fun h9 => absurd h9.1 (ochd_n6 _ _ _)) h) (fun w2 h8_ => (zP_let (P := (fun (b : TW) => b.1 6 f6 0 3 = v6)) (fun (b : TW) => b.1 6 f6 0 3 = v6) (n6_set (by first | exact fun h9 => absurd h9.2 (by decide) | exact fun h9 => absurd h9.1 (by decide) | exact fun h9 => absurd h9.1 (ochd_n6 _ _ _)) h8_) (fun w3 h8__ => (ih _ _ h8__)))))
theorem n6_X4_empty (S : TS) (w : TW) (fl : Nat) (k : Nat) {f6 : Nat} {v6 : Int32} (h : w.1 6 f6 0 3 = v6) : (w_X4_empty S w fl k).1 6 f6 0 3 = v6 := by
  unfold w_X4_empty
  exact (zP_let (P := (fun (b : TW) => b.1 6 f6 0 3 = v6)) (fun (b : TW) => b.1 6 f6 0 3 = v6) (n6_row h) (fun w1 h8_ => (zP_let (P := (fun (b : TW) => b.1 6 f6 0 3 = v6)) (fun (b : TW) => b.1 6 f6 0 3 = v6) (n6r_X4_empty _ _ _ _ _ _ h8_) (fun w2 h8__ => h8__))))
theorem n6r_X4_become (S : TS) (fl : Nat) (k : Nat) (fl2 : Nat) (gv : Int32) {f6 : Nat} {v6 : Int32} : ∀ (n : Nat) (i : Nat) (w : TW) (h : w.1 6 f6 0 3 = v6), (r_X4_become S fl k fl2 gv n i w).1 6 f6 0 3 = v6 := by
  intro n
  induction n with
  | zero => intro i w h; exact h
  | succ n ih =>
    intro i w h
    rw [er_X4_become]
    exact (zP_let (P := (fun (b : TW) => b.1 6 f6 0 3 = v6)) (fun (b : TW) => b.1 6 f6 0 3 = v6) (n6_set (by first | exact fun h9 => absurd h9.2 (by decide) | exact fun h9 => absurd h9.1 (by decide) | exact fun h9 => absurd h9.1 (ochd_n6 _ _ _)) h) (fun w3 h8_ => (zP_let (P := (fun (b : TW) => b.1 6 f6 0 3 = v6)) (fun (b : TW) => b.1 6 f6 0 3 = v6) (n6_set (by first | exact fun h9 => absurd h9.2 (by decide) | exact fun h9 => absurd h9.1 (by decide) | exact fun h9 => absurd h9.1 (ochd_n6 _ _ _)) h8_) (fun w4 h8__ => (ih _ _ h8__)))))
theorem n6_X4_become (S : TS) (w : TW) (fl : Nat) (k : Nat) (fl2 : Nat) {f6 : Nat} {v6 : Int32} (h : w.1 6 f6 0 3 = v6) : (w_X4_become S w fl k fl2).1 6 f6 0 3 = v6 := by
  unfold w_X4_become
  exact (zP_let (P := (fun (b : TW) => b.1 6 f6 0 3 = v6)) (fun (b : TW) => b.1 6 f6 0 3 = v6) (n6_row h) (fun w1 h8_ => (zP_let (P := (fun (b : TW) => b.1 6 f6 0 3 = v6)) (fun (b : TW) => b.1 6 f6 0 3 = v6) (n6r_X4_become _ _ _ _ _ _ _ _ h8_) (fun w2 h8__ => h8__))))
theorem n6_X8_emit (S : TS) (w : TW) (fl : Nat) (k : Nat) (l1 : Int64) {f6 : Nat} {v6 : Int32} (h : w.1 6 f6 0 3 = v6) : (w_X8_emit S w fl k l1).1 6 f6 0 3 = v6 := by
  unfold w_X8_emit
  exact (zP_ifd (P := (fun (b : TW) => b.1 6 f6 0 3 = v6)) (fun hq0 => (zP_let (P := (fun (b : TW) => b.1 6 f6 0 3 = v6)) (fun (b : TW) => b.1 6 f6 0 3 = v6) (n6_set (by first | exact fun h9 => absurd h9.2 (by decide) | exact fun h9 => absurd h9.1 (by decide) | exact fun h9 => absurd h9.1 (ochd_n6 _ _ _)) h) (fun w2 h8_ => (zP_ifd (P := (fun (b : TW) => b.1 6 f6 0 3 = v6)) (fun hq1 => h8_) (fun hq1 => (zP_let (P := (fun (b : TW) => b.1 6 f6 0 3 = v6)) (fun (b : TW) => b.1 6 f6 0 3 = v6) (n6_row h8_) (fun w4 h8__ => h8__))))))) (fun hq0 => (zP_ifd (P := (fun (b : TW) => b.1 6 f6 0 3 = v6)) (fun hq1 => h) (fun hq1 => (zP_let (P := (fun (b : TW) => b.1 6 f6 0 3 = v6)) (fun (b : TW) => b.1 6 f6 0 3 = v6) (n6_row h) (fun w6 h8_ => h8_))))))
theorem n6_X8_read (S : TS) (w : TW) (fl : Nat) (k : Nat) {f6 : Nat} {v6 : Int32} (h : w.1 6 f6 0 3 = v6) : (w_X8_read S w fl k).1.1 6 f6 0 3 = v6 := by
  unfold w_X8_read
  exact (zP_ifd (P := (fun (b : TW × Int32) => b.1.1 6 f6 0 3 = v6)) (fun hq0 => (zP_let (P := (fun (b : TW × Int32) => b.1.1 6 f6 0 3 = v6)) (fun (b : TW) => b.1 6 f6 0 3 = v6) (n6_set (by first | exact fun h9 => absurd h9.2 (by decide) | exact fun h9 => absurd h9.1 (by decide) | exact fun h9 => absurd h9.1 (ochd_n6 _ _ _)) h) (fun w2 h8_ => (zP_let (P := (fun (b : TW × Int32) => b.1.1 6 f6 0 3 = v6)) (fun (b : TW) => b.1 6 f6 0 3 = v6) (n6_X8_emit _ _ _ _ _ h8_) (fun w3 h8__ => h8__))))) (fun hq0 => h))
theorem n6_X8_putOut (S : TS) (w : TW) (fl : Nat) (k : Nat) (l1 : Int64) {f6 : Nat} {v6 : Int32} (h : w.1 6 f6 0 3 = v6) : (w_X8_putOut S w fl k l1).1 6 f6 0 3 = v6 := by
  unfold w_X8_putOut
  exact (zP_let (P := (fun (b : TW) => b.1 6 f6 0 3 = v6)) (fun (b : TW) => b.1 6 f6 0 3 = v6) (n6_set (by first | exact fun h9 => absurd h9.2 (by decide) | exact fun h9 => absurd h9.1 (by decide) | exact fun h9 => absurd h9.1 (ochd_n6 _ _ _)) h) (fun w1 h8_ => (zP_ifd (P := (fun (b : TW) => b.1 6 f6 0 3 = v6)) (fun hq0 => (zP_let (P := (fun (b : TW) => b.1 6 f6 0 3 = v6)) (fun (b : TW) => b.1 6 f6 0 3 = v6) (n6_row h8_) (fun w3 h8__ => h8__))) (fun hq0 => h8_))))
theorem n6_X8_takeIntoWindow (S : TS) (w : TW) (fl : Nat) (k : Nat) (l1 : Int64) (i1 : Int32) (i2 : Int32) {f6 : Nat} {v6 : Int32} (h : w.1 6 f6 0 3 = v6) : (w_X8_takeIntoWindow S w fl k l1 i1 i2).1.1 6 f6 0 3 = v6 := by
  unfold w_X8_takeIntoWindow
  exact (zP_ifd (P := (fun (b : TW × Int32) => b.1.1 6 f6 0 3 = v6)) (fun hq0 => (zP_let (P := (fun (b : TW × Int32) => b.1.1 6 f6 0 3 = v6)) (fun (b : TW) => b.1 6 f6 0 3 = v6) (n6_X7_insert _ _ _ _ _ _ _ h) (fun w2 h8_ => h8_))) (fun hq0 => (zP_let (P := (fun (b : TW × Int32) => b.1.1 6 f6 0 3 = v6)) (fun (b : TW) => b.1 6 f6 0 3 = v6) (n6_X7_setAccount _ _ _ _ _ _ h) (fun w3 h8_ => h8_))))
theorem n6_X8_fire (S : TS) (w : TW) (fl : Nat) (k : Nat) (i1 : Int32) {f6 : Nat} {v6 : Int32} (h : w.1 6 f6 0 3 = v6) : (w_X8_fire S w fl k i1).1 6 f6 0 3 = v6 := by
  unfold w_X8_fire
  exact (zP_let (P := (fun (b : TW) => b.1 6 f6 0 3 = v6)) (fun (b : TW) => b.1 6 f6 0 3 = v6) (n6_X8_emit _ _ _ _ _ h) (fun w1 h8_ => h8_))
theorem n6r_X8_takeIntoWindows (S : TS) (fl : Nat) (k : Nat) (l1 : Int64) (tm : Int32) (lb : Int32) {f6 : Nat} {v6 : Int32} : ∀ (n : Nat) (b : Int32) (lt : Int32) (w : TW) (h : w.1 6 f6 0 3 = v6), (r_X8_takeIntoWindows S fl k l1 tm lb n b lt w).1.1 6 f6 0 3 = v6 := by
  intro n
  induction n with
  | zero => intro b lt w h; exact h
  | succ n ih =>
    intro b lt w h
    rw [er_X8_takeIntoWindows]
    exact (zP_ifd (P := (fun (b : TW × Int32) => b.1.1 6 f6 0 3 = v6)) (fun hq0 => (ih _ _ _ h)) (fun hq0 => (zP_ifd (P := (fun (b : TW × Int32) => b.1.1 6 f6 0 3 = v6)) (fun hq1 => (ih _ _ _ h)) (fun hq1 => (zP_let (P := (fun (b : TW × Int32) => b.1.1 6 f6 0 3 = v6)) (fun (b : TW × Int32) => b.1.1 6 f6 0 3 = v6) (n6_X8_takeIntoWindow _ _ _ _ _ _ _ h) (fun w3 h8_ => (zP_ifd (P := (fun (b : TW × Int32) => b.1.1 6 f6 0 3 = v6)) (fun hq2 => (ih _ _ _ h8_)) (fun hq2 => (zP_let (P := (fun (b : TW × Int32) => b.1.1 6 f6 0 3 = v6)) (fun (b : TW) => b.1 6 f6 0 3 = v6) (n6_X8_fire _ _ _ _ _ h8_) (fun w5 h8__ => (ih _ _ _ h8__)))))))))))
theorem n6_X8_takeIntoWindows (S : TS) (w : TW) (fl : Nat) (k : Nat) (l1 : Int64) {f6 : Nat} {v6 : Int32} (h : w.1 6 f6 0 3 = v6) : (w_X8_takeIntoWindows S w fl k l1).1 6 f6 0 3 = v6 := by
  unfold w_X8_takeIntoWindows
  exact (zP_ifd (P := (fun (b : TW) => b.1 6 f6 0 3 = v6)) (fun hq0 => (zP_let (P := (fun (b : TW) => b.1 6 f6 0 3 = v6)) (fun (b : TW × Int32) => b.1.1 6 f6 0 3 = v6) (n6r_X8_takeIntoWindows _ _ _ _ _ _ _ _ _ _ h) (fun w2 h8_ => (zP_ifd (P := (fun (b : TW) => b.1 6 f6 0 3 = v6)) (fun hq1 => h8_) (fun hq1 => (zP_let (P := (fun (b : TW) => b.1 6 f6 0 3 = v6)) (fun (b : TW) => b.1 6 f6 0 3 = v6) (n6_set (by first | exact fun h9 => absurd h9.2 (by decide) | exact fun h9 => absurd h9.1 (by decide) | exact fun h9 => absurd h9.1 (ochd_n6 _ _ _)) h8_) (fun w4 h8__ => h8__))))))) (fun hq0 => (zP_let (P := (fun (b : TW) => b.1 6 f6 0 3 = v6)) (fun (b : TW × Int32) => b.1.1 6 f6 0 3 = v6) (n6r_X8_takeIntoWindows _ _ _ _ _ _ _ _ _ _ h) (fun w5 h8_ => (zP_ifd (P := (fun (b : TW) => b.1 6 f6 0 3 = v6)) (fun hq1 => h8_) (fun hq1 => (zP_let (P := (fun (b : TW) => b.1 6 f6 0 3 = v6)) (fun (b : TW) => b.1 6 f6 0 3 = v6) (n6_set (by first | exact fun h9 => absurd h9.2 (by decide) | exact fun h9 => absurd h9.1 (by decide) | exact fun h9 => absurd h9.1 (ochd_n6 _ _ _)) h8_) (fun w7 h8__ => h8__))))))))
theorem n6r_X8_takeIntoSession (S : TS) (fl : Nat) (k : Nat) (l1 : Int64) (ky : Int32) (tm : Int32) {f6 : Nat} {v6 : Int32} : ∀ (n : Nat) (b : Int32) (bg : Int32) (en : Int32) (lt : Int32) (ac : Int64) (w : TW) (h : w.1 6 f6 0 3 = v6), (r_X8_takeIntoSession S fl k l1 ky tm n b bg en lt ac w).1.1 6 f6 0 3 = v6 := by
  intro n
  induction n with
  | zero => intro b bg en lt ac w h; exact h
  | succ n ih =>
    intro b bg en lt ac w h
    rw [er_X8_takeIntoSession]
    exact (zP_ifd (P := (fun (b : TW × Int32 × Int32 × Int32 × Int64) => b.1.1 6 f6 0 3 = v6)) (fun hq0 => (zP_ifd (P := (fun (b : TW × Int32 × Int32 × Int32 × Int64) => b.1.1 6 f6 0 3 = v6)) (fun hq1 => (ih _ _ _ _ _ _ h)) (fun hq1 => (zP_ifd (P := (fun (b : TW × Int32 × Int32 × Int32 × Int64) => b.1.1 6 f6 0 3 = v6)) (fun hq2 => (ih _ _ _ _ _ _ h)) (fun hq2 => (zP_let (P := (fun (b : TW × Int32 × Int32 × Int32 × Int64) => b.1.1 6 f6 0 3 = v6)) (fun (b : TW) => b.1 6 f6 0 3 = v6) (n6_X7_remove _ _ _ _ _ _ h) (fun w4 h8_ => (ih _ _ _ _ _ _ h8_)))))))) (fun hq0 => (ih _ _ _ _ _ _ h)))
theorem n6_X8_takeIntoSession (S : TS) (w : TW) (fl : Nat) (k : Nat) (l1 : Int64) {f6 : Nat} {v6 : Int32} (h : w.1 6 f6 0 3 = v6) : (w_X8_takeIntoSession S w fl k l1).1 6 f6 0 3 = v6 := by
  unfold w_X8_takeIntoSession
  exact (zP_ifd (P := (fun (b : TW) => b.1 6 f6 0 3 = v6)) (fun hq0 => (zP_let (P := (fun (b : TW) => b.1 6 f6 0 3 = v6)) (fun (b : TW × Int32 × Int32 × Int32 × Int64) => b.1.1 6 f6 0 3 = v6) (n6r_X8_takeIntoSession _ _ _ _ _ _ _ _ _ _ _ _ _ h) (fun w2 h8_ => (zP_ifd (P := (fun (b : TW) => b.1 6 f6 0 3 = v6)) (fun hq1 => (zP_let (P := (fun (b : TW) => b.1 6 f6 0 3 = v6)) (fun (b : TW) => b.1 6 f6 0 3 = v6) (n6_X7_insert _ _ _ _ _ _ _ h8_) (fun w4 h8__ => h8__))) (fun hq1 => (zP_let (P := (fun (b : TW) => b.1 6 f6 0 3 = v6)) (fun (b : TW) => b.1 6 f6 0 3 = v6) (n6_set (by first | exact fun h9 => absurd h9.2 (by decide) | exact fun h9 => absurd h9.1 (by decide) | exact fun h9 => absurd h9.1 (ochd_n6 _ _ _)) h8_) (fun w5 h8__ => h8__))))))) (fun hq0 => (zP_let (P := (fun (b : TW) => b.1 6 f6 0 3 = v6)) (fun (b : TW × Int32 × Int32 × Int32 × Int64) => b.1.1 6 f6 0 3 = v6) (n6r_X8_takeIntoSession _ _ _ _ _ _ _ _ _ _ _ _ _ h) (fun w6 h8_ => (zP_ifd (P := (fun (b : TW) => b.1 6 f6 0 3 = v6)) (fun hq1 => (zP_let (P := (fun (b : TW) => b.1 6 f6 0 3 = v6)) (fun (b : TW) => b.1 6 f6 0 3 = v6) (n6_X7_insert _ _ _ _ _ _ _ h8_) (fun w8 h8__ => h8__))) (fun hq1 => (zP_let (P := (fun (b : TW) => b.1 6 f6 0 3 = v6)) (fun (b : TW) => b.1 6 f6 0 3 = v6) (n6_set (by first | exact fun h9 => absurd h9.2 (by decide) | exact fun h9 => absurd h9.1 (by decide) | exact fun h9 => absurd h9.1 (ochd_n6 _ _ _)) h8_) (fun w9 h8__ => h8__))))))))
theorem n6r_X8_takeIntoJoin (S : TS) (fl : Nat) (k : Nat) (l1 : Int64) (i1 : Int32) (xr : Nat) {f6 : Nat} {v6 : Int32} : ∀ (n : Nat) (i : Nat) (w : TW) (h : w.1 6 f6 0 3 = v6), (r_X8_takeIntoJoin S fl k l1 i1 xr n i w).1 6 f6 0 3 = v6 := by
  intro n
  induction n with
  | zero => intro i w h; exact h
  | succ n ih =>
    intro i w h
    rw [er_X8_takeIntoJoin]
    exact (zP_ifd (P := (fun (b : TW) => b.1 6 f6 0 3 = v6)) (fun hq0 => h) (fun hq0 => (zP_ifd (P := (fun (b : TW) => b.1 6 f6 0 3 = v6)) (fun hq1 => (zP_ifd (P := (fun (b : TW) => b.1 6 f6 0 3 = v6)) (fun hq2 => (ih _ _ h)) (fun hq2 => (zP_let (P := (fun (b : TW) => b.1 6 f6 0 3 = v6)) (fun (b : TW) => b.1 6 f6 0 3 = v6) (n6_X8_emit _ _ _ _ _ h) (fun w4 h8_ => (ih _ _ h8_)))))) (fun hq1 => (zP_ifd (P := (fun (b : TW) => b.1 6 f6 0 3 = v6)) (fun hq2 => (ih _ _ h)) (fun hq2 => (zP_let (P := (fun (b : TW) => b.1 6 f6 0 3 = v6)) (fun (b : TW) => b.1 6 f6 0 3 = v6) (n6_X8_emit _ _ _ _ _ h) (fun w6 h8_ => (ih _ _ h8_)))))))))
theorem n6_X8_takeIntoJoin (S : TS) (w : TW) (fl : Nat) (k : Nat) (l1 : Int64) (i1 : Int32) {f6 : Nat} {v6 : Int32} (h : w.1 6 f6 0 3 = v6) : (w_X8_takeIntoJoin S w fl k l1 i1).1 6 f6 0 3 = v6 := by
  unfold w_X8_takeIntoJoin
  exact (zP_ifd (P := (fun (b : TW) => b.1 6 f6 0 3 = v6)) (fun hq0 => (zP_ifd (P := (fun (b : TW) => b.1 6 f6 0 3 = v6)) (fun hq1 => (zP_let (P := (fun (b : TW) => b.1 6 f6 0 3 = v6)) (fun (b : TW) => b.1 6 f6 0 3 = v6) (n6r_X8_takeIntoJoin _ _ _ _ _ _ _ _ _ h) (fun w3 h8_ => (zP_let (P := (fun (b : TW) => b.1 6 f6 0 3 = v6)) (fun (b : TW) => b.1 6 f6 0 3 = v6) (n6_row h8_) (fun w4 h8__ => (zP_ifd (P := (fun (b : TW) => b.1 6 f6 0 3 = v6)) (fun hq2 => h8__) (fun hq2 => (zP_let (P := (fun (b : TW) => b.1 6 f6 0 3 = v6)) (fun (b : TW) => b.1 6 f6 0 3 = v6) (n6_row h8__) (fun w6 h8___ => h8___))))))))) (fun hq1 => (zP_let (P := (fun (b : TW) => b.1 6 f6 0 3 = v6)) (fun (b : TW) => b.1 6 f6 0 3 = v6) (n6r_X8_takeIntoJoin _ _ _ _ _ _ _ _ _ h) (fun w7 h8_ => (zP_let (P := (fun (b : TW) => b.1 6 f6 0 3 = v6)) (fun (b : TW) => b.1 6 f6 0 3 = v6) (n6_row h8_) (fun w8 h8__ => (zP_ifd (P := (fun (b : TW) => b.1 6 f6 0 3 = v6)) (fun hq2 => h8__) (fun hq2 => (zP_let (P := (fun (b : TW) => b.1 6 f6 0 3 = v6)) (fun (b : TW) => b.1 6 f6 0 3 = v6) (n6_row h8__) (fun w10 h8___ => h8___))))))))))) (fun hq0 => (zP_let (P := (fun (b : TW) => b.1 6 f6 0 3 = v6)) (fun (b : TW) => b.1 6 f6 0 3 = v6) (n6_set (by first | exact fun h9 => absurd h9.2 (by decide) | exact fun h9 => absurd h9.1 (by decide) | exact fun h9 => absurd h9.1 (ochd_n6 _ _ _)) h) (fun w11 h8_ => h8_))))
theorem n6_X8_takeEvent (S : TS) (w : TW) (fl : Nat) (k : Nat) (l1 : Int64) (i1 : Int32) {f6 : Nat} {v6 : Int32} (h : w.1 6 f6 0 3 = v6) : (w_X8_takeEvent S w fl k l1 i1).1 6 f6 0 3 = v6 := by
  unfold w_X8_takeEvent
  exact (zP_let (P := (fun (b : TW) => b.1 6 f6 0 3 = v6)) (fun (b : TW) => b.1 6 f6 0 3 = v6) (n6_set (by first | exact fun h9 => absurd h9.2 (by decide) | exact fun h9 => absurd h9.1 (by decide) | exact fun h9 => absurd h9.1 (ochd_n6 _ _ _)) h) (fun w1 h8_ => (zP_ifd (P := (fun (b : TW) => b.1 6 f6 0 3 = v6)) (fun hq0 => (zP_ifd (P := (fun (b : TW) => b.1 6 f6 0 3 = v6)) (fun hq1 => h8_) (fun hq1 => (zP_let (P := (fun (b : TW) => b.1 6 f6 0 3 = v6)) (fun (b : TW) => b.1 6 f6 0 3 = v6) (n6_X8_emit _ _ _ _ _ h8_) (fun w4 h8__ => h8__))))) (fun hq0 => (zP_ifd (P := (fun (b : TW) => b.1 6 f6 0 3 = v6)) (fun hq1 => (zP_let (P := (fun (b : TW) => b.1 6 f6 0 3 = v6)) (fun (b : TW) => b.1 6 f6 0 3 = v6) (n6_X8_emit _ _ _ _ _ h8_) (fun w6 h8__ => h8__))) (fun hq1 => (zP_ifd (P := (fun (b : TW) => b.1 6 f6 0 3 = v6)) (fun hq2 => (zP_let (P := (fun (b : TW) => b.1 6 f6 0 3 = v6)) (fun (b : TW) => b.1 6 f6 0 3 = v6) (n6_X8_takeIntoWindows _ _ _ _ _ h8_) (fun w8 h8__ => h8__))) (fun hq2 => (zP_ifd (P := (fun (b : TW) => b.1 6 f6 0 3 = v6)) (fun hq3 => (zP_let (P := (fun (b : TW) => b.1 6 f6 0 3 = v6)) (fun (b : TW) => b.1 6 f6 0 3 = v6) (n6_X8_takeIntoSession _ _ _ _ _ h8_) (fun w10 h8__ => h8__))) (fun hq3 => (zP_ifd (P := (fun (b : TW) => b.1 6 f6 0 3 = v6)) (fun hq4 => (zP_let (P := (fun (b : TW) => b.1 6 f6 0 3 = v6)) (fun (b : TW) => b.1 6 f6 0 3 = v6) (n6_X8_takeIntoJoin _ _ _ _ _ _ h8_) (fun w12 h8__ => h8__))) (fun hq4 => (zP_ifd (P := (fun (b : TW) => b.1 6 f6 0 3 = v6)) (fun hq5 => (zP_let (P := (fun (b : TW) => b.1 6 f6 0 3 = v6)) (fun (b : TW) => b.1 6 f6 0 3 = v6) (n6_X8_emit _ _ _ _ _ h8_) (fun w14 h8__ => h8__))) (fun hq5 => (zP_let (P := (fun (b : TW) => b.1 6 f6 0 3 = v6)) (fun (b : TW) => b.1 6 f6 0 3 = v6) (n6_X8_putOut _ _ _ _ _ h8_) (fun w15 h8__ => h8__))))))))))))))))
theorem n6_X8_leastMark (S : TS) (w : TW) (fl : Nat) (k : Nat) (i1 : Int32) (i2 : Int32) {f6 : Nat} {v6 : Int32} (h : w.1 6 f6 0 3 = v6) : (w_X8_leastMark S w fl k i1 i2).1.1 6 f6 0 3 = v6 := by
  unfold w_X8_leastMark
  exact (zP_ifd (P := (fun (b : TW × Int32) => b.1.1 6 f6 0 3 = v6)) (fun hq0 => (zP_let (P := (fun (b : TW × Int32) => b.1.1 6 f6 0 3 = v6)) (fun (b : TW) => b.1 6 f6 0 3 = v6) (n6_set (by first | exact fun h9 => absurd h9.2 (by decide) | exact fun h9 => absurd h9.1 (by decide) | exact fun h9 => absurd h9.1 (ochd_n6 _ _ _)) h) (fun w2 h8_ => (zP_ifd (P := (fun (b : TW × Int32) => b.1.1 6 f6 0 3 = v6)) (fun hq1 => h8_) (fun hq1 => h8_))))) (fun hq0 => (zP_let (P := (fun (b : TW × Int32) => b.1.1 6 f6 0 3 = v6)) (fun (b : TW) => b.1 6 f6 0 3 = v6) (n6_set (by first | exact fun h9 => absurd h9.2 (by decide) | exact fun h9 => absurd h9.1 (by decide) | exact fun h9 => absurd h9.1 (ochd_n6 _ _ _)) h) (fun w4 h8_ => (zP_ifd (P := (fun (b : TW × Int32) => b.1.1 6 f6 0 3 = v6)) (fun hq1 => h8_) (fun hq1 => h8_))))))
theorem n6r_X8_fireFrom (S : TS) (fl : Nat) (k : Nat) (st : Nat) {f6 : Nat} {v6 : Int32} : ∀ (n : Nat) (i : Nat) (w : TW) (h : w.1 6 f6 0 3 = v6), (r_X8_fireFrom S fl k st n i w).1 6 f6 0 3 = v6 := by
  intro n
  induction n with
  | zero => intro i w h; exact h
  | succ n ih =>
    intro i w h
    rw [er_X8_fireFrom]
    exact (zP_let (P := (fun (b : TW) => b.1 6 f6 0 3 = v6)) (fun (b : TW) => b.1 6 f6 0 3 = v6) (n6_X8_fire _ _ _ _ _ h) (fun w1 h8_ => (ih _ _ h8_)))
theorem n6_X8_fireFrom (S : TS) (w : TW) (fl : Nat) (k : Nat) (i1 : Int32) {f6 : Nat} {v6 : Int32} (h : w.1 6 f6 0 3 = v6) : (w_X8_fireFrom S w fl k i1).1 6 f6 0 3 = v6 := by
  unfold w_X8_fireFrom
  exact (zP_let (P := (fun (b : TW) => b.1 6 f6 0 3 = v6)) (fun (b : TW) => b.1 6 f6 0 3 = v6) (n6r_X8_fireFrom _ _ _ _ _ _ _ h) (fun w1 h8_ => (zP_let (P := (fun (b : TW) => b.1 6 f6 0 3 = v6)) (fun (b : TW) => b.1 6 f6 0 3 = v6) (n6_X7_remove _ _ _ _ _ _ h8_) (fun w2 h8__ => h8__))))
theorem n6r_X8_forgetBelow (S : TS) (i : Nat) (i1 : Int32) {f6 : Nat} {v6 : Int32} : ∀ (n : Nat) (b : Int32) (w : TW) (h : w.1 6 f6 0 3 = v6), (r_X8_forgetBelow S i i1 n b w).1 6 f6 0 3 = v6 := by
  intro n
  induction n with
  | zero => intro b w h; exact h
  | succ n ih =>
    intro b w h
    rw [er_X8_forgetBelow]
    exact (zP_ifd (P := (fun (b : TW) => b.1 6 f6 0 3 = v6)) (fun hq0 => (ih _ _ h)) (fun hq0 => (zP_let (P := (fun (b : TW) => b.1 6 f6 0 3 = v6)) (fun (b : TW) => b.1 6 f6 0 3 = v6) (n6_row h) (fun w2 h8_ => (ih _ _ h8_)))))
theorem n6_X8_forgetBelow (S : TS) (w : TW) (i : Nat) (i1 : Int32) {f6 : Nat} {v6 : Int32} (h : w.1 6 f6 0 3 = v6) : (w_X8_forgetBelow S w i i1).1 6 f6 0 3 = v6 := by
  unfold w_X8_forgetBelow
  exact (zP_let (P := (fun (b : TW) => b.1 6 f6 0 3 = v6)) (fun (b : TW) => b.1 6 f6 0 3 = v6) (n6r_X8_forgetBelow _ _ _ _ _ _ h) (fun w1 h8_ => h8_))
theorem n6_X8_raiseMark (S : TS) (w : TW) (fl : Nat) (k : Nat) (i1 : Int32) {f6 : Nat} {v6 : Int32} (h : w.1 6 f6 0 3 = v6) : (w_X8_raiseMark S w fl k i1).1 6 f6 0 3 = v6 := by
  unfold w_X8_raiseMark
  exact (zP_ifd (P := (fun (b : TW) => b.1 6 f6 0 3 = v6)) (fun hq0 => (zP_let (P := (fun (b : TW) => b.1 6 f6 0 3 = v6)) (fun (b : TW) => b.1 6 f6 0 3 = v6) (n6_set (by first | exact fun h9 => absurd h9.2 (by decide) | exact fun h9 => absurd h9.1 (by decide) | exact fun h9 => absurd h9.1 (ochd_n6 _ _ _)) h) (fun w2 h8_ => (zP_ifd (P := (fun (b : TW) => b.1 6 f6 0 3 = v6)) (fun hq1 => (zP_let (P := (fun (b : TW) => b.1 6 f6 0 3 = v6)) (fun (b : TW) => b.1 6 f6 0 3 = v6) (n6_X8_fireFrom _ _ _ _ _ h8_) (fun w4 h8__ => (zP_let (P := (fun (b : TW) => b.1 6 f6 0 3 = v6)) (fun (b : TW) => b.1 6 f6 0 3 = v6) (n6_X8_emit _ _ _ _ _ h8__) (fun w5 h8___ => h8___))))) (fun hq1 => (zP_ifd (P := (fun (b : TW) => b.1 6 f6 0 3 = v6)) (fun hq2 => (zP_let (P := (fun (b : TW) => b.1 6 f6 0 3 = v6)) (fun (b : TW) => b.1 6 f6 0 3 = v6) (n6_X8_fireFrom _ _ _ _ _ h8_) (fun w7 h8__ => (zP_let (P := (fun (b : TW) => b.1 6 f6 0 3 = v6)) (fun (b : TW) => b.1 6 f6 0 3 = v6) (n6_X8_emit _ _ _ _ _ h8__) (fun w8 h8___ => h8___))))) (fun hq2 => (zP_ifd (P := (fun (b : TW) => b.1 6 f6 0 3 = v6)) (fun hq3 => (zP_let (P := (fun (b : TW) => b.1 6 f6 0 3 = v6)) (fun (b : TW) => b.1 6 f6 0 3 = v6) (n6_X8_forgetBelow _ _ _ _ h8_) (fun w10 h8__ => (zP_let (P := (fun (b : TW) => b.1 6 f6 0 3 = v6)) (fun (b : TW) => b.1 6 f6 0 3 = v6) (n6_X8_forgetBelow _ _ _ _ h8__) (fun w11 h8___ => (zP_let (P := (fun (b : TW) => b.1 6 f6 0 3 = v6)) (fun (b : TW) => b.1 6 f6 0 3 = v6) (n6_X8_emit _ _ _ _ _ h8___) (fun w12 h8____ => h8____))))))) (fun hq3 => (zP_let (P := (fun (b : TW) => b.1 6 f6 0 3 = v6)) (fun (b : TW) => b.1 6 f6 0 3 = v6) (n6_X8_emit _ _ _ _ _ h8_) (fun w13 h8__ => h8__))))))))))) (fun hq0 => h))
theorem n6_X8_adoptSaved (S : TS) (w : TW) (fl : Nat) (k : Nat) {f6 : Nat} {v6 : Int32} (h : w.1 6 f6 0 3 = v6) : (w_X8_adoptSaved S w fl k).1 6 f6 0 3 = v6 := by
  unfold w_X8_adoptSaved
  exact (zP_let (P := (fun (b : TW) => b.1 6 f6 0 3 = v6)) (fun (b : TW) => b.1 6 f6 0 3 = v6) (n6_sav h) (fun w1 h8_ => (zP_let (P := (fun (b : TW) => b.1 6 f6 0 3 = v6)) (fun (b : TW) => b.1 6 f6 0 3 = v6) (n6_sav h8_) (fun w2 h8__ => h8__))))
theorem n6_X8_goBack (S : TS) (w : TW) (fl : Nat) (k : Nat) {f6 : Nat} {v6 : Int32} (h : w.1 6 f6 0 3 = v6) : (w_X8_goBack S w fl k).1 6 f6 0 3 = v6 := by
  unfold w_X8_goBack
  exact (zP_let (P := (fun (b : TW) => b.1 6 f6 0 3 = v6)) (fun (b : TW) => b.1 6 f6 0 3 = v6) (n6_X9_become _ _ _ _ _ _ h) (fun w1 h8_ => (zP_let (P := (fun (b : TW) => b.1 6 f6 0 3 = v6)) (fun (b : TW) => b.1 6 f6 0 3 = v6) (n6_row h8_) (fun w2 h8__ => (zP_let (P := (fun (b : TW) => b.1 6 f6 0 3 = v6)) (fun (b : TW) => b.1 6 f6 0 3 = v6) (n6_X4_empty _ _ _ _ h8__) (fun w3 h8___ => (zP_let (P := (fun (b : TW) => b.1 6 f6 0 3 = v6)) (fun (b : TW) => b.1 6 f6 0 3 = v6) (n6_set (by first | exact fun h9 => absurd h9.2 (by decide) | exact fun h9 => absurd h9.1 (by decide) | exact fun h9 => absurd h9.1 (ochd_n6 _ _ _)) h8___) (fun w4 h8____ => h8____))))))))
theorem n6_X8_become (S : TS) (w : TW) (fl : Nat) (k : Nat) (fl2 : Nat) {f6 : Nat} {v6 : Int32} (h : w.1 6 f6 0 3 = v6) : (w_X8_become S w fl k fl2).1 6 f6 0 3 = v6 := by
  unfold w_X8_become
  exact (zP_let (P := (fun (b : TW) => b.1 6 f6 0 3 = v6)) (fun (b : TW) => b.1 6 f6 0 3 = v6) (n6_X9_become _ _ _ _ _ _ h) (fun w1 h8_ => (zP_let (P := (fun (b : TW) => b.1 6 f6 0 3 = v6)) (fun (b : TW) => b.1 6 f6 0 3 = v6) (n6_X4_become _ _ _ _ _ h8_) (fun w2 h8__ => (zP_let (P := (fun (b : TW) => b.1 6 f6 0 3 = v6)) (fun (b : TW) => b.1 6 f6 0 3 = v6) (n6_set (by first | exact fun h9 => absurd h9.2 (by decide) | exact fun h9 => absurd h9.1 (by decide) | exact fun h9 => absurd h9.1 (ochd_n6 _ _ _)) h8__) (fun w3 h8___ => (zP_let (P := (fun (b : TW) => b.1 6 f6 0 3 = v6)) (fun (b : TW) => b.1 6 f6 0 3 = v6) (n6_set (by first | exact fun h9 => absurd h9.2 (by decide) | exact fun h9 => absurd h9.1 (by decide) | exact fun h9 => absurd h9.1 (ochd_n6 _ _ _)) h8___) (fun w4 h8____ => h8____))))))))
theorem n6r_X2_completeCheckpoint (S : TS) (fl : Nat) {f6 : Nat} {v6 : Int32} : ∀ (n : Nat) (i : Nat) (w : TW) (h : w.1 6 f6 0 3 = v6), (r_X2_completeCheckpoint S fl n i w).1 6 f6 0 3 = v6 := by
  intro n
  induction n with
  | zero => intro i w h; exact h
  | succ n ih =>
    intro i w h
    rw [er_X2_completeCheckpoint]
    exact (zP_let (P := (fun (b : TW) => b.1 6 f6 0 3 = v6)) (fun (b : TW) => b.1 6 f6 0 3 = v6) (n6_X8_adoptSaved _ _ _ _ h) (fun w1 h8_ => (ih _ _ h8_)))
theorem n6_X2_completeCheckpoint (S : TS) (w : TW) (fl : Nat) {f6 : Nat} {v6 : Int32} (h : w.1 6 f6 0 3 = v6) : (w_X2_completeCheckpoint S w fl).1 6 f6 0 3 = v6 := by
  unfold w_X2_completeCheckpoint
  exact (zP_let (P := (fun (b : TW) => b.1 6 f6 0 3 = v6)) (fun (b : TW) => b.1 6 f6 0 3 = v6) (n6r_X2_completeCheckpoint _ _ _ _ _ h) (fun w1 h8_ => (zP_let (P := (fun (b : TW) => b.1 6 f6 0 3 = v6)) (fun (b : TW) => b.1 6 f6 0 3 = v6) (n6_set (by first | exact fun h9 => absurd h9.2 (by decide) | exact fun h9 => absurd h9.1 (by decide) | exact fun h9 => absurd h9.1 (ochd_n6 _ _ _)) h8_) (fun w2 h8__ => (zP_let (P := (fun (b : TW) => b.1 6 f6 0 3 = v6)) (fun (b : TW) => b.1 6 f6 0 3 = v6) (n6_set (by first | exact fun h9 => absurd h9.2 (by decide) | exact fun h9 => absurd h9.1 (by decide) | exact fun h9 => absurd h9.1 (ochd_n6 _ _ _)) h8__) (fun w3 h8___ => h8___))))))
theorem n6_X2_passBarrier (S : TS) (w : TW) (fl : Nat) (k : Nat) {f6 : Nat} {v6 : Int32} (h : w.1 6 f6 0 3 = v6) : (w_X2_passBarrier S w fl k).1 6 f6 0 3 = v6 := by
  unfold w_X2_passBarrier
  exact (zP_let (P := (fun (b : TW) => b.1 6 f6 0 3 = v6)) (fun (b : TW) => b.1 6 f6 0 3 = v6) (n6_set (by first | exact fun h9 => absurd h9.2 (by decide) | exact fun h9 => absurd h9.1 (by decide) | exact fun h9 => absurd h9.1 (ochd_n6 _ _ _)) h) (fun w1 h8_ => (zP_let (P := (fun (b : TW) => b.1 6 f6 0 3 = v6)) (fun (b : TW) => b.1 6 f6 0 3 = v6) (n6_X8_emit _ _ _ _ _ h8_) (fun w2 h8__ => (zP_ifd (P := (fun (b : TW) => b.1 6 f6 0 3 = v6)) (fun hq0 => (zP_let (P := (fun (b : TW) => b.1 6 f6 0 3 = v6)) (fun (b : TW) => b.1 6 f6 0 3 = v6) (n6_X9_become _ _ _ _ _ _ h8__) (fun w4 h8___ => (zP_let (P := (fun (b : TW) => b.1 6 f6 0 3 = v6)) (fun (b : TW) => b.1 6 f6 0 3 = v6) (n6_set (by first | exact fun h9 => absurd h9.2 (by decide) | exact fun h9 => absurd h9.1 (by decide) | exact fun h9 => absurd h9.1 (ochd_n6 _ _ _)) h8___) (fun w5 h8____ => (zP_ifd (P := (fun (b : TW) => b.1 6 f6 0 3 = v6)) (fun hq1 => (zP_let (P := (fun (b : TW) => b.1 6 f6 0 3 = v6)) (fun (b : TW) => b.1 6 f6 0 3 = v6) (n6_X2_completeCheckpoint _ _ _ h8____) (fun w7 h8_____ => h8_____))) (fun hq1 => h8____))))))) (fun hq0 => h8__))))))
theorem n6_X2_takeBarrierN (S : TS) (w : TW) (fl : Nat) (k : Nat) (kd : Nat) {f6 : Nat} {v6 : Int32} (h : w.1 6 f6 0 3 = v6) : (w_X2_takeBarrierN S w fl k kd).1 6 f6 0 3 = v6 := by
  unfold w_X2_takeBarrierN
  exact (zP_let (P := (fun (b : TW) => b.1 6 f6 0 3 = v6)) (fun (b : TW) => b.1 6 f6 0 3 = v6) (n6_X2_passBarrier _ _ _ _ h) (fun w1 h8_ => h8_))
theorem n6_X2_takeBarrier (S : TS) (w : TW) (fl : Nat) (k : Nat) (kd : Nat) (kd2 : Nat) {f6 : Nat} {v6 : Int32} (h : w.1 6 f6 0 3 = v6) : (w_X2_takeBarrier S w fl k kd kd2).1 6 f6 0 3 = v6 := by
  unfold w_X2_takeBarrier
  exact (zP_ifd (P := (fun (b : TW) => b.1 6 f6 0 3 = v6)) (fun hq0 => (zP_let (P := (fun (b : TW) => b.1 6 f6 0 3 = v6)) (fun (b : TW) => b.1 6 f6 0 3 = v6) (n6_set (by first | exact fun h9 => absurd h9.2 (by decide) | exact fun h9 => absurd h9.1 (by decide) | exact fun h9 => absurd h9.1 (ochd_n6 _ _ _)) h) (fun w2 h8_ => h8_))) (fun hq0 => (zP_let (P := (fun (b : TW) => b.1 6 f6 0 3 = v6)) (fun (b : TW) => b.1 6 f6 0 3 = v6) (n6_set (by first | exact fun h9 => absurd h9.2 (by decide) | exact fun h9 => absurd h9.1 (by decide) | exact fun h9 => absurd h9.1 (ochd_n6 _ _ _)) h) (fun w3 h8_ => (zP_let (P := (fun (b : TW) => b.1 6 f6 0 3 = v6)) (fun (b : TW) => b.1 6 f6 0 3 = v6) (n6_X2_passBarrier _ _ _ _ h8_) (fun w4 h8__ => h8__))))))
theorem n6r_X2_beginCheckpoint (S : TS) (fl : Nat) {f6 : Nat} {v6 : Int32} : ∀ (n : Nat) (i : Nat) (w : TW) (h : w.1 6 f6 0 3 = v6), (r_X2_beginCheckpoint S fl n i w).1 6 f6 0 3 = v6 := by
  intro n
  induction n with
  | zero => intro i w h; exact h
  | succ n ih =>
    intro i w h
    rw [er_X2_beginCheckpoint]
    exact (zP_ifd (P := (fun (b : TW) => b.1 6 f6 0 3 = v6)) (fun hq0 => (zP_let (P := (fun (b : TW) => b.1 6 f6 0 3 = v6)) (fun (b : TW) => b.1 6 f6 0 3 = v6) (n6_set (by first | exact fun h9 => absurd h9.2 (by decide) | exact fun h9 => absurd h9.1 (by decide) | exact fun h9 => absurd h9.1 (ochd_n6 _ _ _)) h) (fun w2 h8_ => (ih _ _ h8_)))) (fun hq0 => (zP_let (P := (fun (b : TW) => b.1 6 f6 0 3 = v6)) (fun (b : TW) => b.1 6 f6 0 3 = v6) (n6_set (by first | exact fun h9 => absurd h9.2 (by decide) | exact fun h9 => absurd h9.1 (by decide) | exact fun h9 => absurd h9.1 (ochd_n6 _ _ _)) h) (fun w3 h8_ => (ih _ _ h8_)))))
theorem n6_X2_beginCheckpoint (S : TS) (w : TW) (fl : Nat) {f6 : Nat} {v6 : Int32} (h : w.1 6 f6 0 3 = v6) : (w_X2_beginCheckpoint S w fl).1.1 6 f6 0 3 = v6 := by
  unfold w_X2_beginCheckpoint
  exact (zP_let (P := (fun (b : TW × Int32) => b.1.1 6 f6 0 3 = v6)) (fun (b : TW) => b.1 6 f6 0 3 = v6) (n6_set (by first | exact fun h9 => absurd h9.2 (by decide) | exact fun h9 => absurd h9.1 (by decide) | exact fun h9 => absurd h9.1 (ochd_n6 _ _ _)) h) (fun w1 h8_ => (zP_let (P := (fun (b : TW × Int32) => b.1.1 6 f6 0 3 = v6)) (fun (b : TW) => b.1 6 f6 0 3 = v6) (n6_set (by first | exact fun h9 => absurd h9.2 (by decide) | exact fun h9 => absurd h9.1 (by decide) | exact fun h9 => absurd h9.1 (ochd_n6 _ _ _)) h8_) (fun w2 h8__ => (zP_let (P := (fun (b : TW × Int32) => b.1.1 6 f6 0 3 = v6)) (fun (b : TW) => b.1 6 f6 0 3 = v6) (n6_set (by first | exact fun h9 => absurd h9.2 (by decide) | exact fun h9 => absurd h9.1 (by decide) | exact fun h9 => absurd h9.1 (ochd_n6 _ _ _)) h8__) (fun w3 h8___ => (zP_let (P := (fun (b : TW × Int32) => b.1.1 6 f6 0 3 = v6)) (fun (b : TW) => b.1 6 f6 0 3 = v6) (n6r_X2_beginCheckpoint _ _ _ _ _ h8___) (fun w4 h8____ => h8____))))))))
theorem n6r_X2_goBack (S : TS) (fl : Nat) {f6 : Nat} {v6 : Int32} : ∀ (n : Nat) (i : Nat) (w : TW) (h : w.1 6 f6 0 3 = v6), (r_X2_goBack S fl n i w).1 6 f6 0 3 = v6 := by
  intro n
  induction n with
  | zero => intro i w h; exact h
  | succ n ih =>
    intro i w h
    rw [er_X2_goBack]
    exact (zP_let (P := (fun (b : TW) => b.1 6 f6 0 3 = v6)) (fun (b : TW) => b.1 6 f6 0 3 = v6) (n6_X8_goBack _ _ _ _ h) (fun w1 h8_ => (ih _ _ h8_)))
theorem n6r_X2_become (S : TS) (fl : Nat) (fl2 : Nat) {f6 : Nat} {v6 : Int32} : ∀ (n : Nat) (i : Nat) (w : TW) (h : w.1 6 f6 0 3 = v6), (r_X2_become S fl fl2 n i w).1 6 f6 0 3 = v6 := by
  intro n
  induction n with
  | zero => intro i w h; exact h
  | succ n ih =>
    intro i w h
    rw [er_X2_become]
    exact (zP_let (P := (fun (b : TW) => b.1 6 f6 0 3 = v6)) (fun (b : TW) => b.1 6 f6 0 3 = v6) (n6_X8_become _ _ _ _ _ h) (fun w1 h8_ => (ih _ _ h8_)))
theorem n6_step (S : TS) (w : TW) (fl : Nat) (k : Nat) : (w_X2_step S w fl k).1.1 6 fl 0 3 = nI k := by
  unfold w_X2_step
  exact (zP_let (P := (fun (b : TW × Int32) => b.1.1 6 fl 0 3 = nI k)) (fun (b : TW) => b.1 6 fl 0 3 = nI k) n6_self (fun w1 h8_ => (zP_let (P := (fun (b : TW × Int32) => b.1.1 6 fl 0 3 = nI k)) (fun (b : TW) => b.1 6 fl 0 3 = nI k) (n6_X4_forgetGiven _ _ _ _ h8_) (fun w2 h8__ => (zP_ifd (P := (fun (b : TW × Int32) => b.1.1 6 fl 0 3 = nI k)) (fun hq0 => (zP_ifd (P := (fun (b : TW × Int32) => b.1.1 6 fl 0 3 = nI k)) (fun hq1 => (zP_let (P := (fun (b : TW × Int32) => b.1.1 6 fl 0 3 = nI k)) (fun (b : TW × Int32) => b.1.1 6 fl 0 3 = nI k) (n6_X8_read _ _ _ _ h8__) (fun w5 h8___ => (zP_let (P := (fun (b : TW × Int32) => b.1.1 6 fl 0 3 = nI k)) (fun (b : TW) => b.1 6 fl 0 3 = nI k) (n6_X8_raiseMark _ _ _ _ _ h8___) (fun w6 h8____ => h8____))))) (fun hq1 => (zP_let (P := (fun (b : TW × Int32) => b.1.1 6 fl 0 3 = nI k)) (fun (b : TW) => b.1 6 fl 0 3 = nI k) (n6_X2_passBarrier _ _ _ _ h8__) (fun w7 h8___ => h8___))))) (fun hq0 => (zP_ifd (P := (fun (b : TW × Int32) => b.1.1 6 fl 0 3 = nI k)) (fun hq1 => (zP_ifd (P := (fun (b : TW × Int32) => b.1.1 6 fl 0 3 = nI k)) (fun hq2 => (zP_ifd (P := (fun (b : TW × Int32) => b.1.1 6 fl 0 3 = nI k)) (fun hq3 => h8__) (fun hq3 => (zP_let (P := (fun (b : TW × Int32) => b.1.1 6 fl 0 3 = nI k)) (fun (b : TW × Int64) => b.1.1 6 fl 0 3 = nI k) (n6_X1_give _ _ _ _ _ h8__) (fun w11 h8___ => (zP_let (P := (fun (b : TW × Int32) => b.1.1 6 fl 0 3 = nI k)) (fun (b : TW) => b.1 6 fl 0 3 = nI k) (n6_set (by first | exact fun h9 => absurd h9.2 (by decide) | exact fun h9 => absurd h9.1 (by decide) | exact fun h9 => absurd h9.1 (ochd_n6 _ _ _)) h8___) (fun w12 h8____ => (zP_ifd (P := (fun (b : TW × Int32) => b.1.1 6 fl 0 3 = nI k)) (fun hq4 => (zP_let (P := (fun (b : TW × Int32) => b.1.1 6 fl 0 3 = nI k)) (fun (b : TW) => b.1 6 fl 0 3 = nI k) (n6_X8_takeEvent _ _ _ _ _ _ h8____) (fun w14 h8_____ => h8_____))) (fun hq4 => (zP_ifd (P := (fun (b : TW × Int32) => b.1.1 6 fl 0 3 = nI k)) (fun hq5 => (zP_let (P := (fun (b : TW × Int32) => b.1.1 6 fl 0 3 = nI k)) (fun (b : TW × Int32) => b.1.1 6 fl 0 3 = nI k) (n6_X8_leastMark _ _ _ _ _ _ h8____) (fun w16 h8_____ => (zP_let (P := (fun (b : TW × Int32) => b.1.1 6 fl 0 3 = nI k)) (fun (b : TW) => b.1 6 fl 0 3 = nI k) (n6_X8_raiseMark _ _ _ _ _ h8_____) (fun w17 h8______ => h8______))))) (fun hq5 => (zP_ifd (P := (fun (b : TW × Int32) => b.1.1 6 fl 0 3 = nI k)) (fun hq6 => (zP_let (P := (fun (b : TW × Int32) => b.1.1 6 fl 0 3 = nI k)) (fun (b : TW) => b.1 6 fl 0 3 = nI k) (n6_X2_takeBarrier _ _ _ _ _ _ h8____) (fun w19 h8_____ => h8_____))) (fun hq6 => (zP_let (P := (fun (b : TW × Int32) => b.1.1 6 fl 0 3 = nI k)) (fun (b : TW) => b.1 6 fl 0 3 = nI k) (n6_X2_takeBarrierN _ _ _ _ _ h8____) (fun w20 h8_____ => h8_____))))))))))))))) (fun hq2 => h8__))) (fun hq1 => (zP_ifd (P := (fun (b : TW × Int32) => b.1.1 6 fl 0 3 = nI k)) (fun hq2 => (zP_ifd (P := (fun (b : TW × Int32) => b.1.1 6 fl 0 3 = nI k)) (fun hq3 => h8__) (fun hq3 => (zP_let (P := (fun (b : TW × Int32) => b.1.1 6 fl 0 3 = nI k)) (fun (b : TW × Int64) => b.1.1 6 fl 0 3 = nI k) (n6_X1_give _ _ _ _ _ h8__) (fun w23 h8___ => (zP_let (P := (fun (b : TW × Int32) => b.1.1 6 fl 0 3 = nI k)) (fun (b : TW) => b.1 6 fl 0 3 = nI k) (n6_set (by first | exact fun h9 => absurd h9.2 (by decide) | exact fun h9 => absurd h9.1 (by decide) | exact fun h9 => absurd h9.1 (ochd_n6 _ _ _)) h8___) (fun w24 h8____ => (zP_ifd (P := (fun (b : TW × Int32) => b.1.1 6 fl 0 3 = nI k)) (fun hq4 => (zP_let (P := (fun (b : TW × Int32) => b.1.1 6 fl 0 3 = nI k)) (fun (b : TW) => b.1 6 fl 0 3 = nI k) (n6_X8_takeEvent _ _ _ _ _ _ h8____) (fun w26 h8_____ => h8_____))) (fun hq4 => (zP_ifd (P := (fun (b : TW × Int32) => b.1.1 6 fl 0 3 = nI k)) (fun hq5 => (zP_let (P := (fun (b : TW × Int32) => b.1.1 6 fl 0 3 = nI k)) (fun (b : TW × Int32) => b.1.1 6 fl 0 3 = nI k) (n6_X8_leastMark _ _ _ _ _ _ h8____) (fun w28 h8_____ => (zP_let (P := (fun (b : TW × Int32) => b.1.1 6 fl 0 3 = nI k)) (fun (b : TW) => b.1 6 fl 0 3 = nI k) (n6_X8_raiseMark _ _ _ _ _ h8_____) (fun w29 h8______ => h8______))))) (fun hq5 => (zP_ifd (P := (fun (b : TW × Int32) => b.1.1 6 fl 0 3 = nI k)) (fun hq6 => (zP_let (P := (fun (b : TW × Int32) => b.1.1 6 fl 0 3 = nI k)) (fun (b : TW) => b.1 6 fl 0 3 = nI k) (n6_X2_takeBarrier _ _ _ _ _ _ h8____) (fun w31 h8_____ => h8_____))) (fun hq6 => (zP_let (P := (fun (b : TW × Int32) => b.1.1 6 fl 0 3 = nI k)) (fun (b : TW) => b.1 6 fl 0 3 = nI k) (n6_X2_takeBarrierN _ _ _ _ _ h8____) (fun w32 h8_____ => h8_____))))))))))))))) (fun hq2 => h8__))))))))))
theorem n6_become (S : TS) (w : TW) (fl : Nat) (fl2 : Nat) : (w_X2_become S w fl fl2).1 6 fl 0 3 = (zset w 6 fl 0 2 (w.1 6 fl2 0 2)).1 6 fl2 0 3 := by
  unfold w_X2_become
  exact n6r_X2_become _ _ _ _ _ _ n6_self
theorem ZL.become {S : TS} {w : TW} {fl fl2 : Nat} (h : ZL S w fl2) : ZL S (w_X2_become S w fl fl2) fl := by
  refine h.eq ?_
  rw [n6_become, zset_F, if_neg (fun h => by omega)]
