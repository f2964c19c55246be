/-! ===== what one flow's methods leave alone: the other flow, the plans, the logs, the whole's own ===== -/
def OwnF (fl i : Nat) : Prop := (∃ x st, x < 4 ∧ i = rs x fl st) ∨ (∃ k, i = ri fl k) ∨ ∃ k, i = ro fl k
def FL (fl : Nat) (w b : TW) : Prop := (∀ kd f a j, f ≠ fl ∨ kd = 7 ∨ kd = 8 → b.1 kd f a j = w.1 kd f a j) ∧ (∀ i, ¬ OwnF fl i → b.2.2 i = w.2.2 i) ∧ ∀ f k, f ≠ fl → b.2.1 f k = w.2.1 f k
theorem FL.rf {fl : Nat} {w : TW} : FL fl w w := ⟨fun _ _ _ _ _ => rfl, fun _ _ => rfl, fun _ _ _ => rfl⟩
theorem FL.tr {fl : Nat} {a b c : TW} (h : FL fl a b) (g : FL fl b c) : FL fl a c := ⟨fun kd f x j hn => (g.1 kd f x j hn).trans (h.1 kd f x j hn), fun i hn => (g.2.1 i hn).trans (h.2.1 i hn), fun f k hn => (g.2.2 f k hn).trans (h.2.2 f k hn)⟩
theorem FL.set {fl kd a j : Nat} {v : Int32} {w b : TW} (h0 : ¬ (kd = 7 ∨ kd = 8)) (h : FL fl w b) : FL fl w (zset b kd fl a j v) := by
  refine ⟨fun kd' f' a' j' hn => ?_, h.2⟩
  rw [zset_F, if_neg (fun e => by
    rcases hn with h1 | h1
    · exact h1 e.2.1
    · rw [e.1] at h1; exact h0 h1)]
  exact h.1 kd' f' a' j' hn
theorem FL.row {fl i : Nat} {p : Nat × List Int64} {w b : TW} (h0 : OwnF fl i) (h : FL fl w b) : FL fl w (zrw b i p) := by
  refine ⟨h.1, fun j hn => ?_, h.2.2⟩
  rw [zrw_q, if_neg (fun e => hn (by rw [e]; exact h0))]
  exact h.2.1 j hn
theorem FL.sav {fl k : Nat} {p : Nat × Nat} {w b : TW} (h : FL fl w b) : FL fl w (zsav b fl k p) := by
  refine ⟨h.1, h.2.1, fun f a hn => ?_⟩
  show (if f = fl ∧ a = k then p else b.2.1 f a) = _
  rw [if_neg (fun e => hn e.1)]
  exact h.2.2 f a hn
theorem ochd_78 (S : TS) (k i : Nat) : ¬ ((ochd S k i).1 = 7 ∨ (ochd S k i).1 = 8) := fun h => by rcases ochd_45 S k i with e | e <;> omega
theorem fl_X1_give (S : TS) (w : TW) (kd : Nat) (fl : Nat) (k : Nat) {w0 : TW} (h45 : ¬ (kd = 7 ∨ kd = 8)) (h : FL fl w0 w) : FL fl w0 (w_X1_give S w kd fl k).1 := by
  unfold w_X1_give
  exact (zP_let (P := (fun (b : TW × Int64) => FL fl w0 b.1)) (fun (b : TW) => FL fl w0 b) (FL.set h45 h) (fun w1 h8_ => h8_))
theorem fl_X7_insert (S : TS) (w : TW) (fl : Nat) (k : Nat) (j : Nat) (l1 : Int64) (l2 : Int64) {w0 : TW} (h : FL fl w0 w) : FL fl w0 (w_X7_insert S w fl k j l1 l2) := by
  unfold w_X7_insert
  exact (zP_let (P := (fun (b : TW) => FL fl w0 b)) (fun (b : TW) => FL fl w0 b) (FL.row (by exact Or.inl ⟨_, _, by omega, rfl⟩) h) (fun w1 h8_ => (zP_let (P := (fun (b : TW) => FL fl w0 b)) (fun (b : TW) => FL fl w0 b) (FL.row (by exact Or.inl ⟨_, _, by omega, rfl⟩) h8_) (fun w2 h8__ => h8__))))
theorem fl_X7_setAccount (S : TS) (w : TW) (fl : Nat) (k : Nat) (j : Nat) (l1 : Int64) {w0 : TW} (h : FL fl w0 w) : FL fl w0 (w_X7_setAccount S w fl k j l1) := by
  unfold w_X7_setAccount
  exact (zP_let (P := (fun (b : TW) => FL fl w0 b)) (fun (b : TW) => FL fl w0 b) (FL.row (by exact Or.inl ⟨_, _, by omega, rfl⟩) h) (fun w1 h8_ => h8_))
theorem fl_X7_remove (S : TS) (w : TW) (fl : Nat) (k : Nat) (a : Nat) (b : Nat) {w0 : TW} (h : FL fl w0 w) : FL fl w0 (w_X7_remove S w fl k a b) := by
  unfold w_X7_remove
  exact (zP_let (P := (fun (b : TW) => FL fl w0 b)) (fun (b : TW) => FL fl w0 b) (FL.row (by exact Or.inl ⟨_, _, by omega, rfl⟩) h) (fun w1 h8_ => (zP_let (P := (fun (b : TW) => FL fl w0 b)) (fun (b : TW) => FL fl w0 b) (FL.row (by exact Or.inl ⟨_, _, by omega, rfl⟩) h8_) (fun w2 h8__ => h8__))))
theorem fl_X7_become (S : TS) (w : TW) (fl : Nat) (k : Nat) (fl2 : Nat) (k2 : Nat) {w0 : TW} (h : FL fl w0 w) : FL fl w0 (w_X7_become S w fl k fl2 k2) := by
  unfold w_X7_become
  exact (zP_let (P := (fun (b : TW) => FL fl w0 b)) (fun (b : TW) => FL fl w0 b) (FL.row (by exact Or.inl ⟨_, _, by omega, rfl⟩) h) (fun w1 h8_ => (zP_let (P := (fun (b : TW) => FL fl w0 b)) (fun (b : TW) => FL fl w0 b) (FL.row (by exact Or.inl ⟨_, _, by omega, rfl⟩) h8_) (fun w2 h8__ => h8__))))
theorem fl_X9_become (S : TS) (w : TW) (fl : Nat) (k : Nat) (fl2 : Nat) (k2 : Nat) {w0 : TW} (h : FL fl w0 w) : FL fl w0 (w_X9_become S w fl k fl2 k2) := by
  unfold w_X9_become
  exact (zP_let (P := (fun (b : TW) => FL fl w0 b)) (fun (b : TW) => FL fl w0 b) (FL.set (by decide) h) (fun w1 h8_ => (zP_let (P := (fun (b : TW) => FL fl w0 b)) (fun (b : TW) => FL fl w0 b) (FL.set (by decide) h8_) (fun w2 h8__ => (zP_let (P := (fun (b : TW) => FL fl w0 b)) (fun (b : TW) => FL fl w0 b) (FL.set (by decide) h8__) (fun w3 h8___ => (zP_let (P := (fun (b : TW) => FL fl w0 b)) (fun (b : TW) => FL fl w0 b) (FL.set (by decide) h8___) (fun w4 h8____ => (zP_let (P := (fun (b : TW) => FL fl w0 b)) (fun (b : TW) => FL fl w0 b) (FL.set (by decide) h8____) (fun w5 h8_____ => (zP_let (P := (fun (b : TW) => FL fl w0 b)) (fun (b : TW) => FL fl w0 b) (FL.set (by decide) h8_____) (fun w6 h8______ => (zP_let (P := (fun (b : TW) => FL fl w0 b)) (fun (b : TW) => FL fl w0 b) (FL.set (by decide) h8______) (fun w7 h8_______ => (zP_let (P := (fun (b : TW) => FL fl w0 b)) (fun (b : TW) => FL fl w0 b) (FL.set (by decide) h8_______) (fun w8 h8________ => (zP_let (P := (fun (b : TW) => FL fl w0 b)) (fun (b : TW) => FL fl w0 b) (fl_X7_become _ _ _ _ _ _ h8________) (fun w9 h8_________ => (zP_let (P := (fun (b : TW) => FL fl w0 b)) (fun (b : TW) => FL fl w0 b) (FL.row (by exact Or.inl ⟨_, _, by omega, rfl⟩) h8_________) (fun w10 h8__________ => (zP_let (P := (fun (b : TW) => FL fl w0 b)) (fun (b : TW) => FL fl w0 b) (FL.row (by exact Or.inl ⟨_, _, by omega, rfl⟩) h8__________) (fun w11 h8___________ => h8___________))))))))))))))))))))))
theorem flr_X4_forgetGiven (S : TS) (fl : Nat) (k : Nat) (gv : Int32) {w0 : TW} : ∀ (n : Nat) (i : Nat) (w : TW) (h : FL fl w0 w), FL fl w0 (r_X4_forgetGiven S fl k gv n i w) := by
  intro n
  induction n with
  | zero => intro i w h; exact h
  | succ n ih =>
    intro i w h
    rw [er_X4_forgetGiven]
    exact (zP_let (P := (fun (b : TW) => FL fl w0 b)) (fun (b : TW) => FL fl w0 b) (FL.set (ochd_78 _ _ _) h) (fun w2 h8_ => (ih _ _ h8_)))
theorem fl_X4_forgetGiven (S : TS) (w : TW) (fl : Nat) (k : Nat) {w0 : TW} (h : FL fl w0 w) : FL fl w0 (w_X4_forgetGiven S w fl k) := by
  unfold w_X4_forgetGiven
  exact (zP_ifd (P := (fun (b : TW) => FL fl w0 b)) (fun hq0 => h) (fun hq0 => (zP_ifd (P := (fun (b : TW) => FL fl w0 b)) (fun hq1 => h) (fun hq1 => (zP_let (P := (fun (b : TW) => FL fl w0 b)) (fun (b : TW) => FL fl w0 b) (FL.row (by exact Or.inr (Or.inl ⟨_, rfl⟩)) h) (fun w3 h8_ => (zP_let (P := (fun (b : TW) => FL fl w0 b)) (fun (b : TW) => FL fl w0 b) (flr_X4_forgetGiven _ _ _ _ _ _ _ h8_) (fun w4 h8__ => h8__))))))))
theorem flr_X4_empty (S : TS) (fl : Nat) (k : Nat) {w0 : TW} : ∀ (n : Nat) (i : Nat) (w : TW) (h : FL fl w0 w), FL fl w0 (r_X4_empty S fl k n i w) := by
  intro n
  induction n with
  | zero => intro i w h; exact h
  | succ n ih =>
    intro i w h
    rw [er_X4_empty]
    exact (zP_let (P := (fun (b : TW) => FL fl w0 b)) (fun (b : TW) => FL fl w0 b) (FL.set (ochd_78 _ _ _) h) (fun w2 h8_ => (zP_let (P := (fun (b : TW) => FL fl w0 b)) (fun (b : TW) => FL fl w0 b) (FL.set (ochd_78 _ _ _) h8_) (fun w3 h8__ => (ih _ _ h8__)))))
theorem fl_X4_empty (S : TS) (w : TW) (fl : Nat) (k : Nat) {w0 : TW} (h : FL fl w0 w) : FL fl w0 (w_X4_empty S w fl k) := by
  unfold w_X4_empty
  exact (zP_let (P := (fun (b : TW) => FL fl w0 b)) (fun (b : TW) => FL fl w0 b) (FL.row (by exact Or.inr (Or.inl ⟨_, rfl⟩)) h) (fun w1 h8_ => (zP_let (P := (fun (b : TW) => FL fl w0 b)) (fun (b : TW) => FL fl w0 b) (flr_X4_empty _ _ _ _ _ _ h8_) (fun w2 h8__ => h8__))))
theorem flr_X4_become (S : TS) (fl : Nat) (k : Nat) (fl2 : Nat) (gv : Int32) {w0 : TW} : ∀ (n : Nat) (i : Nat) (w : TW) (h : FL fl w0 w), FL fl w0 (r_X4_become S fl k fl2 gv n i w) := by
  intro n
  induction n with
  | zero => intro i w h; exact h
  | succ n ih =>
    intro i w h
    rw [er_X4_become]
    exact (zP_let (P := (fun (b : TW) => FL fl w0 b)) (fun (b : TW) => FL fl w0 b) (FL.set (ochd_78 _ _ _) h) (fun w3 h8_ => (zP_let (P := (fun (b : TW) => FL fl w0 b)) (fun (b : TW) => FL fl w0 b) (FL.set (ochd_78 _ _ _) h8_) (fun w4 h8__ => (ih _ _ h8__)))))
theorem fl_X4_become (S : TS) (w : TW) (fl : Nat) (k : Nat) (fl2 : Nat) {w0 : TW} (h : FL fl w0 w) : FL fl w0 (w_X4_become S w fl k fl2) := by
  unfold w_X4_become
  exact (zP_let (P := (fun (b : TW) => FL fl w0 b)) (fun (b : TW) => FL fl w0 b) (FL.row (by exact Or.inr (Or.inl ⟨_, rfl⟩)) h) (fun w1 h8_ => (zP_let (P := (fun (b : TW) => FL fl w0 b)) (fun (b : TW) => FL fl w0 b) (flr_X4_become _ _ _ _ _ _ _ _ h8_) (fun w2 h8__ => h8__))))
theorem fl_X8_emit (S : TS) (w : TW) (fl : Nat) (k : Nat) (l1 : Int64) {w0 : TW} (h : FL fl w0 w) : FL fl w0 (w_X8_emit S w fl k l1) := by
  unfold w_X8_emit
  exact (zP_ifd (P := (fun (b : TW) => FL fl w0 b)) (fun hq0 => (zP_let (P := (fun (b : TW) => FL fl w0 b)) (fun (b : TW) => FL fl w0 b) (FL.set (by decide) h) (fun w2 h8_ => (zP_ifd (P := (fun (b : TW) => FL fl w0 b)) (fun hq1 => h8_) (fun hq1 => (zP_let (P := (fun (b : TW) => FL fl w0 b)) (fun (b : TW) => FL fl w0 b) (FL.row (by exact Or.inr (Or.inl ⟨_, rfl⟩)) h8_) (fun w4 h8__ => h8__))))))) (fun hq0 => (zP_ifd (P := (fun (b : TW) => FL fl w0 b)) (fun hq1 => h) (fun hq1 => (zP_let (P := (fun (b : TW) => FL fl w0 b)) (fun (b : TW) => FL fl w0 b) (FL.row (by exact Or.inr (Or.inl ⟨_, rfl⟩)) h) (fun w6 h8_ => h8_))))))
theorem fl_X8_read (S : TS) (w : TW) (fl : Nat) (k : Nat) {w0 : TW} (h : FL fl w0 w) : FL fl w0 (w_X8_read S w fl k).1 := by
  unfold w_X8_read
  exact (zP_ifd (P := (fun (b : TW × Int32) => FL fl w0 b.1)) (fun hq0 => (zP_let (P := (fun (b : TW × Int32) => FL fl w0 b.1)) (fun (b : TW) => FL fl w0 b) (FL.set (by decide) h) (fun w2 h8_ => (zP_let (P := (fun (b : TW × Int32) => FL fl w0 b.1)) (fun (b : TW) => FL fl w0 b) (fl_X8_emit _ _ _ _ _ h8_) (fun w3 h8__ => h8__))))) (fun hq0 => h))
theorem fl_X8_putOut (S : TS) (w : TW) (fl : Nat) (k : Nat) (l1 : Int64) {w0 : TW} (h : FL fl w0 w) : FL fl w0 (w_X8_putOut S w fl k l1) := by
  unfold w_X8_putOut
  exact (zP_let (P := (fun (b : TW) => FL fl w0 b)) (fun (b : TW) => FL fl w0 b) (FL.set (by decide) h) (fun w1 h8_ => (zP_ifd (P := (fun (b : TW) => FL fl w0 b)) (fun hq0 => (zP_let (P := (fun (b : TW) => FL fl w0 b)) (fun (b : TW) => FL fl w0 b) (FL.row (by exact Or.inr (Or.inr ⟨_, rfl⟩)) h8_) (fun w3 h8__ => h8__))) (fun hq0 => h8_))))
theorem fl_X8_takeIntoWindow (S : TS) (w : TW) (fl : Nat) (k : Nat) (l1 : Int64) (i1 : Int32) (i2 : Int32) {w0 : TW} (h : FL fl w0 w) : FL fl w0 (w_X8_takeIntoWindow S w fl k l1 i1 i2).1 := by
  unfold w_X8_takeIntoWindow
  exact (zP_ifd (P := (fun (b : TW × Int32) => FL fl w0 b.1)) (fun hq0 => (zP_let (P := (fun (b : TW × Int32) => FL fl w0 b.1)) (fun (b : TW) => FL fl w0 b) (fl_X7_insert _ _ _ _ _ _ _ h) (fun w2 h8_ => h8_))) (fun hq0 => (zP_let (P := (fun (b : TW × Int32) => FL fl w0 b.1)) (fun (b : TW) => FL fl w0 b) (fl_X7_setAccount _ _ _ _ _ _ h) (fun w3 h8_ => h8_))))
theorem fl_X8_fire (S : TS) (w : TW) (fl : Nat) (k : Nat) (i1 : Int32) {w0 : TW} (h : FL fl w0 w) : FL fl w0 (w_X8_fire S w fl k i1) := by
  unfold w_X8_fire
  exact (zP_let (P := (fun (b : TW) => FL fl w0 b)) (fun (b : TW) => FL fl w0 b) (fl_X8_emit _ _ _ _ _ h) (fun w1 h8_ => h8_))
theorem flr_X8_takeIntoWindows (S : TS) (fl : Nat) (k : Nat) (l1 : Int64) (tm : Int32) (lb : Int32) {w0 : TW} : ∀ (n : Nat) (b : Int32) (lt : Int32) (w : TW) (h : FL fl w0 w), FL fl w0 (r_X8_takeIntoWindows S fl k l1 tm lb n b lt w).1 := by
  intro n
  induction n with
  | zero => intro b lt w h; exact h
  | succ n ih =>
    intro b lt w h
    rw [er_X8_takeIntoWindows]
    exact (zP_ifd (P := (fun (b : TW × Int32) => FL fl w0 b.1)) (fun hq0 => (ih _ _ _ h)) (fun hq0 => (zP_ifd (P := (fun (b : TW × Int32) => FL fl w0 b.1)) (fun hq1 => (ih _ _ _ h)) (fun hq1 => (zP_let (P := (fun (b : TW × Int32) => FL fl w0 b.1)) (fun (b : TW × Int32) => FL fl w0 b.1) (fl_X8_takeIntoWindow _ _ _ _ _ _ _ h) (fun w3 h8_ => (zP_ifd (P := (fun (b : TW × Int32) => FL fl w0 b.1)) (fun hq2 => (ih _ _ _ h8_)) (fun hq2 => (zP_let (P := (fun (b : TW × Int32) => FL fl w0 b.1)) (fun (b : TW) => FL fl w0 b) (fl_X8_fire _ _ _ _ _ h8_) (fun w5 h8__ => (ih _ _ _ h8__)))))))))))
theorem fl_X8_takeIntoWindows (S : TS) (w : TW) (fl : Nat) (k : Nat) (l1 : Int64) {w0 : TW} (h : FL fl w0 w) : FL fl w0 (w_X8_takeIntoWindows S w fl k l1) := by
  unfold w_X8_takeIntoWindows
  exact (zP_ifd (P := (fun (b : TW) => FL fl w0 b)) (fun hq0 => (zP_let (P := (fun (b : TW) => FL fl w0 b)) (fun (b : TW × Int32) => FL fl w0 b.1) (flr_X8_takeIntoWindows _ _ _ _ _ _ _ _ _ _ h) (fun w2 h8_ => (zP_ifd (P := (fun (b : TW) => FL fl w0 b)) (fun hq1 => h8_) (fun hq1 => (zP_let (P := (fun (b : TW) => FL fl w0 b)) (fun (b : TW) => FL fl w0 b) (FL.set (by decide) h8_) (fun w4 h8__ => h8__))))))) (fun hq0 => (zP_let (P := (fun (b : TW) => FL fl w0 b)) (fun (b : TW × Int32) => FL fl w0 b.1) (flr_X8_takeIntoWindows _ _ _ _ _ _ _ _ _ _ h) (fun w5 h8_ => (zP_ifd (P := (fun (b : TW) => FL fl w0 b)) (fun hq1 => h8_) (fun hq1 => (zP_let (P := (fun (b : TW) => FL fl w0 b)) (fun (b : TW) => FL fl w0 b) (FL.set (by decide) h8_) (fun w7 h8__ => h8__))))))))
theorem flr_X8_takeIntoSession (S : TS) (fl : Nat) (k : Nat) (l1 : Int64) (ky : Int32) (tm : Int32) {w0 : TW} : ∀ (n : Nat) (b : Int32) (bg : Int32) (en : Int32) (lt : Int32) (ac : Int64) (w : TW) (h : FL fl w0 w), FL fl w0 (r_X8_takeIntoSession S fl k l1 ky tm n b bg en lt ac w).1 := by
  intro n
  induction n with
  | zero => intro b bg en lt ac w h; exact h
  | succ n ih =>
    intro b bg en lt ac w h
    rw [er_X8_takeIntoSession]
    exact (zP_ifd (P := (fun (b : TW × Int32 × Int32 × Int32 × Int64) => FL fl w0 b.1)) (fun hq0 => (zP_ifd (P := (fun (b : TW × Int32 × Int32 × Int32 × Int64) => FL fl w0 b.1)) (fun hq1 => (ih _ _ _ _ _ _ h)) (fun hq1 => (zP_ifd (P := (fun (b : TW × Int32 × Int32 × Int32 × Int64) => FL fl w0 b.1)) (fun hq2 => (ih _ _ _ _ _ _ h)) (fun hq2 => (zP_let (P := (fun (b : TW × Int32 × Int32 × Int32 × Int64) => FL fl w0 b.1)) (fun (b : TW) => FL fl w0 b) (fl_X7_remove _ _ _ _ _ _ h) (fun w4 h8_ => (ih _ _ _ _ _ _ h8_)))))))) (fun hq0 => (ih _ _ _ _ _ _ h)))
theorem fl_X8_takeIntoSession (S : TS) (w : TW) (fl : Nat) (k : Nat) (l1 : Int64) {w0 : TW} (h : FL fl w0 w) : FL fl w0 (w_X8_takeIntoSession S w fl k l1) := by
  unfold w_X8_takeIntoSession
  exact (zP_ifd (P := (fun (b : TW) => FL fl w0 b)) (fun hq0 => (zP_let (P := (fun (b : TW) => FL fl w0 b)) (fun (b : TW × Int32 × Int32 × Int32 × Int64) => FL fl w0 b.1) (flr_X8_takeIntoSession _ _ _ _ _ _ _ _ _ _ _ _ _ h) (fun w2 h8_ => (zP_ifd (P := (fun (b : TW) => FL fl w0 b)) (fun hq1 => (zP_let (P := (fun (b : TW) => FL fl w0 b)) (fun (b : TW) => FL fl w0 b) (fl_X7_insert _ _ _ _ _ _ _ h8_) (fun w4 h8__ => h8__))) (fun hq1 => (zP_let (P := (fun (b : TW) => FL fl w0 b)) (fun (b : TW) => FL fl w0 b) (FL.set (by decide) h8_) (fun w5 h8__ => h8__))))))) (fun hq0 => (zP_let (P := (fun (b : TW) => FL fl w0 b)) (fun (b : TW × Int32 × Int32 × Int32 × Int64) => FL fl w0 b.1) (flr_X8_takeIntoSession _ _ _ _ _ _ _ _ _ _ _ _ _ h) (fun w6 h8_ => (zP_ifd (P := (fun (b : TW) => FL fl w0 b)) (fun hq1 => (zP_let (P := (fun (b : TW) => FL fl w0 b)) (fun (b : TW) => FL fl w0 b) (fl_X7_insert _ _ _ _ _ _ _ h8_) (fun w8 h8__ => h8__))) (fun hq1 => (zP_let (P := (fun (b : TW) => FL fl w0 b)) (fun (b : TW) => FL fl w0 b) (FL.set (by decide) h8_) (fun w9 h8__ => h8__))))))))
theorem flr_X8_takeIntoJoin (S : TS) (fl : Nat) (k : Nat) (l1 : Int64) (i1 : Int32) (xr : Nat) {w0 : TW} : ∀ (n : Nat) (i : Nat) (w : TW) (h : FL fl w0 w), FL fl w0 (r_X8_takeIntoJoin S fl k l1 i1 xr n i w) := by
  intro n
  induction n with
  | zero => intro i w h; exact h
  | succ n ih =>
    intro i w h
    rw [er_X8_takeIntoJoin]
    exact (zP_ifd (P := (fun (b : TW) => FL fl w0 b)) (fun hq0 => h) (fun hq0 => (zP_ifd (P := (fun (b : TW) => FL fl w0 b)) (fun hq1 => (zP_ifd (P := (fun (b : TW) => FL fl w0 b)) (fun hq2 => (ih _ _ h)) (fun hq2 => (zP_let (P := (fun (b : TW) => FL fl w0 b)) (fun (b : TW) => FL fl w0 b) (fl_X8_emit _ _ _ _ _ h) (fun w4 h8_ => (ih _ _ h8_)))))) (fun hq1 => (zP_ifd (P := (fun (b : TW) => FL fl w0 b)) (fun hq2 => (ih _ _ h)) (fun hq2 => (zP_let (P := (fun (b : TW) => FL fl w0 b)) (fun (b : TW) => FL fl w0 b) (fl_X8_emit _ _ _ _ _ h) (fun w6 h8_ => (ih _ _ h8_)))))))))
theorem fl_X8_takeIntoJoin (S : TS) (w : TW) (fl : Nat) (k : Nat) (l1 : Int64) (i1 : Int32) {w0 : TW} (h : FL fl w0 w) : FL fl w0 (w_X8_takeIntoJoin S w fl k l1 i1) := by
  unfold w_X8_takeIntoJoin
  exact (zP_ifd (P := (fun (b : TW) => FL fl w0 b)) (fun hq0 => (zP_ifd (P := (fun (b : TW) => FL fl w0 b)) (fun hq1 => (zP_let (P := (fun (b : TW) => FL fl w0 b)) (fun (b : TW) => FL fl w0 b) (flr_X8_takeIntoJoin _ _ _ _ _ _ _ _ _ h) (fun w3 h8_ => (zP_let (P := (fun (b : TW) => FL fl w0 b)) (fun (b : TW) => FL fl w0 b) (FL.row (by exact Or.inl ⟨_, _, by omega, rfl⟩) h8_) (fun w4 h8__ => (zP_ifd (P := (fun (b : TW) => FL fl w0 b)) (fun hq2 => h8__) (fun hq2 => (zP_let (P := (fun (b : TW) => FL fl w0 b)) (fun (b : TW) => FL fl w0 b) (FL.row (by exact Or.inl ⟨_, _, by omega, rfl⟩) h8__) (fun w6 h8___ => h8___))))))))) (fun hq1 => (zP_let (P := (fun (b : TW) => FL fl w0 b)) (fun (b : TW) => FL fl w0 b) (flr_X8_takeIntoJoin _ _ _ _ _ _ _ _ _ h) (fun w7 h8_ => (zP_let (P := (fun (b : TW) => FL fl w0 b)) (fun (b : TW) => FL fl w0 b) (FL.row (by exact Or.inl ⟨_, _, by omega, rfl⟩) h8_) (fun w8 h8__ => (zP_ifd (P := (fun (b : TW) => FL fl w0 b)) (fun hq2 => h8__) (fun hq2 => (zP_let (P := (fun (b : TW) => FL fl w0 b)) (fun (b : TW) => FL fl w0 b) (FL.row (by exact Or.inl ⟨_, _, by omega, rfl⟩) h8__) (fun w10 h8___ => h8___))))))))))) (fun hq0 => (zP_let (P := (fun (b : TW) => FL fl w0 b)) (fun (b : TW) => FL fl w0 b) (FL.set (by decide) h) (fun w11 h8_ => h8_))))
theorem fl_X8_takeEvent (S : TS) (w : TW) (fl : Nat) (k : Nat) (l1 : Int64) (i1 : Int32) {w0 : TW} (h : FL fl w0 w) : FL fl w0 (w_X8_takeEvent S w fl k l1 i1) := by
  unfold w_X8_takeEvent
  exact (zP_let (P := (fun (b : TW) => FL fl w0 b)) (fun (b : TW) => FL fl w0 b) (FL.set (by decide) h) (fun w1 h8_ => (zP_ifd (P := (fun (b : TW) => FL fl w0 b)) (fun hq0 => (zP_ifd (P := (fun (b : TW) => FL fl w0 b)) (fun hq1 => h8_) (fun hq1 => (zP_let (P := (fun (b : TW) => FL fl w0 b)) (fun (b : TW) => FL fl w0 b) (fl_X8_emit _ _ _ _ _ h8_) (fun w4 h8__ => h8__))))) (fun hq0 => (zP_ifd (P := (fun (b : TW) => FL fl w0 b)) (fun hq1 => (zP_let (P := (fun (b : TW) => FL fl w0 b)) (fun (b : TW) => FL fl w0 b) (fl_X8_emit _ _ _ _ _ h8_) (fun w6 h8__ => h8__))) (fun hq1 => (zP_ifd (P := (fun (b : TW) => FL fl w0 b)) (fun hq2 => (zP_let (P := (fun (b : TW) => FL fl w0 b)) (fun (b : TW) => FL fl w0 b) (fl_X8_takeIntoWindows _ _ _ _ _ h8_) (fun w8 h8__ => h8__))) (fun hq2 => (zP_ifd (P := (fun (b : TW) => FL fl w0 b)) (fun hq3 => (zP_let (P := (fun (b : TW) => FL fl w0 b)) (fun (b : TW) => FL fl w0 b) (fl_X8_takeIntoSession _ _ _ _ _ h8_) (fun w10 h8__ => h8__))) (fun hq3 => (zP_ifd (P := (fun (b : TW) => FL fl w0 b)) (fun hq4 => (zP_let (P := (fun (b : TW) => FL fl w0 b)) (fun (b : TW) => FL fl w0 b) (fl_X8_takeIntoJoin _ _ _ _ _ _ h8_) (fun w12 h8__ => h8__))) (fun hq4 => (zP_ifd (P := (fun (b : TW) => FL fl w0 b)) (fun hq5 => (zP_let (P := (fun (b : TW) => FL fl w0 b)) (fun (b : TW) => FL fl w0 b) (fl_X8_emit _ _ _ _ _ h8_) (fun w14 h8__ => h8__))) (fun hq5 => (zP_let (P := (fun (b : TW) => FL fl w0 b)) (fun (b : TW) => FL fl w0 b) (fl_X8_putOut _ _ _ _ _ h8_) (fun w15 h8__ => h8__))))))))))))))))
theorem fl_X8_leastMark (S : TS) (w : TW) (fl : Nat) (k : Nat) (i1 : Int32) (i2 : Int32) {w0 : TW} (h : FL fl w0 w) : FL fl w0 (w_X8_leastMark S w fl k i1 i2).1 := by
  unfold w_X8_leastMark
  exact (zP_ifd (P := (fun (b : TW × Int32) => FL fl w0 b.1)) (fun hq0 => (zP_let (P := (fun (b : TW × Int32) => FL fl w0 b.1)) (fun (b : TW) => FL fl w0 b) (FL.set (by decide) h) (fun w2 h8_ => (zP_ifd (P := (fun (b : TW × Int32) => FL fl w0 b.1)) (fun hq1 => h8_) (fun hq1 => h8_))))) (fun hq0 => (zP_let (P := (fun (b : TW × Int32) => FL fl w0 b.1)) (fun (b : TW) => FL fl w0 b) (FL.set (by decide) h) (fun w4 h8_ => (zP_ifd (P := (fun (b : TW × Int32) => FL fl w0 b.1)) (fun hq1 => h8_) (fun hq1 => h8_))))))
theorem flr_X8_fireFrom (S : TS) (fl : Nat) (k : Nat) (st : Nat) {w0 : TW} : ∀ (n : Nat) (i : Nat) (w : TW) (h : FL fl w0 w), FL fl w0 (r_X8_fireFrom S fl k st n i w) := by
  intro n
  induction n with
  | zero => intro i w h; exact h
  | succ n ih =>
    intro i w h
    rw [er_X8_fireFrom]
    exact (zP_let (P := (fun (b : TW) => FL fl w0 b)) (fun (b : TW) => FL fl w0 b) (fl_X8_fire _ _ _ _ _ h) (fun w1 h8_ => (ih _ _ h8_)))
theorem fl_X8_fireFrom (S : TS) (w : TW) (fl : Nat) (k : Nat) (i1 : Int32) {w0 : TW} (h : FL fl w0 w) : FL fl w0 (w_X8_fireFrom S w fl k i1) := by
  unfold w_X8_fireFrom
  exact (zP_let (P := (fun (b : TW) => FL fl w0 b)) (fun (b : TW) => FL fl w0 b) (flr_X8_fireFrom _ _ _ _ _ _ _ h) (fun w1 h8_ => (zP_let (P := (fun (b : TW) => FL fl w0 b)) (fun (b : TW) => FL fl w0 b) (fl_X7_remove _ _ _ _ _ _ h8_) (fun w2 h8__ => h8__))))
theorem flr_X8_forgetBelow (S : TS) (i : Nat) (i1 : Int32) {w0 : TW} {fl : Nat} (hi : OwnF fl i) : ∀ (n : Nat) (b : Int32) (w : TW) (h : FL fl w0 w), FL fl w0 (r_X8_forgetBelow S i i1 n b w) := by
  intro n
  induction n with
  | zero => intro b w h; exact h
  | succ n ih =>
    intro b w h
    rw [er_X8_forgetBelow]
    exact (zP_ifd (P := (fun (b : TW) => FL fl w0 b)) (fun hq0 => (ih _ _ h)) (fun hq0 => (zP_let (P := (fun (b : TW) => FL fl w0 b)) (fun (b : TW) => FL fl w0 b) (FL.row hi h) (fun w2 h8_ => (ih _ _ h8_)))))
theorem fl_X8_forgetBelow (S : TS) (w : TW) (i : Nat) (i1 : Int32) {w0 : TW} {fl : Nat} (hi : OwnF fl i) (h : FL fl w0 w) : FL fl w0 (w_X8_forgetBelow S w i i1) := by
  unfold w_X8_forgetBelow
  exact (zP_let (P := (fun (b : TW) => FL fl w0 b)) (fun (b : TW) => FL fl w0 b) (flr_X8_forgetBelow _ _ _ hi _ _ _ h) (fun w1 h8_ => h8_))
theorem fl_X8_raiseMark (S : TS) (w : TW) (fl : Nat) (k : Nat) (i1 : Int32) {w0 : TW} (h : FL fl w0 w) : FL fl w0 (w_X8_raiseMark S w fl k i1) := by
  unfold w_X8_raiseMark
  exact (zP_ifd (P := (fun (b : TW) => FL fl w0 b)) (fun hq0 => (zP_let (P := (fun (b : TW) => FL fl w0 b)) (fun (b : TW) => FL fl w0 b) (FL.set (by decide) h) (fun w2 h8_ => (zP_ifd (P := (fun (b : TW) => FL fl w0 b)) (fun hq1 => (zP_let (P := (fun (b : TW) => FL fl w0 b)) (fun (b : TW) => FL fl w0 b) (fl_X8_fireFrom _ _ _ _ _ h8_) (fun w4 h8__ => (zP_let (P := (fun (b : TW) => FL fl w0 b)) (fun (b : TW) => FL fl w0 b) (fl_X8_emit _ _ _ _ _ h8__) (fun w5 h8___ => h8___))))) (fun hq1 => (zP_ifd (P := (fun (b : TW) => FL fl w0 b)) (fun hq2 => (zP_let (P := (fun (b : TW) => FL fl w0 b)) (fun (b : TW) => FL fl w0 b) (fl_X8_fireFrom _ _ _ _ _ h8_) (fun w7 h8__ => (zP_let (P := (fun (b : TW) => FL fl w0 b)) (fun (b : TW) => FL fl w0 b) (fl_X8_emit _ _ _ _ _ h8__) (fun w8 h8___ => h8___))))) (fun hq2 => (zP_ifd (P := (fun (b : TW) => FL fl w0 b)) (fun hq3 => (zP_let (P := (fun (b : TW) => FL fl w0 b)) (fun (b : TW) => FL fl w0 b) (fl_X8_forgetBelow _ _ _ _ (Or.inl ⟨_, _, by omega, rfl⟩) h8_) (fun w10 h8__ => (zP_let (P := (fun (b : TW) => FL fl w0 b)) (fun (b : TW) => FL fl w0 b) (fl_X8_forgetBelow _ _ _ _ (Or.inl ⟨_, _, by omega, rfl⟩) h8__) (fun w11 h8___ => (zP_let (P := (fun (b : TW) => FL fl w0 b)) (fun (b : TW) => FL fl w0 b) (fl_X8_emit _ _ _ _ _ h8___) (fun w12 h8____ => h8____))))))) (fun hq3 => (zP_let (P := (fun (b : TW) => FL fl w0 b)) (fun (b : TW) => FL fl w0 b) (fl_X8_emit _ _ _ _ _ h8_) (fun w13 h8__ => h8__))))))))))) (fun hq0 => h))
theorem fl_X8_adoptSaved (S : TS) (w : TW) (fl : Nat) (k : Nat) {w0 : TW} (h : FL fl w0 w) : FL fl w0 (w_X8_adoptSaved S w fl k) := by
  unfold w_X8_adoptSaved
  exact (zP_let (P := (fun (b : TW) => FL fl w0 b)) (fun (b : TW) => FL fl w0 b) (FL.sav h) (fun w1 h8_ => (zP_let (P := (fun (b : TW) => FL fl w0 b)) (fun (b : TW) => FL fl w0 b) (FL.sav h8_) (fun w2 h8__ => h8__))))
theorem fl_X8_goBack (S : TS) (w : TW) (fl : Nat) (k : Nat) {w0 : TW} (h : FL fl w0 w) : FL fl w0 (w_X8_goBack S w fl k) := by
  unfold w_X8_goBack
  exact (zP_let (P := (fun (b : TW) => FL fl w0 b)) (fun (b : TW) => FL fl w0 b) (fl_X9_become _ _ _ _ _ _ h) (fun w1 h8_ => (zP_let (P := (fun (b : TW) => FL fl w0 b)) (fun (b : TW) => FL fl w0 b) (FL.row (by exact Or.inr (Or.inr ⟨_, rfl⟩)) h8_) (fun w2 h8__ => (zP_let (P := (fun (b : TW) => FL fl w0 b)) (fun (b : TW) => FL fl w0 b) (fl_X4_empty _ _ _ _ h8__) (fun w3 h8___ => (zP_let (P := (fun (b : TW) => FL fl w0 b)) (fun (b : TW) => FL fl w0 b) (FL.set (by decide) h8___) (fun w4 h8____ => h8____))))))))
theorem fl_X8_become (S : TS) (w : TW) (fl : Nat) (k : Nat) (fl2 : Nat) {w0 : TW} (h : FL fl w0 w) : FL fl w0 (w_X8_become S w fl k fl2) := by
  unfold w_X8_become
  exact (zP_let (P := (fun (b : TW) => FL fl w0 b)) (fun (b : TW) => FL fl w0 b) (fl_X9_become _ _ _ _ _ _ h) (fun w1 h8_ => (zP_let (P := (fun (b : TW) => FL fl w0 b)) (fun (b : TW) => FL fl w0 b) (fl_X4_become _ _ _ _ _ h8_) (fun w2 h8__ => (zP_let (P := (fun (b : TW) => FL fl w0 b)) (fun (b : TW) => FL fl w0 b) (FL.set (by decide) h8__) (fun w3 h8___ => (zP_let (P := (fun (b : TW) => FL fl w0 b)) (fun (b : TW) => FL fl w0 b) (FL.set (by decide) h8___) (fun w4 h8____ => h8____))))))))
theorem flr_X2_completeCheckpoint (S : TS) (fl : Nat) {w0 : TW} : ∀ (n : Nat) (i : Nat) (w : TW) (h : FL fl w0 w), FL fl w0 (r_X2_completeCheckpoint S fl n i w) := by
  intro n
  induction n with
  | zero => intro i w h; exact h
  | succ n ih =>
    intro i w h
    rw [er_X2_completeCheckpoint]
    exact (zP_let (P := (fun (b : TW) => FL fl w0 b)) (fun (b : TW) => FL fl w0 b) (fl_X8_adoptSaved _ _ _ _ h) (fun w1 h8_ => (ih _ _ h8_)))
theorem fl_X2_completeCheckpoint (S : TS) (w : TW) (fl : Nat) {w0 : TW} (h : FL fl w0 w) : FL fl w0 (w_X2_completeCheckpoint S w fl) := by
  unfold w_X2_completeCheckpoint
  exact (zP_let (P := (fun (b : TW) => FL fl w0 b)) (fun (b : TW) => FL fl w0 b) (flr_X2_completeCheckpoint _ _ _ _ _ h) (fun w1 h8_ => (zP_let (P := (fun (b : TW) => FL fl w0 b)) (fun (b : TW) => FL fl w0 b) (FL.set (by decide) h8_) (fun w2 h8__ => (zP_let (P := (fun (b : TW) => FL fl w0 b)) (fun (b : TW) => FL fl w0 b) (FL.set (by decide) h8__) (fun w3 h8___ => h8___))))))
theorem fl_X2_passBarrier (S : TS) (w : TW) (fl : Nat) (k : Nat) {w0 : TW} (h : FL fl w0 w) : FL fl w0 (w_X2_passBarrier S w fl k) := by
  unfold w_X2_passBarrier
  exact (zP_let (P := (fun (b : TW) => FL fl w0 b)) (fun (b : TW) => FL fl w0 b) (FL.set (by decide) h) (fun w1 h8_ => (zP_let (P := (fun (b : TW) => FL fl w0 b)) (fun (b : TW) => FL fl w0 b) (fl_X8_emit _ _ _ _ _ h8_) (fun w2 h8__ => (zP_ifd (P := (fun (b : TW) => FL fl w0 b)) (fun hq0 => (zP_let (P := (fun (b : TW) => FL fl w0 b)) (fun (b : TW) => FL fl w0 b) (fl_X9_become _ _ _ _ _ _ h8__) (fun w4 h8___ => (zP_let (P := (fun (b : TW) => FL fl w0 b)) (fun (b : TW) => FL fl w0 b) (FL.set (by decide) h8___) (fun w5 h8____ => (zP_ifd (P := (fun (b : TW) => FL fl w0 b)) (fun hq1 => (zP_let (P := (fun (b : TW) => FL fl w0 b)) (fun (b : TW) => FL fl w0 b) (fl_X2_completeCheckpoint _ _ _ h8____) (fun w7 h8_____ => h8_____))) (fun hq1 => h8____))))))) (fun hq0 => h8__))))))
theorem fl_X2_takeBarrierN (S : TS) (w : TW) (fl : Nat) (k : Nat) (kd : Nat) {w0 : TW} (h : FL fl w0 w) : FL fl w0 (w_X2_takeBarrierN S w fl k kd) := by
  unfold w_X2_takeBarrierN
  exact (zP_let (P := (fun (b : TW) => FL fl w0 b)) (fun (b : TW) => FL fl w0 b) (fl_X2_passBarrier _ _ _ _ h) (fun w1 h8_ => h8_))
theorem fl_X2_takeBarrier (S : TS) (w : TW) (fl : Nat) (k : Nat) (kd : Nat) (kd2 : Nat) {w0 : TW} (h45 : ¬ (kd = 7 ∨ kd = 8)) (h452 : ¬ (kd2 = 7 ∨ kd2 = 8)) (h : FL fl w0 w) : FL fl w0 (w_X2_takeBarrier S w fl k kd kd2) := by
  unfold w_X2_takeBarrier
  exact (zP_ifd (P := (fun (b : TW) => FL fl w0 b)) (fun hq0 => (zP_let (P := (fun (b : TW) => FL fl w0 b)) (fun (b : TW) => FL fl w0 b) (FL.set h45 h) (fun w2 h8_ => h8_))) (fun hq0 => (zP_let (P := (fun (b : TW) => FL fl w0 b)) (fun (b : TW) => FL fl w0 b) (FL.set h452 h) (fun w3 h8_ => (zP_let (P := (fun (b : TW) => FL fl w0 b)) (fun (b : TW) => FL fl w0 b) (fl_X2_passBarrier _ _ _ _ h8_) (fun w4 h8__ => h8__))))))
theorem fl_X2_step (S : TS) (w : TW) (fl : Nat) (k : Nat) {w0 : TW} (h : FL fl w0 w) : FL fl w0 (w_X2_step S w fl k).1 := by
  unfold w_X2_step
  exact (zP_let (P := (fun (b : TW × Int32) => FL fl w0 b.1)) (fun (b : TW) => FL fl w0 b) (FL.set (by decide) h) (fun w1 h8_ => (zP_let (P := (fun (b : TW × Int32) => FL fl w0 b.1)) (fun (b : TW) => FL fl w0 b) (fl_X4_forgetGiven _ _ _ _ h8_) (fun w2 h8__ => (zP_ifd (P := (fun (b : TW × Int32) => FL fl w0 b.1)) (fun hq0 => (zP_ifd (P := (fun (b : TW × Int32) => FL fl w0 b.1)) (fun hq1 => (zP_let (P := (fun (b : TW × Int32) => FL fl w0 b.1)) (fun (b : TW × Int32) => FL fl w0 b.1) (fl_X8_read _ _ _ _ h8__) (fun w5 h8___ => (zP_let (P := (fun (b : TW × Int32) => FL fl w0 b.1)) (fun (b : TW) => FL fl w0 b) (fl_X8_raiseMark _ _ _ _ _ h8___) (fun w6 h8____ => h8____))))) (fun hq1 => (zP_let (P := (fun (b : TW × Int32) => FL fl w0 b.1)) (fun (b : TW) => FL fl w0 b) (fl_X2_passBarrier _ _ _ _ h8__) (fun w7 h8___ => h8___))))) (fun hq0 => (zP_ifd (P := (fun (b : TW × Int32) => FL fl w0 b.1)) (fun hq1 => (zP_ifd (P := (fun (b : TW × Int32) => FL fl w0 b.1)) (fun hq2 => (zP_ifd (P := (fun (b : TW × Int32) => FL fl w0 b.1)) (fun hq3 => h8__) (fun hq3 => (zP_let (P := (fun (b : TW × Int32) => FL fl w0 b.1)) (fun (b : TW × Int64) => FL fl w0 b.1) (fl_X1_give _ _ _ _ _ (by decide) h8__) (fun w11 h8___ => (zP_let (P := (fun (b : TW × Int32) => FL fl w0 b.1)) (fun (b : TW) => FL fl w0 b) (FL.set (by decide) h8___) (fun w12 h8____ => (zP_ifd (P := (fun (b : TW × Int32) => FL fl w0 b.1)) (fun hq4 => (zP_let (P := (fun (b : TW × Int32) => FL fl w0 b.1)) (fun (b : TW) => FL fl w0 b) (fl_X8_takeEvent _ _ _ _ _ _ h8____) (fun w14 h8_____ => h8_____))) (fun hq4 => (zP_ifd (P := (fun (b : TW × Int32) => FL fl w0 b.1)) (fun hq5 => (zP_let (P := (fun (b : TW × Int32) => FL fl w0 b.1)) (fun (b : TW × Int32) => FL fl w0 b.1) (fl_X8_leastMark _ _ _ _ _ _ h8____) (fun w16 h8_____ => (zP_let (P := (fun (b : TW × Int32) => FL fl w0 b.1)) (fun (b : TW) => FL fl w0 b) (fl_X8_raiseMark _ _ _ _ _ h8_____) (fun w17 h8______ => h8______))))) (fun hq5 => (zP_ifd (P := (fun (b : TW × Int32) => FL fl w0 b.1)) (fun hq6 => (zP_let (P := (fun (b : TW × Int32) => FL fl w0 b.1)) (fun (b : TW) => FL fl w0 b) (fl_X2_takeBarrier _ _ _ _ _ _ (by decide) (by decide) h8____) (fun w19 h8_____ => h8_____))) (fun hq6 => (zP_let (P := (fun (b : TW × Int32) => FL fl w0 b.1)) (fun (b : TW) => FL fl w0 b) (fl_X2_takeBarrierN _ _ _ _ _ h8____) (fun w20 h8_____ => h8_____))))))))))))))) (fun hq2 => h8__))) (fun hq1 => (zP_ifd (P := (fun (b : TW × Int32) => FL fl w0 b.1)) (fun hq2 => (zP_ifd (P := (fun (b : TW × Int32) => FL fl w0 b.1)) (fun hq3 => h8__) (fun hq3 => (zP_let (P := (fun (b : TW × Int32) => FL fl w0 b.1)) (fun (b : TW × Int64) => FL fl w0 b.1) (fl_X1_give _ _ _ _ _ (by decide) h8__) (fun w23 h8___ => (zP_let (P := (fun (b : TW × Int32) => FL fl w0 b.1)) (fun (b : TW) => FL fl w0 b) (FL.set (by decide) h8___) (fun w24 h8____ => (zP_ifd (P := (fun (b : TW × Int32) => FL fl w0 b.1)) (fun hq4 => (zP_let (P := (fun (b : TW × Int32) => FL fl w0 b.1)) (fun (b : TW) => FL fl w0 b) (fl_X8_takeEvent _ _ _ _ _ _ h8____) (fun w26 h8_____ => h8_____))) (fun hq4 => (zP_ifd (P := (fun (b : TW × Int32) => FL fl w0 b.1)) (fun hq5 => (zP_let (P := (fun (b : TW × Int32) => FL fl w0 b.1)) (fun (b : TW × Int32) => FL fl w0 b.1) (fl_X8_leastMark _ _ _ _ _ _ h8____) (fun w28 h8_____ => (zP_let (P := (fun (b : TW × Int32) => FL fl w0 b.1)) (fun (b : TW) => FL fl w0 b) (fl_X8_raiseMark _ _ _ _ _ h8_____) (fun w29 h8______ => h8______))))) (fun hq5 => (zP_ifd (P := (fun (b : TW × Int32) => FL fl w0 b.1)) (fun hq6 => (zP_let (P := (fun (b : TW × Int32) => FL fl w0 b.1)) (fun (b : TW) => FL fl w0 b) (fl_X2_takeBarrier _ _ _ _ _ _ (by decide) (by decide) h8____) (fun w31 h8_____ => h8_____))) (fun hq6 => (zP_let (P := (fun (b : TW × Int32) => FL fl w0 b.1)) (fun (b : TW) => FL fl w0 b) (fl_X2_takeBarrierN _ _ _ _ _ h8____) (fun w32 h8_____ => h8_____))))))))))))))) (fun hq2 => h8__))))))))))
theorem flr_X2_beginCheckpoint (S : TS) (fl : Nat) {w0 : TW} : ∀ (n : Nat) (i : Nat) (w : TW) (h : FL fl w0 w), FL fl w0 (r_X2_beginCheckpoint S fl n i w) := by
  intro n
  induction n with
  | zero => intro i w h; exact h
  | succ n ih =>
    intro i w h
    rw [er_X2_beginCheckpoint]
    exact (zP_ifd (P := (fun (b : TW) => FL fl w0 b)) (fun hq0 => (zP_let (P := (fun (b : TW) => FL fl w0 b)) (fun (b : TW) => FL fl w0 b) (FL.set (by decide) h) (fun w2 h8_ => (ih _ _ h8_)))) (fun hq0 => (zP_let (P := (fun (b : TW) => FL fl w0 b)) (fun (b : TW) => FL fl w0 b) (FL.set (by decide) h) (fun w3 h8_ => (ih _ _ h8_)))))
theorem fl_X2_beginCheckpoint (S : TS) (w : TW) (fl : Nat) {w0 : TW} (h : FL fl w0 w) : FL fl w0 (w_X2_beginCheckpoint S w fl).1 := by
  unfold w_X2_beginCheckpoint
  exact (zP_let (P := (fun (b : TW × Int32) => FL fl w0 b.1)) (fun (b : TW) => FL fl w0 b) (FL.set (by decide) h) (fun w1 h8_ => (zP_let (P := (fun (b : TW × Int32) => FL fl w0 b.1)) (fun (b : TW) => FL fl w0 b) (FL.set (by decide) h8_) (fun w2 h8__ => (zP_let (P := (fun (b : TW × Int32) => FL fl w0 b.1)) (fun (b : TW) => FL fl w0 b) (FL.set (by decide) h8__) (fun w3 h8___ => (zP_let (P := (fun (b : TW × Int32) => FL fl w0 b.1)) (fun (b : TW) => FL fl w0 b) (flr_X2_beginCheckpoint _ _ _ _ _ h8___) (fun w4 h8____ => h8____))))))))
theorem flr_X2_goBack (S : TS) (fl : Nat) {w0 : TW} : ∀ (n : Nat) (i : Nat) (w : TW) (h : FL fl w0 w), FL fl w0 (r_X2_goBack S fl n i w) := by
  intro n
  induction n with
  | zero => intro i w h; exact h
  | succ n ih =>
    intro i w h
    rw [er_X2_goBack]
    exact (zP_let (P := (fun (b : TW) => FL fl w0 b)) (fun (b : TW) => FL fl w0 b) (fl_X8_goBack _ _ _ _ h) (fun w1 h8_ => (ih _ _ h8_)))
theorem fl_X2_goBack (S : TS) (w : TW) (fl : Nat) {w0 : TW} (h : FL fl w0 w) : FL fl w0 (w_X2_goBack S w fl).1 := by
  unfold w_X2_goBack
  exact (zP_let (P := (fun (b : TW × Int32) => FL fl w0 b.1)) (fun (b : TW) => FL fl w0 b) (flr_X2_goBack _ _ _ _ _ h) (fun w1 h8_ => (zP_let (P := (fun (b : TW × Int32) => FL fl w0 b.1)) (fun (b : TW) => FL fl w0 b) (FL.set (by decide) h8_) (fun w2 h8__ => (zP_let (P := (fun (b : TW × Int32) => FL fl w0 b.1)) (fun (b : TW) => FL fl w0 b) (FL.set (by decide) h8__) (fun w3 h8___ => h8___))))))
theorem flr_X2_become (S : TS) (fl : Nat) (fl2 : Nat) {w0 : TW} : ∀ (n : Nat) (i : Nat) (w : TW) (h : FL fl w0 w), FL fl w0 (r_X2_become S fl fl2 n i w) := by
  intro n
  induction n with
  | zero => intro i w h; exact h
  | succ n ih =>
    intro i w h
    rw [er_X2_become]
    exact (zP_let (P := (fun (b : TW) => FL fl w0 b)) (fun (b : TW) => FL fl w0 b) (fl_X8_become _ _ _ _ _ h) (fun w1 h8_ => (ih _ _ h8_)))
theorem fl_X2_become (S : TS) (w : TW) (fl : Nat) (fl2 : Nat) {w0 : TW} (h : FL fl w0 w) : FL fl w0 (w_X2_become S w fl fl2) := by
  unfold w_X2_become
  exact (zP_let (P := (fun (b : TW) => FL fl w0 b)) (fun (b : TW) => FL fl w0 b) (FL.set (by decide) h) (fun w1 h8_ => (zP_let (P := (fun (b : TW) => FL fl w0 b)) (fun (b : TW) => FL fl w0 b) (FL.set (by decide) h8_) (fun w2 h8__ => (zP_let (P := (fun (b : TW) => FL fl w0 b)) (fun (b : TW) => FL fl w0 b) (flr_X2_become _ _ _ _ _ _ h8__) (fun w3 h8___ => h8___))))))
