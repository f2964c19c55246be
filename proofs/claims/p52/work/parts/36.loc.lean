/-! ===== what a stage's own methods leave alone ===== -/
def OwnR (fl k i : Nat) : Prop := i = rs 0 fl (3 * k) ∨ i = rs 1 fl (3 * k) ∨ i = rs 2 fl (3 * k) ∨ i = rs 3 fl (3 * k) ∨ i = ri fl k ∨ i = ro fl k
def Loc (fl k : Nat) (w b : TW) : Prop := b.2.1 = w.2.1 ∧ (∀ kd f a j, ¬ (kd = 0 ∧ f = fl ∧ a = 3 * k) → b.1 kd f a j = w.1 kd f a j) ∧ (∀ i, ¬ OwnR fl k i → b.2.2 i = w.2.2 i)
theorem Loc.rf {fl k : Nat} {w : TW} : Loc fl k w w := ⟨rfl, fun _ _ _ _ _ => rfl, fun _ _ => rfl⟩
theorem Loc.tr {fl k : Nat} {a b c : TW} (h : Loc fl k a b) (g : Loc fl k b c) : Loc fl k a c := ⟨g.1.trans h.1, fun kd f x j hn => (g.2.1 kd f x j hn).trans (h.2.1 kd f x j hn), fun i hn => (g.2.2 i hn).trans (h.2.2 i hn)⟩
theorem Loc.set {fl k kd f a j : Nat} {v : Int32} {w b : TW} (h0 : kd = 0 ∧ f = fl ∧ a = 3 * k) (h : Loc fl k w b) : Loc fl k w (zset b kd f a j v) := by
  refine ⟨h.1, fun kd' f' a' j' hn => ?_, h.2.2⟩
  rw [zset_F, if_neg (fun e => hn ⟨e.1.trans h0.1, e.2.1.trans h0.2.1, e.2.2.1.trans h0.2.2⟩)]
  exact h.2.1 kd' f' a' j' hn
theorem zrw_q {w : TW} {i : Nat} {p : Nat × List Int64} (j : Nat) : (zrw w i p).2.2 j = if j = i then p else w.2.2 j := rfl
theorem Loc.row {fl k i : Nat} {p : Nat × List Int64} {w b : TW} (h0 : OwnR fl k i) (h : Loc fl k w b) : Loc fl k w (zrw b i p) := by
  refine ⟨h.1, h.2.1, fun j hn => ?_⟩
  rw [zrw_q, if_neg (fun e => hn (by rw [e]; exact h0))]
  exact h.2.2 j hn
theorem loc_X7_insert {S : TS} {fl k : Nat} {w0 : TW} (w : TW) (j : Nat) (l1 l2 : Int64) (h : Loc fl k w0 w) : Loc fl k w0 (w_X7_insert S w fl (3 * k) j l1 l2) :=
  Loc.row (Or.inr (Or.inl rfl)) (Loc.row (Or.inl rfl) h)
theorem loc_X7_setAccount {S : TS} {fl k : Nat} {w0 : TW} (w : TW) (j : Nat) (l1 : Int64) (h : Loc fl k w0 w) : Loc fl k w0 (w_X7_setAccount S w fl (3 * k) j l1) :=
  Loc.row (Or.inr (Or.inl rfl)) h
theorem loc_X7_remove {S : TS} {fl k : Nat} {w0 : TW} (w : TW) (a b : Nat) (h : Loc fl k w0 w) : Loc fl k w0 (w_X7_remove S w fl (3 * k) a b) :=
  Loc.row (Or.inr (Or.inl rfl)) (Loc.row (Or.inl rfl) h)
theorem locr_X8_forgetBelow {S : TS} {fl k : Nat} {w0 : TW} (i : Nat) (i1 : Int32) (hi : OwnR fl k i) : ∀ (n : Nat) (b : Int32) (w : TW), Loc fl k w0 w → Loc fl k w0 (r_X8_forgetBelow S i i1 n b w) := by
  intro n
  induction n with
  | zero => intro b w h; exact h
  | succ n ih =>
    intro b w h
    rw [er_X8_forgetBelow]
    split
    · exact ih _ _ h
    · exact ih _ _ (Loc.row hi h)
theorem loc_X8_forgetBelow {S : TS} {fl k : Nat} {w0 : TW} (w : TW) (i : Nat) (i1 : Int32) (hi : OwnR fl k i) (h : Loc fl k w0 w) : Loc fl k w0 (w_X8_forgetBelow S w i i1) := locr_X8_forgetBelow i i1 hi _ _ w h
theorem loc_X8_emit (S : TS) (w : TW) (fl : Nat) (k : Nat) (l1 : Int64) {w0 : TW} (h : Loc fl k w0 w) : Loc fl k w0 (w_X8_emit S w fl k l1) := by
  unfold w_X8_emit
  exact (zP_ifd (P := (fun (b : TW) => Loc fl k w0 b)) (fun hq0 => (zP_let (P := (fun (b : TW) => Loc fl k w0 b)) (fun (b : TW) => Loc fl k w0 b) (Loc.set ⟨rfl, rfl, rfl⟩ h) (fun w2 h8_ => (zP_ifd (P := (fun (b : TW) => Loc fl k w0 b)) (fun hq1 => h8_) (fun hq1 => (zP_let (P := (fun (b : TW) => Loc fl k w0 b)) (fun (b : TW) => Loc fl k w0 b) (Loc.row (Or.inr (Or.inr (Or.inr (Or.inr (Or.inl rfl))))) h8_) (fun w4 h8__ => h8__))))))) (fun hq0 => (zP_ifd (P := (fun (b : TW) => Loc fl k w0 b)) (fun hq1 => h) (fun hq1 => (zP_let (P := (fun (b : TW) => Loc fl k w0 b)) (fun (b : TW) => Loc fl k w0 b) (Loc.row (Or.inr (Or.inr (Or.inr (Or.inr (Or.inl rfl))))) h) (fun w6 h8_ => h8_))))))
theorem loc_X8_read (S : TS) (w : TW) (fl : Nat) (k : Nat) {w0 : TW} (h : Loc fl k w0 w) : Loc fl k w0 (w_X8_read S w fl k).1 := by
  unfold w_X8_read
  exact (zP_ifd (P := (fun (b : TW × Int32) => Loc fl k w0 b.1)) (fun hq0 => (zP_let (P := (fun (b : TW × Int32) => Loc fl k w0 b.1)) (fun (b : TW) => Loc fl k w0 b) (Loc.set ⟨rfl, rfl, rfl⟩ h) (fun w2 h8_ => (zP_let (P := (fun (b : TW × Int32) => Loc fl k w0 b.1)) (fun (b : TW) => Loc fl k w0 b) (loc_X8_emit _ _ _ _ _ h8_) (fun w3 h8__ => h8__))))) (fun hq0 => h))
theorem loc_X8_putOut (S : TS) (w : TW) (fl : Nat) (k : Nat) (l1 : Int64) {w0 : TW} (h : Loc fl k w0 w) : Loc fl k w0 (w_X8_putOut S w fl k l1) := by
  unfold w_X8_putOut
  exact (zP_let (P := (fun (b : TW) => Loc fl k w0 b)) (fun (b : TW) => Loc fl k w0 b) (Loc.set ⟨rfl, rfl, rfl⟩ h) (fun w1 h8_ => (zP_ifd (P := (fun (b : TW) => Loc fl k w0 b)) (fun hq0 => (zP_let (P := (fun (b : TW) => Loc fl k w0 b)) (fun (b : TW) => Loc fl k w0 b) (Loc.row (Or.inr (Or.inr (Or.inr (Or.inr (Or.inr (rfl)))))) h8_) (fun w3 h8__ => h8__))) (fun hq0 => h8_))))
theorem loc_X8_takeIntoWindow (S : TS) (w : TW) (fl : Nat) (k : Nat) (l1 : Int64) (i1 : Int32) (i2 : Int32) {w0 : TW} (h : Loc fl k w0 w) : Loc fl k w0 (w_X8_takeIntoWindow S w fl k l1 i1 i2).1 := by
  unfold w_X8_takeIntoWindow
  exact (zP_ifd (P := (fun (b : TW × Int32) => Loc fl k w0 b.1)) (fun hq0 => (zP_let (P := (fun (b : TW × Int32) => Loc fl k w0 b.1)) (fun (b : TW) => Loc fl k w0 b) (loc_X7_insert _ _ _ _ h) (fun w2 h8_ => h8_))) (fun hq0 => (zP_let (P := (fun (b : TW × Int32) => Loc fl k w0 b.1)) (fun (b : TW) => Loc fl k w0 b) (loc_X7_setAccount _ _ _ h) (fun w3 h8_ => h8_))))
theorem loc_X8_fire (S : TS) (w : TW) (fl : Nat) (k : Nat) (i1 : Int32) {w0 : TW} (h : Loc fl k w0 w) : Loc fl k w0 (w_X8_fire S w fl k i1) := by
  unfold w_X8_fire
  exact (zP_let (P := (fun (b : TW) => Loc fl k w0 b)) (fun (b : TW) => Loc fl k w0 b) (loc_X8_emit _ _ _ _ _ h) (fun w1 h8_ => h8_))
theorem locr_X8_takeIntoWindows (S : TS) (fl : Nat) (k : Nat) (l1 : Int64) (tm : Int32) (lb : Int32) {w0 : TW} : ∀ (n : Nat) (b : Int32) (lt : Int32) (w : TW) (h : Loc fl k w0 w), Loc fl k w0 (r_X8_takeIntoWindows S fl k l1 tm lb n b lt w).1 := by
  intro n
  induction n with
  | zero => intro b lt w h; exact h
  | succ n ih =>
    intro b lt w h
    rw [er_X8_takeIntoWindows]
    exact (zP_ifd (P := (fun (b : TW × Int32) => Loc fl k w0 b.1)) (fun hq0 => (ih _ _ _ h)) (fun hq0 => (zP_ifd (P := (fun (b : TW × Int32) => Loc fl k w0 b.1)) (fun hq1 => (ih _ _ _ h)) (fun hq1 => (zP_let (P := (fun (b : TW × Int32) => Loc fl k w0 b.1)) (fun (b : TW × Int32) => Loc fl k w0 b.1) (loc_X8_takeIntoWindow _ _ _ _ _ _ _ h) (fun w3 h8_ => (zP_ifd (P := (fun (b : TW × Int32) => Loc fl k w0 b.1)) (fun hq2 => (ih _ _ _ h8_)) (fun hq2 => (zP_let (P := (fun (b : TW × Int32) => Loc fl k w0 b.1)) (fun (b : TW) => Loc fl k w0 b) (loc_X8_fire _ _ _ _ _ h8_) (fun w5 h8__ => (ih _ _ _ h8__)))))))))))
theorem loc_X8_takeIntoWindows (S : TS) (w : TW) (fl : Nat) (k : Nat) (l1 : Int64) {w0 : TW} (h : Loc fl k w0 w) : Loc fl k w0 (w_X8_takeIntoWindows S w fl k l1) := by
  unfold w_X8_takeIntoWindows
  exact (zP_ifd (P := (fun (b : TW) => Loc fl k w0 b)) (fun hq0 => (zP_let (P := (fun (b : TW) => Loc fl k w0 b)) (fun (b : TW × Int32) => Loc fl k w0 b.1) (locr_X8_takeIntoWindows _ _ _ _ _ _ _ _ _ _ h) (fun w2 h8_ => (zP_ifd (P := (fun (b : TW) => Loc fl k w0 b)) (fun hq1 => h8_) (fun hq1 => (zP_let (P := (fun (b : TW) => Loc fl k w0 b)) (fun (b : TW) => Loc fl k w0 b) (Loc.set ⟨rfl, rfl, rfl⟩ h8_) (fun w4 h8__ => h8__))))))) (fun hq0 => (zP_let (P := (fun (b : TW) => Loc fl k w0 b)) (fun (b : TW × Int32) => Loc fl k w0 b.1) (locr_X8_takeIntoWindows _ _ _ _ _ _ _ _ _ _ h) (fun w5 h8_ => (zP_ifd (P := (fun (b : TW) => Loc fl k w0 b)) (fun hq1 => h8_) (fun hq1 => (zP_let (P := (fun (b : TW) => Loc fl k w0 b)) (fun (b : TW) => Loc fl k w0 b) (Loc.set ⟨rfl, rfl, rfl⟩ h8_) (fun w7 h8__ => h8__))))))))
theorem locr_X8_takeIntoSession (S : TS) (fl : Nat) (k : Nat) (l1 : Int64) (ky : Int32) (tm : Int32) {w0 : TW} : ∀ (n : Nat) (b : Int32) (bg : Int32) (en : Int32) (lt : Int32) (ac : Int64) (w : TW) (h : Loc fl k w0 w), Loc fl k w0 (r_X8_takeIntoSession S fl k l1 ky tm n b bg en lt ac w).1 := by
  intro n
  induction n with
  | zero => intro b bg en lt ac w h; exact h
  | succ n ih =>
    intro b bg en lt ac w h
    rw [er_X8_takeIntoSession]
    exact (zP_ifd (P := (fun (b : TW × Int32 × Int32 × Int32 × Int64) => Loc fl k w0 b.1)) (fun hq0 => (zP_ifd (P := (fun (b : TW × Int32 × Int32 × Int32 × Int64) => Loc fl k w0 b.1)) (fun hq1 => (ih _ _ _ _ _ _ h)) (fun hq1 => (zP_ifd (P := (fun (b : TW × Int32 × Int32 × Int32 × Int64) => Loc fl k w0 b.1)) (fun hq2 => (ih _ _ _ _ _ _ h)) (fun hq2 => (zP_let (P := (fun (b : TW × Int32 × Int32 × Int32 × Int64) => Loc fl k w0 b.1)) (fun (b : TW) => Loc fl k w0 b) (loc_X7_remove _ _ _ h) (fun w4 h8_ => (ih _ _ _ _ _ _ h8_)))))))) (fun hq0 => (ih _ _ _ _ _ _ h)))
theorem loc_X8_takeIntoSession (S : TS) (w : TW) (fl : Nat) (k : Nat) (l1 : Int64) {w0 : TW} (h : Loc fl k w0 w) : Loc fl k w0 (w_X8_takeIntoSession S w fl k l1) := by
  unfold w_X8_takeIntoSession
  exact (zP_ifd (P := (fun (b : TW) => Loc fl k w0 b)) (fun hq0 => (zP_let (P := (fun (b : TW) => Loc fl k w0 b)) (fun (b : TW × Int32 × Int32 × Int32 × Int64) => Loc fl k w0 b.1) (locr_X8_takeIntoSession _ _ _ _ _ _ _ _ _ _ _ _ _ h) (fun w2 h8_ => (zP_ifd (P := (fun (b : TW) => Loc fl k w0 b)) (fun hq1 => (zP_let (P := (fun (b : TW) => Loc fl k w0 b)) (fun (b : TW) => Loc fl k w0 b) (loc_X7_insert _ _ _ _ h8_) (fun w4 h8__ => h8__))) (fun hq1 => (zP_let (P := (fun (b : TW) => Loc fl k w0 b)) (fun (b : TW) => Loc fl k w0 b) (Loc.set ⟨rfl, rfl, rfl⟩ h8_) (fun w5 h8__ => h8__))))))) (fun hq0 => (zP_let (P := (fun (b : TW) => Loc fl k w0 b)) (fun (b : TW × Int32 × Int32 × Int32 × Int64) => Loc fl k w0 b.1) (locr_X8_takeIntoSession _ _ _ _ _ _ _ _ _ _ _ _ _ h) (fun w6 h8_ => (zP_ifd (P := (fun (b : TW) => Loc fl k w0 b)) (fun hq1 => (zP_let (P := (fun (b : TW) => Loc fl k w0 b)) (fun (b : TW) => Loc fl k w0 b) (loc_X7_insert _ _ _ _ h8_) (fun w8 h8__ => h8__))) (fun hq1 => (zP_let (P := (fun (b : TW) => Loc fl k w0 b)) (fun (b : TW) => Loc fl k w0 b) (Loc.set ⟨rfl, rfl, rfl⟩ h8_) (fun w9 h8__ => h8__))))))))
theorem locr_X8_takeIntoJoin (S : TS) (fl : Nat) (k : Nat) (l1 : Int64) (i1 : Int32) (xr : Nat) {w0 : TW} : ∀ (n : Nat) (i : Nat) (w : TW) (h : Loc fl k w0 w), Loc fl k w0 (r_X8_takeIntoJoin S fl k l1 i1 xr n i w) := by
  intro n
  induction n with
  | zero => intro i w h; exact h
  | succ n ih =>
    intro i w h
    rw [er_X8_takeIntoJoin]
    exact (zP_ifd (P := (fun (b : TW) => Loc fl k w0 b)) (fun hq0 => h) (fun hq0 => (zP_ifd (P := (fun (b : TW) => Loc fl k w0 b)) (fun hq1 => (zP_ifd (P := (fun (b : TW) => Loc fl k w0 b)) (fun hq2 => (ih _ _ h)) (fun hq2 => (zP_let (P := (fun (b : TW) => Loc fl k w0 b)) (fun (b : TW) => Loc fl k w0 b) (loc_X8_emit _ _ _ _ _ h) (fun w4 h8_ => (ih _ _ h8_)))))) (fun hq1 => (zP_ifd (P := (fun (b : TW) => Loc fl k w0 b)) (fun hq2 => (ih _ _ h)) (fun hq2 => (zP_let (P := (fun (b : TW) => Loc fl k w0 b)) (fun (b : TW) => Loc fl k w0 b) (loc_X8_emit _ _ _ _ _ h) (fun w6 h8_ => (ih _ _ h8_)))))))))
theorem loc_X8_takeIntoJoin (S : TS) (w : TW) (fl : Nat) (k : Nat) (l1 : Int64) (i1 : Int32) {w0 : TW} (h : Loc fl k w0 w) : Loc fl k w0 (w_X8_takeIntoJoin S w fl k l1 i1) := by
  unfold w_X8_takeIntoJoin
  exact (zP_ifd (P := (fun (b : TW) => Loc fl k w0 b)) (fun hq0 => (zP_ifd (P := (fun (b : TW) => Loc fl k w0 b)) (fun hq1 => (zP_let (P := (fun (b : TW) => Loc fl k w0 b)) (fun (b : TW) => Loc fl k w0 b) (locr_X8_takeIntoJoin _ _ _ _ _ _ _ _ _ h) (fun w3 h8_ => (zP_let (P := (fun (b : TW) => Loc fl k w0 b)) (fun (b : TW) => Loc fl k w0 b) (Loc.row (Or.inr (Or.inr (Or.inl rfl))) h8_) (fun w4 h8__ => (zP_ifd (P := (fun (b : TW) => Loc fl k w0 b)) (fun hq2 => h8__) (fun hq2 => (zP_let (P := (fun (b : TW) => Loc fl k w0 b)) (fun (b : TW) => Loc fl k w0 b) (Loc.row (Or.inr (Or.inr (Or.inl rfl))) h8__) (fun w6 h8___ => h8___))))))))) (fun hq1 => (zP_let (P := (fun (b : TW) => Loc fl k w0 b)) (fun (b : TW) => Loc fl k w0 b) (locr_X8_takeIntoJoin _ _ _ _ _ _ _ _ _ h) (fun w7 h8_ => (zP_let (P := (fun (b : TW) => Loc fl k w0 b)) (fun (b : TW) => Loc fl k w0 b) (Loc.row (Or.inr (Or.inr (Or.inr (Or.inl rfl)))) h8_) (fun w8 h8__ => (zP_ifd (P := (fun (b : TW) => Loc fl k w0 b)) (fun hq2 => h8__) (fun hq2 => (zP_let (P := (fun (b : TW) => Loc fl k w0 b)) (fun (b : TW) => Loc fl k w0 b) (Loc.row (Or.inr (Or.inr (Or.inr (Or.inl rfl)))) h8__) (fun w10 h8___ => h8___))))))))))) (fun hq0 => (zP_let (P := (fun (b : TW) => Loc fl k w0 b)) (fun (b : TW) => Loc fl k w0 b) (Loc.set ⟨rfl, rfl, rfl⟩ h) (fun w11 h8_ => h8_))))
theorem loc_X8_takeEvent (S : TS) (w : TW) (fl : Nat) (k : Nat) (l1 : Int64) (i1 : Int32) {w0 : TW} (h : Loc fl k w0 w) : Loc fl k w0 (w_X8_takeEvent S w fl k l1 i1) := by
  unfold w_X8_takeEvent
  exact (zP_let (P := (fun (b : TW) => Loc fl k w0 b)) (fun (b : TW) => Loc fl k w0 b) (Loc.set ⟨rfl, rfl, rfl⟩ h) (fun w1 h8_ => (zP_ifd (P := (fun (b : TW) => Loc fl k w0 b)) (fun hq0 => (zP_ifd (P := (fun (b : TW) => Loc fl k w0 b)) (fun hq1 => h8_) (fun hq1 => (zP_let (P := (fun (b : TW) => Loc fl k w0 b)) (fun (b : TW) => Loc fl k w0 b) (loc_X8_emit _ _ _ _ _ h8_) (fun w4 h8__ => h8__))))) (fun hq0 => (zP_ifd (P := (fun (b : TW) => Loc fl k w0 b)) (fun hq1 => (zP_let (P := (fun (b : TW) => Loc fl k w0 b)) (fun (b : TW) => Loc fl k w0 b) (loc_X8_emit _ _ _ _ _ h8_) (fun w6 h8__ => h8__))) (fun hq1 => (zP_ifd (P := (fun (b : TW) => Loc fl k w0 b)) (fun hq2 => (zP_let (P := (fun (b : TW) => Loc fl k w0 b)) (fun (b : TW) => Loc fl k w0 b) (loc_X8_takeIntoWindows _ _ _ _ _ h8_) (fun w8 h8__ => h8__))) (fun hq2 => (zP_ifd (P := (fun (b : TW) => Loc fl k w0 b)) (fun hq3 => (zP_let (P := (fun (b : TW) => Loc fl k w0 b)) (fun (b : TW) => Loc fl k w0 b) (loc_X8_takeIntoSession _ _ _ _ _ h8_) (fun w10 h8__ => h8__))) (fun hq3 => (zP_ifd (P := (fun (b : TW) => Loc fl k w0 b)) (fun hq4 => (zP_let (P := (fun (b : TW) => Loc fl k w0 b)) (fun (b : TW) => Loc fl k w0 b) (loc_X8_takeIntoJoin _ _ _ _ _ _ h8_) (fun w12 h8__ => h8__))) (fun hq4 => (zP_ifd (P := (fun (b : TW) => Loc fl k w0 b)) (fun hq5 => (zP_let (P := (fun (b : TW) => Loc fl k w0 b)) (fun (b : TW) => Loc fl k w0 b) (loc_X8_emit _ _ _ _ _ h8_) (fun w14 h8__ => h8__))) (fun hq5 => (zP_let (P := (fun (b : TW) => Loc fl k w0 b)) (fun (b : TW) => Loc fl k w0 b) (loc_X8_putOut _ _ _ _ _ h8_) (fun w15 h8__ => h8__))))))))))))))))
theorem loc_X8_leastMark (S : TS) (w : TW) (fl : Nat) (k : Nat) (i1 : Int32) (i2 : Int32) {w0 : TW} (h : Loc fl k w0 w) : Loc fl k w0 (w_X8_leastMark S w fl k i1 i2).1 := by
  unfold w_X8_leastMark
  exact (zP_ifd (P := (fun (b : TW × Int32) => Loc fl k w0 b.1)) (fun hq0 => (zP_let (P := (fun (b : TW × Int32) => Loc fl k w0 b.1)) (fun (b : TW) => Loc fl k w0 b) (Loc.set ⟨rfl, rfl, rfl⟩ h) (fun w2 h8_ => (zP_ifd (P := (fun (b : TW × Int32) => Loc fl k w0 b.1)) (fun hq1 => h8_) (fun hq1 => h8_))))) (fun hq0 => (zP_let (P := (fun (b : TW × Int32) => Loc fl k w0 b.1)) (fun (b : TW) => Loc fl k w0 b) (Loc.set ⟨rfl, rfl, rfl⟩ h) (fun w4 h8_ => (zP_ifd (P := (fun (b : TW × Int32) => Loc fl k w0 b.1)) (fun hq1 => h8_) (fun hq1 => h8_))))))
theorem locr_X8_fireFrom (S : TS) (fl : Nat) (k : Nat) (st : Nat) {w0 : TW} : ∀ (n : Nat) (i : Nat) (w : TW) (h : Loc fl k w0 w), Loc fl k w0 (r_X8_fireFrom S fl k st n i w) := by
  intro n
  induction n with
  | zero => intro i w h; exact h
  | succ n ih =>
    intro i w h
    rw [er_X8_fireFrom]
    exact (zP_let (P := (fun (b : TW) => Loc fl k w0 b)) (fun (b : TW) => Loc fl k w0 b) (loc_X8_fire _ _ _ _ _ h) (fun w1 h8_ => (ih _ _ h8_)))
theorem loc_X8_fireFrom (S : TS) (w : TW) (fl : Nat) (k : Nat) (i1 : Int32) {w0 : TW} (h : Loc fl k w0 w) : Loc fl k w0 (w_X8_fireFrom S w fl k i1) := by
  unfold w_X8_fireFrom
  exact (zP_let (P := (fun (b : TW) => Loc fl k w0 b)) (fun (b : TW) => Loc fl k w0 b) (locr_X8_fireFrom _ _ _ _ _ _ _ h) (fun w1 h8_ => (zP_let (P := (fun (b : TW) => Loc fl k w0 b)) (fun (b : TW) => Loc fl k w0 b) (loc_X7_remove _ _ _ h8_) (fun w2 h8__ => h8__))))
theorem loc_X8_raiseMark (S : TS) (w : TW) (fl : Nat) (k : Nat) (i1 : Int32) {w0 : TW} (h : Loc fl k w0 w) : Loc fl k w0 (w_X8_raiseMark S w fl k i1) := by
  unfold w_X8_raiseMark
  exact (zP_ifd (P := (fun (b : TW) => Loc fl k w0 b)) (fun hq0 => (zP_let (P := (fun (b : TW) => Loc fl k w0 b)) (fun (b : TW) => Loc fl k w0 b) (Loc.set ⟨rfl, rfl, rfl⟩ h) (fun w2 h8_ => (zP_ifd (P := (fun (b : TW) => Loc fl k w0 b)) (fun hq1 => (zP_let (P := (fun (b : TW) => Loc fl k w0 b)) (fun (b : TW) => Loc fl k w0 b) (loc_X8_fireFrom _ _ _ _ _ h8_) (fun w4 h8__ => (zP_let (P := (fun (b : TW) => Loc fl k w0 b)) (fun (b : TW) => Loc fl k w0 b) (loc_X8_emit _ _ _ _ _ h8__) (fun w5 h8___ => h8___))))) (fun hq1 => (zP_ifd (P := (fun (b : TW) => Loc fl k w0 b)) (fun hq2 => (zP_let (P := (fun (b : TW) => Loc fl k w0 b)) (fun (b : TW) => Loc fl k w0 b) (loc_X8_fireFrom _ _ _ _ _ h8_) (fun w7 h8__ => (zP_let (P := (fun (b : TW) => Loc fl k w0 b)) (fun (b : TW) => Loc fl k w0 b) (loc_X8_emit _ _ _ _ _ h8__) (fun w8 h8___ => h8___))))) (fun hq2 => (zP_ifd (P := (fun (b : TW) => Loc fl k w0 b)) (fun hq3 => (zP_let (P := (fun (b : TW) => Loc fl k w0 b)) (fun (b : TW) => Loc fl k w0 b) (loc_X8_forgetBelow _ _ _ (Or.inr (Or.inr (Or.inl rfl))) h8_) (fun w10 h8__ => (zP_let (P := (fun (b : TW) => Loc fl k w0 b)) (fun (b : TW) => Loc fl k w0 b) (loc_X8_forgetBelow _ _ _ (Or.inr (Or.inr (Or.inr (Or.inl rfl)))) h8__) (fun w11 h8___ => (zP_let (P := (fun (b : TW) => Loc fl k w0 b)) (fun (b : TW) => Loc fl k w0 b) (loc_X8_emit _ _ _ _ _ h8___) (fun w12 h8____ => h8____))))))) (fun hq3 => (zP_let (P := (fun (b : TW) => Loc fl k w0 b)) (fun (b : TW) => Loc fl k w0 b) (loc_X8_emit _ _ _ _ _ h8_) (fun w13 h8__ => h8__))))))))))) (fun hq0 => h))
