/-! ===== rows: how long, how much room ===== -/
def RBd (B : Nat) (p : Nat × List Int64) : Prop := p.2.length ≤ B ∧ 8 ≤ p.1 ∧ p.2.length ≤ p.1 ∧ p.1 ≤ max 8 (2 * B)
theorem RBd.mono {A B : Nat} {p : Nat × List Int64} (h : RBd A p) (hab : A ≤ B) : RBd B p := by
  obtain ⟨h1, h2, h3, h4⟩ := h
  exact ⟨by omega, h2, h3, by omega⟩
theorem RBd.add {B : Nat} {p : Nat × List Int64} {v : Int64} (h : RBd B p) (hl : p.2.length < B) : RBd B (qadd p v) := by
  obtain ⟨h1, h2, h3, h4⟩ := h
  unfold qadd RBd
  simp only [List.length_append, List.length_cons, List.length_nil]
  split <;> refine ⟨by omega, by omega, by omega, by omega⟩
theorem ins_len {xs : List Int64} {j : Nat} {v : Int64} (h : j ≤ xs.length) : (xs.take j ++ v :: xs.drop j).length = xs.length + 1 := by
  rw [List.length_append, List.length_take, List.length_cons, List.length_drop]
  omega
theorem RBd.ins {B : Nat} {p : Nat × List Int64} {v : Int64} {j : Nat} (h : RBd B p) (hl : p.2.length < B) : RBd B (qins p j v) := by
  obtain ⟨h1, h2, h3, h4⟩ := h
  have e : (qins p j v).2.length ≤ p.2.length + 1 := by
    unfold qins
    by_cases hj : j ≤ p.2.length
    · simp only [if_pos hj]; rw [ins_len hj]; omega
    · simp only [if_neg hj]; omega
  have e1 : (qins p j v).1 = if p.2.length < p.1 then p.1 else 2 * p.1 := rfl
  by_cases hc : p.2.length < p.1
  · rw [if_pos hc] at e1
    exact ⟨by omega, by omega, by omega, by omega⟩
  · rw [if_neg hc] at e1
    exact ⟨by omega, by omega, by omega, by omega⟩
theorem rem_len {p : Nat × List Int64} {a b : Nat} : (qrem p a b).2.length = if a + b ≤ p.2.length then p.2.length - b else p.2.length := by
  unfold qrem
  split
  · show (p.2.take a ++ p.2.drop (a + b)).length = _
    rw [List.length_append, List.length_take, List.length_drop]
    omega
  · rfl
theorem rem_cap {p : Nat × List Int64} {a b : Nat} : (qrem p a b).1 = p.1 := by unfold qrem; split <;> rfl
theorem RBd.rem {B : Nat} {p : Nat × List Int64} {a b : Nat} (h : RBd B p) : RBd B (qrem p a b) := by
  obtain ⟨h1, h2, h3, h4⟩ := h
  have e := rem_len (p := p) (a := a) (b := b)
  have e1 := rem_cap (p := p) (a := a) (b := b)
  have : (qrem p a b).2.length ≤ p.2.length := by rw [e]; split <;> omega
  exact ⟨by omega, by omega, by omega, by omega⟩
theorem RBd.put {B : Nat} {p : Nat × List Int64} {j : Nat} {v : Int64} (h : RBd B p) : RBd B (qput p j v) := by
  obtain ⟨h1, h2, h3, h4⟩ := h
  have e : (qput p j v).2.length = p.2.length := by show (p.2.set j v).length = _; rw [List.length_set]
  exact ⟨by omega, h2, by rw [e]; exact h3, h4⟩
theorem sho_len {p : Nat × List Int64} {m : Int32} : (qsho p m).2.length ≤ p.2.length ∧ (qsho p m).1 = p.1 := by
  unfold qsho
  split
  · exact ⟨Nat.le_refl _, rfl⟩
  · refine ⟨?_, rfl⟩
    show (p.2.take _).length ≤ _
    rw [List.length_take]
    omega
theorem RBd.sho {B : Nat} {p : Nat × List Int64} {m : Int32} (h : RBd B p) : RBd B (qsho p m) := by
  obtain ⟨h1, h2, h3, h4⟩ := h
  obtain ⟨e, e1⟩ := sho_len (p := p) (m := m)
  exact ⟨by omega, by omega, by omega, by omega⟩
theorem bec_2 {p o : Nat × List Int64} {n : Nat} : (qbec p o n).2 = o.2.drop n := rfl
theorem RBd.bec {B : Nat} {p o : Nat × List Int64} {n : Nat} (h : RBd B p) (hl : o.2.length - n ≤ B) (hB : B ≤ 4194304) : RBd B (qbec p o n) := by
  obtain ⟨h1, h2, h3, h4⟩ := h
  have e : (qbec p o n).2.length = o.2.length - n := by rw [bec_2, List.length_drop]
  have e1 : (qbec p o n).1 = if o.2.length - n ≤ p.1 then p.1 else max p.1 (zroom 30 8 (o.2.length - n)) := rfl
  by_cases hc : o.2.length - n ≤ p.1
  · rw [if_pos hc] at e1
    exact ⟨by omega, by omega, by omega, by omega⟩
  · rw [if_neg hc] at e1
    obtain ⟨z1, z2, z3, z4⟩ := zroom_ok 30 0 (o.2.length - n) rfl (by omega) (by omega)
    have e8 : 8 * 2 ^ 0 = 8 := rfl
    rw [e8] at z1 z3 z4
    have := z3 (by omega)
    exact ⟨by omega, by omega, by omega, by omega⟩
/-- what stands at a place -/
theorem at_in {S : TS} {F : TF} {G : TG} {q : TQ} {i B : Nat} (h : RBd B (q i)) (hB : B ≤ 4194304) {j : Nat} (hj : j < (q i).2.length) : v_X6_at S F G q i (nI j) = (q i).2[j] := by
  obtain ⟨h1, h2, h3, h4⟩ := h
  unfold v_X6_at
  rw [if_neg (nI_pos (by omega)), if_neg (nI_ge hj (by omega)), if_neg (nI_ge (by omega) (by omega)), nI_clamp (by omega), List.getD_eq_getElem?_getD, List.getElem?_eq_getElem hj]
  rfl
theorem at_mem {S : TS} {F : TF} {G : TG} {q : TQ} {i B : Nat} (h : RBd B (q i)) (hB : B ≤ 4194304) {j : Nat} (hj : j < (q i).2.length) : v_X6_at S F G q i (nI j) ∈ (q i).2 := by
  rw [at_in h hB hj]
  exact List.getElem_mem hj
/-! ===== what a stage emits ===== -/
def EvL (E : Nat) (L : List Int64) : Prop := ∀ x ∈ L, v_X3_kind x = 0 ∧ (v_X3_time x).toInt ≤ E
theorem EvL.nil {E : Nat} : EvL E [] := fun x h => by cases h
theorem EvL.app {E : Nat} {L M : List Int64} (h : EvL E L) (g : EvL E M) : EvL E (L ++ M) := fun x hx => by
  rcases List.mem_append.mp hx with h1 | h1
  · exact h x h1
  · exact g x h1
theorem EvL.one {E : Nat} {x : Int64} (h : v_X3_kind x = 0 ∧ (v_X3_time x).toInt ≤ E) : EvL E [x] := fun y hy => by
  rw [List.mem_singleton] at hy
  subst hy
  exact h
theorem EvL.mono {E E2 : Nat} {L : List Int64} (h : EvL E L) (he : E ≤ E2) : EvL E2 L := fun x hx => ⟨(h x hx).1, by have := (h x hx).2; omega⟩
def emq (S : TS) (k : Nat) (L : List Int64) : List Int64 := if (och S k).length = 0 then [] else L
theorem emq_nil {S : TS} {k : Nat} : emq S k [] = [] := by unfold emq; split <;> rfl
theorem emq_app {S : TS} {k : Nat} {L M : List Int64} : emq S k (L ++ M) = emq S k L ++ emq S k M := by
  unfold emq
  split
  · rfl
  · rfl
theorem emq_len {S : TS} {k : Nat} {L : List Int64} : (emq S k L).length ≤ L.length := by
  unfold emq
  split
  · exact Nat.zero_le _
  · exact Nat.le_refl _
def EM (S : TS) (fl k : Nat) (w b : TW) (L : List Int64) : Prop :=
  (b.2.2 (ri fl k)).2 = (w.2.2 (ri fl k)).2 ++ emq S k L ∧ ∀ B, RBd B (w.2.2 (ri fl k)) → (w.2.2 (ri fl k)).2.length + L.length ≤ B → RBd B (b.2.2 (ri fl k))
theorem EM.of {S : TS} {fl k : Nat} {w b : TW} (h : b.2.2 (ri fl k) = w.2.2 (ri fl k)) : EM S fl k w b [] := by
  refine ⟨?_, fun B hB _ => ?_⟩
  · rw [h, emq_nil, List.append_nil]
  · rw [h]; exact hB
theorem EM.tr {S : TS} {fl k : Nat} {a b c : TW} {L M : List Int64} (h : EM S fl k a b L) (g : EM S fl k b c M) : EM S fl k a c (L ++ M) := by
  refine ⟨?_, fun B hB hl => ?_⟩
  · rw [g.1, h.1, emq_app, List.append_assoc]
  · rw [List.length_append] at hl
    refine g.2 B (h.2 B hB (by omega)) ?_
    rw [h.1, List.length_append]
    have := emq_len (S := S) (k := k) (L := L)
    omega
/-- emissions alone: the row of items, how many were emitted -/
def EO (S : TS) (fl k E : Nat) (w b : TW) (L : List Int64) : Prop :=
  EM S fl k w b L ∧ EvL E L ∧ (∀ i, i ≠ ri fl k → b.2.2 i = w.2.2 i) ∧ ∀ kd f a j, ¬ (kd = 0 ∧ f = fl ∧ a = 3 * k ∧ j = 5) → b.1 kd f a j = w.1 kd f a j
theorem EO.rf {S : TS} {fl k E : Nat} {w : TW} : EO S fl k E w w [] := ⟨EM.of rfl, EvL.nil, fun _ _ => rfl, fun _ _ _ _ _ => rfl⟩
theorem EO.tr {S : TS} {fl k E : Nat} {a b c : TW} {L M : List Int64} (h : EO S fl k E a b L) (g : EO S fl k E b c M) : EO S fl k E a c (L ++ M) :=
  ⟨h.1.tr g.1, h.2.1.app g.2.1, fun i hi => (g.2.2.1 i hi).trans (h.2.2.1 i hi), fun kd f x j hn => (g.2.2.2 kd f x j hn).trans (h.2.2.2 kd f x j hn)⟩
theorem emit_q {S : TS} {fl k : Nat} {x : Int64} (hn : zn S ≤ 12) (v : TW) : (if (nI (och S k).length) ≤ 0 then v else zlet (zrw v (ri fl k) (qadd (v.2.2 (ri fl k)) x)) (fun w4 => w4)) = if (och S k).length = 0 then v else zrw v (ri fl k) (qadd (v.2.2 (ri fl k)) x) := by
  by_cases h : (och S k).length = 0
  · rw [h, if_pos (by decide), if_pos rfl]
  · have := och_len S k
    rw [if_neg (nI_nle (by omega) (by omega)), if_neg h]
    rfl
/-- all that an emission changes -/
theorem emit_is {S : TS} (hn : zn S ≤ 12) (w : TW) (fl k : Nat) (x : Int64) : ∃ v : TW, v = (if v_X3_kind x = 0 then zset w 0 fl (3 * k) 5 ((w.1 0 fl (3 * k) 5) + 1) else w) ∧ w_X8_emit S w fl k x = if (och S k).length = 0 then v else zrw v (ri fl k) (qadd (w.2.2 (ri fl k)) x) := by
  unfold w_X8_emit
  by_cases hk : v_X3_kind x = 0
  · refine ⟨_, rfl, ?_⟩
    rw [if_pos hk, if_pos hk]
    exact emit_q hn _
  · refine ⟨_, rfl, ?_⟩
    rw [if_neg hk, if_neg hk]
    exact emit_q hn _
theorem emit_EM {S : TS} (hn : zn S ≤ 12) (w : TW) (fl k : Nat) (x : Int64) : EM S fl k w (w_X8_emit S w fl k x) [x] := by
  obtain ⟨v, hv, e⟩ := emit_is hn w fl k x
  have hq : v.2.2 = w.2.2 := by rw [hv]; split <;> rfl
  rw [e]
  by_cases h : (och S k).length = 0
  · rw [if_pos h]
    refine ⟨?_, fun B hB _ => by rw [hq]; exact hB⟩
    rw [hq]
    unfold emq
    rw [if_pos h, List.append_nil]
  · rw [if_neg h]
    refine ⟨?_, fun B hB hl => ?_⟩
    · rw [zrw_q, if_pos rfl]
      unfold emq
      rw [if_neg h]
      rfl
    · rw [zrw_q, if_pos rfl]
      exact hB.add (by simp only [List.length_cons, List.length_nil] at hl; omega)
theorem emit_row {S : TS} (hn : zn S ≤ 12) (w : TW) (fl k : Nat) (x : Int64) (i : Nat) (hi : i ≠ ri fl k) : (w_X8_emit S w fl k x).2.2 i = w.2.2 i := by
  obtain ⟨v, hv, e⟩ := emit_is hn w fl k x
  have hq : v.2.2 = w.2.2 := by rw [hv]; split <;> rfl
  rw [e]
  split
  · rw [hq]
  · rw [zrw_q, if_neg hi, hq]
theorem emit_F {S : TS} (hn : zn S ≤ 12) (w : TW) (fl k : Nat) (x : Int64) : (w_X8_emit S w fl k x).1 = (if v_X3_kind x = 0 then zset w 0 fl (3 * k) 5 ((w.1 0 fl (3 * k) 5) + 1) else w).1 := by
  obtain ⟨v, hv, e⟩ := emit_is hn w fl k x
  rw [e, ← hv]
  split <;> rfl
theorem emit_f {S : TS} (hn : zn S ≤ 12) (w : TW) (fl k : Nat) (x : Int64) (kd f a j : Nat) (h : ¬ (kd = 0 ∧ f = fl ∧ a = 3 * k ∧ j = 5)) : (w_X8_emit S w fl k x).1 kd f a j = w.1 kd f a j := by
  rw [emit_F hn]
  split
  · rw [zset_F, if_neg h]
  · rfl
theorem emit_5 {S : TS} (hn : zn S ≤ 12) (w : TW) (fl k : Nat) (x : Int64) : (w_X8_emit S w fl k x).1 0 fl (3 * k) 5 = if v_X3_kind x = 0 then w.1 0 fl (3 * k) 5 + 1 else w.1 0 fl (3 * k) 5 := by
  rw [emit_F hn]
  split
  · rw [zset_F, if_pos ⟨rfl, rfl, rfl, rfl⟩]
  · rfl
theorem emit_EO {S : TS} {E : Nat} (hn : zn S ≤ 12) (w : TW) (fl k : Nat) (x : Int64) (hx : v_X3_kind x = 0 ∧ (v_X3_time x).toInt ≤ E) : EO S fl k E w (w_X8_emit S w fl k x) [x] :=
  ⟨emit_EM hn w fl k x, EvL.one hx, emit_row hn w fl k x, emit_f hn w fl k x⟩
/-! ===== spans ===== -/
def nmok (E : Nat) (x : Int64) : Prop := ∃ e kk b, x = lN (nmv e kk b) ∧ 1 ≤ e ∧ e ≤ E ∧ kk < 2 ^ 8 ∧ b < 2 ^ 21
def NE (E : Nat) (L : List Int64) : Prop := ∀ x ∈ L, nmok E x
theorem nmok.mono {E E2 : Nat} {x : Int64} (h : nmok E x) (he : E ≤ E2) : nmok E2 x := by
  obtain ⟨e, kk, b, h1, h2, h3, h4⟩ := h
  exact ⟨e, kk, b, h1, h2, by omega, h4⟩
/-- the end, key and begin of what stands at a place -/
theorem sp_at {S : TS} {F : TF} {G : TG} {q : TQ} {fl st B E : Nat} (h : RBd B (q (rs 0 fl st))) (hB : B ≤ 4194304) (hE : E < 2 ^ 30) (hN : NE E (q (rs 0 fl st)).2) {j : Nat} (hj : j < (q (rs 0 fl st)).2.length) :
    ∃ e kk b, v_X7_endAt S F G q fl st (nI j) = nI e ∧ v_X7_keyAtPlace S F G q fl st (nI j) = nI kk ∧ v_X7_beginAt S F G q fl st (nI j) = nI b - 1000 ∧ 1 ≤ e ∧ e ≤ E ∧ kk < 2 ^ 8 ∧ b < 2 ^ 21 := by
  obtain ⟨e, kk, b, h1, h2, h3, h4, h5⟩ := hN _ (at_mem (S := S) (F := F) (G := G) h hB hj)
  refine ⟨e, kk, b, ?_, ?_, ?_, h2, h3, h4, h5⟩
  · unfold v_X7_endAt; rw [h1]; exact nm_end e kk b (by omega) h4 h5
  · unfold v_X7_keyAtPlace; rw [h1]; exact nm_key e kk b (by omega) h4 h5
  · unfold v_X7_beginAt; rw [h1]; exact nm_begin e kk b (by omega) h4 h5
theorem fire_EO {S : TS} {E B : Nat} (hn : zn S ≤ 12) (w : TW) (fl k : Nat) (h : RBd B (w.2.2 (rs 0 fl (3 * k)))) (hB : B ≤ 4194304) (hE : E < 2 ^ 20) (hN : NE E (w.2.2 (rs 0 fl (3 * k))).2) {j : Nat} (hj : j < (w.2.2 (rs 0 fl (3 * k))).2.length) :
    ∃ x, EO S fl k E w (w_X8_fire S w fl k (nI j)) [x] := by
  obtain ⟨e, kk, b, h1, h2, h3, h4, h5, h6, h7⟩ := sp_at (S := S) (F := w.1) (G := w.2.1) h hB (by omega) hN hj
  unfold w_X8_fire
  rw [h1, h2]
  have e1 : nI e - 1 = nI (e - 1) := by
    obtain ⟨e', rfl⟩ : ∃ e', e = e' + 1 := ⟨e - 1, by omega⟩
    exact nI_pred e'
  rw [e1]
  refine ⟨_, emit_EO hn w fl k _ ⟨ev_kind _ _ _ h6 (by omega), ?_⟩⟩
  rw [ev_time _ _ _ h6 (by omega), zi_nI (by omega)]
  omega
theorem rs_ri {x fl f st k : Nat} (hx : x < 4) (hf : fl < 2) (hst : st < 36) : rs x fl st ≠ ri f k := by unfold rs ri; omega
theorem fires_EO {S : TS} {E B : Nat} (hn : zn S ≤ 12) (fl k st : Nat) (hf : fl < 2) (hk : k < 12) (hB : B ≤ 4194304) (hE : E < 2 ^ 20) : ∀ (n i : Nat) (w : TW), RBd B (w.2.2 (rs 0 fl (3 * k))) → NE E (w.2.2 (rs 0 fl (3 * k))).2 → i + n ≤ (w.2.2 (rs 0 fl (3 * k))).2.length → ∃ L, L.length = n ∧ EO S fl k E w (r_X8_fireFrom S fl k st n i w) L := by
  intro n
  induction n with
  | zero => intro i w _ _ _; exact ⟨[], rfl, EO.rf⟩
  | succ n ih =>
    intro i w h hN hi
    obtain ⟨x, hx⟩ := fire_EO hn w fl k h hB hE hN (j := i) (by omega)
    have e0 : (w_X8_fire S w fl k (nI i)).2.2 (rs 0 fl (3 * k)) = w.2.2 (rs 0 fl (3 * k)) := hx.2.2.1 _ (rs_ri (by omega) hf (by omega))
    obtain ⟨L, hL, hE2⟩ := ih (i + 1) (w_X8_fire S w fl k (nI i)) (by rw [e0]; exact h) (by rw [e0]; exact hN) (by rw [e0]; omega)
    exact ⟨[x] ++ L, by simp [hL, Nat.add_comm], hx.tr hE2⟩
