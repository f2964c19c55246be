/-! ===== quotients and remainders ===== -/
theorem fb_xorI (a b : Nat) : nI a ^^^ nI b = nI (a ^^^ b) := by
  apply Int32.toBitVec_inj.1
  show BitVec.ofNat 32 a ^^^ BitVec.ofNat 32 b = BitVec.ofNat 32 (a ^^^ b)
  apply BitVec.eq_of_getLsbD_eq
  intro i hi
  simp [hi]
theorem fdiv_ok {t s : Nat} (ht : t < 2 ^ 31) (h1 : 1 ≤ s) (hs : s < 2 ^ 31) : v_J9_floorDiv (nI t) (nI s) = nI (t / s) := by
  unfold v_J9_floorDiv
  rw [fb_xorI, if_pos (nI_pos' (Nat.xor_lt_two_pow ht hs)), pk_div ht (by omega) hs]
theorem xor_sign {a b : Int32} (hb : 0 ≤ b.toInt) (h : 0 ≤ a ^^^ b) : 0 ≤ a.toInt := by
  rw [zi_le, zi_0] at h
  have e1 : (a ^^^ b).toBitVec.msb = decide ((a ^^^ b).toInt < 0) := BitVec.msb_eq_toInt
  have e2 : a.toBitVec.msb = decide (a.toInt < 0) := BitVec.msb_eq_toInt
  have e3 : b.toBitVec.msb = decide (b.toInt < 0) := BitVec.msb_eq_toInt
  rw [Int32.toBitVec_xor, BitVec.msb_xor, e2, e3] at e1
  rw [show decide ((a ^^^ b).toInt < 0) = false from decide_eq_false (by omega), show decide (b.toInt < 0) = false from decide_eq_false (by omega)] at e1
  by_cases h2 : a.toInt < 0
  · rw [show decide (a.toInt < 0) = true from decide_eq_true h2] at e1
    cases e1
  · omega
theorem fm_ok (v : Int32) {m : Nat} (h1 : 1 ≤ m) (h9 : m ≤ 200) : ∃ j, j < 2 ^ 8 ∧ v_J9_floorMod v (nI m) = nI j := by
  have hm : (nI m).toInt = (m : Int) := zi_nI (by omega)
  have hr := rem_toInt v (nI m)
  have hb := tmod_bounds (a := v.toInt) (M := (m : Int)) (by omega)
  rw [hm] at hr
  have key : ∀ x : Int32, 0 ≤ x.toInt → x.toInt < 256 → ∃ j, j < 2 ^ 8 ∧ x = nI j := fun x h h' => ⟨x.toInt.toNat, by omega, zi_of h⟩
  unfold v_J9_floorMod
  by_cases c : 0 ≤ (v ^^^ (nI m))
  · rw [if_pos c]
    have := xor_sign (by omega) c
    have h0 := Int.tmod_nonneg (m : Int) this
    exact key _ (by omega) (by omega)
  · rw [if_neg c]
    by_cases c2 : (v - v / nI m * nI m) = 0
    · rw [if_pos c2, c2]; exact ⟨0, by decide, rfl⟩
    · rw [if_neg c2]
      have hne : (v - v / nI m * nI m).toInt ≠ 0 := fun h => c2 (zi_eq.mpr (by rw [zi_0]; exact h))
      have hs : v.toInt < 0 := by
        rcases Int.lt_or_le v.toInt 0 with h | h
        · exact h
        · exfalso
          apply c
          rw [zi_of h, fb_xorI]
          exact nI_pos' (Nat.xor_lt_two_pow (by have := fb_rng v; omega) (by omega))
      have hn := Int.tmod_nonneg (m : Int) (show (0 : Int) ≤ -v.toInt by omega)
      rw [Int.neg_tmod] at hn
      have hs2 : ((v - v / nI m * nI m) + nI m).toInt = v.toInt.tmod m + m := by
        rw [fb_addI (by omega) (by omega), hr, hm]
      exact key _ (by omega) (by omega)
/-! ===== the rows of a state ===== -/
def JR (E : Nat) (p : Nat × List Int64) : Prop := RBd 17 p ∧ p.2.length ≤ 16 ∧ TE E p.2
def SR (so E N : Nat) (w : TW) (fl st : Nat) : Prop := SPn E N w fl st ∧ JR E (w.2.2 (rs 2 fl st)) ∧ JR E (w.2.2 (rs 3 fl st)) ∧ (¬ (so = 3 ∨ so = 4) → (w.2.2 (rs 0 fl st)).2 = []) ∧ (¬ so = 5 → (w.2.2 (rs 2 fl st)).2 = [] ∧ (w.2.2 (rs 3 fl st)).2 = [])
theorem SR.mono {so E N M : Nat} {w : TW} {fl st : Nat} (h : SR so E N w fl st) (hm : N ≤ M) : SR so E M w fl st := ⟨h.1.mono hm, h.2⟩
theorem SR.same {so E N : Nat} {w b : TW} {fl st : Nat} (h : SR so E N w fl st) (hq : ∀ x, x < 4 → b.2.2 (rs x fl st) = w.2.2 (rs x fl st)) : SR so E N b fl st := by
  unfold SR SPn at *
  rw [hq 0 (by omega), hq 1 (by omega), hq 2 (by omega), hq 3 (by omega)]
  exact h
theorem rs_inj {x y fl st : Nat} (hx : x < 4) (hy : y < 4) (h : rs x fl st = rs y fl st) : x = y := by unfold rs at h; omega
theorem JR.push {E : Nat} {p : Nat × List Int64} {x : Int64} (h : JR E p) (hx : (v_X3_time x).toInt ≤ E) : JR E (if (nI (qadd p x).2.length) ≤ 16 then qadd p x else qrem (qadd p x) 0 1) := by
  obtain ⟨h1, h2, h3⟩ := h
  have ha : RBd 17 (qadd p x) := h1.add (by omega)
  have hl : (qadd p x).2.length = p.2.length + 1 := by show (p.2 ++ [x]).length = _; simp
  have ht : TE E (qadd p x).2 := fun y hy => by
    rcases List.mem_append.mp hy with h | h
    · exact h3 y h
    · rw [List.mem_singleton] at h; rw [h]; exact hx
  by_cases c : (nI (qadd p x).2.length) ≤ 16
  · rw [if_pos c]
    have c' := (nI_leI (a := (qadd p x).2.length) (b := 16) (by omega) (by omega)).mp c
    exact ⟨ha, by omega, ht⟩
  · rw [if_neg c]
    exact ⟨ha.rem, by rw [rem_len, if_pos (by omega)]; omega, fun y hy => ht y (mem_rem hy)⟩
/-! ===== how a stage was wired ===== -/
def PLk (w : TW) (k so : Nat) : Prop := w.1 8 0 k 0 = nI so ∧ so < 8 ∧ (so = 3 → ∃ sp, w.1 8 0 k 6 = nI 12 ∧ w.1 8 0 k 7 = nI sp ∧ 1 ≤ sp ∧ sp ≤ 12) ∧ (so = 4 → ∃ g, w.1 8 0 k 9 = nI g ∧ 1 ≤ g ∧ g ≤ 20) ∧ (so = 3 ∨ so = 4 → ∃ la, w.1 8 0 k 8 = nI la ∧ la ≤ 20) ∧
  (so = 5 → ∃ a b, w.1 8 0 k 10 = nI a ∧ w.1 8 0 k 11 = nI b ∧ a ≤ 8 ∧ b ≤ 8) ∧ (so = 2 → ∃ m, w.1 8 0 k 5 = nI m ∧ 1 ≤ m ∧ m ≤ 200) ∧ (so = 0 → ∃ s, w.1 8 0 k 3 = nI s ∧ s ≤ 40)
theorem PLk.same {w b : TW} {k so : Nat} (h : PLk w k so) (hq : ∀ j, b.1 8 0 k j = w.1 8 0 k j) : PLk b k so := by
  unfold PLk at *
  simp only [hq]
  exact h
/-! ===== what an event does to its stage ===== -/
def TEV (S : TS) (fl k so E N : Nat) (w b : TW) : Prop :=
  ∃ L, L.length ≤ 16 ∧ EvL E L ∧ EM S fl k w b L ∧ SR so E (N + 8) b fl (3 * k) ∧ (∀ j, j < 4 → b.1 0 fl (3 * k) j = w.1 0 fl (3 * k) j) ∧ b.1 0 fl (3 * k) 4 = w.1 0 fl (3 * k) 4 + 1 ∧ (b.1 0 fl (3 * k) 6 = w.1 0 fl (3 * k) 6 ∨ b.1 0 fl (3 * k) 6 = w.1 0 fl (3 * k) 6 + 1) ∧
    (so = 1 → b.1 0 fl (3 * k) 5 = w.1 0 fl (3 * k) 5 ∨ b.1 0 fl (3 * k) 5 = w.1 0 fl (3 * k) 5 + 1) ∧ (so = 2 ∨ so = 6 → b.1 0 fl (3 * k) 5 = w.1 0 fl (3 * k) 5 + 1) ∧ (so = 7 → b.1 0 fl (3 * k) 5 = w.1 0 fl (3 * k) 5 ∧ b.1 0 fl (3 * k) 7 = w.1 0 fl (3 * k) 7 + 1) ∧ (so ≠ 7 → b.1 0 fl (3 * k) 7 = w.1 0 fl (3 * k) 7) ∧
    ∀ M, RBd M (w.2.2 (ro fl k)) → RBd (M + 1) (b.2.2 (ro fl k))
theorem ro_rs {x fl f st k : Nat} (hx : x < 4) (hf : fl < 2) (hst : st < 36) : ro f k ≠ rs x fl st := by unfold rs ro; omega
theorem ro_ri {fl k k2 f : Nat} (hf : fl < 2) (hk2 : k2 < 12) : ro f k ≠ ri fl k2 := by unfold ro ri; omega
theorem TEV.ofEX {X : Nat → Prop} {S : TS} {fl k so E N : Nat} {w w1 c b : TW} {L : List Int64} (hf : fl < 2) (hk : k < 12) (h1 : w1 = zset w 0 fl (3 * k) 4 (w.1 0 fl (3 * k) 4 + 1)) (hX : EX X S fl k E w1 c L) (hXo : ¬ X (ro fl k)) (hL : L.length ≤ 16) (hS : SR so E (N + 8) c fl (3 * k)) (hso : so = 3 ∨ so = 4 ∨ so = 5)
    (hb : b = c ∨ b = zset c 0 fl (3 * k) 6 (w.1 0 fl (3 * k) 6 + 1)) : TEV S fl k so E N w b := by
  obtain ⟨x1, x2, x3, x4⟩ := hX
  have hcf : ∀ j, j ≠ 4 → j ≠ 5 → c.1 0 fl (3 * k) j = w.1 0 fl (3 * k) j := fun j h4 h5 => by
    rw [x4 _ _ _ _ (by omega), h1, zset_F, if_neg (by omega)]
  have hc4 : c.1 0 fl (3 * k) 4 = w.1 0 fl (3 * k) 4 + 1 := by rw [x4 _ _ _ _ (by omega), h1, zset_F, if_pos ⟨rfl, rfl, rfl, rfl⟩]
  have hq1 : w1.2.2 = w.2.2 := by rw [h1]; rfl
  have hro : c.2.2 (ro fl k) = w.2.2 (ro fl k) := by rw [x3 _ (ro_ri hf hk) hXo, hq1]
  have hbq : b.2.2 = c.2.2 := by rcases hb with h | h <;> rw [h] <;> rfl
  have hbf : ∀ j, j ≠ 6 → b.1 0 fl (3 * k) j = c.1 0 fl (3 * k) j := fun j hj => by
    rcases hb with h | h
    · rw [h]
    · rw [h, zset_F, if_neg (by omega)]
  refine ⟨L, hL, x2, ?_, hS.same (fun x hx => by rw [hbq]), fun j hj => ?_, ?_, ?_, fun h => ?_, fun h => ?_, fun h => ?_, fun _ => ?_, fun M hM => ?_⟩
  · unfold EM at *
    rw [hbq, ← hq1]
    exact x1
  · rw [hbf j (by omega), hcf j (by omega) (by omega)]
  · rw [hbf 4 (by omega), hc4]
  · rcases hb with h | h
    · left; rw [h, hcf 6 (by omega) (by omega)]
    · right; rw [h, zset_F, if_pos ⟨rfl, rfl, rfl, rfl⟩]
  · omega
  · omega
  · omega
  · rw [hbf 7 (by omega), hcf 7 (by omega) (by omega)]
  · rw [hbq, hro]; exact hM.mono (by omega)
theorem TEV.ofEM {S : TS} {fl k so E N : Nat} {w w1 : TW} (hn : zn S ≤ 12) (hf : fl < 2) (hk : k < 12) (h1 : w1 = zset w 0 fl (3 * k) 4 (w.1 0 fl (3 * k) 4 + 1)) (hS : SR so E N w fl (3 * k)) (y : Int64) (hy : v_X3_kind y = 0 ∧ (v_X3_time y).toInt ≤ E) (h7 : so ≠ 7) : TEV S fl k so E N w (w_X8_emit S w1 fl k y) := by
  have hq1 : w1.2.2 = w.2.2 := by rw [h1]; rfl
  have hE := emit_EM hn w1 fl k y
  have hr := emit_row hn w1 fl k y
  have hfr := emit_f hn w1 fl k y
  have hf1 : ∀ j, j ≠ 4 → w1.1 0 fl (3 * k) j = w.1 0 fl (3 * k) j := fun j hj => by rw [h1, zset_F, if_neg (by omega)]
  have h5 : (w_X8_emit S w1 fl k y).1 0 fl (3 * k) 5 = w.1 0 fl (3 * k) 5 + 1 := by rw [emit_5 hn, if_pos hy.1, hf1 5 (by omega)]
  refine ⟨[y], by simp, EvL.one hy, ?_, (hS.mono (by omega)).same (fun x hx => by rw [hr _ (rs_ri hx hf (by omega)), hq1]), fun j hj => ?_, ?_, Or.inl ?_, fun _ => Or.inr h5, fun _ => h5, fun h => absurd h h7, fun _ => ?_, fun M hM => ?_⟩
  · unfold EM at *
    rw [← hq1]
    exact hE
  · rw [hfr _ _ _ _ (by omega), hf1 j (by omega)]
  · rw [hfr _ _ _ _ (by omega), h1, zset_F, if_pos ⟨rfl, rfl, rfl, rfl⟩]
  · rw [hfr _ _ _ _ (by omega), hf1 6 (by omega)]
  · rw [hfr _ _ _ _ (by omega), hf1 7 (by omega)]
  · rw [hr _ (ro_ri hf hk), hq1]; exact hM.mono (by omega)
theorem mapped_ok {S : TS} {w : TW} {fl k E m : Nat} (x : Int64) (hx : (v_X3_time x).toInt ≤ E) (hm : w.1 8 0 k 5 = nI m) (h1 : 1 ≤ m) (h2 : m ≤ 200) : v_X3_kind (v_X8_mapped S w.1 w.2.1 w.2.2 fl k x) = 0 ∧ (v_X3_time (v_X8_mapped S w.1 w.2.1 w.2.2 fl k x)).toInt ≤ E := by
  obtain ⟨kk, hkk, ek⟩ := it_keyE x
  obtain ⟨t, ht, et⟩ := it_timeE x
  rw [et, zi_nI (by omega)] at hx
  have key : ∀ (j : Nat) (v : Int32), j < 2 ^ 8 → v_X3_kind (v_X3_event (nI j) v (nI t)) = 0 ∧ (v_X3_time (v_X3_event (nI j) v (nI t))).toInt ≤ E := fun j v hj => ⟨ev_kind _ _ _ hj ht, by rw [ev_time _ _ _ hj ht, zi_nI (by omega)]; exact hx⟩
  unfold v_X8_mapped
  rw [ek, et, hm]
  obtain ⟨j, hj, ej⟩ := fm_ok (v_X3_value x) h1 h2
  rw [ej]
  split
  · exact key _ _ hkk
  · split
    · exact key _ _ hkk
    · split
      · split
        · exact key _ _ hj
        · exact key _ _ hkk
      · exact key _ _ hkk
theorem tiws_SP {S : TS} {E N : Nat} (hn : zn S ≤ 12) (w : TW) (fl k : Nat) (hf : fl < 2) (hk : k < 12) (x : Int64) (t sp : Nat) (hx : v_X3_time x = nI t) (hE : E < 2 ^ 20) (ht : t + 12 ≤ E) (hN : N + 8 ≤ 4194304) (h : SPn E N w fl (3 * k)) (h7 : w.1 8 0 k 7 = nI sp) (h6 : w.1 8 0 k 6 = nI 12) (hs1 : 1 ≤ sp) (hs2 : sp ≤ 12) :
    ∃ L c, L.length ≤ 8 ∧ EX (RS01 fl (3 * k)) S fl k E w c L ∧ SPn E (N + 8) c fl (3 * k) ∧ (w_X8_takeIntoWindows S w fl k x = c ∨ w_X8_takeIntoWindows S w fl k x = zset c 0 fl (3 * k) 6 (w.1 0 fl (3 * k) 6 + 1)) := by
  have hd : v_J9_floorDiv (nI t) (nI sp) * nI sp = nI (t / sp * sp) := by rw [fdiv_ok (by omega) hs1 (by omega), pk_mul]
  have hle : t / sp * sp ≤ t := Nat.div_mul_le_self t sp
  obtain ⟨L, l1, l2, l3⟩ := tiws_loop (S := S) hn fl k hf hk x t (t / sp * sp) sp 12 hE ht hle (by omega) (by omega) 8 N 7 1 w (by omega) (by decide) hN h h7 h6
  unfold w_X8_takeIntoWindows
  rw [h7, hx, if_pos (show (1 : Int32) ≤ nI sp from nI_le (a := 1) hs1 (by omega)), hd]
  simp only [zlet]
  generalize r_X8_takeIntoWindows S fl k x (nI t) (nI (t / sp * sp)) 8 7 1 w = c at *
  refine ⟨L, c.1, l1, l2, l3, ?_⟩
  by_cases c0 : c.2 = 0
  · rw [if_pos c0]; exact Or.inl rfl
  · rw [if_neg c0, l2.2.2.2 _ _ _ _ (by omega)]; exact Or.inr rfl
