/-! ===== emissions beside changes of some rows ===== -/
def EX (X : Nat → Prop) (S : TS) (fl k E : Nat) (w b : TW) (L : List Int64) : Prop :=
  EM S fl k w b L ∧ EvL E L ∧ (∀ i, i ≠ ri fl k → ¬ X i → b.2.2 i = w.2.2 i) ∧ ∀ kd f a j, ¬ (kd = 0 ∧ f = fl ∧ a = 3 * k ∧ j = 5) → b.1 kd f a j = w.1 kd f a j
theorem EO.ex {X : Nat → Prop} {S : TS} {fl k E : Nat} {w b : TW} {L : List Int64} (h : EO S fl k E w b L) : EX X S fl k E w b L := ⟨h.1, h.2.1, fun i hi _ => h.2.2.1 i hi, h.2.2.2⟩
theorem EX.rf {X : Nat → Prop} {S : TS} {fl k E : Nat} {w : TW} : EX X S fl k E w w [] := EO.rf.ex
theorem EX.tr {X : Nat → Prop} {S : TS} {fl k E : Nat} {a b c : TW} {L M : List Int64} (h : EX X S fl k E a b L) (g : EX X S fl k E b c M) : EX X S fl k E a c (L ++ M) :=
  ⟨h.1.tr g.1, h.2.1.app g.2.1, fun i hi hx => (g.2.2.1 i hi hx).trans (h.2.2.1 i hi hx), fun kd f x j hn => (g.2.2.2 kd f x j hn).trans (h.2.2.2 kd f x j hn)⟩
theorem EX.of {X : Nat → Prop} {S : TS} {fl k E : Nat} {w b : TW} (h0 : ¬ X (ri fl k)) (h1 : b.1 = w.1) (h : ∀ i, ¬ X i → b.2.2 i = w.2.2 i) : EX X S fl k E w b [] :=
  ⟨EM.of (h _ h0), EvL.nil, fun i _ hx => h i hx, fun kd f x j _ => by rw [h1]⟩
/-- the spans of a state -/
def SPn (E N : Nat) (w : TW) (fl st : Nat) : Prop := RBd N (w.2.2 (rs 0 fl st)) ∧ RBd N (w.2.2 (rs 1 fl st)) ∧ NE E (w.2.2 (rs 0 fl st)).2
def RS01 (fl st i : Nat) : Prop := i = rs 0 fl st ∨ i = rs 1 fl st
def RS23 (fl st i : Nat) : Prop := i = rs 2 fl st ∨ i = rs 3 fl st
theorem SPn.mono {E N M : Nat} {w : TW} {fl st : Nat} (h : SPn E N w fl st) (hm : N ≤ M) : SPn E M w fl st := ⟨h.1.mono hm, h.2.1.mono hm, h.2.2⟩
theorem SPn.same {E N : Nat} {w b : TW} {fl st : Nat} (h : SPn E N w fl st) (h0 : b.2.2 (rs 0 fl st) = w.2.2 (rs 0 fl st)) (h1 : b.2.2 (rs 1 fl st) = w.2.2 (rs 1 fl st)) : SPn E N b fl st := by
  unfold SPn at *
  rw [h0, h1]
  exact h
theorem rs01 (fl st : Nat) : rs 0 fl st ≠ rs 1 fl st := by unfold rs; omega
theorem mem_ins {xs : List Int64} {j : Nat} {v x : Int64} (h : x ∈ xs.take j ++ v :: xs.drop j) : x ∈ xs ∨ x = v := by
  rcases List.mem_append.mp h with h | h
  · exact Or.inl (List.mem_of_mem_take h)
  · rcases List.mem_cons.mp h with h | h
    · exact Or.inr h
    · exact Or.inl (List.mem_of_mem_drop h)
theorem mem_rem {p : Nat × List Int64} {a b : Nat} {x : Int64} (h : x ∈ (qrem p a b).2) : x ∈ p.2 := by
  unfold qrem at h
  split at h
  · rcases List.mem_append.mp h with h | h
    · exact List.mem_of_mem_take h
    · exact List.mem_of_mem_drop h
  · exact h
theorem NE_ins {E : Nat} {p : Nat × List Int64} {j : Nat} {v : Int64} (h : NE E p.2) (hv : nmok E v) : NE E (qins p j v).2 := by
  intro x hx
  unfold qins at hx
  by_cases hj : j ≤ p.2.length
  · simp only [if_pos hj] at hx
    rcases mem_ins hx with h1 | h1
    · exact h x h1
    · rw [h1]; exact hv
  · simp only [if_neg hj] at hx
    exact h x hx
/-- a name and an account are put in -/
theorem insert_SP {S : TS} {E N : Nat} (w : TW) (fl st j : Nat) (l1 l2 : Int64) (h : SPn E N w fl st) (hv : nmok E l1) : SPn E (N + 1) (w_X7_insert S w fl st j l1 l2) fl st ∧ (∀ i, ¬ RS01 fl st i → (w_X7_insert S w fl st j l1 l2).2.2 i = w.2.2 i) ∧ (w_X7_insert S w fl st j l1 l2).1 = w.1 ∧ (j ≤ (w.2.2 (rs 0 fl st)).2.length → ((w_X7_insert S w fl st j l1 l2).2.2 (rs 0 fl st)).2.length = (w.2.2 (rs 0 fl st)).2.length + 1) := by
  have e : w_X7_insert S w fl st j l1 l2 = zrw (zrw w (rs 0 fl st) (qins (w.2.2 (rs 0 fl st)) j l1)) (rs 1 fl st) (qins (w.2.2 (rs 1 fl st)) j l2) := by
    have e9 : (zrw w (rs 0 fl st) (qins (w.2.2 (rs 0 fl st)) j l1)).2.2 (rs 1 fl st) = w.2.2 (rs 1 fl st) := by rw [zrw_q, if_neg (fun h => rs01 fl st h.symm)]
    show zrw (zrw w (rs 0 fl st) (qins (w.2.2 (rs 0 fl st)) j l1)) (rs 1 fl st) (qins ((zrw w (rs 0 fl st) (qins (w.2.2 (rs 0 fl st)) j l1)).2.2 (rs 1 fl st)) j l2) = _
    rw [e9]
  have e0 : (w_X7_insert S w fl st j l1 l2).2.2 (rs 0 fl st) = qins (w.2.2 (rs 0 fl st)) j l1 := by
    rw [e, zrw_q, if_neg (rs01 fl st), zrw_q, if_pos rfl]
  have e1 : (w_X7_insert S w fl st j l1 l2).2.2 (rs 1 fl st) = qins (w.2.2 (rs 1 fl st)) j l2 := by
    rw [e, zrw_q, if_pos rfl]
  obtain ⟨h1, h2, h3⟩ := h
  refine ⟨⟨?_, ?_, ?_⟩, fun i hi => ?_, rfl, fun hj => ?_⟩
  · rw [e0]; exact (h1.mono (by omega)).ins (by have := h1.1; omega)
  · rw [e1]; exact (h2.mono (by omega)).ins (by have := h2.1; omega)
  · rw [e0]; exact NE_ins h3 hv
  · rw [e, zrw_q, if_neg (fun h => hi (Or.inr h)), zrw_q, if_neg (fun h => hi (Or.inl h))]
  · rw [e0]
    unfold qins
    simp only [if_pos hj]
    exact ins_len hj
theorem pf_j {S : TS} {F : TF} {G : TG} {q : TQ} {fl k B : Nat} {l1 : Int64} (h : RBd B (q (rs 0 fl k))) (hB : B ≤ 4194304) : ∃ j, j ≤ (q (rs 0 fl k)).2.length ∧ v_X7_placeFor S F G q fl k l1 = nI j ∧ (v_X7_placeFor S F G q fl k l1).toNatClampNeg = j := by
  have := h.1
  obtain ⟨j, h1, h2⟩ := pf_le (S := S) (F := F) (G := G) (q := q) (fl := fl) (k := k) (l1 := l1) (by omega)
  exact ⟨j, h1, h2, by rw [h2, nI_clamp (by omega)]⟩
theorem tiw_SP {S : TS} {E N : Nat} (w : TW) (fl k : Nat) (l1 : Int64) (i1 i2 : Int32) (h : SPn E N w fl (3 * k)) (hN : N ≤ 4194304) (hv : nmok E (v_X7_name i2 (v_X3_key l1) i1)) :
    SPn E (N + 1) (w_X8_takeIntoWindow S w fl k l1 i1 i2).1 fl (3 * k) ∧ (∀ i, ¬ RS01 fl (3 * k) i → (w_X8_takeIntoWindow S w fl k l1 i1 i2).1.2.2 i = w.2.2 i) ∧ (w_X8_takeIntoWindow S w fl k l1 i1 i2).1.1 = w.1 ∧ ∃ j, (w_X8_takeIntoWindow S w fl k l1 i1 i2).2 = nI j ∧ j < ((w_X8_takeIntoWindow S w fl k l1 i1 i2).1.2.2 (rs 0 fl (3 * k))).2.length := by
  obtain ⟨j, hj, e1, e2⟩ := pf_j (S := S) (F := w.1) (G := w.2.1) (l1 := v_X7_name i2 (v_X3_key l1) i1) h.1 hN
  unfold w_X8_takeIntoWindow
  rw [e2]
  by_cases hA : (v_X7_isAt S w.1 w.2.1 w.2.2 fl (3 * k) (nI j) (v_X7_name i2 (v_X3_key l1) i1)) = 0
  · rw [if_pos hA]
    obtain ⟨a1, a2, a3, a4⟩ := insert_SP (S := S) w fl (3 * k) j (v_X7_name i2 (v_X3_key l1) i1) (v_X0_ofOne (w.1 8 0 k 12) l1) h hv
    refine ⟨a1, a2, a3, j, rfl, ?_⟩
    have := a4 hj
    show j < ((w_X7_insert S w fl (3 * k) j _ _).2.2 (rs 0 fl (3 * k))).2.length
    omega
  · rw [if_neg hA]
    have hlt : j < (w.2.2 (rs 0 fl (3 * k))).2.length := by
      rcases Nat.lt_or_ge j (w.2.2 (rs 0 fl (3 * k))).2.length with h1 | h1
      · exact h1
      · exfalso
        apply hA
        unfold v_X7_isAt
        have := h.1.1
        rw [if_pos (show v_X6_length S w.1 w.2.1 w.2.2 (rs 0 fl (3 * k)) ≤ nI j from nI_le h1 (by omega))]
    generalize (v_X0_ofBoth _ _ _) = acc
    have e0 : ((w_X7_setAccount S w fl (3 * k) j acc).2.2 (rs 0 fl (3 * k))) = w.2.2 (rs 0 fl (3 * k)) := if_neg (rs01 _ _)
    have e3 : ((w_X7_setAccount S w fl (3 * k) j acc).2.2 (rs 1 fl (3 * k))) = qput (w.2.2 (rs 1 fl (3 * k))) j acc := if_pos rfl
    refine ⟨⟨?_, ?_, ?_⟩, fun i hi => ?_, rfl, j, rfl, ?_⟩
    · show RBd (N + 1) ((w_X7_setAccount S w fl (3 * k) j acc).2.2 (rs 0 fl (3 * k)))
      rw [e0]; exact h.1.mono (by omega)
    · show RBd (N + 1) ((w_X7_setAccount S w fl (3 * k) j acc).2.2 (rs 1 fl (3 * k)))
      rw [e3]; exact (h.2.1.mono (by omega)).put
    · show NE E ((w_X7_setAccount S w fl (3 * k) j acc).2.2 (rs 0 fl (3 * k))).2
      rw [e0]; exact h.2.2
    · exact if_neg (fun h => hi (Or.inr h))
    · show j < ((w_X7_setAccount S w fl (3 * k) j acc).2.2 (rs 0 fl (3 * k))).2.length
      rw [e0]; exact hlt
theorem n01 (fl k f st : Nat) (hf : fl < 2) (hst : st < 36) : ¬ RS01 fl st (ri f k) := fun h => by
  rcases h with h | h
  · exact rs_ri (by omega) hf hst h.symm
  · exact rs_ri (by omega) hf hst h.symm
theorem n23 (fl k f st : Nat) (hf : fl < 2) (hst : st < 36) : ¬ RS23 fl st (ri f k) := fun h => by
  rcases h with h | h
  · exact rs_ri (by omega) hf hst h.symm
  · exact rs_ri (by omega) hf hst h.symm
/-- an event goes into its windows -/
theorem tiws_loop {S : TS} {E : Nat} (hn : zn S ≤ 12) (fl k : Nat) (hf : fl < 2) (hk : k < 12) (x : Int64) (t lbn sp sz : Nat) (hE : E < 2 ^ 20) (ht : t + sz ≤ E) (hlb : lbn ≤ t) (hsp : sp ≤ 1000) (hsz : sz ≤ 1000) :
    ∀ (n N : Nat) (b lt : Int32) (w : TW), n ≤ 8 → b = nI n - 1 → N + n ≤ 4194304 → SPn E N w fl (3 * k) → w.1 8 0 k 7 = nI sp → w.1 8 0 k 6 = nI sz →
      ∃ L, L.length ≤ n ∧ EX (RS01 fl (3 * k)) S fl k E w (r_X8_takeIntoWindows S fl k x (nI t) (nI lbn) n b lt w).1 L ∧ SPn E (N + n) (r_X8_takeIntoWindows S fl k x (nI t) (nI lbn) n b lt w).1 fl (3 * k) := by
  intro n
  induction n with
  | zero => intro N b lt w _ _ _ h _ _; exact ⟨[], Nat.le_refl _, EX.rf, h⟩
  | succ n ih =>
    intro N b lt w hn8 hb hNn h h7 h6
    have hb : b = nI n := by rw [hb, nI_pred]
    subst hb
    have hb2 : nI n + -1 = nI n - 1 := by rw [Int32.sub_eq_add_neg]
    have hng : ¬ RS01 fl (3 * k) (ri fl k) := n01 fl k fl (3 * k) hf (by omega)
    rw [er_X8_takeIntoWindows, h7, h6]
    have skip : ∀ lt' : Int32, ∃ L, L.length ≤ n + 1 ∧ EX (RS01 fl (3 * k)) S fl k E w (r_X8_takeIntoWindows S fl k x (nI t) (nI lbn) n (nI n + -1) lt' w).1 L ∧ SPn E (N + (n + 1)) (r_X8_takeIntoWindows S fl k x (nI t) (nI lbn) n (nI n + -1) lt' w).1 fl (3 * k) := fun lt' => by
      obtain ⟨L, h1, h2, h3⟩ := ih N (nI n + -1) lt' w (by omega) hb2 (by omega) h h7 h6
      exact ⟨L, by omega, h2, h3.mono (by omega)⟩
    by_cases c1 : ((nI lbn - (nI n * nI sp)) + nI sz) ≤ nI t
    · rw [if_pos c1]; exact skip lt
    rw [if_neg c1]
    by_cases c2 : (((nI lbn - (nI n * nI sp)) + nI sz) + (w.1 8 0 k 8)) ≤ (w.1 0 fl (3 * k) 0)
    · rw [if_pos c2]; exact skip lt
    rw [if_neg c2]
    have hm : n * sp ≤ 7000 := Nat.le_trans (Nat.mul_le_mul (show n ≤ 7 by omega) hsp) (by omega)
    have i1 : (nI lbn - nI n * nI sp).toInt = (lbn : Int) - (n * sp : Nat) := by
      rw [pk_mul, fb_subI (by rw [zi_nI (by omega), zi_nI (by omega)]; omega) (by rw [zi_nI (by omega), zi_nI (by omega)]; omega), zi_nI (by omega), zi_nI (by omega)]
    have i2 : ((nI lbn - nI n * nI sp) + nI sz).toInt = (lbn : Int) - (n * sp : Nat) + sz := by
      rw [fb_addI (by rw [i1, zi_nI (by omega)]; omega) (by rw [i1, zi_nI (by omega)]; omega), i1, zi_nI (by omega)]
    rw [zi_le, i2, zi_nI (by omega)] at c1
    have e2 : (nI lbn - nI n * nI sp) + nI sz = nI ((lbn : Int) - (n * sp : Nat) + sz).toNat := by
      have h9 := zi_of (x := (nI lbn - nI n * nI sp) + nI sz) (by rw [i2]; omega)
      rw [i2] at h9
      exact h9
    have e1 : (nI lbn - nI n * nI sp) + 1000 = nI ((lbn : Int) - (n * sp : Nat) + 1000).toNat := by
      have h9 : ((nI lbn - nI n * nI sp) + 1000).toInt = (lbn : Int) - (n * sp : Nat) + 1000 := by
        rw [fb_addI (by rw [i1, show (1000 : Int32).toInt = 1000 by decide]; omega) (by rw [i1, show (1000 : Int32).toInt = 1000 by decide]; omega), i1, show (1000 : Int32).toInt = 1000 by decide]
      have h8 := zi_of (x := (nI lbn - nI n * nI sp) + 1000) (by rw [h9]; omega)
      rw [h9] at h8
      exact h8
    have hv : nmok E (v_X7_name ((nI lbn - nI n * nI sp) + nI sz) (v_X3_key x) (nI lbn - nI n * nI sp)) := by
      obtain ⟨kk, hkk, ek⟩ := it_keyE x
      rw [ek]
      refine ⟨((lbn : Int) - (n * sp : Nat) + sz).toNat, kk, ((lbn : Int) - (n * sp : Nat) + 1000).toNat, ?_, by omega, by omega, hkk, by omega⟩
      have h9 := nm_of ((lbn : Int) - (n * sp : Nat) + sz).toNat kk ((lbn : Int) - (n * sp : Nat) + 1000).toNat (bb := nI lbn - nI n * nI sp) (by omega) hkk (by omega) e1
      rw [← e2] at h9
      exact h9
    generalize hbe : nI lbn - nI n * nI sp = be at *
    obtain ⟨a1, a2, a3, j, a4, a5⟩ := tiw_SP (S := S) w fl k x be (be + nI sz) h (by omega) hv
    show ∃ L, L.length ≤ n + 1 ∧ EX (RS01 fl (3 * k)) S fl k E w ((fun w3 : TW × Int32 => if (w3.1.1 0 fl (3 * k) 0) < (be + nI sz) then r_X8_takeIntoWindows S fl k x (nI t) (nI lbn) n (nI n + -1) 0 w3.1 else zlet (w_X8_fire S w3.1 fl k w3.2) (fun w5 => r_X8_takeIntoWindows S fl k x (nI t) (nI lbn) n (nI n + -1) 0 w5)) (w_X8_takeIntoWindow S w fl k x be (be + nI sz))).1 L ∧ SPn E (N + (n + 1)) ((fun w3 : TW × Int32 => if (w3.1.1 0 fl (3 * k) 0) < (be + nI sz) then r_X8_takeIntoWindows S fl k x (nI t) (nI lbn) n (nI n + -1) 0 w3.1 else zlet (w_X8_fire S w3.1 fl k w3.2) (fun w5 => r_X8_takeIntoWindows S fl k x (nI t) (nI lbn) n (nI n + -1) 0 w5)) (w_X8_takeIntoWindow S w fl k x be (be + nI sz))).1 fl (3 * k)
    generalize w_X8_takeIntoWindow S w fl k x be (be + nI sz) = w3 at *
    have x1 : EX (RS01 fl (3 * k)) S fl k E w w3.1 [] := EX.of hng a3 a2
    dsimp only
    by_cases c3 : (w3.1.1 0 fl (3 * k) 0) < (be + nI sz)
    · rw [if_pos c3]
      obtain ⟨L, l1, l2, l3⟩ := ih (N + 1) (nI n + -1) 0 w3.1 (by omega) hb2 (by omega) a1 (by rw [a3]; exact h7) (by rw [a3]; exact h6)
      exact ⟨[] ++ L, by simp; omega, x1.tr l2, by rw [show N + (n + 1) = N + 1 + n by omega]; exact l3⟩
    · rw [if_neg c3, a4]
      obtain ⟨y, hy⟩ := fire_EO (S := S) (E := E) (B := N + 1) hn w3.1 fl k a1.1 (by omega) hE a1.2.2 a5
      show ∃ L, L.length ≤ n + 1 ∧ EX (RS01 fl (3 * k)) S fl k E w (r_X8_takeIntoWindows S fl k x (nI t) (nI lbn) n (nI n + -1) 0 (w_X8_fire S w3.1 fl k (nI j))).1 L ∧ SPn E (N + (n + 1)) (r_X8_takeIntoWindows S fl k x (nI t) (nI lbn) n (nI n + -1) 0 (w_X8_fire S w3.1 fl k (nI j))).1 fl (3 * k)
      have hy1 := hy.2.2.1
      have hy2 := hy.2.2.2
      have a6 : SPn E (N + 1) (w_X8_fire S w3.1 fl k (nI j)) fl (3 * k) := a1.same (hy1 _ (rs_ri (by omega) hf (by omega))) (hy1 _ (rs_ri (by omega) hf (by omega)))
      obtain ⟨L, l1, l2, l3⟩ := ih (N + 1) (nI n + -1) 0 (w_X8_fire S w3.1 fl k (nI j)) (by omega) hb2 (by omega) a6 (by rw [hy2 _ _ _ _ (by omega), a3]; exact h7) (by rw [hy2 _ _ _ _ (by omega), a3]; exact h6)
      exact ⟨[] ++ ([y] ++ L), by simp; omega, x1.tr (hy.ex.tr l2), by rw [show N + (n + 1) = N + 1 + n by omega]; exact l3⟩
