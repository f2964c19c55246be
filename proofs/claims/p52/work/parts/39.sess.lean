/-! ===== removing spans; sessions ===== -/
theorem remove_SP {S : TS} {E N : Nat} (w : TW) (fl st a b : Nat) (h : SPn E N w fl st) : SPn E N (w_X7_remove S w fl st a b) fl st ∧ (∀ i, ¬ RS01 fl st i → (w_X7_remove S w fl st a b).2.2 i = w.2.2 i) ∧ (w_X7_remove S w fl st a b).1 = w.1 ∧ ((w_X7_remove S w fl st a b).2.2 (rs 0 fl st)) = qrem (w.2.2 (rs 0 fl st)) a b := by
  have e : w_X7_remove S w fl st a b = zrw (zrw w (rs 0 fl st) (qrem (w.2.2 (rs 0 fl st)) a b)) (rs 1 fl st) (qrem (w.2.2 (rs 1 fl st)) a b) := by
    have e9 : (zrw w (rs 0 fl st) (qrem (w.2.2 (rs 0 fl st)) a b)).2.2 (rs 1 fl st) = w.2.2 (rs 1 fl st) := by rw [zrw_q, if_neg (fun h => rs01 fl st h.symm)]
    show zrw (zrw w (rs 0 fl st) (qrem (w.2.2 (rs 0 fl st)) a b)) (rs 1 fl st) (qrem ((zrw w (rs 0 fl st) (qrem (w.2.2 (rs 0 fl st)) a b)).2.2 (rs 1 fl st)) a b) = _
    rw [e9]
  have e0 : (w_X7_remove S w fl st a b).2.2 (rs 0 fl st) = qrem (w.2.2 (rs 0 fl st)) a b := by
    rw [e, zrw_q, if_neg (rs01 fl st), zrw_q, if_pos rfl]
  have e1 : (w_X7_remove S w fl st a b).2.2 (rs 1 fl st) = qrem (w.2.2 (rs 1 fl st)) a b := by
    rw [e, zrw_q, if_pos rfl]
  obtain ⟨h1, h2, h3⟩ := h
  refine ⟨⟨?_, ?_, ?_⟩, fun i hi => ?_, rfl, e0⟩
  · rw [e0]; exact h1.rem
  · rw [e1]; exact h2.rem
  · rw [e0]; exact fun x hx => h3 x (mem_rem hx)
  · rw [e, zrw_q, if_neg (fun h => hi (Or.inr h)), zrw_q, if_neg (fun h => hi (Or.inl h))]
theorem zmin_or (a b : Int32) : zmin a b = a ∨ zmin a b = b := by unfold zmin; split <;> first | exact Or.inl rfl | exact Or.inr rfl
theorem zmax_or (a b : Int32) : zmax a b = a ∨ zmax a b = b := by unfold zmax; split <;> first | exact Or.inl rfl | exact Or.inr rfl
/-- a begin and an end as a session has them -/
def bgok (b : Int32) : Prop := ∃ m, m < 2 ^ 21 ∧ b + 1000 = nI m
def enok (E : Nat) (e : Int32) : Prop := ∃ m, 1 ≤ m ∧ m ≤ E ∧ e = nI m
theorem tis_loop {S : TS} {E : Nat} (fl k : Nat) (x : Int64) (ky tm : Int32) (hE : E < 2 ^ 20) :
    ∀ (n N : Nat) (b bg en lt : Int32) (ac : Int64) (w : TW), b = nI n - 1 → n ≤ (w.2.2 (rs 0 fl (3 * k))).2.length → N ≤ 4194304 → SPn E N w fl (3 * k) → bgok bg → enok E en →
      ∃ c : TW × Int32 × Int32 × Int32 × Int64, r_X8_takeIntoSession S fl k x ky tm n b bg en lt ac w = c ∧ SPn E N c.1 fl (3 * k) ∧ (∀ i, ¬ RS01 fl (3 * k) i → c.1.2.2 i = w.2.2 i) ∧ c.1.1 = w.1 ∧ bgok c.2.1 ∧ enok E c.2.2.1 ∧ (c.1.2.2 (rs 0 fl (3 * k))).2.length ≤ (w.2.2 (rs 0 fl (3 * k))).2.length := by
  intro n
  induction n with
  | zero => intro N b bg en lt ac w _ _ _ h hb he; exact ⟨_, rfl, h, fun _ _ => rfl, rfl, hb, he, Nat.le_refl _⟩
  | succ n ih =>
    intro N b bg en lt ac w hbn hl hN h hb he
    have hbn : b = nI n := by rw [hbn, nI_pred]
    subst hbn
    have hb2 : nI n + -1 = nI n - 1 := by rw [Int32.sub_eq_add_neg]
    obtain ⟨e, kk, b, p1, p2, p3, p4, p5, p6, p7⟩ := sp_at (S := S) (F := w.1) (G := w.2.1) h.1 hN (by omega) h.2.2 (j := n) (by omega)
    rw [er_X8_takeIntoSession]
    have skip := ih N (nI n + -1) bg en lt ac w hb2 (by omega) hN h hb he
    by_cases c1 : v_X7_keyAtPlace S w.1 w.2.1 w.2.2 fl (3 * k) (nI n) = ky
    · rw [if_pos c1]
      by_cases c2 : (tm + (w.1 8 0 k 9)) ≤ (v_X7_beginAt S w.1 w.2.1 w.2.2 fl (3 * k) (nI n))
      · rw [if_pos c2]; exact skip
      · rw [if_neg c2]
        by_cases c3 : (v_X7_endAt S w.1 w.2.1 w.2.2 fl (3 * k) (nI n)) ≤ tm
        · rw [if_pos c3]; exact skip
        · rw [if_neg c3]
          obtain ⟨a1, a2, a3, a4⟩ := remove_SP (S := S) w fl (3 * k) n 1 h
          have hlen : ((w_X7_remove S w fl (3 * k) n 1).2.2 (rs 0 fl (3 * k))).2.length = (w.2.2 (rs 0 fl (3 * k))).2.length - 1 := by
            rw [a4, rem_len, if_pos (by omega)]
          have hb' : bgok (zmin bg (v_X7_beginAt S w.1 w.2.1 w.2.2 fl (3 * k) (nI n))) := by
            rcases zmin_or bg (v_X7_beginAt S w.1 w.2.1 w.2.2 fl (3 * k) (nI n)) with h | h
            · rw [h]; exact hb
            · rw [h, p3]; exact ⟨b, p7, by rw [Int32.sub_add_cancel]⟩
          have he' : enok E (zmax en (v_X7_endAt S w.1 w.2.1 w.2.2 fl (3 * k) (nI n))) := by
            rcases zmax_or en (v_X7_endAt S w.1 w.2.1 w.2.2 fl (3 * k) (nI n)) with h | h
            · rw [h]; exact he
            · rw [h, p1]; exact ⟨e, p4, p5, rfl⟩
          obtain ⟨c, q1, q2, q3, q4, q5, q6, q7⟩ := ih N (nI n + -1) _ _ 0 (v_X0_ofBoth (w.1 8 0 k 12) (v_X7_accountAtPlace S w.1 w.2.1 w.2.2 fl (3 * k) (nI n)) ac) (w_X7_remove S w fl (3 * k) n 1) hb2 (by omega) hN a1 hb' he'
          exact ⟨c, q1, q2, fun i hi => (q3 i hi).trans (a2 i hi), q4.trans a3, q5, q6, by omega⟩
    · rw [if_neg c1]; exact skip
theorem tis_SP {S : TS} {E N : Nat} (w : TW) (fl k : Nat) (x : Int64) (t g : Nat) (ht : v_X3_time x = nI t) (hg : w.1 8 0 k 9 = nI g) (hg1 : 1 ≤ g) (hE : E < 2 ^ 20) (htE : t + g ≤ E) (h : SPn E N w fl (3 * k)) (hN : N + 1 ≤ 4194304) :
    ∃ c : TW, SPn E (N + 1) c fl (3 * k) ∧ (∀ i, ¬ RS01 fl (3 * k) i → c.2.2 i = w.2.2 i) ∧ c.1 = w.1 ∧ (w_X8_takeIntoSession S w fl k x = c ∨ w_X8_takeIntoSession S w fl k x = zset c 0 fl (3 * k) 6 (w.1 0 fl (3 * k) 6 + 1)) := by
  have hen : enok E (nI t + nI g) := ⟨t + g, by omega, htE, nI_add _ _⟩
  have hbg : bgok (nI t) := ⟨t + 1000, by omega, nI_add t 1000⟩
  have hlen : (v_X7_length S w.1 w.2.1 w.2.2 fl (3 * k)) - 1 = nI (w.2.2 (rs 0 fl (3 * k))).2.length - 1 := rfl
  have key : ∀ lt : Int32, ∃ c : TW, SPn E (N + 1) c fl (3 * k) ∧ (∀ i, ¬ RS01 fl (3 * k) i → c.2.2 i = w.2.2 i) ∧ c.1 = w.1 ∧
      ((fun w2 : TW × Int32 × Int32 × Int32 × Int64 => if w2.2.2.2.1 = 0 then zlet (w_X7_insert S w2.1 fl (3 * k) ((v_X7_placeFor S w2.1.1 w2.1.2.1 w2.1.2.2 fl (3 * k) (v_X7_name w2.2.2.1 (v_X3_key x) w2.2.1)).toNatClampNeg) (v_X7_name w2.2.2.1 (v_X3_key x) w2.2.1) w2.2.2.2.2) (fun w4 => w4) else zlet (zset w2.1 0 fl (3 * k) 6 ((w2.1.1 0 fl (3 * k) 6) + 1)) (fun w5 => w5)) (r_X8_takeIntoSession S fl k x (v_X3_key x) (nI t) ((w.2.2 (rs 0 fl (3 * k))).2.length) (nI (w.2.2 (rs 0 fl (3 * k))).2.length - 1) (nI t) (nI t + nI g) lt (v_X0_ofOne (w.1 8 0 k 12) x) w) = c ∨
      (fun w2 : TW × Int32 × Int32 × Int32 × Int64 => if w2.2.2.2.1 = 0 then zlet (w_X7_insert S w2.1 fl (3 * k) ((v_X7_placeFor S w2.1.1 w2.1.2.1 w2.1.2.2 fl (3 * k) (v_X7_name w2.2.2.1 (v_X3_key x) w2.2.1)).toNatClampNeg) (v_X7_name w2.2.2.1 (v_X3_key x) w2.2.1) w2.2.2.2.2) (fun w4 => w4) else zlet (zset w2.1 0 fl (3 * k) 6 ((w2.1.1 0 fl (3 * k) 6) + 1)) (fun w5 => w5)) (r_X8_takeIntoSession S fl k x (v_X3_key x) (nI t) ((w.2.2 (rs 0 fl (3 * k))).2.length) (nI (w.2.2 (rs 0 fl (3 * k))).2.length - 1) (nI t) (nI t + nI g) lt (v_X0_ofOne (w.1 8 0 k 12) x) w) = zset c 0 fl (3 * k) 6 (w.1 0 fl (3 * k) 6 + 1)) := by
    intro lt
    obtain ⟨c, q1, q2, q3, q4, ⟨mb, hmb, eb⟩, ⟨me, h1e, h2e, ee⟩, q7⟩ := tis_loop (S := S) fl k x (v_X3_key x) (nI t) hE _ N (nI (w.2.2 (rs 0 fl (3 * k))).2.length - 1) (nI t) (nI t + nI g) lt (v_X0_ofOne (w.1 8 0 k 12) x) w rfl (Nat.le_refl _) (by omega) h hbg hen
    rw [q1]
    dsimp only
    by_cases c0 : c.2.2.2.1 = 0
    · rw [if_pos c0]
      have hv : nmok E (v_X7_name c.2.2.1 (v_X3_key x) c.2.1) := by
        obtain ⟨kk, hkk, ek⟩ := it_keyE x
        rw [ee, ek]
        exact ⟨me, kk, mb, nm_of me kk mb (by omega) hkk hmb eb, h1e, h2e, hkk, hmb⟩
      generalize (v_X7_placeFor S c.1.1 c.1.2.1 c.1.2.2 fl (3 * k) (v_X7_name c.2.2.1 (v_X3_key x) c.2.1)).toNatClampNeg = j
      obtain ⟨a1, a2, a3, -⟩ := insert_SP (S := S) c.1 fl (3 * k) j (v_X7_name c.2.2.1 (v_X3_key x) c.2.1) c.2.2.2.2 q2 hv
      exact ⟨_, a1, fun i hi => (a2 i hi).trans (q3 i hi), a3.trans q4, Or.inl rfl⟩
    · rw [if_neg c0]
      refine ⟨c.1, q2.mono (by omega), q3, q4, Or.inr ?_⟩
      rw [← q4]
      rfl
  unfold w_X8_takeIntoSession
  rw [ht, hg, hlen]
  split
  · exact key 0
  · exact key 1
/-! ===== joins ===== -/
def TE (E : Nat) (L : List Int64) : Prop := ∀ x ∈ L, (v_X3_time x).toInt ≤ E
theorem joined_ok {E : Nat} (y z : Int64) (v : Int32) (kx : Int64) (hy : (v_X3_time y).toInt ≤ E) (hz : (v_X3_time z).toInt ≤ E) : v_X3_kind (v_X3_event (v_X3_key kx) v (zmax (v_X3_time y) (v_X3_time z))) = 0 ∧ (v_X3_time (v_X3_event (v_X3_key kx) v (zmax (v_X3_time y) (v_X3_time z)))).toInt ≤ E := by
  obtain ⟨kk, hkk, ek⟩ := it_keyE kx
  have : ∃ t : Nat, t < 2 ^ 20 ∧ zmax (v_X3_time y) (v_X3_time z) = nI t ∧ (t : Int) ≤ E := by
    rcases zmax_or (v_X3_time y) (v_X3_time z) with h | h
    · obtain ⟨t, h1, h2⟩ := it_timeE y
      exact ⟨t, h1, by rw [h, h2], by rw [h2, zi_nI (by omega)] at hy; exact hy⟩
    · obtain ⟨t, h1, h2⟩ := it_timeE z
      exact ⟨t, h1, by rw [h, h2], by rw [h2, zi_nI (by omega)] at hz; exact hz⟩
  obtain ⟨t, h1, h2, h3⟩ := this
  rw [ek, h2]
  exact ⟨ev_kind _ _ _ hkk h1, by rw [ev_time _ _ _ hkk h1, zi_nI (by omega)]; exact h3⟩
theorem tij_loop {S : TS} {E B : Nat} (hn : zn S ≤ 12) (fl k : Nat) (hf : fl < 2) (hk : k < 12) (x : Int64) (i1 : Int32) (xr : Nat) (hxr : xr < 4) (hx : (v_X3_time x).toInt ≤ E) (hB : B ≤ 4194304) :
    ∀ (n i : Nat) (w : TW), RBd B (w.2.2 (rs xr fl (3 * k))) → TE E (w.2.2 (rs xr fl (3 * k))).2 → i < 2 ^ 24 → n < 2 ^ 24 → ∃ L, L.length ≤ (w.2.2 (rs xr fl (3 * k))).2.length - i ∧ EO S fl k E w (r_X8_takeIntoJoin S fl k x i1 xr n i w) L := by
  intro n
  induction n with
  | zero => intro i w _ _ _ _; exact ⟨[], Nat.zero_le _, EO.rf⟩
  | succ n ih =>
    intro i w h ht hi hnn
    rw [er_X8_takeIntoJoin]
    by_cases c0 : (v_X6_length S w.1 w.2.1 w.2.2 (rs xr fl (3 * k))) ≤ (nI i)
    · rw [if_pos c0]; exact ⟨[], Nat.zero_le _, EO.rf⟩
    rw [if_neg c0]
    have hlen := h.1
    have hil : i < (w.2.2 (rs xr fl (3 * k))).2.length := by
      rcases Nat.lt_or_ge i (w.2.2 (rs xr fl (3 * k))).2.length with h1 | h1
      · exact h1
      · exact absurd (nI_le h1 (by omega)) c0
    have hz := ht _ (at_mem (S := S) (F := w.1) (G := w.2.1) h hB hil)
    have skip : ∃ L, L.length ≤ (w.2.2 (rs xr fl (3 * k))).2.length - i ∧ EO S fl k E w (r_X8_takeIntoJoin S fl k x i1 xr n (i + 1) w) L := by
      by_cases hi2 : i + 1 < 2 ^ 24
      · obtain ⟨L, l1, l2⟩ := ih (i + 1) w h ht hi2 (by omega)
        exact ⟨L, by omega, l2⟩
      · exfalso; omega
    have emit : ∀ y, v_X3_kind y = 0 ∧ (v_X3_time y).toInt ≤ E → ∃ L, L.length ≤ (w.2.2 (rs xr fl (3 * k))).2.length - i ∧ EO S fl k E w (r_X8_takeIntoJoin S fl k x i1 xr n (i + 1) (w_X8_emit S w fl k y)) L := fun y hy => by
      have e0 : (w_X8_emit S w fl k y).2.2 (rs xr fl (3 * k)) = w.2.2 (rs xr fl (3 * k)) := emit_row hn w fl k y _ (rs_ri hxr hf (by omega))
      obtain ⟨L, l1, l2⟩ := ih (i + 1) (w_X8_emit S w fl k y) (by rw [e0]; exact h) (by rw [e0]; exact ht) (by omega) (by omega)
      rw [e0] at l1
      exact ⟨[y] ++ L, by simp; omega, (emit_EO hn w fl k y hy).tr l2⟩
    by_cases c1 : i1 = 0
    · rw [if_pos c1]
      split
      · exact skip
      · exact emit _ (joined_ok _ _ _ _ hx hz)
    · rw [if_neg c1]
      split
      · exact skip
      · exact emit _ (joined_ok _ _ _ _ hz hx)
/-! ===== what is below a time goes ===== -/
theorem fb_loop {S : TS} {B : Nat} (i : Nat) (i1 : Int32) (hB : B ≤ 4194304) : ∀ (n : Nat) (b : Int32) (w : TW), b = nI n - 1 → n ≤ (w.2.2 i).2.length → RBd B (w.2.2 i) →
    ∃ c : TW, r_X8_forgetBelow S i i1 n b w = c ∧ c.1 = w.1 ∧ (∀ j, j ≠ i → c.2.2 j = w.2.2 j) ∧ RBd B (c.2.2 i) ∧ (∀ x ∈ (c.2.2 i).2, x ∈ (w.2.2 i).2) ∧ (c.2.2 i).2.length ≤ (w.2.2 i).2.length ∧ ((∀ x ∈ (w.2.2 i).2, v_X3_time x < i1) → (c.2.2 i).2.length = (w.2.2 i).2.length - n) := by
  intro n
  induction n with
  | zero => intro b w _ _ h; exact ⟨_, rfl, rfl, fun _ _ => rfl, h, fun _ h => h, Nat.le_refl _, fun _ => rfl⟩
  | succ n ih =>
    intro b w hb hl h
    have hb : b = nI n := by rw [hb, nI_pred]
    subst hb
    have hb2 : nI n + -1 = nI n - 1 := by rw [Int32.sub_eq_add_neg]
    rw [er_X8_forgetBelow]
    have hm := at_mem (S := S) (F := w.1) (G := w.2.1) h hB (j := n) (by omega)
    by_cases c1 : i1 ≤ (v_X3_time (v_X6_at S w.1 w.2.1 w.2.2 i (nI n)))
    · rw [if_pos c1]
      obtain ⟨c, q1, q2, q3, q4, q5, q6, q7⟩ := ih (nI n + -1) w hb2 (by omega) h
      refine ⟨c, q1, q2, q3, q4, q5, q6, fun hall => ?_⟩
      exfalso
      have h1 := zi_lt.mp (hall _ hm)
      have h2 := zi_le.mp c1
      omega
    · rw [if_neg c1]
      have e0 : (zrw w i (qrem (w.2.2 i) n 1)).2.2 i = qrem (w.2.2 i) n 1 := if_pos rfl
      have el : (qrem (w.2.2 i) n 1).2.length = (w.2.2 i).2.length - 1 := by rw [rem_len, if_pos (by omega)]
      obtain ⟨c, q1, q2, q3, q4, q5, q6, q7⟩ := ih (nI n + -1) (zrw w i (qrem (w.2.2 i) n 1)) hb2 (by rw [e0, el]; omega) (by rw [e0]; exact h.rem)
      rw [e0] at q5 q6 q7
      refine ⟨c, q1, q2, fun j hj => by rw [q3 j hj, zrw_q, if_neg hj], q4, fun x hx => mem_rem (q5 x hx), by omega, fun hall => ?_⟩
      rw [q7 (fun x hx => hall x (mem_rem hx)), el]
      omega
theorem fb_all {S : TS} {B : Nat} (w : TW) (i : Nat) (i1 : Int32) (hB : B ≤ 4194304) (h : RBd B (w.2.2 i)) :
    ∃ c : TW, w_X8_forgetBelow S w i i1 = c ∧ c.1 = w.1 ∧ (∀ j, j ≠ i → c.2.2 j = w.2.2 j) ∧ RBd B (c.2.2 i) ∧ (∀ x ∈ (c.2.2 i).2, x ∈ (w.2.2 i).2) ∧ (c.2.2 i).2.length ≤ (w.2.2 i).2.length ∧ ((∀ x ∈ (w.2.2 i).2, v_X3_time x < i1) → (c.2.2 i).2 = []) := by
  obtain ⟨c, q1, q2, q3, q4, q5, q6, q7⟩ := fb_loop (S := S) i i1 hB (w.2.2 i).2.length ((v_X6_length S w.1 w.2.1 w.2.2 i) - 1) w rfl (Nat.le_refl _) h
  exact ⟨c, q1, q2, q3, q4, q5, q6, fun hall => List.eq_nil_of_length_eq_zero (by rw [q7 hall]; omega)⟩
/-! ===== places ===== -/
theorem pf_hi {S : TS} {F : TF} {G : TG} {q : TQ} {fl k : Nat} {l1 : Int64} : ∀ (n lo hi : Nat), lo ≤ hi → hi - lo < 2 ^ n → hi < 2 ^ 30 → (∀ j, j < hi → v_X6_at S F G q (rs 0 fl k) (nI j) < l1) → r_X7_placeFor S F G q fl k l1 n lo hi = nI hi := by
  intro n
  induction n with
  | zero => intro lo hi h1 h2 _ _; have : lo = hi := by omega
            subst this; rfl
  | succ n ih =>
    intro lo hi h1 h2 h3 h4
    simp only [r_X7_placeFor]
    by_cases c : nI hi ≤ nI lo
    · rw [if_pos c]
      have := (nI_leI (by omega) (by omega)).mp c
      have : lo = hi := by omega
      rw [this]
    · rw [if_neg c]
      have : ¬ hi ≤ lo := fun h => c ((nI_leI (by omega) (by omega)).mpr h)
      have h5 := h4 ((lo + hi) / 2) (by omega)
      rw [if_neg (fun h => Int64.not_le.mpr h5 ((lg_cmp_ge _ _).mp h))]
      exact ih _ hi (by omega) (by rw [Nat.pow_succ] at h2; omega) h3 h4
theorem pf_end {S : TS} {F : TF} {G : TG} {q : TQ} {fl k : Nat} {l1 : Int64} {Z : Nat} : ∀ (n lo hi : Nat), lo ≤ hi → hi - lo < 2 ^ n → hi < 2 ^ 30 → (hi = Z ∨ l1 ≤ v_X6_at S F G q (rs 0 fl k) (nI hi)) → ∃ j, r_X7_placeFor S F G q fl k l1 n lo hi = nI j ∧ j ≤ hi ∧ (j = Z ∨ l1 ≤ v_X6_at S F G q (rs 0 fl k) (nI j)) := by
  intro n
  induction n with
  | zero => intro lo hi h1 h2 h3 h4; have : lo = hi := by omega
            subst this; exact ⟨lo, rfl, Nat.le_refl _, h4⟩
  | succ n ih =>
    intro lo hi h1 h2 h3 h4
    simp only [r_X7_placeFor]
    by_cases c : nI hi ≤ nI lo
    · rw [if_pos c]
      have := (nI_leI (by omega) (by omega)).mp c
      have : lo = hi := by omega
      subst this
      exact ⟨lo, rfl, Nat.le_refl _, h4⟩
    · rw [if_neg c]
      have : ¬ hi ≤ lo := fun h => c ((nI_leI (by omega) (by omega)).mpr h)
      rw [Nat.pow_succ] at h2
      split
      · rename_i hc
        obtain ⟨j, g1, g2, g3⟩ := ih lo ((lo + hi) / 2) (by omega) (by omega) (by omega) (Or.inr ((lg_cmp_ge _ _).mp hc))
        exact ⟨j, g1, by omega, g3⟩
      · exact ih ((lo + hi) / 2 + 1) hi (by omega) (by omega) h3 h4
/-- all end below: the first place above is the end -/
theorem fe_all {S : TS} {F : TF} {G : TG} {q : TQ} {fl k B E : Nat} {t : Int32} {tn : Nat} (h : RBd B (q (rs 0 fl k))) (hB : B ≤ 4194304) (hN : NE E (q (rs 0 fl k)).2) (hE : E < 2 ^ 30) (ht : t + 1 = nI tn) (htn : tn < 2 ^ 30) (hlt : E < tn) : v_X7_firstEndingAbove S F G q fl k t = nI (q (rs 0 fl k)).2.length := by
  have := h.1
  unfold v_X7_firstEndingAbove v_X7_placeFor
  rw [nm_at ht htn]
  refine pf_hi 40 0 _ (Nat.zero_le _) (by omega) (by omega) (fun j hj => ?_)
  obtain ⟨e, kk, b, h1, h2, h3, h4, h5⟩ := hN _ (at_mem (S := S) (F := F) (G := G) h hB hj)
  rw [h1]
  exact (nm_lt e kk b tn (by omega) h4 h5 htn).mpr (by omega)
/-- what stands at the first place above ends above -/
theorem fe_above {S : TS} {F : TF} {G : TG} {q : TQ} {fl k B E : Nat} {t : Int32} {tn : Nat} (h : RBd B (q (rs 0 fl k))) (hB : B ≤ 4194304) (hN : NE E (q (rs 0 fl k)).2) (hE : E < 2 ^ 30) (ht : t + 1 = nI tn) (htn : tn < 2 ^ 30) :
    ∃ j, v_X7_firstEndingAbove S F G q fl k t = nI j ∧ j ≤ (q (rs 0 fl k)).2.length ∧ (j = (q (rs 0 fl k)).2.length ∨ ∃ e, v_X7_endAt S F G q fl k (nI j) = nI e ∧ tn ≤ e ∧ e ≤ E) := by
  have := h.1
  have e1 : v_X7_firstEndingAbove S F G q fl k t = r_X7_placeFor S F G q fl k (lN (tn * 2 ^ 29)) 40 0 (q (rs 0 fl k)).2.length := by
    unfold v_X7_firstEndingAbove v_X7_placeFor
    rw [nm_at ht htn]
  obtain ⟨j, g1, g2, g3⟩ := pf_end (S := S) (F := F) (G := G) (q := q) (fl := fl) (k := k) (l1 := lN (tn * 2 ^ 29)) (Z := (q (rs 0 fl k)).2.length) 40 0 (q (rs 0 fl k)).2.length (Nat.zero_le _) (by omega) (by omega) (Or.inl rfl)
  refine ⟨j, by rw [e1, g1], g2, ?_⟩
  by_cases hj : j = (q (rs 0 fl k)).2.length
  · exact Or.inl hj
  · right
    have hj2 : j < (q (rs 0 fl k)).2.length := by omega
    have g4 : lN (tn * 2 ^ 29) ≤ v_X6_at S F G q (rs 0 fl k) (nI j) := by
      rcases g3 with g3 | g3
      · exact absurd g3 hj
      · exact g3
    obtain ⟨e, kk, b, h1, h2, h3, h4, h5⟩ := hN _ (at_mem (S := S) (F := F) (G := G) h hB hj2)
    rw [h1] at g4
    refine ⟨e, ?_, ?_, h3⟩
    · unfold v_X7_endAt; rw [h1]; exact nm_end e kk b (by omega) h4 h5
    · rcases Nat.lt_or_ge e tn with h6 | h6
      · exact absurd ((nm_lt e kk b tn (by omega) h4 h5 htn).mpr h6) (Int64.not_lt.mpr g4)
      · exact h6
