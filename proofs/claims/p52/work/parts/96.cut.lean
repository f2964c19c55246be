/-! ===== the law's own arrays beside the world; what the law knows at each point ===== -/
section WC
variable {D : va_G} {yc : Nat → ClassId} {e0 : Nat} {A B : Nat → Prop} {S : TS} {Z : Nat × Nat} {F : TF} {G : TG} {q : TQ} {H H1 : Heap}
theorem WT.monoA (h : WT D yc e0 A S Z F G q H) (hB : ∀ a, A a → B a) : WT D yc e0 B S Z F G q H := by
  obtain ⟨own, g1, g2, g3, g4⟩ := h
  refine ⟨own, fun kd fl k hd => ?_, fun i hi => ?_, fun b fl k hl => ?_, g4⟩
  · obtain ⟨q1, q2, q3⟩ := g1 kd fl k hd
    exact ⟨q1, hB _ q2, q3⟩
  · obtain ⟨x, f, q1, q2, q3⟩ := g2 i hi
    exact ⟨x, f, ⟨q1.1, hB _ q1.2.1, q1.2.2⟩, ⟨q2.1, hB _ q2.2.1, q2.2.2⟩, q3⟩
  · obtain ⟨⟨p0, p00⟩, ⟨p1, mc, p2⟩ | ⟨mc, x, cap, f, p1, p2, p3⟩⟩ := g3 b fl k hl
    · exact ⟨⟨hB _ p0, p00⟩, Or.inl ⟨p1, mc, p2⟩⟩
    · exact ⟨⟨hB _ p0, p00⟩, Or.inr ⟨mc, x, cap, f, p1, ⟨p2.1, hB _ p2.2.1, p2.2.2⟩, p3⟩⟩
/-- a new cell that isn't the world's -/
theorem WT.fresh (h : WT D yc e0 A S Z F G q H) {c n : Nat} (hk : ∀ a : Nat, a < H.size → H1[a]? = H[a]?) (hz : H1.size ≤ H.size + c) (hh : zh H1 ≤ zh H + n) : WT D yc e0 (fun x => A x ∧ x ≠ H.size) S (Z.1 + c, Z.2 + n) F G q H1 := by
  have h9 : WT D yc e0 (fun x => A x ∧ x ≠ H.size) S Z F G q H := by
    obtain ⟨own, g1, g2, g3, g4⟩ := h
    have lt : ∀ {x : Nat × va_E}, va_at D vwCl x H → x.1 ≠ H.size := fun hx => Nat.ne_of_lt hx.lt
    refine ⟨own, fun kd fl k hd => ?_, fun i hi => ?_, fun b fl k hl => ?_, g4⟩
    · obtain ⟨q1, q2, q3⟩ := g1 kd fl k hd
      exact ⟨q1, ⟨q2, lt q1⟩, q3⟩
    · obtain ⟨x, f, q1, q2, q3⟩ := g2 i hi
      exact ⟨x, f, ⟨q1.1, ⟨q1.2.1, lt q1.1⟩, q1.2.2⟩, ⟨q2.1, ⟨q2.2.1, lt q2.1⟩, q2.2.2⟩, q3⟩
    · obtain ⟨⟨p0, p00⟩, ⟨p1, mc, p2⟩ | ⟨mc, x, cap, f, p1, p2, p3⟩⟩ := g3 b fl k hl
      · exact ⟨⟨⟨p0, lt p2⟩, p00⟩, Or.inl ⟨p1, mc, p2⟩⟩
      · exact ⟨⟨⟨p0, lt p1⟩, p00⟩, Or.inr ⟨mc, x, cap, f, p1, ⟨p2.1, ⟨p2.2.1, lt p2.1⟩, p2.2.2⟩, p3⟩⟩
  exact h9.grow hk hz hh
/-- a cell outside is written -/
theorem WT.off (h : WT D yc e0 B S Z F G q H) {a : Nat} (ha : ¬ B a) (hk : ∀ x : Nat, x ≠ a → H1[x]? = H[x]?) (hz : H1.size = H.size) (hh : zh H1 = zh H) : WT D yc e0 B S Z F G q H1 := by
  obtain ⟨own, g1, g2, g3, g4, g5, g6, g7⟩ := h
  have hk : ∀ x : Nat, B x → H1[x]? = H[x]? := fun x hx => hk x (fun e => ha (by rw [← e]; exact hx))
  refine ⟨own, fun kd fl k hd => ?_, fun i hi => ?_, fun b fl k hl' => ?_, g4, by rw [hz]; exact g5, by rw [hh]; exact g6, g7⟩
  · obtain ⟨h1, h2⟩ := g1 kd fl k hd
    exact ⟨h1.kept (hk _ h2.1), h2⟩
  · obtain ⟨x, f, h1, h2, h3⟩ := g2 i hi
    exact ⟨x, f, WRow.kept ⟨h1, h2, h3⟩ (hk _ h1.2.1) (hk _ h2.2.1)⟩
  · obtain ⟨h0, ⟨h1, mc, h2⟩ | ⟨mc, x, cap, f, h1, h2, h3⟩⟩ := g3 b fl k hl'
    · exact ⟨h0, Or.inl ⟨h1, mc, h2.kept (hk _ h0.1)⟩⟩
    · exact ⟨h0, Or.inr ⟨mc, x, cap, f, h1.kept (hk _ h0.1), ⟨h2.1.kept (hk _ h2.2.1), h2.2⟩, h3⟩⟩
end WC
/-- an array of twelve ints -/
def IA (D : va_G) (yc : Nat → ClassId) (a : Nat) (f : Nat → Int32) (H : Heap) : Prop := va_at D vwCl (a, .inl (yc 0, 12, .inl f)) H
/-- what is older than the run stays -/
def LSt (s : State) (H : Heap) : Prop := s.heap.size ≤ H.size ∧ ∀ q : Nat, q < s.heap.size → H[q]? = s.heap[q]?
theorem LSt.va {s : State} {H : Heap} (h : LSt s H) {B : Nat → Prop} : va_S B s.heap H [] := ⟨h.1, fun q h1 _ => h.2 q h1, fun _ h => nomatch h⟩
theorem va_S.ls {s : State} {H : Heap} {B : Nat → Prop} {locs : List Jvm.Loc} (h : va_S B s.heap H locs) (hB : ∀ q, B q → s.heap.size ≤ q) : LSt s H ∧ ∀ q ∈ locs, s.heap.size ≤ q.base :=
  ⟨⟨h.1, fun q h1 => h.2.1 q h1 (fun h2 => absurd (hB q h2) (Nat.not_le.mpr h1))⟩, fun q hq => hB _ (h.2.2 q hq)⟩
/-- all that the law knows of the heap -/
def LW (s : State) (D : va_G) (yc : Nat → ClassId) (e0 : Nat) (B : Nat → Prop) (S : TS) (Z : Nat × Nat) (w : TW) (H : Heap) : Prop :=
  WT D yc e0 B S Z w.1 w.2.1 w.2.2 H ∧ LSt s H ∧ (∀ q, B q → s.heap.size ≤ q) ∧ ∀ q, H.size ≤ q → B q
section LWK
variable {p : Program} {l : Launch} {e : Env} {R : Room} {s : State} {m : MethodId} {args : Array Value} {below : List Frame} {meth : Method} {c : Code} {H : Heap} {cells slots : Nat} {Q : State → Prop} {cc : ByteArray} {pc : Nat} {ls : Array Slot} {rest st0 As : List Value}
variable {D : va_G} {yc : Nat → ClassId} {e0 : Nat} {B : Nat → Prop} {S : TS} {Z : Nat × Nat} {w : TW} {a : Nat} {f : Nat → Int32} {av : Array Value}
abbrev A9 (s : State) : Nat → Prop := fun q : Nat => s.heap.size ≤ q
theorem LW.vs (h : LW s D yc e0 B S Z w H) : va_S (A9 s) s.heap H [] := h.2.1.va
theorem lp_V (hC : CX D yc e0 (A9 s) s) (h : LW s D yc e0 B S Z w H) (kd fl k : Nat) (hd : dm S kd fl k) {fs : List Value} {ci : Nat} (he : cel S w.2.1 kd fl k (w.1 kd fl k) = .inr (ci, fs)) {C : String} {T : u_T} {N : Nat} (hc : vwCl[ci]? = some (C, T, N)) : PreV s H C (zg S kd fl k) (PT D yc e0 B S Z w.1 w.2.1 w.2.2 (.ref (zg S kd fl k) :: As)) As :=
  ⟨PT.blind, va_recv hC.1 (va_P_one (by have h9 := (h.1.obj hd).1; rw [he] at h9; exact h9)) hc (q0 := 0) rfl, fun U hU hWm => ⟨rfl, by rw [hU]; exact h.1, fun a ha => h.2.2.2 a (by rw [← hU]; exact ha), hC.go h.vs h.2.2.1 hU hWm⟩⟩
theorem lq_V (hC : CX D yc e0 (A9 s) s) (h : LW s D yc e0 B S Z w H) (kd fl k : Nat) (hd : dm S kd fl k) {fs : List Value} {ci : Nat} (he : cel S w.2.1 kd fl k (w.1 kd fl k) = .inr (ci, fs)) {C : String} {T : u_T} {N : Nat} (hc : vwCl[ci]? = some (C, T, N)) : PreV s H C (zg S kd fl k) (PM D yc e0 B S Z w H.size (zh H) (.ref (zg S kd fl k) :: As)) As :=
  ⟨PM.blind, va_recv hC.1 (va_P_one (by have h9 := (h.1.obj hd).1; rw [he] at h9; exact h9)) hc (q0 := 0) rfl, fun U hU hWm => ⟨rfl, by rw [hU]; exact h.1, by rw [hU]; exact ⟨rfl, rfl⟩, fun a ha => h.2.2.2 a (by rw [← hU]; exact ha), hC.go h.vs h.2.2.1 hU hWm⟩⟩
theorem lp_S (hC : CX D yc e0 (A9 s) s) (h : LW s D yc e0 B S Z w H) : PreS s H (PT D yc e0 B S Z w.1 w.2.1 w.2.2 As) As :=
  ⟨PT.blind, fun U hU hWm => ⟨rfl, by rw [hU]; exact h.1, fun a ha => h.2.2.2 a (by rw [← hU]; exact ha), hC.go h.vs h.2.2.1 hU hWm⟩⟩
theorem lq_S (hC : CX D yc e0 (A9 s) s) (h : LW s D yc e0 B S Z w H) : PreS s H (PM D yc e0 B S Z w H.size (zh H) As) As :=
  ⟨PM.blind, fun U hU hWm => ⟨rfl, by rw [hU]; exact h.1, by rw [hU]; exact ⟨rfl, rfl⟩, fun a ha => h.2.2.2 a (by rw [← hU]; exact ha), hC.go h.vs h.2.2.1 hU hWm⟩⟩
/-- a call that writes -/
theorem lw_i {w1 : TW × Int32} (hB : ZB Z (s.heap.size + R.cells) (zh s.heap + R.slots) w1.1) (h : LW s D yc e0 B S Z w H)
    (hH : H.size ≤ s.heap.size + R.cells ∧ zh H ≤ zh s.heap + R.slots)
    (hr : (H.size - s.heap.size) + (s.heap.size + R.cells - H.size) ≤ R.cells ∧ (zh H - zh s.heap) + (zh s.heap + R.slots - zh H) ≤ R.slots → va_Run p l e R s m args below meth c H [] (H.size - s.heap.size) (zh H - zh s.heap) (s.heap.size + R.cells - H.size) (zh s.heap + R.slots - zh H) (F0 m pc ls st0) rest (tQi D yc e0 B S Z w1 av) B)
    (kk : ∀ H1 : Heap, LW s D yc e0 B S Z w1.1 H1 → H.size ≤ H1.size → (∀ q : Nat, q < H.size → ¬ B q → H1[q]? = H[q]?) → W p l e R s m args below meth c H1 [] R.cells R.slots Q (F0 m (pc + 3) ls (.int w1.2 :: rest))) : W p l e R s m args below meth c H [] cells slots Q (F0 m pc ls st0) :=
  W.know fun h1 h2 h3 h4 => W.tight (c1 := H.size - s.heap.size) (n1 := zh H - zh s.heap) (by omega) (by omega)
    (va_calli (hr ⟨by omega, by omega⟩) h.2.1.va (fun _ _ h => h) (fun _ h => h) (fun r u t H1 locs1 ht _ hp hB1 hz hk hS1 => by
      subst ht
      rw [hp]
      obtain ⟨h5, h6⟩ := hS1.ls h.2.2.1
      have h7 := hB.top hB1
      exact va_forget h6 (W.tight (c1 := R.cells) (n1 := R.slots) h7.1 h7.2 (kk _ ⟨hB1, h5, h.2.2.1, fun q hq => h.2.2.2 q (Nat.le_trans hz hq)⟩ hz hk))))
theorem IA.kept {H1 : Heap} (h : IA D yc a f H) (hk : H1[a]? = H[a]?) : IA D yc a f H1 := va_at.kept h hk
theorem IA.lt (h : IA D yc a f H) : a < H.size := va_at.lt h
/-- a new array of twelve ints -/
theorem lw_newa (hx : p.tables.exec = Jvm.exec) (hb : c.code = cc) (hC : CX D yc e0 (A9 s) s) (harr : (Cond.arrayClass (newarray.typeOf .int)).before args s = true) (h : LW s D yc e0 B S Z w H) (hH : H.size + 1 ≤ s.heap.size + R.cells ∧ zh H + 12 ≤ zh s.heap + R.slots) (hdg : decode cc pc = .ok (.newarray .int, 2))
    (kk : ∀ H1 : Heap, LW s D yc e0 (fun x => B x ∧ x ≠ H.size) S (Z.1 + 1, Z.2 + 12) w H1 → IA D yc H.size (fun _ => 0) H1 → B H.size → H1.size = H.size + 1 → (∀ q : Nat, q < H.size → H1[q]? = H[q]?) → W p l e R s m args below meth c H1 [] R.cells R.slots Q (F0 m (pc + 2) ls (.ref H.size :: rest))) : W p l e R s m args below meth c H [] cells slots Q (F0 m pc ls (.int 12 :: rest)) :=
  W.know fun h1 h2 h3 h4 => W.tight (c1 := H.size - s.heap.size) (n1 := zh H - zh s.heap) (by omega) (by omega) (by
    refine va_newaK hx hb harr rfl hdg (n := 12) (N := 12) (rest := rest) rfl (by decide) (by decide) (by decide) (by omega) (by omega) rfl (fun H1 cA e1 z1 o1 hAr hNm => ?_)
    refine W.know fun g1 g2 g3 g4 => W.tight (c1 := R.cells) (n1 := R.slots) (by omega) (by omega) ?_
    have hcA : cA = yc 0 := Option.some.inj (hNm.symm.trans ((hC.1).2 0 _ rfl).2)
    subst hcA
    refine kk H1 ⟨h.1.fresh o1 (by omega) (by omega), ⟨by omega, fun q hq => by rw [o1 q (by have := h.2.1.1; omega)]; exact h.2.1.2 q hq⟩, fun q hq => h.2.2.1 q hq.1, fun q hq => ⟨h.2.2.2 q (by omega), by omega⟩⟩ ?_ (h.2.2.2 _ (Nat.le_refl _)) z1 o1
    exact e1)
/-- a cell of such an array is written -/
theorem lw_iast (hx : p.tables.exec = Jvm.exec) (hb : c.code = cc) (hC : CX D yc e0 (A9 s) s) (h : LW s D yc e0 B S Z w H) (hI : IA D yc a f H) (ha : ¬ B a) (ha2 : s.heap.size ≤ a) {k : Nat} {v : Int32} (hk : k < 12) (hdg : decode cc pc = .ok (.iastore, 1))
    (kk : ∀ H1 : Heap, LW s D yc e0 B S Z w H1 → IA D yc a (upd f k v) H1 → (∀ q : Nat, q ≠ a → H1[q]? = H[q]?) → H1.size = H.size → W p l e R s m args below meth c H1 [] cells slots Q (F0 m (pc + 1) ls rest)) : W p l e R s m args below meth c H [] cells slots Q (F0 m pc ls (.int v :: .int (nI k) :: .ref a :: rest)) := by
  refine W.iast hx hb hI (((hC.1).2 0 _ rfl).1 12 (fun j => .int (f j))) (fun q => by cases q) ?_ rfl rfl hdg fun H1 e1 z oq => ?_
  · show ¬ (nI k < 0 ∨ (arrV _ _ _).slots.size ≤ _)
    rw [arrV_size, nI_clamp (by omega)]
    exact fun h => h.elim (nI_pos (by omega)) (fun h => by have h : 12 ≤ k := h; omega)
  · have hh : zh H1 = zh H := zh_set hI e1 z oq
    refine va_forget (fun q hq => by
      rcases List.mem_append.mp hq with h9 | h9
      · cases h9
      · cases List.mem_singleton.mp h9; exact ha2) ?_
    refine kk H1 ⟨h.1.off ha oq z hh, ⟨by rw [z]; exact h.2.1.1, fun q hq => by rw [oq q (Nat.ne_of_lt (Nat.lt_of_lt_of_le hq ha2))]; exact h.2.1.2 q hq⟩, h.2.2.1, fun q hq => h.2.2.2 q (by rw [← z]; exact hq)⟩ ?_ oq z
    show H1[a]? = some (vp_cell _ _)
    rw [e1, nI_clamp (by omega)]
    show some ((vp_cell (yc 0) (12, .inl f)).setSlot k (.int v)) = _
    rw [vp_cell_i, vp_cell_i, arrV_store]
    congr 2
    funext j
    by_cases hj : j = k
    · subst hj; simp [updV, upd]
    · simp [updV, upd, hj]
/-- .. is read -/
theorem lw_iald (hx : p.tables.exec = Jvm.exec) (hb : c.code = cc) (hC : CX D yc e0 (A9 s) s) (hI : IA D yc a f H) {k : Nat} (hk : k < 12) (hdg : decode cc pc = .ok (.iaload, 1))
    (kk : W p l e R s m args below meth c H [] cells slots Q (F0 m (pc + 1) ls (.int (f k) :: rest))) : W p l e R s m args below meth c H [] cells slots Q (F0 m pc ls (.int (nI k) :: .ref a :: rest)) := by
  refine va_iald hx hb hC.1 (va_P_one hI) 0 0 rfl rfl (vp_in_nI hk (by omega)) hdg ?_
  rw [nI_clamp (by omega)]
  exact kk
end LWK
