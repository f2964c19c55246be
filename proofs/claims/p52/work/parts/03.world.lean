/-! ===== how many slots a heap has; what a walk knows of its heap ===== -/
def zh (H : Heap) : Nat := (H.toList.map (fun c => c.slots.size)).sum
theorem zh_split {B C : Heap} (hz : B.size ≤ C.size) (h : ∀ (a : Nat) (c : Cell), B[a]? = some c → ∃ c' : Cell, C[a]? = some c' ∧ c'.slots.size = c.slots.size) : zh C = zh B + ((C.toList.drop B.size).map (fun c => c.slots.size)).sum := by
  have e : (C.toList.take B.size).map (fun c => c.slots.size) = B.toList.map (fun c => c.slots.size) := by
    apply List.ext_getElem?
    intro i
    rw [List.getElem?_map, List.getElem?_map, List.getElem?_take]
    by_cases hi : i < B.size
    · rw [if_pos hi]
      have h1 : B[i]? = some B[i] := Array.getElem?_eq_getElem hi
      obtain ⟨c', h2, h3⟩ := h i _ h1
      rw [Array.getElem?_toList, Array.getElem?_toList, h1, h2]
      simp [h3]
    · rw [if_neg hi, Array.getElem?_toList, Array.getElem?_eq_none (by omega)]
  unfold zh
  rw [← e, ← List.sum_append, ← List.map_append, List.take_append_drop]
theorem zh_same {B C : Heap} (hz : C.size = B.size) (h : ∀ (a : Nat) (c : Cell), B[a]? = some c → ∃ c' : Cell, C[a]? = some c' ∧ c'.slots.size = c.slots.size) : zh C = zh B := by
  rw [zh_split (B := B) (C := C) (by omega) h]
  have : C.toList.drop B.size = [] := List.drop_eq_nil_of_le (by rw [Array.length_toList]; omega)
  rw [this]
  rfl
theorem zh_set {B C : Heap} {a i : Nat} {v : Value} {cell : Cell} (h0 : B[a]? = some cell) (e1 : C[a]? = some (cell.setSlot i v)) (hz : C.size = B.size) (e3 : ∀ q : Nat, q ≠ a → C[q]? = B[q]?) : zh C = zh B := by
  refine zh_same hz (fun b c hb => ?_)
  by_cases h : b = a
  · subst h
    have : c = cell := Option.some.inj (hb.symm.trans h0)
    subst this
    exact ⟨_, e1, by simp [Cell.setSlot]⟩
  · exact ⟨c, by rw [e3 b h]; exact hb, rfl⟩
section ZW
variable {p : Program} {l : Launch} {e : Env} {R : Room} {s : State} {m : MethodId} {args : Array Value} {below : List Frame} {meth : Method} {c : Code} {H : Heap} {locs : List Loc} {cells slots : Nat} {Q : State → Prop}
theorem zw_sum {T : State} (X : Stand p l e R s m args below meth c T locs cells slots) : zh T.heap = zh s.heap + ((T.heap.toList.drop s.heap.size).map (fun c => c.slots.size)).sum :=
  zh_split (B := s.heap) (C := T.heap) X.same.2.1 (fun a c h => by obtain ⟨c', h1, h2, h3, h4⟩ := X.same.2.2.2.2.2 a c h; exact ⟨c', h1, h3⟩)
theorem W.know {g : JFrame} (k : H.size ≤ s.heap.size + cells → s.heap.size ≤ H.size → zh H ≤ zh s.heap + slots → zh s.heap ≤ zh H → W p l e R s m args below meth c H locs cells slots Q g) : W p l e R s m args below meth c H locs cells slots Q g := by
  intro T hT X
  have h1 : T.heap.size ≤ s.heap.size + cells := X.same.2.2.1
  have h2 : s.heap.size ≤ T.heap.size := X.same.2.1
  have h3 := zw_sum X
  have h4 : ((T.heap.toList.drop s.heap.size).map (fun c => c.slots.size)).sum ≤ slots := X.same.2.2.2.2.1
  rw [hT] at h1 h2 h3 h4
  exact k h1 h2 (by omega) (by omega) T hT X
theorem W.tight {g : JFrame} {c1 n1 : Nat} (h1 : H.size ≤ s.heap.size + c1) (h2 : zh H ≤ zh s.heap + n1) (k : W p l e R s m args below meth c H locs c1 n1 Q g) : W p l e R s m args below meth c H locs cells slots Q g := by
  intro T hT X
  have h3 := zw_sum X
  rw [hT] at h3
  refine k T hT { X with same := ⟨X.same.1, X.same.2.1, ?_, X.same.2.2.2.1, ?_, X.same.2.2.2.2.2⟩ }
  · show T.heap.size ≤ s.heap.size + c1
    rw [hT]; exact h1
  · show ((T.heap.toList.drop s.heap.size).map (fun c => c.slots.size)).sum ≤ n1
    rw [hT]; omega
end ZW
/-- a contract from others, chosen by the state -/
theorem Met.conv {l : Launch} {y : MethodName} {ws : List Cond} {rm : Room} {Pc' : Array Value → State → Prop} {Qc' : Array Value → State → Outcome → State → Prop} {mc ms : Nat} {free' : Addr → Prop}
    (h : ∀ args s, Pc' args s → ∃ (Pc : Array Value → State → Prop) (Qc : Array Value → State → Outcome → State → Prop) (free : Addr → Prop), Met l y ws rm Pc Qc mc ms free ∧ Pc args s ∧ (∀ q, free q → free' q) ∧ ∀ o t, Qc args s o t → t.heap.size ≤ s.heap.size + mc → zh t.heap ≤ zh s.heap + ms → (∀ q : Nat, q < s.heap.size → ¬ free q → t.heap[q]? = s.heap[q]?) → Qc' args s o t) : Met l y ws rm Pc' Qc' mc ms free' := by
  intro p e ha hc hk s m args below hf happ hP hK
  obtain ⟨Pc, Qc, free, hM, hp, hfr, hq⟩ := h args s hP
  obtain ⟨n, o, h1, h2, h3, h4, L, h5, h6⟩ := hM p e ha hc hk s m args below hf happ hp hK
  have hs := h5.2.2
  have e0 := zh_split (B := s.heap) (C := (stepsAlone p.tables e n s).heap) hs.2.1 (fun a c h => by obtain ⟨c', g1, g2, g3, g4⟩ := hs.2.2.2.2.2 a c h; exact ⟨c', g1, g3⟩)
  have e1 : (((stepsAlone p.tables e n s).heap.toList.drop s.heap.size).map (fun c => c.slots.size)).sum ≤ ms := hs.2.2.2.2.1
  refine ⟨n, o, h1, h2, h3, hq o _ h4 hs.2.2.1 (by omega) ?_, L, h5, fun q hq => hfr _ (h6 q hq)⟩
  intro q hq1 hq2
  have h9 : s.heap[q]? = some s.heap[q] := Array.getElem?_eq_getElem hq1
  obtain ⟨c', g1, g2, g3, g4⟩ := hs.2.2.2.2.2 q _ h9
  have g1' : (stepsAlone p.tables e n s).heap[q]? = some c' := g1
  rw [g1', h9, g2]
  have : c'.slots = s.heap[q].slots := by
    apply Array.ext_getElem?
    intro i
    exact g4 i (fun hm => hq2 (h6 _ hm))
  rw [this]
/-! ===== methods that write nothing ===== -/
def zQ (v : Option Value) : Array Value → State → Outcome → State → Prop := fun _ st oc t => oc = .returned v ∧ t.heap = st.heap
abbrev zno : Addr → Prop := fun _ => False
section ZR
variable {p : Program} {l : Launch} {e : Env} {R : Room} {s : State} {m : MethodId} {args : Array Value} {below : List Frame} {meth : Method} {c : Code} {H : Heap} {locs : List Loc} {cells slots : Nat} {Q : State → Prop}
variable {pc : Nat} {ls : Array Slot} {rest st0 : List Value} {a : Array Value} {cc : ByteArray}
theorem zr_c {v : Option Value} (hr : va_Run p l e R s m args below meth c H locs cells slots 0 0 (F0 m pc ls st0) rest (zQ v a) zno) (kk : W p l e R s m args below meth c H locs cells slots Q (F0 m (pc + 3) ls (v.toList ++ rest))) : W p l e R s m args below meth c H locs cells slots Q (F0 m pc ls st0) := by
  intro T hT X
  obtain ⟨v', st₀, t, T', L, h0, X', hL, e1, e2, ⟨hv, hh⟩, st⟩ := hr T hT X
  have hv' : v' = v := Outcome.returned.inj hv
  subst hv'
  have hL0 : L = [] := by
    cases L with
    | nil => rfl
    | cons q L => exact (hL q List.mem_cons_self).elim
  subst hL0
  have hX : Stand p l e R s m args below meth c T' locs cells slots := by
    have h := X'
    rw [List.append_nil, Nat.add_zero, Nat.add_zero] at h
    exact h
  obtain ⟨t2, a1, b1⟩ := kk T' (by rw [e1, hh, h0]) hX
  exact ⟨t2, st t2 a1, b1⟩
theorem zr_i {v : Int32} (hr : va_Run p l e R s m args below meth c H locs cells slots 0 0 (F0 m pc ls st0) rest (zQ (some (.int v)) a) zno) (kk : W p l e R s m args below meth c H locs cells slots Q (F0 m (pc + 3) ls (.int v :: rest))) : W p l e R s m args below meth c H locs cells slots Q (F0 m pc ls st0) := zr_c hr kk
theorem zr_l {v : Int64} (hr : va_Run p l e R s m args below meth c H locs cells slots 0 0 (F0 m pc ls st0) rest (zQ (some (.long v)) a) zno) (kk : W p l e R s m args below meth c H locs cells slots Q (F0 m (pc + 3) ls (.long v :: rest))) : W p l e R s m args below meth c H locs cells slots Q (F0 m pc ls st0) := zr_c hr kk
theorem zr_q {v : Value} (hr : va_Run p l e R s m args below meth c H locs cells slots 0 0 (F0 m pc ls st0) rest (zQ (some v) a) zno) (kk : W p l e R s m args below meth c H locs cells slots Q (F0 m (pc + 3) ls (v :: rest))) : W p l e R s m args below meth c H locs cells slots Q (F0 m pc ls st0) := zr_c hr kk
theorem zr_d {v : UInt64} (hr : va_Run p l e R s m args below meth c H locs cells slots 0 0 (F0 m pc ls st0) rest (zQ (some (.double v)) a) zno) (kk : W p l e R s m args below meth c H locs cells slots Q (F0 m (pc + 3) ls (.double v :: rest))) : W p l e R s m args below meth c H locs cells slots Q (F0 m pc ls st0) := zr_c hr kk
theorem zr_v (hr : va_Run p l e R s m args below meth c H locs cells slots 0 0 (F0 m pc ls st0) rest (zQ none a) zno) (kk : W p l e R s m args below meth c H locs cells slots Q (F0 m (pc + 3) ls rest)) : W p l e R s m args below meth c H locs cells slots Q (F0 m pc ls st0) := zr_c hr kk
-- ends of such methods
theorem ze_i {v r : Int32} {ty : FieldType} (hx : p.tables.exec = Jvm.exec) (hb : c.code = cc) (hr : meth.sig.returnType = some ty) (hlk : meth.locks = false) (hn : narrow ty (.int v) = .int v) (hv : v = r) (hdg : decode cc pc = .ok (.ireturn, 1)) : W p l e R s m args below meth c s.heap [] 0 0 (MQ below (zQ (some (.int r))) args s 0 0 zno) (F0 m pc ls [.int v]) := by
  subst hv
  exact W.zret hx hb hr hn (fun t ht _ => ⟨rfl, ht⟩) (fun q h => by cases h) hdg hlk
theorem ze_l {v r : Int64} (hx : p.tables.exec = Jvm.exec) (hb : c.code = cc) (hr : meth.sig.returnType = some .long) (hlk : meth.locks = false) (hv : v = r) (hdg : decode cc pc = .ok (.lreturn, 1)) : W p l e R s m args below meth c s.heap [] 0 0 (MQ below (zQ (some (.long r))) args s 0 0 zno) (F0 m pc ls [.long v]) := by
  subst hv
  exact W.lret hx hb hr (fun t ht _ => ⟨rfl, ht⟩) (fun q h => by cases h) hdg hlk
theorem ze_d {v r : UInt64} (hx : p.tables.exec = Jvm.exec) (hb : c.code = cc) (hr : meth.sig.returnType = some .double) (hlk : meth.locks = false) (hv : v = r) (hdg : decode cc pc = .ok (.dreturn, 1)) : W p l e R s m args below meth c s.heap [] 0 0 (MQ below (zQ (some (.double r))) args s 0 0 zno) (F0 m pc ls [.double v]) := by
  subst hv
  exact W.dret hx hb hr (fun t ht _ => ⟨rfl, ht⟩) (fun q h => by cases h) hdg hlk
theorem ze_q {v r : Value} {ty : FieldType} (hx : p.tables.exec = Jvm.exec) (hb : c.code = cc) (hr : meth.sig.returnType = some ty) (hty : (∃ n, ty = .object n) ∨ ∃ t, ty = .array t) (hlk : meth.locks = false) (hvr : v = .null ∨ ∃ a, v = .ref a) (hv : v = r) (hdg : decode cc pc = .ok (.areturn, 1)) : W p l e R s m args below meth c s.heap [] 0 0 (MQ below (zQ (some r)) args s 0 0 zno) (F0 m pc ls [v]) := by
  subst hv
  exact W.aret hx hb hr hty hvr (fun t ht _ => ⟨rfl, ht⟩) (fun q h => by cases h) hdg hlk
theorem ze_v (hx : p.tables.exec = Jvm.exec) (hb : c.code = cc) (hr : meth.sig.returnType = none) (hlk : meth.locks = false) (hdg : decode cc pc = .ok (.return_, 1)) : W p l e R s m args below meth c s.heap [] 0 0 (MQ below (zQ none) args s 0 0 zno) (F0 m pc ls []) :=
  W.vret hx hb hr (fun t ht _ => ⟨rfl, ht⟩) (fun q h => by cases h) hdg hlk
end ZR
/-! ===== the world of the run: objects by kind, flow and number; rows of longs; lists ===== -/
-- kinds: 0 State (3k+w), 1 Spans (3k+w), 2 Stage, 3 Outlet, 4 Channel of the first input, 5 of the second, 6 Flow, 7 WeirStream, 8 Plan
abbrev TF : Type := Nat → Nat → Nat → Nat → Int32
abbrev TG : Type := Nat → Nat → Nat × Nat
abbrev TQ : Type := Nat → Nat × List Int64
/-- the shape: where objects, rows and lists stand; how many stages; whose input is whose -/
abbrev TS : Type := (Nat → Nat → Nat → Nat) × (Nat → Nat) × (Nat → Nat → Nat → Nat) × Nat × (Nat → Nat → Option Nat)
abbrev zg (S : TS) : Nat → Nat → Nat → Nat := S.1
abbrev zr (S : TS) : Nat → Nat := S.2.1
abbrev zl (S : TS) : Nat → Nat → Nat → Nat := S.2.2.1
abbrev zn (S : TS) : Nat := S.2.2.2.1
abbrev zp (S : TS) : Nat → Nat → Option Nat := S.2.2.2.2
-- the rows' numbers
def rs (x fl k : Nat) : Nat := x + 4 * fl + 8 * k
def ri (fl k : Nat) : Nat := 288 + fl + 2 * k
def ro (fl k : Nat) : Nat := 312 + fl + 2 * k
def rl (k : Nat) : Nat := 336 + k
def zsrc (S : TS) (x k : Nat) : Nat := ((zp S x k).getD 0)
def zch (S : TS) (x fl k : Nat) : Value := if (zp S x k).isSome then .ref (zg S (4 + x) fl k) else .null
def cel (S : TS) (G : TG) (kd fl k : Nat) (f : Nat → Int32) : va_E := match kd with
  | 0 => .inr (8, [.int (f 0), .int (f 1), .int (f 2), .int (f 3), .int (f 4), .int (f 5), .int (f 6), .int (f 7), .ref (zg S 1 fl k), .ref (zr S (rs 2 fl k)), .ref (zr S (rs 3 fl k))])
  | 1 => .inr (6, [.ref (zr S (rs 0 fl k)), .ref (zr S (rs 1 fl k))])
  | 2 => .inr (7, [.ref (zg S 8 0 k), .ref (zr S (rl k)), zch S 0 fl k, zch S 1 fl k, .int (nI fl), .ref (zg S 3 fl k), .ref (zr S (ro fl k)), .ref (zg S 0 fl (3 * k)), .ref (zg S 0 fl (3 * k + (G fl k).1)), .ref (zg S 0 fl (3 * k + (G fl k).2)), .int (f 10), .int (f 11)])
  | 3 => .inr (3, [.ref (zr S (ri fl k)), .ref (zl S 1 fl k)])
  | 4 => .inr (1, [.ref (zr S (ri fl (zsrc S 0 k))), .int (f 1), .int (f 2)])
  | 5 => .inr (1, [.ref (zr S (ri fl (zsrc S 1 k))), .int (f 1), .int (f 2)])
  | 6 => .inr (2, [.int (nI fl), .ref (zl S 0 fl 0), .int (f 2), .int (f 3), .int (f 4), .int (f 5), .int (f 6), .int (f 7)])
  | 7 => .inr (9, [.ref (zg S 6 0 0), .ref (zg S 6 1 0), .int (f 2), .int (f 3), .int (f 4)])
  | _ => .inr (4, [.int (f 0), .int (f 1), .int (f 2), .int (f 3), .int (f 4), .int (f 5), .int (f 6), .int (f 7), .int (f 8), .int (f 9), .int (f 10), .int (f 11), .int (f 12), .int (f 13), .int (f 14)])
/-- which objects are there -/
def dm (S : TS) (kd fl k : Nat) : Prop := match kd with
  | 0 => fl < 2 ∧ k < 3 * zn S
  | 1 => fl < 2 ∧ k < 3 * zn S
  | 2 => fl < 2 ∧ k < zn S
  | 3 => fl < 2 ∧ k < zn S
  | 4 => fl < 2 ∧ k < zn S ∧ (zp S 0 k).isSome = true
  | 5 => fl < 2 ∧ k < zn S ∧ (zp S 1 k).isSome = true
  | 6 => fl < 2 ∧ k = 0
  | 7 => fl = 0 ∧ k = 0
  | 8 => fl = 0 ∧ k < zn S
  | _ => False
def dr (S : TS) (i : Nat) : Prop := (i < 288 ∧ i / 8 < 3 * zn S) ∨ (288 ≤ i ∧ i < 312 ∧ (i - 288) / 2 < zn S) ∨ (312 ≤ i ∧ i < 336 ∧ (i - 312) / 2 < zn S) ∨ (336 ≤ i ∧ i < 348 ∧ i - 336 < zn S)
def dl (S : TS) (b fl k : Nat) : Prop := (b = 0 ∧ fl < 2 ∧ k = 0) ∨ (b = 1 ∧ fl < 2 ∧ k < zn S)
/-- the channels that lead from a stage: kind and consumer -/
def och (S : TS) (k : Nat) : List (Nat × Nat) := (List.range (zn S)).flatMap (fun c => (if zp S 0 c = some k then [(4, c)] else []) ++ (if zp S 1 c = some k then [(5, c)] else []))
def lic (S : TS) (b fl k : Nat) : List Nat := if b = 0 then (List.range (zn S)).map (zg S 2 fl) else (och S k).map (fun q => zg S q.1 fl q.2)
/-- fields that are truth values -/
def zib (kd j : Nat) : Bool := (kd == 0 && j == 3) || (kd == 2 && (j == 10 || j == 11)) || ((kd == 4 || kd == 5) && j == 2) || (kd == 7 && j == 2)
def zsm (f : Nat → Nat) : Nat → Nat | 0 => 0 | n + 1 => zsm f n + f n
def Psi (q : TQ) : Nat := zsm (fun i => (q i).1 / 8) 348
def Phi (q : TQ) : Nat := zsm (fun i => 2 * (q i).1) 348
abbrev TO : Type := Nat → Nat × Nat × Nat × Nat
def WRow (D : va_G) (yc : Nat → ClassId) (A : Nat → Prop) (own : TO) (r x i : Nat) (f : Nat → Int64) (q : Nat × List Int64) (H : Heap) : Prop :=
  (va_at D vwCl (r, .inr (5, [.ref x, .int (nI q.2.length)])) H ∧ A r ∧ own r = (1, i, 0, 0)) ∧ (va_at D vwCl (x, .inl (yc 1, q.1, .inr (.inl f))) H ∧ A x ∧ own x = (2, i, 0, 0)) ∧ q.2.length ≤ q.1 ∧ (∀ (j : Nat) (h : j < q.2.length), f j = q.2[j]) ∧ ∃ z : Nat, z ≤ 20 ∧ q.1 = 8 * 2 ^ z
def WList (D : va_G) (yc : Nat → ClassId) (e0 : Nat) (A : Nat → Prop) (own : TO) (a b fl k : Nat) (L : List Nat) (H : Heap) : Prop :=
  (A a ∧ own a = (3, b, fl, k)) ∧ ((L = [] ∧ ∃ mc : Int32, va_at D vwCl (a, .inr (0, [.int mc, .ref e0, .int 0])) H) ∨
    ∃ (mc : Int32) (x cap : Nat) (f : Nat → Option Nat), va_at D vwCl (a, .inr (0, [.int mc, .ref x, .int (nI L.length)])) H ∧ (va_at D vwCl (x, .inl (yc 2, cap, .inr (.inr (.inr (.inr f))))) H ∧ A x ∧ own x = (4, b, fl, k)) ∧ L.length ≤ cap ∧ (1 ≤ cap ∧ cap < 1024) ∧ ∀ (j : Nat) (h : j < L.length), f j = some L[j])
def zok (S : TS) : Prop := ∀ x k p, k < zn S → zp S x k = some p → p < k
def WT (D : va_G) (yc : Nat → ClassId) (e0 : Nat) (A : Nat → Prop) (S : TS) (Z : Nat × Nat) (F : TF) (G : TG) (q : TQ) (H : Heap) : Prop :=
  ∃ own : TO, (∀ kd fl k, dm S kd fl k → va_at D vwCl (zg S kd fl k, cel S G kd fl k (F kd fl k)) H ∧ A (zg S kd fl k) ∧ own (zg S kd fl k) = (0, kd, fl, k)) ∧
    (∀ i, dr S i → ∃ (x : Nat) (f : Nat → Int64), WRow D yc A own (zr S i) x i f (q i) H) ∧ (∀ b fl k, dl S b fl k → WList D yc e0 A own (zl S b fl k) b fl k (lic S b fl k) H) ∧
    (∀ kd fl k j, zib kd j = true → F kd fl k j = 0 ∨ F kd fl k j = 1) ∧ H.size ≤ Z.1 + Psi q ∧ zh H ≤ Z.2 + Phi q ∧ zn S ≤ 12 ∧ zok S
def zF (F : TF) (kd fl k : Nat) (f : Nat → Int32) : TF := fun kd' fl' k' => if kd' = kd ∧ fl' = fl ∧ k' = k then f else F kd' fl' k'
theorem zF_s {F : TF} {kd fl k : Nat} {f : Nat → Int32} : zF F kd fl k f kd fl k = f := by unfold zF; rw [if_pos ⟨rfl, rfl, rfl⟩]
theorem zF_n {F : TF} {kd fl k kd' fl' k' : Nat} {f : Nat → Int32} (h : ¬ (kd' = kd ∧ fl' = fl ∧ k' = k)) : zF F kd fl k f kd' fl' k' = F kd' fl' k' := by unfold zF; rw [if_neg h]
section ZT
variable {D : va_G} {yc : Nat → ClassId} {e0 : Nat} {A : Nat → Prop} {S : TS} {Z : Nat × Nat} {F : TF} {G : TG} {q : TQ} {H H1 : Heap}
theorem WT.obj (h : WT D yc e0 A S Z F G q H) {kd fl k : Nat} (hd : dm S kd fl k) : va_at D vwCl (zg S kd fl k, cel S G kd fl k (F kd fl k)) H ∧ A (zg S kd fl k) := by
  obtain ⟨own, h1, -⟩ := h
  exact ⟨(h1 kd fl k hd).1, (h1 kd fl k hd).2.1⟩
theorem WT.row (h : WT D yc e0 A S Z F G q H) {i : Nat} (hd : dr S i) : ∃ (x : Nat) (f : Nat → Int64), va_at D vwCl (zr S i, .inr (5, [.ref x, .int (nI (q i).2.length)])) H ∧ va_at D vwCl (x, .inl (yc 1, (q i).1, .inr (.inl f))) H ∧ (q i).2.length ≤ (q i).1 ∧ (∀ (j : Nat) (h : j < (q i).2.length), f j = (q i).2[j]) ∧ ∃ z : Nat, z ≤ 20 ∧ (q i).1 = 8 * 2 ^ z := by
  obtain ⟨own, h1, h2, -⟩ := h
  obtain ⟨x, f, h3, h4, h5⟩ := h2 i hd
  exact ⟨x, f, h3.1, h4.1, h5⟩
theorem WT.n12 (h : WT D yc e0 A S Z F G q H) : zn S ≤ 12 := by
  obtain ⟨own, h1, h2, h3, h4, h5, h6, h7, h8⟩ := h
  exact h7
theorem WT.src (h : WT D yc e0 A S Z F G q H) {x k : Nat} (hk : k < zn S) (hp : (zp S x k).isSome = true) : zsrc S x k < zn S := by
  obtain ⟨own, h1, h2, h3, h4, h5, h6, h7, h8⟩ := h
  obtain ⟨p, hp⟩ := Option.isSome_iff_exists.mp hp
  have h9 := h8 x k p hk hp
  unfold zsrc
  rw [hp]
  show p < _
  omega
theorem WT.bit (h : WT D yc e0 A S Z F G q H) (kd fl k j : Nat) (hj : zib kd j = true) : F kd fl k j = 0 ∨ F kd fl k j = 1 := by
  obtain ⟨own, h1, h2, h3, h4, h5⟩ := h
  exact h4 kd fl k j hj
theorem WRow.kept {own : TO} {r x i : Nat} {f : Nat → Int64} {qq : Nat × List Int64} (h : WRow D yc A own r x i f qq H) (h1 : H1[r]? = H[r]?) (h2 : H1[x]? = H[x]?) : WRow D yc A own r x i f qq H1 :=
  ⟨⟨h.1.1.kept h1, h.1.2⟩, ⟨h.2.1.1.kept h2, h.2.1.2⟩, h.2.2⟩
theorem WList.kept {own : TO} {a b fl k : Nat} {L : List Nat} (h : WList D yc e0 A own a b fl k L H) (hk : ∀ x, own x = (3, b, fl, k) ∨ own x = (4, b, fl, k) → H1[x]? = H[x]?) : WList D yc e0 A own a b fl k L H1 := by
  obtain ⟨ha, h | ⟨mc, x, cap, f, h1, h2, h3⟩⟩ := h
  · exact ⟨ha, Or.inl ⟨h.1, h.2.elim fun mc h => ⟨mc, h.kept (hk a (Or.inl ha.2))⟩⟩⟩
  · exact ⟨ha, Or.inr ⟨mc, x, cap, f, h1.kept (hk a (Or.inl ha.2)), ⟨h2.1.kept (hk x (Or.inr h2.2.2)), h2.2⟩, h3⟩⟩
theorem WT.put (h : WT D yc e0 A S Z F G q H) {kd fl k : Nat} (hd : dm S kd fl k) {f : Nat → Int32} {G' : TG} (h1 : va_at D vwCl (zg S kd fl k, cel S G' kd fl k f) H1) (h3 : ∀ x : Nat, x ≠ zg S kd fl k → H1[x]? = H[x]?) (hz : H1.size = H.size) (hh : zh H1 = zh H)
    (hG : ∀ fl' k', ¬ (kd = 2 ∧ fl' = fl ∧ k' = k) → G' fl' k' = G fl' k') (hf : ∀ j, zib kd j = true → f j = 0 ∨ f j = 1) : WT D yc e0 A S Z (zF F kd fl k f) G' q H1 := by
  obtain ⟨own, g1, g2, g3, g4, g5, g6, g7⟩ := h
  have hO := (g1 kd fl k hd).2.2
  refine ⟨own, fun kd' fl' k' hd' => ?_, fun i hi => ?_, fun b fl' k' hl => ?_, fun kd' fl' k' j hj => ?_, by rw [hz]; exact g5, by rw [hh]; exact g6, g7⟩
  · by_cases hc : kd' = kd ∧ fl' = fl ∧ k' = k
    · obtain ⟨rfl, rfl, rfl⟩ := hc
      rw [zF_s]
      exact ⟨h1, (g1 kd' fl' k' hd').2⟩
    · rw [zF_n hc]
      have ho := (g1 kd' fl' k' hd').2.2
      have hne : zg S kd' fl' k' ≠ zg S kd fl k := fun e => by
        rw [e, hO] at ho
        simp only [Prod.mk.injEq, true_and] at ho
        exact hc ⟨ho.1.symm, ho.2.1.symm, ho.2.2.symm⟩
      refine ⟨?_, (g1 kd' fl' k' hd').2⟩
      have h9 := (g1 kd' fl' k' hd').1.kept (H1 := H1) (h3 _ hne)
      have e9 : cel S G' kd' fl' k' (F kd' fl' k') = cel S G kd' fl' k' (F kd' fl' k') := by
        by_cases h2 : kd' = 2
        · subst h2
          unfold cel
          rw [hG fl' k' (fun ⟨a, b, c⟩ => hc ⟨a.symm, b, c⟩)]
        · unfold cel
          split <;> first | rfl | exact absurd rfl h2
      rw [e9]
      exact h9
  · obtain ⟨x, f', k1, k2, k3⟩ := g2 i hi
    refine ⟨x, f', WRow.kept ⟨k1, k2, k3⟩ (h3 _ fun e => ?_) (h3 _ fun e => ?_)⟩
    · have := k1.2.2
      rw [e, hO] at this
      simp at this
    · have := k2.2.2
      rw [e, hO] at this
      simp at this
  · refine (g3 b fl' k' hl).kept fun x hx => h3 x fun e => ?_
    rw [e, hO] at hx
    simp at hx
  · by_cases hc : kd' = kd ∧ fl' = fl ∧ k' = k
    · obtain ⟨rfl, rfl, rfl⟩ := hc
      rw [zF_s]
      exact hf j hj
    · rw [zF_n hc]
      exact g4 kd' fl' k' j hj
end ZT
def zmax (x y : Int32) : Int32 := if x < y then y else x
def zmin (x y : Int32) : Int32 := if y < x then y else x
theorem dm0 {S : TS} {fl k : Nat} (h : fl < 2) (h2 : k < 3 * zn S) : dm S 0 fl k := ⟨h, h2⟩
theorem dm1 {S : TS} {fl k : Nat} (h : fl < 2) (h2 : k < 3 * zn S) : dm S 1 fl k := ⟨h, h2⟩
theorem dm2 {S : TS} {fl k : Nat} (h : fl < 2) (h2 : k < zn S) : dm S 2 fl k := ⟨h, h2⟩
theorem dm3 {S : TS} {fl k : Nat} (h : fl < 2) (h2 : k < zn S) : dm S 3 fl k := ⟨h, h2⟩
theorem dm4 {S : TS} {fl k : Nat} (h : fl < 2) (h2 : k < zn S) (h3 : (zp S 0 k).isSome = true) : dm S 4 fl k := ⟨h, h2, h3⟩
theorem dm5 {S : TS} {fl k : Nat} (h : fl < 2) (h2 : k < zn S) (h3 : (zp S 1 k).isSome = true) : dm S 5 fl k := ⟨h, h2, h3⟩
theorem dm6 {S : TS} {fl : Nat} (h : fl < 2) : dm S 6 fl 0 := ⟨h, rfl⟩
theorem dm7 {S : TS} : dm S 7 0 0 := ⟨rfl, rfl⟩
theorem dm8 {S : TS} {k : Nat} (h2 : k < zn S) : dm S 8 0 k := ⟨rfl, h2⟩
theorem dr_s {S : TS} {x fl k : Nat} (hn : zn S ≤ 12) (hx : x < 4) (h : fl < 2) (h2 : k < 3 * zn S) : dr S (rs x fl k) := by unfold dr rs; left; omega
theorem dr_i {S : TS} {fl k : Nat} (hn : zn S ≤ 12) (h : fl < 2) (h2 : k < zn S) : dr S (ri fl k) := by unfold dr ri; right; left; omega
theorem dr_o {S : TS} {fl k : Nat} (hn : zn S ≤ 12) (h : fl < 2) (h2 : k < zn S) : dr S (ro fl k) := by unfold dr ro; right; right; left; omega
theorem dr_l {S : TS} {k : Nat} (hn : zn S ≤ 12) (h2 : k < zn S) : dr S (rl k) := by unfold dr rl; right; right; right; omega
theorem zk_nt {x v : Int32} (h : ¬ x = v) : x.toInt ≠ v.toInt := fun e => h (Int32.toInt_inj.mp e)
theorem zk_nb {v : Int32} (h : v = 0 ∨ v = 1) : narrow .boolean (.int v) = .int v := by rcases h with rfl | rfl <;> rfl
theorem va_P_one {D : va_G} {cl : List vw_C} {q : Nat × va_E} {H : Heap} (h : va_at D cl q H) : va_P D cl [q] H := by
  intro k q' hk
  match k, hk with
  | 0, hk => cases hk; exact h
  | k + 1, hk => simp at hk
/-- a contract's start over the world: the arguments, the world, the context -/
def PT (D : va_G) (yc : Nat → ClassId) (e0 : Nat) (A : Nat → Prop) (S : TS) (Z : Nat × Nat) (F : TF) (G : TG) (q : TQ) (av : List Value) : Array Value → State → Prop := va_Pc av (fun U => WT D yc e0 A S Z F G q U.heap ∧ (∀ a, U.heap.size ≤ a → A a) ∧ CX D yc e0 A U)
theorem PT.blind {D : va_G} {yc : Nat → ClassId} {e0 : Nat} {A : Nat → Prop} {S : TS} {Z : Nat × Nat} {F : TF} {G : TG} {q : TQ} {av : List Value} : FrameBlind (PT D yc e0 A S Z F G q av) := fun a U g mk h => by
  obtain ⟨h0, h1, h2, h3⟩ := h
  exact ⟨h0, h1, h2, CX.calling g mk a h3⟩
section ZU
variable {p : Program} {l : Launch} {e : Env} {R : Room} {s : State} {m : MethodId} {args : Array Value} {below : List Frame} {meth : Method} {c : Code} {H : Heap} {locs : List Loc} {cells slots : Nat} {Q : State → Prop}
variable {D : va_G} {yc : Nat → ClassId} {e0 : Nat} {A : Nat → Prop} {S : TS} {Z : Nat × Nat} {F : TF} {G : TG} {q : TQ} {cc : ByteArray} {pc : Nat} {ls : Array Slot} {rest As st0 : List Value} {tys : List (ClassId × FieldType)} {H0 : Heap} {mc ms : Nat} {a : Array Value}
theorem t_get (hexec : p.tables.exec = Jvm.exec) (hb : c.code = cc) {own ref C : String} {T : u_T} {N ci index : Nat} {Ts : List Cond} (hts : ∀ w ∈ Ts, w.before args s = true) (hin : ∀ w ∈ u_ws C T N, w ∈ Ts) (hown : s.vm.findClass own = some m.cls) (hK : va_K D vwCl tys s) (hW : WT D yc e0 A S Z F G q H) (kd fl k : Nat) (hd : dm S kd fl k) {fs : List Value} (he : cel S G kd fl k (F kd fl k) = .inr (ci, fs)) (hc : vwCl[ci]? = some (C, T, N)) (j : Nat) (hk : j < N) (hlink : (Cond.fieldLink own index ref (T j).2.1 (T j).2.2.1).before args s = true) (hsame : ∀ x, s.fieldFound? (T j).1 (T j).2.1 (T j).2.2.1 = some x → s.fieldFound? ref (T j).2.1 (T j).2.2.1 = some x) {v : Value} (hv : fs[j]? = some v) (hdg : decode cc pc = .ok (.getfield index, 3))
    (kk : W p l e R s m args below meth c H locs cells slots Q (F0 m (pc + 3) ls (v :: rest))) : W p l e R s m args below meth c H locs cells slots Q (F0 m pc ls (.ref (zg S kd fl k) :: rest)) :=
  va_get hexec hb hts hin hown hK (va_P_one (by have h := (hW.obj hd).1; rw [he] at h; exact h)) 0 rfl hc j hk hlink hsame hv hdg kk
theorem t_getN (hexec : p.tables.exec = Jvm.exec) (hb : c.code = cc) {own ref C host : String} {T : u_T} {N ci index : Nat} {Ts : List Cond} (hts : ∀ w ∈ Ts, w.before args s = true) (hin : ∀ w ∈ u_ws C T N, w ∈ Ts) (hown : s.vm.findClass own = some m.cls) (hK : va_K D vwCl tys s) (hW : WT D yc e0 A S Z F G q H) (kd fl k : Nat) (hd : dm S kd fl k) {fs : List Value} (he : cel S G kd fl k (F kd fl k) = .inr (ci, fs)) (hc : vwCl[ci]? = some (C, T, N)) (j : Nat) (hk : j < N) (hlink : (Cond.fieldLinkNest own index ref (T j).2.1 (T j).2.2.1 host).before args s = true) (hsame : ∀ x, s.fieldFound? (T j).1 (T j).2.1 (T j).2.2.1 = some x → s.fieldFound? ref (T j).2.1 (T j).2.2.1 = some x) {v : Value} (hv : fs[j]? = some v) (hdg : decode cc pc = .ok (.getfield index, 3))
    (kk : W p l e R s m args below meth c H locs cells slots Q (F0 m (pc + 3) ls (v :: rest))) : W p l e R s m args below meth c H locs cells slots Q (F0 m pc ls (.ref (zg S kd fl k) :: rest)) :=
  va_getN hexec hb hts hin hown hK (va_P_one (by have h := (hW.obj hd).1; rw [he] at h; exact h)) 0 rfl hc j hk hlink hsame hv hdg kk
theorem t_put (hexec : p.tables.exec = Jvm.exec) (hb : c.code = cc) {own ref C : String} {T : u_T} {N ci index : Nat} {Ts : List Cond} (hts : ∀ w ∈ Ts, w.before args s = true) (hin : ∀ w ∈ u_ws C T N, w ∈ Ts) (ty0 : Nat → FieldType) (hty : ∀ k, k < N → parseFieldDescriptor (T k).2.2.1 = some (ty0 k)) (hnm : ∀ a, a < N → ∀ b, b < N → a ≠ b → (T a).2.1 ≠ (T b).2.1) (hown : s.vm.findClass own = some m.cls) (hK : va_K D vwCl tys s) (hW : WT D yc e0 A S Z F G q H) (hS0 : va_S A H0 H locs) (kd fl k : Nat) (hd : dm S kd fl k) {fs : List Value} (he : cel S G kd fl k (F kd fl k) = .inr (ci, fs)) (hc : vwCl[ci]? = some (C, T, N)) (j : Nat) (hk : j < N) (hlink : (Cond.fieldLink own index ref (T j).2.1 (T j).2.2.1).before args s = true) (hsame : ∀ x, s.fieldFound? (T j).1 (T j).2.1 (T j).2.2.1 = some x → s.fieldFound? ref (T j).2.1 (T j).2.2.1 = some x) (hfin : (T j).2.2.2 = false) {ty : FieldType} {v : Value} (hd0 : parseFieldDescriptor (T j).2.2.1 = some ty) (hn : narrow ty v = v) (hfit : fits ty v = true) (hl : j < fs.length)
    (f : Nat → Int32) (G' : TG) (he' : cel S G' kd fl k f = .inr (ci, fs.set j v)) (hG : ∀ fl' k', ¬ (kd = 2 ∧ fl' = fl ∧ k' = k) → G' fl' k' = G fl' k') (hf : ∀ j, zib kd j = true → f j = 0 ∨ f j = 1)
    (hdg : decode cc pc = .ok (.putfield index, 3)) (kk : ∀ (H1 : Heap) (locs1 : List Loc), WT D yc e0 A S Z (zF F kd fl k f) G' q H1 → va_S A H0 H1 locs1 → W p l e R s m args below meth c H1 locs1 cells slots Q (F0 m (pc + 3) ls rest)) : W p l e R s m args below meth c H locs cells slots Q (F0 m pc ls (v :: .ref (zg S kd fl k) :: rest)) := by
  have hap := va_apart (own := own) hts hin ty0 hty hnm hK hc
  have hO := hW.obj hd
  rw [he] at hO
  obtain ⟨⟨r, h1, cell, q1, q2, q3, q4⟩, hAa⟩ := hO
  have hr : r = (C, T, N) := Option.some.inj (h1.symm.trans hc)
  subst hr
  obtain ⟨hS, hfc, kC, hkC, hkind⟩ := hK.1 ci _ hc
  obtain ⟨cf, kf, fi, f0, hi, hsl⟩ := hS j hk
  have hlay := hts _ (hin _ (u_in_lay hk))
  unfold u_lay at hlay
  rw [if_neg (by rw [hfin]; decide)] at hlay
  have hst := (u_facts hfc hkC (u_lays hts hin hk) hi).1
  have h6 := u_store hfc hkC hkind hlay hi hd0 hn hfit
  refine W.putK hexec hb (f := f0) ⟨hown, hlink, ⟨_, _, _, hsame _ hi⟩, hst⟩ (by rw [q2]; exact h6) q1 q3 (by rw [hsl]; exact k2_hasslot (q4 j hk)) rfl rfl hdg fun H' e1 e2 e3 => ?_
  have hzh := zh_set q1 e1 e2 e3
  rw [hsl] at e1 ⊢
  exact kk H' _ (hW.put hd (by rw [he']; exact ⟨_, hc, t_OB.to (V := updV (vp_V fs) j v) ⟨_, e1, q2, q3, t_set q4 hap hk v⟩ (fun j _ => vp_updV_set hl v j)⟩) e3 e2 hzh hG hf) (hS0.put e2 e3 hAa)
theorem t_putN (hexec : p.tables.exec = Jvm.exec) (hb : c.code = cc) {own ref C host : String} {T : u_T} {N ci index : Nat} {Ts : List Cond} (hts : ∀ w ∈ Ts, w.before args s = true) (hin : ∀ w ∈ u_ws C T N, w ∈ Ts) (ty0 : Nat → FieldType) (hty : ∀ k, k < N → parseFieldDescriptor (T k).2.2.1 = some (ty0 k)) (hnm : ∀ a, a < N → ∀ b, b < N → a ≠ b → (T a).2.1 ≠ (T b).2.1) (hown : s.vm.findClass own = some m.cls) (hK : va_K D vwCl tys s) (hW : WT D yc e0 A S Z F G q H) (hS0 : va_S A H0 H locs) (kd fl k : Nat) (hd : dm S kd fl k) {fs : List Value} (he : cel S G kd fl k (F kd fl k) = .inr (ci, fs)) (hc : vwCl[ci]? = some (C, T, N)) (j : Nat) (hk : j < N) (hlink : (Cond.fieldLinkNest own index ref (T j).2.1 (T j).2.2.1 host).before args s = true) (hsame : ∀ x, s.fieldFound? (T j).1 (T j).2.1 (T j).2.2.1 = some x → s.fieldFound? ref (T j).2.1 (T j).2.2.1 = some x) (hfin : (T j).2.2.2 = false) {ty : FieldType} {v : Value} (hd0 : parseFieldDescriptor (T j).2.2.1 = some ty) (hn : narrow ty v = v) (hfit : fits ty v = true) (hl : j < fs.length)
    (f : Nat → Int32) (G' : TG) (he' : cel S G' kd fl k f = .inr (ci, fs.set j v)) (hG : ∀ fl' k', ¬ (kd = 2 ∧ fl' = fl ∧ k' = k) → G' fl' k' = G fl' k') (hf : ∀ j, zib kd j = true → f j = 0 ∨ f j = 1)
    (hdg : decode cc pc = .ok (.putfield index, 3)) (kk : ∀ (H1 : Heap) (locs1 : List Loc), WT D yc e0 A S Z (zF F kd fl k f) G' q H1 → va_S A H0 H1 locs1 → W p l e R s m args below meth c H1 locs1 cells slots Q (F0 m (pc + 3) ls rest)) : W p l e R s m args below meth c H locs cells slots Q (F0 m pc ls (v :: .ref (zg S kd fl k) :: rest)) := by
  have hap := va_apart (own := own) hts hin ty0 hty hnm hK hc
  have hO := hW.obj hd
  rw [he] at hO
  obtain ⟨⟨r, h1, cell, q1, q2, q3, q4⟩, hAa⟩ := hO
  have hr : r = (C, T, N) := Option.some.inj (h1.symm.trans hc)
  subst hr
  obtain ⟨hS, hfc, kC, hkC, hkind⟩ := hK.1 ci _ hc
  obtain ⟨cf, kf, fi, f0, hi, hsl⟩ := hS j hk
  have hlay := hts _ (hin _ (u_in_lay hk))
  unfold u_lay at hlay
  rw [if_neg (by rw [hfin]; decide)] at hlay
  have hst := (u_facts hfc hkC (u_lays hts hin hk) hi).1
  have h6 := u_store hfc hkC hkind hlay hi hd0 hn hfit
  refine va_WputK hexec hb (f := f0) hown hlink (hsame _ hi) hst (by rw [q2]; exact h6) q1 q3 (by rw [hsl]; exact k2_hasslot (q4 j hk)) rfl rfl hdg fun H' e1 e2 e3 => ?_
  have hzh := zh_set q1 e1 e2 e3
  rw [hsl] at e1 ⊢
  exact kk H' _ (hW.put hd (by rw [he']; exact ⟨_, hc, t_OB.to (V := updV (vp_V fs) j v) ⟨_, e1, q2, q3, t_set q4 hap hk v⟩ (fun j _ => vp_updV_set hl v j)⟩) e3 e2 hzh hG hf) (hS0.put e2 e3 hAa)
-- calls over the world
theorem tp_S (hC : CX D yc e0 A s) (hW : WT D yc e0 A S Z F G q H) (hS : va_S A s.heap H locs) (hA : ∀ a, s.heap.size ≤ a → A a) : PreS s H (PT D yc e0 A S Z F G q As) As :=
  ⟨PT.blind, fun U hU hWm => ⟨rfl, by rw [hU]; exact hW, fun a ha => hA a (Nat.le_trans hS.1 (by rw [← hU]; exact ha)), hC.go hS (fun _ h => h) hU hWm⟩⟩
theorem tp_V (hC : CX D yc e0 A s) (hW : WT D yc e0 A S Z F G q H) (hS : va_S A s.heap H locs) (hA : ∀ a, s.heap.size ≤ a → A a) (kd fl k : Nat) (hd : dm S kd fl k) {fs : List Value} {ci : Nat} (he : cel S G kd fl k (F kd fl k) = .inr (ci, fs)) {C : String} {T : u_T} {N : Nat} (hc : vwCl[ci]? = some (C, T, N)) : PreV s H C (zg S kd fl k) (PT D yc e0 A S Z F G q (.ref (zg S kd fl k) :: As)) As :=
  ⟨PT.blind, va_recv hC.1 (va_P_one (by have h := (hW.obj hd).1; rw [he] at h; exact h)) hc (q0 := 0) rfl, fun U hU hWm => ⟨rfl, by rw [hU]; exact hW, fun a ha => hA a (Nat.le_trans hS.1 (by rw [← hU]; exact ha)), hC.go hS (fun _ h => h) hU hWm⟩⟩
theorem tp_R (hC : CX D yc e0 A s) (hW : WT D yc e0 A S Z F G q H) (hS : va_S A s.heap H locs) (hA : ∀ a, s.heap.size ≤ a → A a) (i : Nat) (hd : dr S i) : PreV s H RX6 (zr S i) (PT D yc e0 A S Z F G q (.ref (zr S i) :: As)) As := by
  obtain ⟨x, f, h1, -⟩ := hW.row hd
  exact ⟨PT.blind, va_recv hC.1 (va_P_one h1) (ci := 5) rfl (q0 := 0) rfl, fun U hU hWm => ⟨rfl, by rw [hU]; exact hW, fun a ha => hA a (Nat.le_trans hS.1 (by rw [← hU]; exact ha)), hC.go hS (fun _ h => h) hU hWm⟩⟩
theorem tm_v {Su : Type} {F1 : Su → TF} {G1 : Su → TG} {q1 : Su → TQ} {Z1 : Su → Nat × Nat} {post : Su → Prop} (hr : va_Run p l e R s m args below meth c H locs cells slots mc ms (F0 m pc ls st0) rest (va_Qv post (fun u t => WT D yc e0 A S (Z1 u) (F1 u) (G1 u) (q1 u) t.heap) A a) A) (hS : va_S A s.heap H locs)
    (kk : ∀ (u : Su) (H1 : Heap) (locs1 : List Loc), post u → WT D yc e0 A S (Z1 u) (F1 u) (G1 u) (q1 u) H1 → va_S A s.heap H1 locs1 → W p l e R s m args below meth c H1 locs1 (cells + mc) (slots + ms) Q (F0 m (pc + 3) ls rest)) : W p l e R s m args below meth c H locs cells slots Q (F0 m pc ls st0) :=
  va_callv hr hS (fun _ _ h => h) (fun _ h => h) (fun u t H1 locs1 ht _ hp hB _ _ hS1 => kk u H1 locs1 hp (by rw [← ht]; exact hB) hS1)
theorem tm_i {Su : Type} {F1 : Su → TF} {G1 : Su → TG} {q1 : Su → TQ} {Z1 : Su → Nat × Nat} {post : Int32 → Su → Prop} (hr : va_Run p l e R s m args below meth c H locs cells slots mc ms (F0 m pc ls st0) rest (va_Qi post (fun u t => WT D yc e0 A S (Z1 u) (F1 u) (G1 u) (q1 u) t.heap) A a) A) (hS : va_S A s.heap H locs)
    (kk : ∀ (r : Int32) (u : Su) (H1 : Heap) (locs1 : List Loc), post r u → WT D yc e0 A S (Z1 u) (F1 u) (G1 u) (q1 u) H1 → va_S A s.heap H1 locs1 → W p l e R s m args below meth c H1 locs1 (cells + mc) (slots + ms) Q (F0 m (pc + 3) ls (.int r :: rest))) : W p l e R s m args below meth c H locs cells slots Q (F0 m pc ls st0) :=
  va_calli hr hS (fun _ _ h => h) (fun _ h => h) (fun r u t H1 locs1 ht _ hp hB _ _ hS1 => kk r u H1 locs1 hp (by rw [← ht]; exact hB) hS1)
theorem tm_l {Su : Type} {F1 : Su → TF} {G1 : Su → TG} {q1 : Su → TQ} {Z1 : Su → Nat × Nat} {post : Int64 → Su → Prop} (hr : va_Run p l e R s m args below meth c H locs cells slots mc ms (F0 m pc ls st0) rest (va_Ql post (fun u t => WT D yc e0 A S (Z1 u) (F1 u) (G1 u) (q1 u) t.heap) A a) A) (hS : va_S A s.heap H locs)
    (kk : ∀ (r : Int64) (u : Su) (H1 : Heap) (locs1 : List Loc), post r u → WT D yc e0 A S (Z1 u) (F1 u) (G1 u) (q1 u) H1 → va_S A s.heap H1 locs1 → W p l e R s m args below meth c H1 locs1 (cells + mc) (slots + ms) Q (F0 m (pc + 3) ls (.long r :: rest))) : W p l e R s m args below meth c H locs cells slots Q (F0 m pc ls st0) :=
  va_calll hr hS (fun _ _ h => h) (fun _ h => h) (fun r u t H1 locs1 ht _ hp hB _ _ hS1 => kk r u H1 locs1 hp (by rw [← ht]; exact hB) hS1)
-- ends of methods that write
theorem te_v {Su : Type} {F1 : Su → TF} {G1 : Su → TG} {q1 : Su → TQ} {Z1 : Su → Nat × Nat} {post : Su → Prop} (hx : p.tables.exec = Jvm.exec) (hb : c.code = cc) (hr : meth.sig.returnType = none) (hlk : meth.locks = false) (hS : va_S A s.heap H locs) (u : Su) (hp : post u) (hW : WT D yc e0 A S (Z1 u) (F1 u) (G1 u) (q1 u) H) (h1 : cells ≤ mc) (h2 : slots ≤ ms) (hdg : decode cc pc = .ok (.return_, 1)) :
    W p l e R s m args below meth c H locs cells slots (MQ below (va_Qv post (fun u t => WT D yc e0 A S (Z1 u) (F1 u) (G1 u) (q1 u) t.heap) A) args s mc ms A) (F0 m pc ls []) :=
  W.widen h1 h2 (W.vret hx hb hr (fun t ht _ => ⟨⟨u, rfl, hp, by subst ht; exact hW⟩, hS.F ht⟩) hS.2.2 hdg hlk)
theorem te_i {Su : Type} {F1 : Su → TF} {G1 : Su → TG} {q1 : Su → TQ} {Z1 : Su → Nat × Nat} {post : Int32 → Su → Prop} {v : Int32} {ty : FieldType} (hx : p.tables.exec = Jvm.exec) (hb : c.code = cc) (hr : meth.sig.returnType = some ty) (hlk : meth.locks = false) (hS : va_S A s.heap H locs) (hn : narrow ty (.int v) = .int v) (u : Su) (hp : post v u) (hW : WT D yc e0 A S (Z1 u) (F1 u) (G1 u) (q1 u) H) (h1 : cells ≤ mc) (h2 : slots ≤ ms) (hdg : decode cc pc = .ok (.ireturn, 1)) :
    W p l e R s m args below meth c H locs cells slots (MQ below (va_Qi post (fun u t => WT D yc e0 A S (Z1 u) (F1 u) (G1 u) (q1 u) t.heap) A) args s mc ms A) (F0 m pc ls [.int v]) :=
  W.widen h1 h2 (W.zret hx hb hr hn (fun t ht _ => ⟨⟨v, u, rfl, hp, by subst ht; exact hW⟩, hS.F ht⟩) hS.2.2 hdg hlk)
theorem te_l {Su : Type} {F1 : Su → TF} {G1 : Su → TG} {q1 : Su → TQ} {Z1 : Su → Nat × Nat} {post : Int64 → Su → Prop} {v : Int64} (hx : p.tables.exec = Jvm.exec) (hb : c.code = cc) (hr : meth.sig.returnType = some .long) (hlk : meth.locks = false) (hS : va_S A s.heap H locs) (u : Su) (hp : post v u) (hW : WT D yc e0 A S (Z1 u) (F1 u) (G1 u) (q1 u) H) (h1 : cells ≤ mc) (h2 : slots ≤ ms) (hdg : decode cc pc = .ok (.lreturn, 1)) :
    W p l e R s m args below meth c H locs cells slots (MQ below (va_Ql post (fun u t => WT D yc e0 A S (Z1 u) (F1 u) (G1 u) (q1 u) t.heap) A) args s mc ms A) (F0 m pc ls [.long v]) :=
  W.widen h1 h2 (W.lret hx hb hr (fun t ht _ => ⟨⟨v, u, rfl, hp, by subst ht; exact hW⟩, hS.F ht⟩) hS.2.2 hdg hlk)
end ZU
/-- a contract over the world from the walk of its body -/
theorem tk_M {l : Launch} {y : MethodName} {cc : ByteArray} {maxL : Nat} {ret : Option FieldType} {rm : Room} {D : va_G} {yc : Nat → ClassId} {e0 : Nat} {A : Nat → Prop} {S : TS} {Z : Nat × Nat} {F : TF} {G : TG} {q : TQ} {av : List Value} {Qc : Array Value → State → Outcome → State → Prop} {mc ms : Nat} {free : Addr → Prop} (hy : plainName y.cls = true) (hav : (lg_sl av).length ≤ maxL)
    (body : ∀ (p : Program) (e : Env) (s : State) (m : MethodId) (args : Array Value) (below : List Frame) (meth : Method) (c : Code) (ls : Array Slot), p.tables.exec = Jvm.exec → c.code = cc → c.maxLocals = maxL → meth.sig.returnType = ret → meth.locks = false → s.vm.findClass y.cls = some m.cls → (∀ w ∈ lw_all, w.before args s = true) → WT D yc e0 A S Z F G q s.heap → va_S A s.heap s.heap [] → (∀ a, s.heap.size ≤ a → A a) → CX D yc e0 A s → lv_has ls maxL (lv_args 0 av) →
      W p l e rm s m args below meth c s.heap [] 0 0 (MQ below Qc args s mc ms free) (F0 m 0 ls [])) :
    Met l y (ws_ y cc maxL ret) rm (PT D yc e0 A S Z F G q av) Qc mc ms free := by
  refine Met.ofW (cc := cc) (maxL := maxL) (ret := ret) hy rfl ?_
  intro p e s m args below meth c s₁ B hml hv
  obtain ⟨rfl, hW, hA, hC⟩ := hv
  have hts := atoms_spec (ws := ws_ y cc maxL ret) B.pre
  rw [lg_entry_eq]
  exact body p e s m _ below meth c _ B.exec B.bytes hml B.returns B.notSynchronized (findClass_of_methodNamed B.named) (fun w h => hts w (List.mem_cons_of_mem _ h)) hW va_S.rf hA hC (lv_entry av hav)
/-- .. of a method that looks at no cell -/
def PN (av : List Value) : Array Value → State → Prop := va_Pc av (fun _ => True)
theorem PN.blind {av : List Value} : FrameBlind (PN av) := fun _ _ _ _ h => h
theorem tp_N {s : State} {H : Heap} {As : List Value} : PreS s H (PN As) As := ⟨PN.blind, fun _ _ _ => ⟨rfl, trivial⟩⟩
theorem tk_N {l : Launch} {y : MethodName} {cc : ByteArray} {maxL : Nat} {ret : Option FieldType} {rm : Room} {av : List Value} {Qc : Array Value → State → Outcome → State → Prop} {mc ms : Nat} {free : Addr → Prop} (hy : plainName y.cls = true) (hav : (lg_sl av).length ≤ maxL)
    (body : ∀ (p : Program) (e : Env) (s : State) (m : MethodId) (args : Array Value) (below : List Frame) (meth : Method) (c : Code) (ls : Array Slot), p.tables.exec = Jvm.exec → c.code = cc → c.maxLocals = maxL → meth.sig.returnType = ret → meth.locks = false → s.vm.findClass y.cls = some m.cls → (∀ w ∈ lw_all, w.before args s = true) → lv_has ls maxL (lv_args 0 av) →
      W p l e rm s m args below meth c s.heap [] 0 0 (MQ below Qc args s mc ms free) (F0 m 0 ls [])) :
    Met l y (ws_ y cc maxL ret) rm (PN av) Qc mc ms free := by
  refine Met.ofW (cc := cc) (maxL := maxL) (ret := ret) hy rfl ?_
  intro p e s m args below meth c s₁ B hml hv
  obtain ⟨rfl, -⟩ := hv
  have hts := atoms_spec (ws := ws_ y cc maxL ret) B.pre
  rw [lg_entry_eq]
  exact body p e s m _ below meth c _ B.exec B.bytes hml B.returns B.notSynchronized (findClass_of_methodNamed B.named) (fun w h => hts w (List.mem_cons_of_mem _ h)) (lv_entry av hav)
