theorem cel_ch {S : TS} {G : TG} {kd fl k : Nat} {f : Nat → Int32} (h : kd = 4 ∨ kd = 5) : cel S G kd fl k f = .inr (1, [.ref (zr S (ri fl (zsrc S (kd - 4) k))), .int (f 1), .int (f 2)]) := by rcases h with rfl | rfl <;> rfl
def ochd (S : TS) (k i : Nat) : Nat × Nat := (och S k).getD i (4, 0)
theorem och_mem {S : TS} {k : Nat} {q : Nat × Nat} (h : q ∈ och S k) : (q.1 = 4 ∧ q.2 < zn S ∧ zp S 0 q.2 = some k) ∨ (q.1 = 5 ∧ q.2 < zn S ∧ zp S 1 q.2 = some k) := by
  unfold och at h
  obtain ⟨c, hc, hq⟩ := List.mem_flatMap.mp h
  have hc := List.mem_range.mp hc
  rcases List.mem_append.mp hq with h | h
  · by_cases hp : zp S 0 c = some k
    · rw [if_pos hp, List.mem_singleton] at h
      subst h
      exact Or.inl ⟨rfl, hc, hp⟩
    · rw [if_neg hp] at h
      cases h
  · by_cases hp : zp S 1 c = some k
    · rw [if_pos hp, List.mem_singleton] at h
      subst h
      exact Or.inr ⟨rfl, hc, hp⟩
    · rw [if_neg hp] at h
      cases h
theorem ochd_mem {S : TS} {k i : Nat} (hi : i < (och S k).length) : ochd S k i ∈ och S k := by
  unfold ochd
  rw [List.getD_eq_getElem?_getD, List.getElem?_eq_getElem hi]
  exact List.getElem_mem hi
theorem och_ok {S : TS} {k i : Nat} {fl : Nat} (hf : fl < 2) (hi : i < (och S k).length) : ((ochd S k i).1 = 4 ∨ (ochd S k i).1 = 5) ∧ dm S (ochd S k i).1 fl (ochd S k i).2 ∧ zsrc S ((ochd S k i).1 - 4) (ochd S k i).2 = k := by
  rcases och_mem (ochd_mem hi) with ⟨h1, h2, h3⟩ | ⟨h1, h2, h3⟩
  · refine ⟨Or.inl h1, ?_, ?_⟩
    · rw [h1]; exact dm4 hf h2 (by rw [h3]; rfl)
    · rw [h1]; unfold zsrc; rw [show (4 - 4 : Nat) = 0 from rfl, h3]; rfl
  · refine ⟨Or.inr h1, ?_, ?_⟩
    · rw [h1]; exact dm5 hf h2 (by rw [h3]; rfl)
    · rw [h1]; unfold zsrc; rw [show (5 - 4 : Nat) = 1 from rfl, h3]; rfl
theorem len_flat {α β : Type} {f : α → List β} {c : Nat} (h : ∀ a, (f a).length ≤ c) : ∀ l : List α, (l.flatMap f).length ≤ c * l.length
  | [] => by simp
  | a :: l => by
    rw [List.flatMap_cons, List.length_append, List.length_cons, Nat.mul_succ]
    have h1 := len_flat h l
    have h2 := h a
    omega
theorem och_len (S : TS) (k : Nat) : (och S k).length ≤ 2 * zn S := by
  unfold och
  refine Nat.le_trans (len_flat (c := 2) (fun a => ?_) _) (by rw [List.length_range]; omega)
  rw [List.length_append]
  by_cases h1 : zp S 0 a = some k <;> by_cases h2 : zp S 1 a = some k <;> simp [h1, h2]
/-- how long the lists are -/
def lln (S : TS) (b k : Nat) : Nat := if b = 0 then zn S else (och S k).length
theorem lic_len {S : TS} {b fl k : Nat} : (lic S b fl k).length = lln S b k := by
  unfold lic lln
  by_cases h : b = 0
  · rw [if_pos h, if_pos h, List.length_map, List.length_range]
  · rw [if_neg h, if_neg h, List.length_map]
theorem lln_le {S : TS} {b k : Nat} (hn : zn S ≤ 12) : lln S b k ≤ 24 := by
  unfold lln
  have := och_len S k
  split <;> omega
/-- what stands there -/
def lat (S : TS) (b fl k i : Nat) : Nat := if b = 0 then zg S 2 fl i else zg S (ochd S k i).1 fl (ochd S k i).2
theorem lic_at {S : TS} {b fl k i : Nat} (h : i < (lic S b fl k).length) : (lic S b fl k)[i] = lat S b fl k i := by
  unfold lic lat at *
  by_cases hb : b = 0
  · simp only [if_pos hb] at h ⊢
    simp
  · simp only [if_neg hb] at h ⊢
    have hi : i < (och S k).length := by rw [List.length_map] at h; exact h
    simp [ochd, List.getD_eq_getElem?_getD, List.getElem?_eq_getElem hi]
section ZV
variable {D : va_G} {yc : Nat → ClassId} {e0 : Nat} {A : Nat → Prop} {S : TS} {Z : Nat × Nat} {F : TF} {G : TG} {q : TQ} {H : Heap}
theorem WT.list (h : WT D yc e0 A S Z F G q H) {b fl k : Nat} (hl : dl S b fl k) : (lln S b k = 0 ∧ ∃ mc : Int32, va_at D vwCl (zl S b fl k, .inr (0, [.int mc, .ref e0, .int 0])) H) ∨
    ∃ (mc : Int32) (x cap : Nat) (f : Nat → Option Nat), va_at D vwCl (zl S b fl k, .inr (0, [.int mc, .ref x, .int (nI (lln S b k))])) H ∧ va_at D vwCl (x, .inl (yc 2, cap, .inr (.inr (.inr (.inr f))))) H ∧ lln S b k ≤ cap ∧ cap < 1024 ∧ ∀ j : Nat, j < lln S b k → f j = some (lat S b fl k j) := by
  obtain ⟨own, h1, h2, h3, h4⟩ := h
  obtain ⟨ha, ⟨hn, mc, ho⟩ | ⟨mc, x, cap, f, g1, g2, g3, g4, g5⟩⟩ := h3 b fl k hl
  · exact Or.inl ⟨by rw [← lic_len (fl := fl), hn]; rfl, mc, ho⟩
  · rw [lic_len] at g1 g3
    refine Or.inr ⟨mc, x, cap, f, g1, g2.1, g3, g4.2, fun j hj => ?_⟩
    have hj' : j < (lic S b fl k).length := by rw [lic_len]; exact hj
    rw [g5 j hj', lic_at hj']
theorem WT.lobj (h : WT D yc e0 A S Z F G q H) {b fl k : Nat} (hl : dl S b fl k) : ∃ (mc : Int32) (x : Nat), va_at D vwCl (zl S b fl k, .inr (0, [.int mc, .ref x, .int (nI (lln S b k))])) H := by
  rcases h.list hl with ⟨h1, mc, h2⟩ | ⟨mc, x, cap, f, h1, -⟩
  · exact ⟨mc, e0, by rw [h1]; exact h2⟩
  · exact ⟨mc, x, h1⟩
end ZV
theorem dl0 {S : TS} {fl : Nat} (h : fl < 2) : dl S 0 fl 0 := Or.inl ⟨rfl, h, rfl⟩
theorem dl1 {S : TS} {fl k : Nat} (h : fl < 2) (hk : k < zn S) : dl S 1 fl k := Or.inr ⟨rfl, h, hk⟩
section ZX
variable {p : Program} {l : Launch} {e : Env} {R : Room} {s : State} {m : MethodId} {args : Array Value} {below : List Frame} {meth : Method} {c : Code} {H : Heap} {locs : List Loc} {cells slots : Nat} {Q : State → Prop}
variable {D : va_G} {yc : Nat → ClassId} {e0 : Nat} {A : Nat → Prop} {S : TS} {Z : Nat × Nat} {F : TF} {G : TG} {q : TQ} {As : List Value}
theorem tp_L (hC : CX D yc e0 A s) (hW : WT D yc e0 A S Z F G q H) (hS : va_S A s.heap H locs) (hA : ∀ a, s.heap.size ≤ a → A a) (b fl k : Nat) (hd : dl S b fl k) : PreV s H RJx4a65c (zl S b fl k) (PT D yc e0 A S Z F G q (.ref (zl S b fl k) :: As)) As := by
  obtain ⟨mc, x, h1⟩ := hW.lobj hd
  exact ⟨PT.blind, va_recv hC.1 (va_P_one h1) (ci := 0) rfl (q0 := 0) rfl, fun U hU hWm => ⟨rfl, by rw [hU]; exact hW, fun a ha => hA a (Nat.le_trans hS.1 (by rw [← hU]; exact ha)), hC.go hS (fun _ h => h) hU hWm⟩⟩
/-- an object of the world stands there, and is of its class -/
theorem t_cell (hK : va_K D vwCl (yT yc) s) (hW : WT D yc e0 A S Z F G q H) (kd fl k : Nat) (hd : dm S kd fl k) {fs : List Value} {ci : Nat} (he : cel S G kd fl k (F kd fl k) = .inr (ci, fs)) {C : String} {T : u_T} {N : Nat} (hc : vwCl[ci]? = some (C, T, N)) : ∃ cell : Cell, H[zg S kd fl k]? = some cell ∧ cell.vm.isStatics = false ∧ s.vm.findClass C = some cell.cls :=
  va_recv hK (va_P_one (by have h := (hW.obj hd).1; rw [he] at h; exact h)) hc (q0 := 0) rfl
end ZX
theorem zin {j : Int32} {n : Nat} (h0 : ¬ j < 0) (h : ¬ nI n ≤ j) (hn : n < 2 ^ 31) : vp_in j n := by
  rw [vp_in_iff]
  rw [Int32.lt_iff_toInt_lt] at h0
  rw [Int32.le_iff_toInt_le, nI_toInt hn] at h
  have e0 : (0 : Int32).toInt = 0 := by decide
  omega
theorem zcap {n : Nat} (h : ∃ z : Nat, z ≤ 20 ∧ n = 8 * 2 ^ z) : n < 2 ^ 31 := by
  obtain ⟨z, hz, rfl⟩ := h
  have h1 : 2 ^ z ≤ 2 ^ 20 := Nat.pow_le_pow_right (by decide) hz
  omega
theorem zrow {f : Nat → Int64} {xs : List Int64} {j : Int32} (hf : ∀ (j : Nat) (h : j < xs.length), f j = xs[j]) (h0 : ¬ j < 0) (h : ¬ nI xs.length ≤ j) (hn : xs.length < 2 ^ 31) : f j.toNatClampNeg = xs.getD j.toNatClampNeg 0 := by
  have h1 := zin h0 h hn
  have hlt : j.toNatClampNeg < xs.length := Nat.not_le.mp fun q => h1 (Or.inr q)
  rw [hf _ hlt, List.getD_eq_getElem?_getD, List.getElem?_eq_getElem hlt]
  rfl
theorem WT.csrc {D : va_G} {yc : Nat → ClassId} {e0 : Nat} {A : Nat → Prop} {S : TS} {Z : Nat × Nat} {F : TF} {G : TG} {q : TQ} {H : Heap} (h : WT D yc e0 A S Z F G q H) {kd fl k : Nat} (hkd : kd = 4 ∨ kd = 5) (hd : dm S kd fl k) : fl < 2 ∧ k < zn S ∧ zsrc S (kd - 4) k < zn S := by
  rcases hkd with rfl | rfl
  · exact ⟨hd.1, hd.2.1, h.src hd.2.1 hd.2.2⟩
  · exact ⟨hd.1, hd.2.1, h.src hd.2.1 hd.2.2⟩
theorem zch_or (S : TS) (x fl k : Nat) : zch S x fl k = .null ∨ ∃ a, zch S x fl k = .ref a := by
  unfold zch
  split
  · exact Or.inr ⟨_, rfl⟩
  · exact Or.inl rfl
theorem zadd1 (w j : Nat) : nI w - 1 + nI (j + 1) = nI (w + j) := by
  rw [← nI_1, ← nI_add, Int32.add_comm (nI j) 1, ← Int32.add_assoc, Int32.sub_add_cancel]
theorem zhalf {a b : Nat} (h : a + b < 2 ^ 31) : ((nI a + nI b).toUInt32 >>> ((1 : Int32).toUInt32 &&& Int32.toUInt32 31)).toInt32 = nI ((a + b) / 2) := by
  rw [nI_add]
  exact pk_ushrN (by omega) 1 1 (by decide)
theorem WT.rlen {D : va_G} {yc : Nat → ClassId} {e0 : Nat} {A : Nat → Prop} {S : TS} {Z : Nat × Nat} {F : TF} {G : TG} {q : TQ} {H : Heap} (h : WT D yc e0 A S Z F G q H) {i : Nat} (hi : dr S i) : (q i).2.length ≤ 8388608 := by
  obtain ⟨x, f, h1, h2, h3, h4, z, h5, h6⟩ := h.row hi
  have h7 : 2 ^ z ≤ 2 ^ 20 := Nat.pow_le_pow_right (by decide) h5
  omega
theorem zpos {x : Int32} (h : ¬ x < 1) : ¬ x = 0 := fun e => h (by rw [e]; decide)
theorem zng {x : Int32} (h : x < 0) : ¬ 0 ≤ x := by
  rw [Int32.lt_iff_toInt_lt] at h
  rw [Int32.le_iff_toInt_le]
  omega
theorem Met.ofWF {l : Launch} {y : MethodName} {ws ws' : List Cond} {rm : Room} {Pc : Array Value → State → Prop} {Qc : Array Value → State → Outcome → State → Prop} {mc ms : Nat} {free : Addr → Prop} {cc : ByteArray} {maxL : Nat} {ret : Option FieldType}
    (hy : plainFor y = true) (hw : ws = Cond.code y cc maxL ret :: ws')
    (body : ∀ p e s m args below meth c s₁, BodyLoose p l y (headSpec ws rm) cc maxL ret e s m args below meth c s₁ → c.maxLocals = maxL → Pc args s →
      W p l e (headSpec ws rm).room s m args below meth c s.heap [] 0 0 (MQ below Qc args s mc ms free) (entryFrame m args maxL)) : Met l y ws rm Pc Qc mc ms free := by
  refine MetFree.of_bodySF (code := cc) (maxLocals := maxL) (ret := ret) hy ?_ ?_
  · intro args s m h hn
    obtain ⟨meth, c, h1, h2, h3, h4, h5, h6, -, -⟩ := Cond.code_spec hn (atoms_spec (ws := ws) h _ (by rw [hw]; exact List.mem_cons_self))
    exact ⟨meth, c, h1, h2, h3, h4, h5, h6⟩
  · intro p e s m args below meth c s₁ B hml hP _
    have hh0 : s₁.heap = s.heap := by rw [B.state]; rfl
    obtain ⟨t, a1, o, b1, b2, b3⟩ := body p e s m args below meth c s₁ B hml hP s₁ hh0 (Stand.of_body B)
    exact ⟨t, o, a1, b1, b2, ⟨b3.1, b3.2⟩⟩
theorem tk_NF {l : Launch} {y : MethodName} {cc : ByteArray} {maxL : Nat} {ret : Option FieldType} {rm : Room} {av : List Value} {Qc : Array Value → State → Outcome → State → Prop} {mc ms : Nat} {free : Addr → Prop} (hy : plainFor y = true) (hav : (lg_sl av).length ≤ maxL)
    (body : ∀ (p : Program) (e : Env) (s : State) (m : MethodId) (args : Array Value) (below : List Frame) (meth : Method) (c : Code) (ls : Array Slot), p.tables.exec = Jvm.exec → c.code = cc → c.maxLocals = maxL → meth.sig.returnType = ret → meth.locks = false → s.vm.findClass y.cls = some m.cls → (∀ w ∈ lw_all, w.before args s = true) → lv_has ls maxL (lv_args 0 av) →
      W p l e rm s m args below meth c s.heap [] 0 0 (MQ below Qc args s mc ms free) (F0 m 0 ls [])) :
    Met l y (ws_ y cc maxL ret) rm (PN av) Qc mc ms free := by
  refine Met.ofWF (cc := cc) (maxL := maxL) (ret := ret) hy rfl ?_
  intro p e s m args below meth c s₁ B hml hv
  obtain ⟨rfl, -⟩ := hv
  have hts := atoms_spec (ws := ws_ y cc maxL ret) B.pre
  rw [lg_entry_eq]
  exact body p e s m _ below meth c _ B.exec B.bytes hml B.returns B.notSynchronized (findClass_of_methodNamed B.named) (fun w h => hts w (List.mem_cons_of_mem _ h)) (lv_entry av hav)
theorem zpos1 {x : Int32} (h : 1 ≤ x) : ¬ x = 0 := fun e => by rw [e] at h; exact absurd h (by decide)
theorem zfp_n64 {r : UInt64} (h : FP.Core.dIsNaN r = false) : vf_n64 r := by
  have h1 : ¬ (9218868437227405312 < r.toNat % 2 ^ 63) := fun h2 => by rw [(FP.Core.isNaN_bits r).mpr h2] at h; cases h
  unfold vf_n64
  rw [UInt64.le_iff_toNat_le, UInt64.toNat_and]
  have e1 : (0x7fffffffffffffff : UInt64).toNat = 2 ^ 63 - 1 := by decide
  have e2 : (0x7ff0000000000000 : UInt64).toNat = 9218868437227405312 := by decide
  rw [e1, e2, Nat.and_two_pow_sub_one_eq_mod]
  omega
theorem zfp_div {a b : Int32} (hb : ¬ b = 0) : FP.Core.dIsNaN (FP.ddiv (FP.i2d a) (FP.i2d b)) = false :=
  FP.Core.ddiv_out (FP.Core.DFin.notNaN (FP.Core.i2d_fin a)) (FP.Core.i2d_fin b) (fun hz => FP.Core.i2d_ne_zero hb ((FP.Core.zero_bits2 _).mp hz))
theorem znn {x : Int32} (h : ¬ x < 0) : x = nI x.toNatClampNeg := by
  obtain ⟨j, hj, rfl⟩ := nI_of h
  rw [nI_clamp hj]
theorem znl (x : Int32) : x.toNatClampNeg < 2 ^ 31 := by
  have h := x.toInt_lt
  have h2 : x.toNatClampNeg = x.toInt.toNat := rfl
  omega
