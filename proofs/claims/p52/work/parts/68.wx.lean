/-! ===== wiring: a world of facts that grows: objects, rows as new, lists ===== -/
abbrev XO : Type := Nat → Nat → Nat → Nat → Nat × List Value → Prop
abbrev XR : Type := Nat → Nat → Prop
abbrev XL : Type := Nat → Nat → Nat → Nat → List Nat → Prop
def WX (D : va_G) (yc : Nat → ClassId) (e0 : Nat) (A : Nat → Prop) (own : TO) (ob : XO) (rw : XR) (ls : XL) (H : Heap) : Prop :=
  (∀ kd fl k a e, ob kd fl k a e → va_at D vwCl (a, .inr e) H ∧ A a ∧ own a = (0, kd, fl, k)) ∧
    (∀ i r, rw i r → ∃ (x : Nat) (f : Nat → Int64), WRow D yc A own r x i f (8, []) H) ∧
    (∀ b fl k a L, ls b fl k a L → WList D yc e0 A own a b fl k L H) ∧
    (∀ kd fl k a e kd' fl' k' e', ob kd fl k a e → ob kd' fl' k' a e' → e = e')
section WXS
variable {D : va_G} {yc : Nat → ClassId} {e0 : Nat} {A : Nat → Prop} {own own' : TO} {ob ob' : XO} {rw rw' : XR} {ls ls' : XL} {H H1 : Heap}
theorem WX.move (h : WX D yc e0 A own ob rw ls H) (P : Nat → Prop) (hk : ∀ q : Nat, q < H.size → ¬ P q → H1[q]? = H[q]?) (ho : ∀ q : Nat, q < H.size → own' q = own q) :
    WX D yc e0 A own' (fun kd fl k a e => ob kd fl k a e ∧ ¬ P a) (fun i r => rw i r ∧ ∀ q, P q → own q ≠ (1, i, 0, 0) ∧ own q ≠ (2, i, 0, 0)) (fun b fl k a L => ls b fl k a L ∧ ∀ q, P q → own q ≠ (3, b, fl, k) ∧ own q ≠ (4, b, fl, k)) H1 := by
  obtain ⟨h1, h2, h3, h4⟩ := h
  refine ⟨fun kd fl k a e ⟨q1, q2⟩ => ?_, fun i r ⟨q1, q2⟩ => ?_, fun b fl k a L ⟨q1, q2⟩ => ?_, fun kd fl k a e kd' fl' k' e' q1 q2 => h4 kd fl k a e kd' fl' k' e' q1.1 q2.1⟩
  · obtain ⟨g1, g2, g3⟩ := h1 kd fl k a e q1
    exact ⟨g1.kept (hk a g1.lt q2), g2, (ho a g1.lt).trans g3⟩
  · obtain ⟨x, f, g1, g2, g3⟩ := h2 i r q1
    refine ⟨x, f, ⟨g1.1.kept (hk r g1.1.lt fun hp => (q2 r hp).1 g1.2.2), g1.2.1, (ho r g1.1.lt).trans g1.2.2⟩, ⟨g2.1.kept (hk x g2.1.lt fun hp => (q2 x hp).2 g2.2.2), g2.2.1, (ho x g2.1.lt).trans g2.2.2⟩, g3⟩
  · obtain ⟨⟨g1, g2⟩, ⟨g3, mc, g4⟩ | ⟨mc, x, cap, f, g3, g4, g5⟩⟩ := h3 b fl k a L q1
    · exact ⟨⟨g1, (ho a g4.lt).trans g2⟩, Or.inl ⟨g3, mc, g4.kept (hk a g4.lt fun hp => (q2 a hp).1 g2)⟩⟩
    · exact ⟨⟨g1, (ho a g3.lt).trans g2⟩, Or.inr ⟨mc, x, cap, f, g3.kept (hk a g3.lt fun hp => (q2 a hp).1 g2), ⟨g4.1.kept (hk x g4.1.lt fun hp => (q2 x hp).2 g4.2.2), g4.2.1, (ho x g4.1.lt).trans g4.2.2⟩, g5⟩⟩
theorem WX.mono (h : WX D yc e0 A own ob rw ls H) (h1 : ∀ kd fl k a e, ob' kd fl k a e → ob kd fl k a e) (h2 : ∀ i r, rw' i r → rw i r) (h3 : ∀ b fl k a L, ls' b fl k a L → ls b fl k a L) : WX D yc e0 A own ob' rw' ls' H :=
  ⟨fun kd fl k a e q => h.1 kd fl k a e (h1 _ _ _ _ _ q), fun i r q => h.2.1 i r (h2 _ _ q), fun b fl k a L q => h.2.2.1 b fl k a L (h3 _ _ _ _ _ q), fun kd fl k a e kd' fl' k' e' q1 q2 => h.2.2.2 kd fl k a e kd' fl' k' e' (h1 _ _ _ _ _ q1) (h1 _ _ _ _ _ q2)⟩
/-- new cells alone -/
theorem WX.kept (h : WX D yc e0 A own ob rw ls H) (hk : ∀ q : Nat, q < H.size → H1[q]? = H[q]?) (ho : ∀ q : Nat, q < H.size → own' q = own q) : WX D yc e0 A own' ob rw ls H1 :=
  (h.move (fun _ => False) (fun q hq _ => hk q hq) ho).mono (fun _ _ _ _ _ q => ⟨q, id⟩) (fun _ _ q => ⟨q, fun _ h => h.elim⟩) (fun _ _ _ _ _ q => ⟨q, fun _ h => h.elim⟩)
/-- facts beside facts -/
theorem WX.or (h : WX D yc e0 A own ob rw ls H) (h' : WX D yc e0 A own ob' rw' ls' H) (hd : ∀ kd fl k a e kd' fl' k' e', ob kd fl k a e → ob' kd' fl' k' a e' → e = e') :
    WX D yc e0 A own (fun kd fl k a e => ob kd fl k a e ∨ ob' kd fl k a e) (fun i r => rw i r ∨ rw' i r) (fun b fl k a L => ls b fl k a L ∨ ls' b fl k a L) H := by
  refine ⟨fun kd fl k a e q => ?_, fun i r q => ?_, fun b fl k a L q => ?_, fun kd fl k a e kd' fl' k' e' q1 q2 => ?_⟩
  · exact q.elim (h.1 kd fl k a e) (h'.1 kd fl k a e)
  · exact q.elim (h.2.1 i r) (h'.2.1 i r)
  · exact q.elim (h.2.2.1 b fl k a L) (h'.2.2.1 b fl k a L)
  · rcases q1 with q1 | q1 <;> rcases q2 with q2 | q2
    · exact h.2.2.2 _ _ _ _ _ _ _ _ _ q1 q2
    · exact hd _ _ _ _ _ _ _ _ _ q1 q2
    · exact (hd _ _ _ _ _ _ _ _ _ q2 q1).symm
    · exact h'.2.2.2 _ _ _ _ _ _ _ _ _ q1 q2
theorem WX.obj (h : WX D yc e0 A own ob rw ls H) {kd fl k a : Nat} {e : Nat × List Value} (q : ob kd fl k a e) : va_at D vwCl (a, .inr e) H := (h.1 kd fl k a e q).1
theorem WX.in (h : WX D yc e0 A own ob rw ls H) {kd fl k a : Nat} {e : Nat × List Value} (q : ob kd fl k a e) : A a := (h.1 kd fl k a e q).2.1
theorem WX.tag (h : WX D yc e0 A own ob rw ls H) {kd fl k a : Nat} {e : Nat × List Value} (q : ob kd fl k a e) : own a = (0, kd, fl, k) := (h.1 kd fl k a e q).2.2
/-- one object -/
theorem WX.one {kd fl k a : Nat} {e : Nat × List Value} (h1 : va_at D vwCl (a, .inr e) H) (h2 : A a) (h3 : own a = (0, kd, fl, k)) :
    WX D yc e0 A own (fun kd' fl' k' a' e' => (kd' = kd ∧ fl' = fl ∧ k' = k) ∧ a' = a ∧ e' = e) (fun _ _ => False) (fun _ _ _ _ _ => False) H :=
  ⟨fun kd' fl' k' a' e' ⟨⟨q1, q2, q3⟩, q4, q5⟩ => by subst q1 q2 q3 q4 q5; exact ⟨h1, h2, h3⟩, fun _ _ q => q.elim, fun _ _ _ _ _ q => q.elim, fun _ _ _ _ _ _ _ _ _ q1 q2 => q1.2.2.trans q2.2.2.symm⟩
theorem WX.onel {b fl k a : Nat} {L : List Nat} (h1 : WList D yc e0 A own a b fl k L H) :
    WX D yc e0 A own (fun _ _ _ _ _ => False) (fun _ _ => False) (fun b' fl' k' a' L' => (b' = b ∧ fl' = fl ∧ k' = k) ∧ a' = a ∧ L' = L) H :=
  ⟨fun _ _ _ _ _ q => q.elim, fun _ _ q => q.elim, fun b' fl' k' a' L' ⟨⟨q1, q2, q3⟩, q4, q5⟩ => by subst q1 q2 q3 q4 q5; exact h1, fun _ _ _ _ _ _ _ _ _ q1 _ => q1.elim⟩
/-- an object's cell set anew -/
theorem WX.put (h : WX D yc e0 A own ob rw ls H) {kd fl k a : Nat} {e e1 : Nat × List Value} (q : ob kd fl k a e) (h1 : va_at D vwCl (a, .inr e1) H1) (hk : ∀ x : Nat, x < H.size → x ≠ a → H1[x]? = H[x]?) :
    WX D yc e0 A own (fun kd' fl' k' a' e' => (ob kd' fl' k' a' e' ∧ ¬ a' = a) ∨ ((kd' = kd ∧ fl' = fl ∧ k' = k) ∧ a' = a ∧ e' = e1)) rw ls H1 := by
  have hm := h.move (H1 := H1) (own' := own) (fun x => x = a) (fun x h9 hx => hk x h9 hx) (fun _ _ => rfl)
  have ho := h.tag q
  refine (hm.or (WX.one h1 (h.in q) ho) (fun kd fl k a' e kd' fl' k' e' q1 q2 => absurd q2.2.1 q1.2)).mono (fun _ _ _ _ _ q => q) (fun _ _ q => Or.inl ⟨q, fun x hx => ?_⟩) (fun _ _ _ _ _ q => Or.inl ⟨q, fun x hx => ?_⟩)
  · rw [hx, ho]; constructor <;> intro h9 <;> simp at h9
  · rw [hx, ho]; constructor <;> intro h9 <;> simp at h9
end WXS
/-- a contract's start over facts -/
def PX (D : va_G) (yc : Nat → ClassId) (e0 : Nat) (A : Nat → Prop) (own : TO) (ob : XO) (rw : XR) (ls : XL) (sz : Nat) (av : List Value) : Array Value → State → Prop := va_Pc av (fun U => WX D yc e0 A own ob rw ls U.heap ∧ U.heap.size = sz ∧ (∀ a, U.heap.size ≤ a → A a) ∧ CX D yc e0 A U)
theorem PX.blind {D : va_G} {yc : Nat → ClassId} {e0 : Nat} {A : Nat → Prop} {own : TO} {ob : XO} {rw : XR} {ls : XL} {sz : Nat} {av : List Value} : FrameBlind (PX D yc e0 A own ob rw ls sz av) := fun a U g mk h => by
  obtain ⟨h0, h1, hz, h2, h3⟩ := h
  exact ⟨h0, h1, hz, h2, CX.calling g mk a h3⟩
section WXP
variable {p : Program} {l : Launch} {e : Env} {R : Room} {s : State} {m : MethodId} {args : Array Value} {below : List Frame} {meth : Method} {c : Code} {H : Heap} {locs : List Jvm.Loc} {cells slots : Nat} {Q : State → Prop}
variable {D : va_G} {yc : Nat → ClassId} {e0 : Nat} {A : Nat → Prop} {own : TO} {ob : XO} {rw : XR} {ls : XL} {As : List Value}
theorem px_S (hC : CX D yc e0 A s) (hW : WX D yc e0 A own ob rw ls H) (hS : va_S A s.heap H locs) (hA : ∀ a, s.heap.size ≤ a → A a) : PreS s H (PX D yc e0 A own ob rw ls H.size As) As :=
  ⟨PX.blind, fun U hU hWm => ⟨rfl, by rw [hU]; exact hW, by rw [hU], fun a ha => hA a (Nat.le_trans hS.1 (by rw [← hU]; exact ha)), hC.go hS (fun _ h => h) hU hWm⟩⟩
theorem px_V (hC : CX D yc e0 A s) (hW : WX D yc e0 A own ob rw ls H) (hS : va_S A s.heap H locs) (hA : ∀ a, s.heap.size ≤ a → A a) {b ci : Nat} {fs : List Value} (hb : va_at D vwCl (b, .inr (ci, fs)) H) {C : String} {T : u_T} {N : Nat} (hc : vwCl[ci]? = some (C, T, N)) : PreV s H C b (PX D yc e0 A own ob rw ls H.size (.ref b :: As)) As :=
  ⟨PX.blind, va_recv hC.1 (va_P_one hb) hc (q0 := 0) rfl, fun U hU hWm => ⟨rfl, by rw [hU]; exact hW, by rw [hU], fun a ha => hA a (Nat.le_trans hS.1 (by rw [← hU]; exact ha)), hC.go hS (fun _ h => h) hU hWm⟩⟩
end WXP
/-- a contract over facts from the walk of its body -/
theorem xk_M {l : Launch} {y : MethodName} {cc : ByteArray} {maxL : Nat} {ret : Option FieldType} {rm : Room} {D : va_G} {yc : Nat → ClassId} {e0 sz : Nat} {A : Nat → Prop} {own : TO} {ob : XO} {rw : XR} {ls0 : XL} {av : List Value} {Qc : Array Value → State → Outcome → State → Prop} {mc ms : Nat} {free : Addr → Prop} (hy : plainName y.cls = true) (hav : (lg_sl av).length ≤ maxL)
    (body : ∀ (p : Program) (e : Env) (s : State) (m : MethodId) (args : Array Value) (below : List Frame) (meth : Method) (c : Code) (ls : Array Slot), p.tables.exec = Jvm.exec → c.code = cc → c.maxLocals = maxL → meth.sig.returnType = ret → meth.locks = false → s.vm.findClass y.cls = some m.cls → (∀ w ∈ lw_all, w.before args s = true) → WX D yc e0 A own ob rw ls0 s.heap → s.heap.size = sz → va_S A s.heap s.heap [] → (∀ a, s.heap.size ≤ a → A a) → CX D yc e0 A s → lv_has ls maxL (lv_args 0 av) →
      W p l e rm s m args below meth c s.heap [] 0 0 (MQ below Qc args s mc ms free) (F0 m 0 ls [])) :
    Met l y (ws_ y cc maxL ret) rm (PX D yc e0 A own ob rw ls0 sz av) Qc mc ms free := by
  refine Met.ofW (cc := cc) (maxL := maxL) (ret := ret) hy rfl ?_
  intro p e s m args below meth c s₁ B hml hv
  obtain ⟨rfl, hW, hz, hA, hC⟩ := hv
  have hts := atoms_spec (ws := ws_ y cc maxL ret) B.pre
  rw [lg_entry_eq]
  exact body p e s m _ below meth c _ B.exec B.bytes hml B.returns B.notSynchronized (findClass_of_methodNamed B.named) (fun w h => hts w (List.mem_cons_of_mem _ h)) hW hz va_S.rf hA hC (lv_entry av hav)
section WXN
variable {p : Program} {l : Launch} {e : Env} {R : Room} {s : State} {m : MethodId} {args : Array Value} {below : List Frame} {meth : Method} {c : Code} {H : Heap} {locs : List Jvm.Loc} {cells slots : Nat} {Q : State → Prop} {cc : ByteArray} {pc : Nat} {ls : Array Slot} {rest : List Value} {D : va_G} {tys : List (ClassId × FieldType)}
theorem x_new (hexec : p.tables.exec = Jvm.exec) (hb : c.code = cc) {own C : String} {T : u_T} {N ci index : Nat} {Ts : List Cond} (hts : ∀ w ∈ Ts, w.before args s = true) (hin : ∀ w ∈ u_ws C T N, w ∈ Ts) (ty : Nat → FieldType) (hty : ∀ k, k < N → parseFieldDescriptor (T k).2.2.1 = some (ty k)) (hown : s.vm.findClass own = some m.cls) (hcl : (Cond.classLink own index C).before args s = true) (hinst : (Cond.instantiable C N).before args s = true) (hini : (Cond.initialized C).before args s = true)
    (hK : va_K D vwCl tys s) (hc : vwCl[ci]? = some (C, T, N)) {fs : List Value} (hfs : ∀ j, j < N → defaultValue (ty j) = vp_V fs j) (hcells : cells + 1 ≤ R.cells) (hslots : slots + N ≤ R.slots) (hdg : decode cc pc = .ok (.new index, 3))
    (kk : ∀ (H1 : Heap), H1.size = H.size + 1 → (∀ q : Nat, q < H.size → H1[q]? = H[q]?) → va_at D vwCl (H.size, .inr (ci, fs)) H1 → W p l e R s m args below meth c H1 locs (cells + 1) (slots + N) Q (F0 m (pc + 3) ls (.ref H.size :: rest))) : W p l e R s m args below meth c H locs cells slots Q (F0 m pc ls rest) := by
  have hKn := hK.1 ci _ hc
  refine W.newcK hexec hb hown hcl hinst hini rfl hdg hcells hslots hKn.2.1 rfl fun H1 kC hkC e1 z1 o1 => ?_
  exact kk H1 z1 o1 ⟨_, hc, (u_born ty hts hin hKn hkC e1 hty).to hfs⟩
end WXN
def lsadd (ls : XL) (b fl k a : Nat) (L : List Nat) : XL := fun b' fl' k' a' L1 => (ls b' fl' k' a' L1 ∧ ¬ (b' = b ∧ fl' = fl ∧ k' = k)) ∨ ((b' = b ∧ fl' = fl ∧ k' = k) ∧ a' = a ∧ L1 = L)
theorem x_fin {D : va_G} {yc : Nat → ClassId} {e0 : Nat} {A : Nat → Prop} {own : TO} {ob : XO} {rw : XR} {ls : XL} {H H1 : Heap} (hW : WX D yc e0 A own ob rw ls H) {b fl k a x v x' cap' : Nat} {L : List Nat} {mc' : Int32} {f' : Nat → Option Nat} {kdv flv kv : Nat} {e : Nat × List Value} (hv : ob kdv flv kv v e) (hoa : own a = (3, b, fl, k)) (hox : own x = (4, b, fl, k) ∨ x = a)
    (hk : ∀ q : Nat, q < H.size → ¬ (q = a ∨ q = x ∨ q = v) → H1[q]? = H[q]?) (hv1 : va_at D vwCl (v, .inr e) H1) (h1 : va_at D vwCl (a, .inr (0, [.int mc', .ref x', .int (nI (L.length + 1))])) H1) (h2 : va_at D vwCl (x', .inl (yc 2, cap', .inr (.inr (.inr (.inr f'))))) H1)
    (ha : a < H.size) (hx' : (x' < H.size ∧ own x' = (4, b, fl, k)) ∨ H.size ≤ x') (hAa : A a) (hAx : A x') (hc : L.length + 1 ≤ cap' ∧ cap' < 1024) (hf : ∀ (j : Nat) (h : j < (L ++ [v]).length), f' j = some (L ++ [v])[j]) :
    ∃ own' : TO, (∀ q, q < H.size → own' q = own q) ∧ WX D yc e0 A own' ob rw (lsadd ls b fl k a (L ++ [v])) H1 := by
  have hov := hW.tag hv
  have hlv := (hW.obj hv).lt
  obtain ⟨own', ho⟩ : ∃ own' : TO, own' = fun q => if q < H.size then own q else (4, b, fl, k) := ⟨_, rfl⟩
  have ho1 : ∀ q, q < H.size → own' q = own q := fun q hq => by rw [ho]; exact if_pos hq
  have ho2 : own' x' = (4, b, fl, k) := by
    rcases hx' with ⟨h3, h4⟩ | h3
    · rw [ho1 _ h3]; exact h4
    · rw [ho]; exact if_neg (by omega)
  refine ⟨own', ho1, ?_⟩
  have hm := hW.move (H1 := H1) (own' := own') (fun q => q = a ∨ q = x ∨ q = v) hk ho1
  have hvv : WX D yc e0 A own' (fun kd' fl' k' a' e' => ob kd' fl' k' a' e' ∧ a' = v) (fun _ _ => False) (fun _ _ _ _ _ => False) H1 := by
    refine ⟨fun kd' fl' k' a' e' ⟨q1, q2⟩ => ?_, fun _ _ q => q.elim, fun _ _ _ _ _ q => q.elim, fun _ _ _ _ _ _ _ _ _ q1 q2 => hW.2.2.2 _ _ _ _ _ _ _ _ _ q1.1 q2.1⟩
    subst q2
    have : e' = e := hW.2.2.2 _ _ _ _ _ _ _ _ _ q1 hv
    subst this
    exact ⟨hv1, hW.in q1, (ho1 _ hlv).trans (hW.tag q1)⟩
  have hlen : (L ++ [v]).length = L.length + 1 := by simp
  have hl : WList D yc e0 A own' a b fl k (L ++ [v]) H1 := ⟨⟨hAa, (ho1 a ha).trans hoa⟩, Or.inr ⟨mc', x', cap', f', by rw [hlen]; exact h1, ⟨h2, hAx, ho2⟩, by rw [hlen]; exact hc.1, ⟨by omega, hc.2⟩, hf⟩⟩
  refine ((hm.or hvv (fun kd fl k a' e kd' fl' k' e' q1 q2 => (q1.2 (Or.inr (Or.inr q2.2))).elim)).or (WX.onel hl) (fun _ _ _ _ _ _ _ _ _ _ q => q.elim)).mono ?_ ?_ ?_
  · intro kd' fl' k' a' e' q
    by_cases h9 : a' = v
    · exact Or.inl (Or.inr ⟨q, h9⟩)
    · refine Or.inl (Or.inl ⟨q, fun h => ?_⟩)
      have h8 := hW.tag q
      rcases h with h | h | h
      · rw [h, hoa] at h8; simp at h8
      · rcases hox with h7 | h7
        · rw [h, h7] at h8; simp at h8
        · rw [h, h7, hoa] at h8; simp at h8
      · exact h9 h
  · intro i r q
    refine Or.inl (Or.inl ⟨q, fun z hz => ?_⟩)
    rcases hz with rfl | rfl | rfl
    · rw [hoa]; constructor <;> intro h9 <;> simp at h9
    · rcases hox with h7 | h7
      · rw [h7]; constructor <;> intro h9 <;> simp at h9
      · rw [h7, hoa]; constructor <;> intro h9 <;> simp at h9
    · rw [hov]; constructor <;> intro h9 <;> simp at h9
  · intro b' fl' k' a' L1 q
    rcases q with ⟨q, hne⟩ | q
    · refine Or.inl (Or.inl ⟨q, fun z hz => ?_⟩)
      have key : ∀ t : Nat, t = 3 ∨ t = 4 → (t, b, fl, k) ≠ (3, b', fl', k') ∧ (t, b, fl, k) ≠ (4, b', fl', k') := by
        intro t _
        constructor <;> intro h9 <;> simp only [Prod.mk.injEq] at h9 <;> exact hne ⟨h9.2.1.symm, h9.2.2.1.symm, h9.2.2.2.symm⟩
      rcases hz with rfl | rfl | rfl
      · rw [hoa]; exact key 3 (Or.inl rfl)
      · rcases hox with h7 | h7
        · rw [h7]; exact key 4 (Or.inr rfl)
        · rw [h7, hoa]; exact key 3 (Or.inl rfl)
      · rw [hov]; constructor <;> intro h9 <;> simp at h9
    · exact Or.inr q
