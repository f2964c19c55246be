/-! ===== wiring: a field put among facts; a block all new ===== -/
section WX3
variable {p : Program} {l : Launch} {e : Env} {R : Room} {s : State} {m : MethodId} {args : Array Value} {below : List Frame} {meth : Method} {c : Code} {H : Heap} {locs : List Jvm.Loc} {cells slots : Nat} {Q : State → Prop} {cc : ByteArray} {pc : Nat} {ls : Array Slot} {rest : List Value} {D : va_G} {tys : List (ClassId × FieldType)} {A : Nat → Prop} {H0 : Heap}
theorem x_put (hexec : p.tables.exec = Jvm.exec) (hb : c.code = cc) {own ref C : String} {T : u_T} {N ci index : Nat} {Ts : List Cond} (hts : ∀ w ∈ Ts, w.before args s = true) (hin : ∀ w ∈ u_ws C T N, w ∈ Ts) (ty0 : Nat → FieldType) (hty : ∀ k, k < N → parseFieldDescriptor (T k).2.2.1 = some (ty0 k)) (hnm : ∀ a, a < N → ∀ b, b < N → a ≠ b → (T a).2.1 ≠ (T b).2.1) (hown : s.vm.findClass own = some m.cls) (hK : va_K D vwCl tys s) {a : Nat} {fs : List Value} (hO : va_at D vwCl (a, .inr (ci, fs)) H) (hAa : A a) (hS0 : va_S A H0 H locs) (hc : vwCl[ci]? = some (C, T, N)) (j : Nat) (hk : j < N) (hlink : (Cond.fieldLink own index ref (T j).2.1 (T j).2.2.1).before args s = true) (hsame : ∀ x, s.fieldFound? (T j).1 (T j).2.1 (T j).2.2.1 = some x → s.fieldFound? ref (T j).2.1 (T j).2.2.1 = some x) (hfin : (T j).2.2.2 = false) {ty : FieldType} {v : Value} (hd0 : parseFieldDescriptor (T j).2.2.1 = some ty) (hn : narrow ty v = v) (hfit : fits ty v = true) (hl : j < fs.length)
    (hdg : decode cc pc = .ok (.putfield index, 3)) (kk : ∀ (H1 : Heap) (locs1 : List Jvm.Loc), va_at D vwCl (a, .inr (ci, fs.set j v)) H1 → (∀ x : Nat, x ≠ a → H1[x]? = H[x]?) → H1.size = H.size → va_S A H0 H1 locs1 → W p l e R s m args below meth c H1 locs1 cells slots Q (F0 m (pc + 3) ls rest)) : W p l e R s m args below meth c H locs cells slots Q (F0 m pc ls (v :: .ref a :: rest)) := by
  have hap := va_apart (own := own) hts hin ty0 hty hnm hK hc
  obtain ⟨r, h1, cell, q1, q2, q3, q4⟩ := hO
  have hr : r = (C, T, N) := Option.some.inj (h1.symm.trans hc)
  subst hr
  obtain ⟨hS, hfc, kC, hkC, hkind⟩ := hK.1 ci _ hc
  obtain ⟨cf, kf, fi, f0, hi, hsl⟩ := hS j hk
  have hlay := hts _ (hin _ (u_in_lay hk))
  unfold u_lay at hlay
  rw [if_neg (by rw [hfin]; decide)] at hlay
  have hst := (u_facts hfc hkC (u_lays hts hin hk) hi).1
  have h6 := u_store hfc hkC hkind hlay hi hd0 hn hfit
  refine W.putK hexec hb (f := f0) ⟨hown, hlink, ⟨_, _, _, hsame _ hi⟩, hst⟩ (by rw [q2]; exact h6) q1 q3 (by rw [hsl]; exact k2_hasslot (q4 j hk)) rfl rfl hdg fun H' e1 e2 e3 => ?_
  rw [hsl] at e1 ⊢
  exact kk H' _ ⟨_, hc, t_OB.to (V := updV (vp_V fs) j v) ⟨_, e1, q2, q3, t_set q4 hap hk v⟩ (fun j _ => vp_updV_set hl v j)⟩ e3 e2 (hS0.put e2 e3 hAa)
end WX3
section WX4
variable {D : va_G} {yc : Nat → ClassId} {e0 : Nat} {A : Nat → Prop} {own own' : TO} {ob ob' : XO} {rw rw' : XR} {ls ls' : XL} {H H1 : Heap}
theorem WX.set (h : WX D yc e0 A own ob rw ls H) {kd fl k a : Nat} {e e1 : Nat × List Value} (q : ob kd fl k a e) (h1 : va_at D vwCl (a, .inr e1) H1) (hk : ∀ x : Nat, x ≠ a → H1[x]? = H[x]?) : WX D yc e0 A own (obset ob kd fl k a e1) rw ls H1 :=
  h.put q h1 (fun x _ hx => hk x hx)
theorem WX.set2 {kd fl k a : Nat} {e1 e2 : Nat × List Value} (h : WX D yc e0 A own (obset (obset ob kd fl k a e1) kd fl k a e2) rw ls H) : WX D yc e0 A own (obset ob kd fl k a e2) rw ls H :=
  h.mono (fun _ _ _ _ _ q => q.elim (fun q => Or.inl ⟨Or.inl q, q.2⟩) Or.inr) (fun _ _ q => q) (fun _ _ _ _ _ q => q)
/-- a block of cells, all new -/
theorem WX.addblk (h : WX D yc e0 A own ob rw ls H) (W : va_W) (T : List TAG) (hk : ∀ q : Nat, q < H.size → H1[q]? = H[q]?) (hP : va_P D vwCl W H1) (hd : ∀ (i j : Nat) (p q : Nat × va_E), W[i]? = some p → W[j]? = some q → p.1 = q.1 → i = j) (hA : ∀ (i : Nat) (q : Nat × va_E), W[i]? = some q → A q.1 ∧ H.size ≤ q.1) :
    ∃ own' : TO, (∀ q, q < H.size → own' q = own q) ∧ WX D yc e0 A own' (fun kd fl k a e => ob kd fl k a e ∨ blo W T kd fl k a e) (fun i r => rw i r ∨ blr yc W T i r) (fun b fl k a L => ls b fl k a L ∨ bll e0 W T b fl k a L) H1 := by
  obtain ⟨own', ho⟩ : ∃ own' : TO, own' = fun q => if q < H.size then own q else tgf W T q := ⟨_, rfl⟩
  have ho1 : ∀ q, q < H.size → own' q = own q := fun q hq => by rw [ho]; exact if_pos hq
  have ho2 : ∀ (i a : Nat) (e : va_E) (t : TAG), W[i]? = some (a, e) → T[i]? = some t → own' a = t := fun i a e t hi ht => by
    have h3 := (hA i _ hi).2
    rw [ho]
    show (if a < H.size then own a else tgf W T a) = t
    rw [if_neg (Nat.not_lt.mpr h3)]
    exact tgf_at W T hd i a e t hi ht
  have hb : WX D yc e0 A own' (blo W T) (blr yc W T) (bll e0 W T) H1 := by
    refine ⟨fun kd fl k a e ⟨i, h3, h4⟩ => ⟨hP i _ h4, (hA i _ h4).1, ho2 i a _ _ h4 h3⟩, fun i r ⟨j, x, h3, h4, h5, h6⟩ => ⟨x, fun _ => 0, ⟨hP j _ h5, (hA j _ h5).1, ho2 j r _ _ h5 h3⟩, ⟨hP (j + 1) _ h6, (hA (j + 1) _ h6).1, ho2 (j + 1) x _ _ h6 h4⟩, Nat.zero_le _, fun j h => absurd h (Nat.not_lt_zero _), 0, by omega, rfl⟩, fun b fl k a L ⟨h2, i, h3, h4⟩ => ?_, fun kd fl k a e kd' fl' k' e' ⟨i, _, h4⟩ ⟨j, _, h6⟩ => ?_⟩
    · subst h2
      exact ⟨⟨(hA i _ h4).1, ho2 i a _ _ h4 h3⟩, Or.inl ⟨rfl, 0, hP i _ h4⟩⟩
    · have : i = j := hd i j _ _ h4 h6 rfl
      subst this
      have h7 := h4.symm.trans h6
      simp only [Option.some.injEq, Prod.mk.injEq, true_and, Sum.inr.injEq] at h7
      exact h7
  refine ⟨own', ho1, (h.kept hk ho1).or hb (fun kd fl k a e kd' fl' k' e' q1 q2 => ?_)⟩
  obtain ⟨i, -, h4⟩ := q2
  have h5 := (hA i _ h4).2
  have h6 := (h.obj q1).lt
  exact absurd h6 (Nat.not_lt.mpr h5)
end WX4
