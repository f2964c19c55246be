/-! ===== the initial world of a shape ===== -/
def q0 (S : TS) : TQ := fun i => if (i < 288 ∧ i / 8 < 3 * zn S) ∨ (288 ≤ i ∧ i < 312 ∧ (i - 288) / 2 < zn S) ∨ (312 ≤ i ∧ i < 336 ∧ (i - 312) / 2 < zn S) ∨ (336 ≤ i ∧ i < 348 ∧ i - 336 < zn S) then (8, []) else (0, [])
theorem q0_in {S : TS} {i : Nat} (h : dr S i) : q0 S i = (8, []) := if_pos h
theorem q0_out {S : TS} {i : Nat} (h : ¬ dr S i) : q0 S i = (0, []) := if_neg h
theorem cel_inr {S : TS} {G : TG} {kd fl k : Nat} {f : Nat → Int32} : ∃ e, cel S G kd fl k f = .inr e := by
  unfold cel
  split <;> exact ⟨_, rfl⟩
section IWS
variable {D : va_G} {yc : Nat → ClassId} {e0 : Nat} {A : Nat → Prop} {own : TO} {S : TS} {pl : Nat → Nat → Int32} {H H1 : Heap} {ob : XO} {rw : XR} {ls : XL}
/-- the facts of a shape are a world -/
theorem ws_WT (hW : WX D yc e0 A own (obS S pl) (rwS S) (lsS S) H) (hn : zn S ≤ 12) (hok : zok S) : WT D yc e0 A S (H.size, zh H) (F0p pl) G0 (q0 S) H := by
  refine ⟨own, fun kd fl k hd => ?_, fun i hi => ?_, fun b fl k hl => hW.2.2.1 b fl k _ _ ⟨hl, rfl, rfl⟩, fun kd fl k j hj => ?_, Nat.le_add_right _ _, Nat.le_add_right _ _, hn, hok⟩
  · obtain ⟨e, he⟩ := cel_inr (S := S) (G := G0) (kd := kd) (fl := fl) (k := k) (f := F0p pl kd fl k)
    rw [he]
    exact hW.1 kd fl k _ e ⟨hd, rfl, he⟩
  · rw [q0_in hi]
    exact hW.2.1 i _ ⟨hi, rfl⟩
  · have key : ∀ kd j, zib kd j = true → (kd = 0 ∧ j = 3) ∨ (kd = 2) ∨ (kd = 4 ∨ kd = 5) ∨ (kd = 7) := by
      intro kd j h
      unfold zib at h
      simp only [Bool.or_eq_true, Bool.and_eq_true, beq_iff_eq] at h
      omega
    unfold F0p
    rcases key kd j hj with ⟨rfl, rfl⟩ | rfl | (rfl | rfl) | rfl
    · right; rfl
    · left; rfl
    · left; rfl
    · left; rfl
    · left; rfl
/-- a field of the newest object set anew -/
theorem WX.setadd {kd fl k a : Nat} {e1 e2 : Nat × List Value} (h : WX D yc e0 A own (obadd ob kd fl k a e1) rw ls H) (hne : ∀ kd fl k a' e, ob kd fl k a' e → ¬ a' = a) (h1 : va_at D vwCl (a, .inr e2) H1) (hk : ∀ x : Nat, x ≠ a → H1[x]? = H[x]?) : WX D yc e0 A own (obadd ob kd fl k a e2) rw ls H1 :=
  (h.set (kd := kd) (fl := fl) (k := k) (e1 := e2) (Or.inr ⟨⟨rfl, rfl, rfl⟩, rfl, rfl⟩) h1 hk).mono (fun _ _ _ _ _ q => q.elim (fun q => Or.inl ⟨Or.inl q, hne _ _ _ _ _ q⟩) Or.inr) (fun _ _ q => q) (fun _ _ _ _ _ q => q)
end IWS
section WX5
variable {p : Program} {l : Launch} {e : Env} {R : Room} {s : State} {m : MethodId} {args : Array Value} {below : List Frame} {meth : Method} {c : Code} {H : Heap} {locs : List Jvm.Loc} {cells slots : Nat} {Q : State → Prop} {cc : ByteArray} {pc : Nat} {ls : Array Slot} {rest : List Value} {D : va_G} {tys : List (ClassId × FieldType)} {A : Nat → Prop} {H0 : Heap}
theorem x_putN (hexec : p.tables.exec = Jvm.exec) (hb : c.code = cc) {own ref C host : String} {T : u_T} {N ci index : Nat} {Ts : List Cond} (hts : ∀ w ∈ Ts, w.before args s = true) (hin : ∀ w ∈ u_ws C T N, w ∈ Ts) (ty0 : Nat → FieldType) (hty : ∀ k, k < N → parseFieldDescriptor (T k).2.2.1 = some (ty0 k)) (hnm : ∀ a, a < N → ∀ b, b < N → a ≠ b → (T a).2.1 ≠ (T b).2.1) (hown : s.vm.findClass own = some m.cls) (hK : va_K D vwCl tys s) {a : Nat} {fs : List Value} (hO : va_at D vwCl (a, .inr (ci, fs)) H) (hAa : A a) (hS0 : va_S A H0 H locs) (hc : vwCl[ci]? = some (C, T, N)) (j : Nat) (hk : j < N) (hlink : (Cond.fieldLinkNest own index ref (T j).2.1 (T j).2.2.1 host).before args s = true) (hsame : ∀ x, s.fieldFound? (T j).1 (T j).2.1 (T j).2.2.1 = some x → s.fieldFound? ref (T j).2.1 (T j).2.2.1 = some x) (hfin : (T j).2.2.2 = false) {ty : FieldType} {v : Value} (hd0 : parseFieldDescriptor (T j).2.2.1 = some ty) (hn : narrow ty v = v) (hfit : fits ty v = true) (hl : j < fs.length)
    (hdg : decode cc pc = .ok (.putfield index, 3)) (kk : ∀ (H1 : Heap) (locs1 : List Jvm.Loc), va_at D vwCl (a, .inr (ci, fs.set j v)) H1 → (∀ x : Nat, x ≠ a → H1[x]? = H[x]?) → H1.size = H.size → va_S A H0 H1 locs1 → W p l e R s m args below meth c H1 locs1 cells slots Q (F0 m (pc + 3) ls rest)) : W p l e R s m args below meth c H locs cells slots Q (F0 m pc ls (v :: .ref a :: rest)) := by
  have hap := va_apart (own := own) hts hin ty0 hty hnm hK hc
  obtain ⟨r, h1, cell, q1, q2, q3, q4⟩ := hO
  have hr : r = (C, T, N) := Option.some.inj (h1.symm.trans hc)
  subst hr
  obtain ⟨hS, hfc, kC, hkC, hkind⟩ := hK.1 ci _ hc
  obtain ⟨cf, kf, fi, f0, hi, hsl⟩ := hS j hk
  have hlay := hts _ (hin _ (u_in_lay hk))
  unfold u_lay at hlay
  rw [if_neg (by rw [hfin]; decide)] at hlay
  have hst := (u_facts hfc hkC (u_lays hts hin hk) hi).1
  have h6 := u_store hfc hkC hkind hlay hi hd0 hn hfit
  refine va_WputK hexec hb (f := f0) hown hlink (hsame _ hi) hst (by rw [q2]; exact h6) q1 q3 (by rw [hsl]; exact k2_hasslot (q4 j hk)) rfl rfl hdg fun H' e1 e2 e3 => ?_
  rw [hsl] at e1 ⊢
  exact kk H' _ ⟨_, hc, t_OB.to (V := updV (vp_V fs) j v) ⟨_, e1, q2, q3, t_set q4 hap hk v⟩ (fun j _ => vp_updV_set hl v j)⟩ e3 e2 (hS0.put e2 e3 hAa)
end WX5
