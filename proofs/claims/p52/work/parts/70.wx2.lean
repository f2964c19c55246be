/-! ===== wiring: a new object among facts; a block of new cells ===== -/
def obadd (ob : XO) (kd fl k a : Nat) (e : Nat × List Value) : XO := fun kd' fl' k' a' e' => ob kd' fl' k' a' e' ∨ ((kd' = kd ∧ fl' = fl ∧ k' = k) ∧ a' = a ∧ e' = e)
def obset (ob : XO) (kd fl k a : Nat) (e : Nat × List Value) : XO := fun kd' fl' k' a' e' => (ob kd' fl' k' a' e' ∧ ¬ a' = a) ∨ ((kd' = kd ∧ fl' = fl ∧ k' = k) ∧ a' = a ∧ e' = e)
abbrev TAG : Type := Nat × Nat × Nat × Nat
def tgf : va_W → List TAG → Nat → TAG
  | (a, _) :: W, t :: T, q => if a = q then t else tgf W T q
  | _, _, _ => (9, 0, 0, 0)
theorem tgf_at : ∀ (W : va_W) (T : List TAG), (∀ (i j : Nat) (p q : Nat × va_E), W[i]? = some p → W[j]? = some q → p.1 = q.1 → i = j) → ∀ (i a : Nat) (e : va_E) (t : TAG), W[i]? = some (a, e) → T[i]? = some t → tgf W T a = t
  | [], T, hd, i, a, e, t, h1, h2 => by simp at h1
  | w :: W, [], hd, i, a, e, t, h1, h2 => by simp at h2
  | (b, eb) :: W, s :: T, hd, 0, a, e, t, h1, h2 => by
    simp only [List.getElem?_cons_zero, Option.some.injEq, Prod.mk.injEq] at h1 h2
    obtain ⟨rfl, -⟩ := h1
    subst h2
    unfold tgf
    rw [if_pos rfl]
  | (b, eb) :: W, s :: T, hd, i + 1, a, e, t, h1, h2 => by
    have h3 : W[i]? = some (a, e) := by rw [List.getElem?_cons_succ] at h1; exact h1
    have h4 : T[i]? = some t := by rw [List.getElem?_cons_succ] at h2; exact h2
    have hne : b ≠ a := fun h => by
      have := hd 0 (i + 1) (b, eb) (a, e) rfl h1 h
      omega
    unfold tgf
    rw [if_neg hne]
    refine tgf_at W T (fun i j p q hi hj hpq => ?_) i a e t h3 h4
    have := hd (i + 1) (j + 1) p q (by rw [List.getElem?_cons_succ]; exact hi) (by rw [List.getElem?_cons_succ]; exact hj) hpq
    omega
def blo (W : va_W) (T : List TAG) : XO := fun kd fl k a e => ∃ i : Nat, T[i]? = some (0, kd, fl, k) ∧ W[i]? = some ((a, .inr e) : Nat × va_E)
def blr (yc : Nat → ClassId) (W : va_W) (T : List TAG) : XR := fun i r => ∃ j x : Nat, T[j]? = some (1, i, 0, 0) ∧ T[j + 1]? = some (2, i, 0, 0) ∧ W[j]? = some ((r, .inr (5, [.ref x, .int 0])) : Nat × va_E) ∧ W[j + 1]? = some ((x, .inl (yc 1, 8, .inr (.inl (fun _ => 0)))) : Nat × va_E)
def bll (e0 : Nat) (W : va_W) (T : List TAG) : XL := fun b fl k a L => L = [] ∧ ∃ i : Nat, T[i]? = some (3, b, fl, k) ∧ W[i]? = some ((a, .inr (0, [.int 0, .ref e0, .int 0])) : Nat × va_E)
section WX2
variable {D : va_G} {yc : Nat → ClassId} {e0 : Nat} {A : Nat → Prop} {own own' : TO} {ob ob' : XO} {rw rw' : XR} {ls ls' : XL} {H H1 : Heap}
/-- one new object, at the heap's end -/
theorem WX.add (h : WX D yc e0 A own ob rw ls H) (hk : ∀ q : Nat, q < H.size → H1[q]? = H[q]?) {e : Nat × List Value} (h1 : va_at D vwCl (H.size, .inr e) H1) (hA : A H.size) (kd fl k : Nat) :
    ∃ own' : TO, (∀ q, q < H.size → own' q = own q) ∧ WX D yc e0 A own' (obadd ob kd fl k H.size e) rw ls H1 := by
  obtain ⟨own', ho⟩ : ∃ own' : TO, own' = fun q => if q < H.size then own q else (0, kd, fl, k) := ⟨_, rfl⟩
  have ho1 : ∀ q, q < H.size → own' q = own q := fun q hq => by rw [ho]; exact if_pos hq
  have ho2 : own' H.size = (0, kd, fl, k) := by rw [ho]; exact if_neg (Nat.lt_irrefl _)
  refine ⟨own', ho1, ((h.kept hk ho1).or (WX.one h1 hA ho2) (fun kd fl k a e kd' fl' k' e' q1 q2 => ?_)).mono (fun _ _ _ _ _ q => q) (fun _ _ q => Or.inl q) (fun _ _ _ _ _ q => Or.inl q)⟩
  have := (h.obj q1).lt
  rw [q2.2.1] at this
  exact absurd this (Nat.lt_irrefl _)
/-- a block of cells, behind a call over one cell -/
theorem WX.block (h : WX D yc e0 A own ob rw ls H) {st : Nat} {eb : va_E} {kd fl k : Nat} {e : Nat × List Value} (hst : ob kd fl k st e) (W : va_W) (T : List TAG) (hk : ∀ q : Nat, q < H.size → ¬ q = st → H1[q]? = H[q]?) (hP : va_P D vwCl W H1) (hD : va_D (va_A [(st, eb)] H.size) W) (hA : ∀ q, va_A [(st, eb)] H.size q → A q)
    (ef : va_E) (hW0 : W[0]? = some (st, ef)) (hT0 : T[0]? = some (0, kd, fl, k)) :
    ∃ own' : TO, (∀ q, q < H.size → own' q = own q) ∧ WX D yc e0 A own' (fun kd fl k a e => (ob kd fl k a e ∧ ¬ a = st) ∨ blo W T kd fl k a e) (fun i r => rw i r ∨ blr yc W T i r) (fun b fl k a L => ls b fl k a L ∨ bll e0 W T b fl k a L) H1 := by
  have hso := h.tag hst
  obtain ⟨own', ho⟩ : ∃ own' : TO, own' = fun q => if q < H.size then own q else tgf W T q := ⟨_, rfl⟩
  have ho1 : ∀ q, q < H.size → own' q = own q := fun q hq => by rw [ho]; exact if_pos hq
  have hout : ∀ (i a : Nat) (e : va_E), W[i]? = some (a, e) → a = st ∨ H.size ≤ a := fun i a e hi => by
    rcases hD.2 i _ hi with ⟨j, e', hj⟩ | hj
    · match j, hj with
      | 0, hj => cases hj; exact Or.inl rfl
      | j + 1, hj => simp at hj
    · exact Or.inr hj
  have hz : ∀ (i a : Nat) (e : va_E), W[i]? = some (a, e) → a = st → i = 0 := fun i a e hi ha => hD.1 i 0 _ _ hi hW0 ha
  have ho2 : ∀ (i a : Nat) (e : va_E) (t : TAG), W[i]? = some (a, e) → T[i]? = some t → own' a = t := fun i a e t hi ht => by
    rcases hout i a e hi with h3 | h3
    · have h4 := hz i a e hi h3
      subst h4
      have h5 : t = (0, kd, fl, k) := Option.some.inj (ht.symm.trans hT0)
      rw [h3, ho1 st (h.obj hst).lt, hso, h5]
    · rw [ho]
      show (if a < H.size then own a else tgf W T a) = t
      rw [if_neg (by omega)]
      exact tgf_at W T hD.1 i a e t hi ht
  have hm := h.move (H1 := H1) (own' := own') (fun q => q = st) hk ho1
  have hb : WX D yc e0 A own' (blo W T) (blr yc W T) (bll e0 W T) H1 := by
    refine ⟨fun kd fl k a e ⟨i, h3, h4⟩ => ⟨hP i _ h4, hA a (hD.2 i _ h4), ho2 i a _ _ h4 h3⟩, fun i r ⟨j, x, h3, h4, h5, h6⟩ => ⟨x, fun _ => 0, ⟨hP j _ h5, hA r (hD.2 j _ h5), ho2 j r _ _ h5 h3⟩, ⟨hP (j + 1) _ h6, hA x (hD.2 (j + 1) _ h6), ho2 (j + 1) x _ _ h6 h4⟩, Nat.zero_le _, fun j h => absurd h (Nat.not_lt_zero _), 0, by omega, rfl⟩, fun b fl k a L ⟨h2, i, h3, h4⟩ => ?_, fun kd fl k a e kd' fl' k' e' ⟨i, _, h4⟩ ⟨j, _, h6⟩ => ?_⟩
    · subst h2
      exact ⟨⟨hA a (hD.2 i _ h4), ho2 i a _ _ h4 h3⟩, Or.inl ⟨rfl, 0, hP i _ h4⟩⟩
    · have : i = j := hD.1 i j _ _ h4 h6 rfl
      subst this
      have h7 := h4.symm.trans h6
      simp only [Option.some.injEq, Prod.mk.injEq, true_and, Sum.inr.injEq] at h7
      exact h7
  refine ⟨own', ho1, (hm.or hb (fun kd fl k a e kd' fl' k' e' q1 q2 => ?_)).mono (fun _ _ _ _ _ q => q) (fun i r q => ?_) (fun b fl' k' a L q => ?_)⟩
  · obtain ⟨i, -, h4⟩ := q2
    rcases hout i a _ h4 with h3 | h3
    · exact absurd h3 q1.2
    · have := (h.obj q1.1).lt
      simp only at this
      omega
  · rcases q with q | q
    · refine Or.inl ⟨q, fun z hz => ?_⟩
      rw [hz, hso]
      constructor <;> intro h9 <;> simp at h9
    · exact Or.inr q
  · rcases q with q | q
    · refine Or.inl ⟨q, fun z hz => ?_⟩
      rw [hz, hso]
      constructor <;> intro h9 <;> simp at h9
    · exact Or.inr q
theorem WX.lobj (h : WX D yc e0 A own ob rw ls H) {b fl k a : Nat} {L : List Nat} (hl : ls b fl k a L) : ∃ (mc : Int32) (x : Nat), va_at D vwCl (a, .inr (0, [.int mc, .ref x, .int (nI L.length)])) H := by
  obtain ⟨-, ⟨h1, mc, h2⟩ | ⟨mc, x, cap, f, h1, -⟩⟩ := h.2.2.1 b fl k a L hl
  · exact ⟨mc, e0, by rw [h1]; exact h2⟩
  · exact ⟨mc, x, h1⟩
theorem WX.cell {s : State} (hK : va_K D vwCl (yT yc) s) {a ci : Nat} {fs : List Value} (h1 : va_at D vwCl (a, .inr (ci, fs)) H) {C : String} {T : u_T} {N : Nat} (hc : vwCl[ci]? = some (C, T, N)) : ∃ cell : Cell, H[a]? = some cell ∧ cell.vm.isStatics = false ∧ s.vm.findClass C = some cell.cls :=
  va_recv hK (va_P_one h1) hc (q0 := 0) rfl
end WX2
theorem xda {A : Nat → Prop} {a : Nat} {e : va_E} (h : A a) : va_D A [(a, e)] := by
  refine ⟨xd1.1, fun k q hk => ?_⟩
  match k, hk with
  | 0, hk => cases hk; exact h
  | k + 1, hk => simp at hk
theorem xfa {A : Nat → Prop} {a sz : Nat} {e : va_E} (h : A a) (h2 : ∀ q, sz ≤ q → A q) : ∀ q, va_A [(a, e)] sz q → A q := by
  rintro q (⟨k, e', hk⟩ | hq)
  · match k, hk with
    | 0, hk => cases hk; exact h
    | k + 1, hk => simp at hk
  · exact h2 q hq
theorem xna {a sz q : Nat} {e : va_E} (h : q < sz) (h2 : q ≠ a) : ¬ va_A [(a, e)] sz q := by
  rintro (⟨k, e', hk⟩ | hq)
  · match k, hk with
    | 0, hk => cases hk; exact h2 rfl
    | k + 1, hk => simp at hk
  · omega
