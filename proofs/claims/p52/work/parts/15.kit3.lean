/-! ===== methods that write: the world as one thing; the room by what a row's room came to ===== -/
abbrev TW : Type := TF × TG × TQ
def zset (w : TW) (kd fl k j : Nat) (v : Int32) : TW := (zF w.1 kd fl k (fun j' => if j' = j then v else w.1 kd fl k j'), w.2)
def zq (q : TQ) (i : Nat) (p : Nat × List Int64) : TQ := fun i' => if i' = i then p else q i'
def zrw (w : TW) (i : Nat) (p : Nat × List Int64) : TW := (w.1, w.2.1, zq w.2.2 i p)
def zsav (w : TW) (fl k : Nat) (p : Nat × Nat) : TW := (w.1, (fun fl' k' => if fl' = fl ∧ k' = k then p else w.2.1 fl' k'), w.2.2)
def zlet {α β : Type} (a : α) (f : α → β) : β := f a
theorem zlet_e {α β : Type} {a b : α} {f : α → β} {r : β} (h : a = b) (k : f b = r) : zlet a f = r := by subst h; exact k
theorem zif_p {α : Type} {c : Prop} {d : Decidable c} {a b r : α} (h : c) (k : a = r) : (@ite α c d a b) = r := by rw [if_pos h]; exact k
theorem zif_n {α : Type} {c : Prop} {d : Decidable c} {a b r : α} (h : ¬ c) (k : b = r) : (@ite α c d a b) = r := by rw [if_neg h]; exact k
theorem zP_p {α : Type} {P : α → Prop} {c : Prop} {d : Decidable c} {a b : α} (h : c) (k : P a) : P (@ite α c d a b) := by rw [if_pos h]; exact k
theorem zP_n {α : Type} {P : α → Prop} {c : Prop} {d : Decidable c} {a b : α} (h : ¬ c) (k : P b) : P (@ite α c d a b) := by rw [if_neg h]; exact k
theorem zP_if {α : Type} {P : α → Prop} {c : Prop} {d : Decidable c} {a b : α} (h : P a) (k : P b) : P (@ite α c d a b) := by split <;> assumption
theorem zP_l {α β : Type} {P : β → Prop} {a b : α} {f : α → β} (h : a = b) (k : P (f b)) : P (zlet a f) := by subst h; exact k
theorem zP_let {α β : Type} {P : β → Prop} (Q : α → Prop) {a : α} {f : α → β} (h : Q a) (k : ∀ b, Q b → P (f b)) : P (zlet a f) := k a h
/-- no row's room gets less -/
def zle (a b : TW) : Prop := ∀ i, (a.2.2 i).1 ≤ (b.2.2 i).1
def zle2 {α : Type} (a : TW) (b : TW × α) : Prop := zle a b.1
theorem zle.rf {a : TW} : zle a a := fun _ => Nat.le_refl _
theorem zle.tr {a b c : TW} (h : zle a b) (k : zle b c) : zle a c := fun i => Nat.le_trans (h i) (k i)
theorem zle.to {a b c : TW} (h : zle a b) (k : c.2.2 = b.2.2) : zle a c := fun i => by rw [k]; exact h i
theorem zle.row {w : TW} {i : Nat} {p : Nat × List Int64} (h : (w.2.2 i).1 ≤ p.1) : zle w (zrw w i p) := fun j => by
  show (w.2.2 j).1 ≤ (zq w.2.2 i p j).1
  unfold zq
  split
  · rename_i e; rw [e]; exact h
  · exact Nat.le_refl _
theorem zsm_le {f g : Nat → Nat} (h : ∀ i, f i ≤ g i) : ∀ n, zsm f n ≤ zsm g n
  | 0 => Nat.le_refl _
  | n + 1 => Nat.add_le_add (zsm_le h n) (h n)
theorem zsm_one {f : Nat → Nat} {i : Nat} : ∀ {n : Nat}, i < n → f i ≤ zsm f n
  | 0, h => absurd h (Nat.not_lt_zero _)
  | n + 1, h => by
    show f i ≤ zsm f n + f n
    by_cases e : i = n
    · rw [e]; omega
    · have := zsm_one (f := f) (i := i) (n := n) (by omega); omega
theorem zsm_eq {f g : Nat → Nat} : ∀ n, (∀ i, i < n → f i = g i) → zsm f n = zsm g n
  | 0, _ => rfl
  | n + 1, h => by
    show zsm f n + f n = zsm g n + g n
    rw [zsm_eq n (fun i hi => h i (by omega)), h n (by omega)]
theorem zsm_upd {f g : Nat → Nat} {i : Nat} (hg : ∀ j, j ≠ i → g j = f j) : ∀ n, i < n → zsm g n + f i = zsm f n + g i
  | 0, h => absurd h (Nat.not_lt_zero _)
  | n + 1, h => by
    show zsm g n + g n + f i = zsm f n + f n + g i
    by_cases e : i = n
    · subst e
      rw [zsm_eq (f := g) (g := f) i (fun j hj => hg j (by omega))]
      omega
    · have := zsm_upd hg n (by omega)
      rw [hg n (fun h => e h.symm)]
      omega
theorem zq_s {q : TQ} {i : Nat} {p : Nat × List Int64} : zq q i p i = p := if_pos rfl
theorem zq_n {q : TQ} {i j : Nat} {p : Nat × List Int64} (h : j ≠ i) : zq q i p j = q j := if_neg h
theorem Psi_upd {q : TQ} {i : Nat} {p : Nat × List Int64} (hi : i < 348) : Psi (zq q i p) + (q i).1 / 8 = Psi q + p.1 / 8 := by
  have h := zsm_upd (f := fun j => (q j).1 / 8) (g := fun j => (zq q i p j).1 / 8) (i := i) (fun j hj => by simp only [zq_n hj]) 348 hi
  simp only [zq_s] at h
  exact h
theorem Phi_upd {q : TQ} {i : Nat} {p : Nat × List Int64} (hi : i < 348) : Phi (zq q i p) + 2 * (q i).1 = Phi q + 2 * p.1 := by
  have h := zsm_upd (f := fun j => 2 * (q j).1) (g := fun j => 2 * (zq q i p j).1) (i := i) (fun j hj => by simp only [zq_n hj]) 348 hi
  simp only [zq_s] at h
  exact h
theorem dr_lt {S : TS} {i : Nat} (h : dr S i) : i < 348 := by unfold dr at h; omega
/-- the room that stands: of cells and of slots -/
def ZB (Z : Nat × Nat) (Tc Ts : Nat) (w : TW) : Prop := Z.1 + Psi w.2.2 ≤ Tc ∧ Z.2 + Phi w.2.2 ≤ Ts ∧ Ts ≤ Z.2 + 8000000
theorem ZB.mono {Z : Nat × Nat} {Tc Ts : Nat} {a b : TW} (hb : ZB Z Tc Ts b) (h : zle a b) : ZB Z Tc Ts a := by
  obtain ⟨h1, h2, h3⟩ := hb
  have e1 : Psi a.2.2 ≤ Psi b.2.2 := zsm_le (fun i => Nat.div_le_div_right (h i)) _
  have e2 : Phi a.2.2 ≤ Phi b.2.2 := zsm_le (fun i => Nat.mul_le_mul_left _ (h i)) _
  exact ⟨by omega, by omega, h3⟩
theorem ZB.cap {Z : Nat × Nat} {Tc Ts : Nat} {w : TW} (h : ZB Z Tc Ts w) {i : Nat} (hi : i < 348) : (w.2.2 i).1 ≤ 4000000 := by
  have e : 2 * (w.2.2 i).1 ≤ zsm (fun j => 2 * (w.2.2 j).1) 348 := zsm_one (f := fun j => 2 * (w.2.2 j).1) hi
  have h2 : Z.2 + zsm (fun j => 2 * (w.2.2 j).1) 348 ≤ Ts := h.2.1
  have h3 := h.2.2
  omega
theorem ZB.top {D : va_G} {yc : Nat → ClassId} {e0 : Nat} {A : Nat → Prop} {S : TS} {Z : Nat × Nat} {Tc Ts : Nat} {w : TW} {H : Heap} (h : ZB Z Tc Ts w) (hW : WT D yc e0 A S Z w.1 w.2.1 w.2.2 H) : H.size ≤ Tc ∧ zh H ≤ Ts := by
  obtain ⟨own, g1, g2, g3, g4, g5, g6, g7⟩ := hW
  obtain ⟨h1, h2, h3⟩ := h
  exact ⟨by omega, by omega⟩
/-! ===== a row alone: its object and its array ===== -/
abbrev RW (yc : Nat → ClassId) (r x c n : Nat) (f : Nat → Int64) : va_W := [(r, .inr (5, [.ref x, .int (nI n)])), (x, .inl (yc 1, c, .inr (.inl f)))]
def RC (p : Nat × List Int64) (f : Nat → Int64) : Prop := ∀ (j : Nat) (h : j < p.2.length), f j = p.2[j]
def RK (c : Nat) : Prop := ∃ z : Nat, z ≤ 20 ∧ c = 8 * 2 ^ z
theorem RK.le {c : Nat} (h : RK c) : c ≤ 8388608 := by
  obtain ⟨z, h5, h6⟩ := h
  have h7 : 2 ^ z ≤ 2 ^ 20 := Nat.pow_le_pow_right (by decide) h5
  omega
theorem RK.ge {c : Nat} (h : RK c) : 8 ≤ c := by
  obtain ⟨z, h5, h6⟩ := h
  have h7 : 0 < 2 ^ z := Nat.pow_pos (by decide)
  omega
theorem RK.two {c : Nat} (h : RK c) (hc : c ≤ 4000000) : RK (2 * c) := by
  obtain ⟨z, h5, h6⟩ := h
  refine ⟨z + 1, ?_, ?_⟩
  · by_cases hz : z + 1 ≤ 20
    · exact hz
    · have e : z = 20 := by omega
      subst e
      have : (2 : Nat) ^ 20 = 1048576 := by decide
      omega
  · rw [Nat.pow_succ]; omega
section ZRK
variable {D : va_G} {yc : Nat → ClassId} {e0 : Nat} {A : Nat → Prop} {S : TS} {Z : Nat × Nat} {F : TF} {G : TG} {q : TQ} {H : Heap}
theorem WT.rowK2 (h : WT D yc e0 A S Z F G q H) {i : Nat} (hd : dr S i) (I : Nat → Prop) (hI : ∀ j, I j → dr S j ∧ j ≠ i) : ∃ (x : Nat) (f : Nat → Int64), (va_P D vwCl (RW yc (zr S i) x (q i).1 (q i).2.length f) H ∧ (q i).2.length ≤ (q i).1 ∧ RC (q i) f ∧ RK (q i).1) ∧ (A (zr S i) ∧ A x ∧ zr S i ≠ x) ∧
    ∃ (ax : Nat → Nat) (af : Nat → Nat → Int64), (∀ j, I j → va_P D vwCl (RW yc (zr S j) (ax j) (q j).1 (q j).2.length (af j)) H ∧ (q j).2.length ≤ (q j).1 ∧ RC (q j) (af j) ∧ RK (q j).1 ∧ A (zr S j) ∧ A (ax j) ∧ zr S j ≠ ax j ∧ zr S j ≠ zr S i ∧ zr S j ≠ x ∧ ax j ≠ zr S i ∧ ax j ≠ x) ∧
    ∀ (H1 : Heap) (x' : Nat) (f' : Nat → Int64) (p : Nat × List Int64), va_P D vwCl (RW yc (zr S i) x' p.1 p.2.length f') H1 → (∀ j, I j → va_P D vwCl (RW yc (zr S j) (ax j) (q j).1 (q j).2.length (af j)) H1) → (x' = x ∨ H.size ≤ x') → A x' → (∀ y : Nat, y < H.size → y ≠ zr S i → y ≠ x → (∀ j, I j → y ≠ zr S j ∧ y ≠ ax j) → H1[y]? = H[y]?) → p.2.length ≤ p.1 → RC p f' → RK p.1 → H1.size + (q i).1 / 8 ≤ H.size + p.1 / 8 → zh H1 + 2 * (q i).1 ≤ zh H + 2 * p.1 → WT D yc e0 A S Z F G (zq q i p) H1 := by
  obtain ⟨own, g1, g2, g3, g4, g5, g6, g7⟩ := h
  obtain ⟨x, f, k1, k2, k3⟩ := g2 i hd
  have ch : ∀ j, ∃ y : Nat × (Nat → Int64), dr S j → WRow D yc A own (zr S j) y.1 j y.2 (q j) H := fun j => by
    by_cases hj : dr S j
    · obtain ⟨y, fy, hy⟩ := g2 j hj
      exact ⟨(y, fy), fun _ => hy⟩
    · exact ⟨(0, fun _ => 0), fun h => absurd h hj⟩
  have hax : ∃ a : Nat → Nat × (Nat → Int64), ∀ j, dr S j → WRow D yc A own (zr S j) (a j).1 j (a j).2 (q j) H := ⟨fun j => Classical.choose (ch j), fun j => Classical.choose_spec (ch j)⟩
  obtain ⟨a, ha⟩ := hax
  have two : ∀ {r x : Nat} {c n : Nat} {f : Nat → Int64} {H : Heap}, va_at D vwCl (r, .inr (5, [.ref x, .int (nI n)])) H → va_at D vwCl (x, .inl (yc 1, c, .inr (.inl f))) H → va_P D vwCl (RW yc r x c n f) H := fun h1 h2 k q' hk => by
    match k, hk with
    | 0, hk => cases hk; exact h1
    | 1, hk => cases hk; exact h2
    | k + 2, hk => simp at hk
  refine ⟨x, f, ⟨two k1.1 k2.1, k3.1, k3.2.1, k3.2.2⟩, ⟨k1.2.1, k2.2.1, fun e => by have := k1.2.2; rw [e, k2.2.2] at this; simp at this⟩, fun j => (a j).1, fun j => (a j).2, fun j hj => ?_, fun H1 x' f' p a1 a2 a3 a4 a5 a6 a7 a8 a9 a10 => ?_⟩
  · have hr := ha j (hI j hj).1
    have hne := (hI j hj).2
    refine ⟨two hr.1.1 hr.2.1.1, hr.2.2.1, hr.2.2.2.1, hr.2.2.2.2, hr.1.2.1, hr.2.1.2.1, ?_, ?_, ?_, ?_, ?_⟩
    · intro e; have := hr.1.2.2; rw [e, hr.2.1.2.2] at this; simp at this
    · intro e; have := hr.1.2.2; rw [e, k1.2.2] at this; simp at this; exact hne this.symm
    · intro e; have := hr.1.2.2; rw [e, k2.2.2] at this; simp at this
    · intro e; have e : (a j).1 = _ := e; have := hr.2.1.2.2; rw [e, k1.2.2] at this; simp at this
    · intro e; have e : (a j).1 = _ := e; have := hr.2.1.2.2; rw [e, k2.2.2] at this; simp at this; exact hne this.symm
  have K : ∀ y, y < H.size → own y ≠ (1, i, 0, 0) → own y ≠ (2, i, 0, 0) → (∀ j, I j → own y ≠ (1, j, 0, 0) ∧ own y ≠ (2, j, 0, 0)) → H1[y]? = H[y]? ∧ (if y = x' then ((2 : Nat), i, (0 : Nat), (0 : Nat)) else own y) = own y := by
    intro y hy n1 n2 n3
    refine ⟨a5 y hy (fun e => n1 (by rw [e]; exact k1.2.2)) (fun e => n2 (by rw [e]; exact k2.2.2)) (fun j hj => ?_), ?_⟩
    · have hr := ha j (hI j hj).1
      exact ⟨fun e => (n3 j hj).1 (by rw [e]; exact hr.1.2.2), fun e => (n3 j hj).2 (by rw [e]; exact hr.2.1.2.2)⟩
    · rw [if_neg]
      intro e
      rcases a3 with e3 | e3
      · exact n2 (by rw [e, e3]; exact k2.2.2)
      · omega
  have J : ∀ y, y < H.size → own y ≠ (2, i, 0, 0) → (if y = x' then ((2 : Nat), i, (0 : Nat), (0 : Nat)) else own y) = own y := by
    intro y hy n2
    rw [if_neg]
    intro e
    rcases a3 with e3 | e3
    · exact n2 (by rw [e, e3]; exact k2.2.2)
    · omega
  refine ⟨fun y => if y = x' then (2, i, 0, 0) else own y, fun kd fl k hd' => ?_, fun j hj => ?_, fun b fl k hl => ?_, g4, ?_, ?_, g7⟩
  · have o := g1 kd fl k hd'
    obtain ⟨e1, e2⟩ := K _ o.1.lt (by rw [o.2.2]; simp) (by rw [o.2.2]; simp) (fun j _ => ⟨by rw [o.2.2]; simp, by rw [o.2.2]; simp⟩)
    exact ⟨o.1.kept e1, o.2.1, e2.trans o.2.2⟩
  · by_cases e : j = i
    · subst e
      rw [zq_s]
      refine ⟨x', f', ⟨a1 0 _ rfl, k1.2.1, (J _ k1.1.lt (by rw [k1.2.2]; simp)).trans k1.2.2⟩, ⟨a1 1 _ rfl, a4, if_pos rfl⟩, a6, a7, a8⟩
    · rw [zq_n e]
      have hr := ha j hj
      have j1 := J _ hr.1.1.lt (by rw [hr.1.2.2]; simp)
      have j2 := J _ hr.2.1.1.lt (by rw [hr.2.1.2.2]; simp [e])
      by_cases hij : I j
      · exact ⟨(a j).1, (a j).2, ⟨a2 j hij 0 _ rfl, hr.1.2.1, j1.trans hr.1.2.2⟩, ⟨a2 j hij 1 _ rfl, hr.2.1.2.1, j2.trans hr.2.1.2.2⟩, hr.2.2⟩
      · obtain ⟨e1, -⟩ := K _ hr.1.1.lt (by rw [hr.1.2.2]; simp [e]) (by rw [hr.1.2.2]; simp) (fun j' hj' => ⟨by rw [hr.1.2.2]; simp; exact fun e => hij (by rw [e]; exact hj'), by rw [hr.1.2.2]; simp⟩)
        obtain ⟨e2, -⟩ := K _ hr.2.1.1.lt (by rw [hr.2.1.2.2]; simp) (by rw [hr.2.1.2.2]; simp [e]) (fun j' hj' => ⟨by rw [hr.2.1.2.2]; simp, by rw [hr.2.1.2.2]; simp; exact fun e => hij (by rw [e]; exact hj')⟩)
        exact ⟨(a j).1, (a j).2, ⟨hr.1.1.kept e1, hr.1.2.1, j1.trans hr.1.2.2⟩, ⟨hr.2.1.1.kept e2, hr.2.1.2.1, j2.trans hr.2.1.2.2⟩, hr.2.2⟩
  · obtain ⟨⟨h1, h2⟩, hh⟩ := g3 b fl k hl
    have key : ∀ y, y < H.size → (own y = (3, b, fl, k) ∨ own y = (4, b, fl, k)) → H1[y]? = H[y]? ∧ (if y = x' then ((2 : Nat), i, (0 : Nat), (0 : Nat)) else own y) = own y := fun y hy ho => by
      rcases ho with ho | ho
      · exact K y hy (by rw [ho]; simp) (by rw [ho]; simp) (fun j _ => ⟨by rw [ho]; simp, by rw [ho]; simp⟩)
      · exact K y hy (by rw [ho]; simp) (by rw [ho]; simp) (fun j _ => ⟨by rw [ho]; simp, by rw [ho]; simp⟩)
    rcases hh with ⟨h3, mc, h4⟩ | ⟨mc, xx, cap, ff, h3, h4, h5⟩
    · obtain ⟨e1, e2⟩ := key _ h4.lt (Or.inl h2)
      exact ⟨⟨h1, e2.trans h2⟩, Or.inl ⟨h3, mc, h4.kept e1⟩⟩
    · obtain ⟨e1, e2⟩ := key _ h3.lt (Or.inl h2)
      obtain ⟨e3, e4⟩ := key _ h4.1.lt (Or.inr h4.2.2)
      exact ⟨⟨h1, e2.trans h2⟩, Or.inr ⟨mc, xx, cap, ff, h3.kept e1, ⟨h4.1.kept e3, h4.2.1, e4.trans h4.2.2⟩, h5⟩⟩
  · have := Psi_upd (q := q) (p := p) (dr_lt hd)
    omega
  · have := Phi_upd (q := q) (p := p) (dr_lt hd)
    omega
end ZRK
/-! ===== contracts chosen by the state, of less room ===== -/
theorem zk_room {s : State} {pl : Platform} {r r' : Room} (h1 : r.frames ≤ r'.frames ∧ r.locals ≤ r'.locals ∧ r.cells ≤ r'.cells ∧ r.slots ≤ r'.slots) (h : s.hasRoom pl r' = true) : s.hasRoom pl r = true := by
  obtain ⟨hf, hl, hc, hs⟩ := h1
  simp only [State.hasRoom, Bool.and_eq_true, decide_eq_true_eq] at h ⊢
  obtain ⟨⟨⟨⟨y, a, b, c, d, e⟩, f⟩, g⟩, i⟩ := h
  refine ⟨⟨⟨⟨?_, ?_, ?_, ?_, ?_, e⟩, ?_⟩, ?_⟩, i⟩ <;> omega
theorem Met.conv2 {l : Launch} {y : MethodName} {ws : List Cond} {rm : Room} {Pc' : Array Value → State → Prop} {Qc' : Array Value → State → Outcome → State → Prop} {mc ms : Nat} {free' : Addr → Prop}
    (h : ∀ args s, Pc' args s → ∃ (Pc : Array Value → State → Prop) (Qc : Array Value → State → Outcome → State → Prop) (free : Addr → Prop) (rm1 : Room) (mc1 ms1 : Nat), Met l y ws rm1 Pc Qc mc1 ms1 free ∧ ((rm1.frames ≤ rm.frames ∧ rm1.locals ≤ rm.locals ∧ rm1.cells ≤ rm.cells ∧ rm1.slots ≤ rm.slots) ∧ mc1 ≤ mc ∧ ms1 ≤ ms) ∧ Pc args s ∧ (∀ q, free q → free' q) ∧ ∀ o t, Qc args s o t → t.heap.size ≤ s.heap.size + mc1 → zh t.heap ≤ zh s.heap + ms1 → (∀ q : Nat, q < s.heap.size → ¬ free q → t.heap[q]? = s.heap[q]?) → Qc' args s o t) : Met l y ws rm Pc' Qc' mc ms free' := by
  intro p e ha hc hk s m args below hf happ hP hK
  obtain ⟨Pc, Qc, free, rm1, mc1, ms1, hM, ⟨hr, hmc, hms⟩, hp, hfr, hq⟩ := h args s hP
  have happ' : (headSpec ws rm1).appliesLoose y e.platform s = true := by
    obtain ⟨a1, a2, a3, a4, a5, a6, a7, a8⟩ := (Spec.appliesLoose_iff hf).mp happ
    exact (Spec.appliesLoose_iff hf).mpr ⟨a1, a2, a3, a4, a5, a6, zk_room hr a7, a8⟩
  obtain ⟨n, o, h1, h2, h3, h4, L, h5, h6⟩ := hM p e ha hc hk s m args below hf happ' hp hK
  have hs := h5.2.2
  have e0 := zh_split (B := s.heap) (C := (stepsAlone p.tables e n s).heap) hs.2.1 (fun a c h => by obtain ⟨c', g1, g2, g3, g4⟩ := hs.2.2.2.2.2 a c h; exact ⟨c', g1, g3⟩)
  have e1 : (((stepsAlone p.tables e n s).heap.toList.drop s.heap.size).map (fun c => c.slots.size)).sum ≤ ms1 := hs.2.2.2.2.1
  refine ⟨n, o, h1, h2, h3, hq o _ h4 hs.2.2.1 (by omega) ?_, L, ⟨h5.1, h5.2.1, hs.1, hs.2.1, Nat.le_trans hs.2.2.1 (Nat.add_le_add_left hmc _), hs.2.2.2.1, Nat.le_trans hs.2.2.2.2.1 hms, hs.2.2.2.2.2⟩, fun q hq => hfr _ (h6 q hq)⟩
  intro q hq1 hq2
  have h9 : s.heap[q]? = some s.heap[q] := Array.getElem?_eq_getElem hq1
  obtain ⟨c', g1, g2, g3, g4⟩ := hs.2.2.2.2.2 q _ h9
  have g1' : (stepsAlone p.tables e n s).heap[q]? = some c' := g1
  rw [g1', h9, g2]
  have : c'.slots = s.heap[q].slots := by
    apply Array.ext_getElem?
    intro i
    exact g4 i (fun hm => hq2 (h6 _ hm))
  rw [this]
/-! ===== walks over the world with the room that stands ===== -/
def PM (D : va_G) (yc : Nat → ClassId) (e0 : Nat) (A : Nat → Prop) (S : TS) (Z : Nat × Nat) (w : TW) (c z : Nat) (av : List Value) : Array Value → State → Prop := va_Pc av (fun U => WT D yc e0 A S Z w.1 w.2.1 w.2.2 U.heap ∧ (U.heap.size = c ∧ zh U.heap = z) ∧ (∀ a, U.heap.size ≤ a → A a) ∧ CX D yc e0 A U)
theorem PM.blind {D : va_G} {yc : Nat → ClassId} {e0 : Nat} {A : Nat → Prop} {S : TS} {Z : Nat × Nat} {w : TW} {c z : Nat} {av : List Value} : FrameBlind (PM D yc e0 A S Z w c z av) := fun a U g mk h => by
  obtain ⟨h0, h1, h2, h3, h4⟩ := h
  exact ⟨h0, h1, h2, h3, CX.calling g mk a h4⟩
abbrev tQv (D : va_G) (yc : Nat → ClassId) (e0 : Nat) (A : Nat → Prop) (S : TS) (Z : Nat × Nat) (w : TW) : Array Value → State → Outcome → State → Prop := va_Qv (fun _ : Unit => True) (fun _ t => WT D yc e0 A S Z w.1 w.2.1 w.2.2 t.heap) A
abbrev tQi (D : va_G) (yc : Nat → ClassId) (e0 : Nat) (A : Nat → Prop) (S : TS) (Z : Nat × Nat) (w : TW × Int32) : Array Value → State → Outcome → State → Prop := va_Qi (fun r (_ : Unit) => r = w.2) (fun _ t => WT D yc e0 A S Z w.1.1 w.1.2.1 w.1.2.2 t.heap) A
abbrev tQl (D : va_G) (yc : Nat → ClassId) (e0 : Nat) (A : Nat → Prop) (S : TS) (Z : Nat × Nat) (w : TW × Int64) : Array Value → State → Outcome → State → Prop := va_Ql (fun r (_ : Unit) => r = w.2) (fun _ t => WT D yc e0 A S Z w.1.1 w.1.2.1 w.1.2.2 t.heap) A
section ZWM
variable {p : Program} {l : Launch} {e : Env} {R : Room} {s : State} {m : MethodId} {args : Array Value} {below : List Frame} {meth : Method} {c : Code} {H : Heap} {locs : List Loc} {cells slots : Nat} {Q : State → Prop}
variable {D : va_G} {yc : Nat → ClassId} {e0 : Nat} {A : Nat → Prop} {S : TS} {Z : Nat × Nat} {w w1 : TW} {cc : ByteArray} {pc : Nat} {ls : Array Slot} {rest As st0 : List Value} {Tc Ts : Nat} {a : Array Value}
theorem W.max {g : JFrame} (hH : H.size ≤ Tc ∧ zh H ≤ Ts) (k : W p l e R s m args below meth c H locs (Tc - s.heap.size) (Ts - zh s.heap) Q g) : W p l e R s m args below meth c H locs cells slots Q g :=
  W.know fun h1 h2 h3 h4 => W.tight (c1 := Tc - s.heap.size) (n1 := Ts - zh s.heap) (by omega) (by omega) k
theorem tq_S (hC : CX D yc e0 A s) (hW : WT D yc e0 A S Z w.1 w.2.1 w.2.2 H) (hS : va_S A s.heap H locs) (hA : ∀ a, s.heap.size ≤ a → A a) : PreS s H (PM D yc e0 A S Z w H.size (zh H) As) As :=
  ⟨PM.blind, fun U hU hWm => ⟨rfl, by rw [hU]; exact hW, by rw [hU]; exact ⟨rfl, rfl⟩, fun a ha => hA a (Nat.le_trans hS.1 (by rw [← hU]; exact ha)), hC.go hS (fun _ h => h) hU hWm⟩⟩
theorem tq_V (hC : CX D yc e0 A s) (hW : WT D yc e0 A S Z w.1 w.2.1 w.2.2 H) (hS : va_S A s.heap H locs) (hA : ∀ a, s.heap.size ≤ a → A a) (kd fl k : Nat) (hd : dm S kd fl k) {fs : List Value} {ci : Nat} (he : cel S w.2.1 kd fl k (w.1 kd fl k) = .inr (ci, fs)) {C : String} {T : u_T} {N : Nat} (hc : vwCl[ci]? = some (C, T, N)) : PreV s H C (zg S kd fl k) (PM D yc e0 A S Z w H.size (zh H) (.ref (zg S kd fl k) :: As)) As :=
  ⟨PM.blind, va_recv hC.1 (va_P_one (by have h := (hW.obj hd).1; rw [he] at h; exact h)) hc (q0 := 0) rfl, fun U hU hWm => ⟨rfl, by rw [hU]; exact hW, by rw [hU]; exact ⟨rfl, rfl⟩, fun a ha => hA a (Nat.le_trans hS.1 (by rw [← hU]; exact ha)), hC.go hS (fun _ h => h) hU hWm⟩⟩
theorem tq_R (hC : CX D yc e0 A s) (hW : WT D yc e0 A S Z w.1 w.2.1 w.2.2 H) (hS : va_S A s.heap H locs) (hA : ∀ a, s.heap.size ≤ a → A a) (i : Nat) (hd : dr S i) : PreV s H RX6 (zr S i) (PM D yc e0 A S Z w H.size (zh H) (.ref (zr S i) :: As)) As := by
  obtain ⟨x, f, h1, -⟩ := hW.row hd
  exact ⟨PM.blind, va_recv hC.1 (va_P_one h1) (ci := 5) rfl (q0 := 0) rfl, fun U hU hWm => ⟨rfl, by rw [hU]; exact hW, by rw [hU]; exact ⟨rfl, rfl⟩, fun a ha => hA a (Nat.le_trans hS.1 (by rw [← hU]; exact ha)), hC.go hS (fun _ h => h) hU hWm⟩⟩
theorem tw_v (hB : ZB Z Tc Ts w1) (hR : R.cells = Tc - s.heap.size ∧ R.slots = Ts - zh s.heap) (hH : H.size ≤ Tc ∧ zh H ≤ Ts)
    (hr : (H.size - s.heap.size) + (Tc - H.size) ≤ R.cells ∧ (zh H - zh s.heap) + (Ts - zh H) ≤ R.slots → va_Run p l e R s m args below meth c H locs (H.size - s.heap.size) (zh H - zh s.heap) (Tc - H.size) (Ts - zh H) (F0 m pc ls st0) rest (tQv D yc e0 A S Z w1 a) A) (hS : va_S A s.heap H locs)
    (kk : ∀ (H1 : Heap) (locs1 : List Loc), WT D yc e0 A S Z w1.1 w1.2.1 w1.2.2 H1 → va_S A s.heap H1 locs1 → W p l e R s m args below meth c H1 locs1 (Tc - s.heap.size) (Ts - zh s.heap) Q (F0 m (pc + 3) ls rest)) : W p l e R s m args below meth c H locs cells slots Q (F0 m pc ls st0) :=
  W.know fun h1 h2 h3 h4 => W.tight (c1 := H.size - s.heap.size) (n1 := zh H - zh s.heap) (by omega) (by omega)
    (va_callv (hr ⟨by rw [hR.1]; omega, by rw [hR.2]; omega⟩) hS (fun _ _ h => h) (fun _ h => h) (fun u t H1 locs1 ht _ hp hB1 _ _ hS1 => by subst ht; exact W.max (hB.top hB1) (kk _ locs1 hB1 hS1)))
theorem tw_i {w1 : TW × Int32} (hB : ZB Z Tc Ts w1.1) (hR : R.cells = Tc - s.heap.size ∧ R.slots = Ts - zh s.heap) (hH : H.size ≤ Tc ∧ zh H ≤ Ts)
    (hr : (H.size - s.heap.size) + (Tc - H.size) ≤ R.cells ∧ (zh H - zh s.heap) + (Ts - zh H) ≤ R.slots → va_Run p l e R s m args below meth c H locs (H.size - s.heap.size) (zh H - zh s.heap) (Tc - H.size) (Ts - zh H) (F0 m pc ls st0) rest (tQi D yc e0 A S Z w1 a) A) (hS : va_S A s.heap H locs)
    (kk : ∀ (H1 : Heap) (locs1 : List Loc), WT D yc e0 A S Z w1.1.1 w1.1.2.1 w1.1.2.2 H1 → va_S A s.heap H1 locs1 → W p l e R s m args below meth c H1 locs1 (Tc - s.heap.size) (Ts - zh s.heap) Q (F0 m (pc + 3) ls (.int w1.2 :: rest))) : W p l e R s m args below meth c H locs cells slots Q (F0 m pc ls st0) :=
  W.know fun h1 h2 h3 h4 => W.tight (c1 := H.size - s.heap.size) (n1 := zh H - zh s.heap) (by omega) (by omega)
    (va_calli (hr ⟨by rw [hR.1]; omega, by rw [hR.2]; omega⟩) hS (fun _ _ h => h) (fun _ h => h) (fun r u t H1 locs1 ht _ hp hB1 _ _ hS1 => by subst ht; rw [hp]; exact W.max (hB.top hB1) (kk _ locs1 hB1 hS1)))
theorem tw_l {w1 : TW × Int64} (hB : ZB Z Tc Ts w1.1) (hR : R.cells = Tc - s.heap.size ∧ R.slots = Ts - zh s.heap) (hH : H.size ≤ Tc ∧ zh H ≤ Ts)
    (hr : (H.size - s.heap.size) + (Tc - H.size) ≤ R.cells ∧ (zh H - zh s.heap) + (Ts - zh H) ≤ R.slots → va_Run p l e R s m args below meth c H locs (H.size - s.heap.size) (zh H - zh s.heap) (Tc - H.size) (Ts - zh H) (F0 m pc ls st0) rest (tQl D yc e0 A S Z w1 a) A) (hS : va_S A s.heap H locs)
    (kk : ∀ (H1 : Heap) (locs1 : List Loc), WT D yc e0 A S Z w1.1.1 w1.1.2.1 w1.1.2.2 H1 → va_S A s.heap H1 locs1 → W p l e R s m args below meth c H1 locs1 (Tc - s.heap.size) (Ts - zh s.heap) Q (F0 m (pc + 3) ls (.long w1.2 :: rest))) : W p l e R s m args below meth c H locs cells slots Q (F0 m pc ls st0) :=
  W.know fun h1 h2 h3 h4 => W.tight (c1 := H.size - s.heap.size) (n1 := zh H - zh s.heap) (by omega) (by omega)
    (va_calll (hr ⟨by rw [hR.1]; omega, by rw [hR.2]; omega⟩) hS (fun _ _ h => h) (fun _ h => h) (fun r u t H1 locs1 ht _ hp hB1 _ _ hS1 => by subst ht; rw [hp]; exact W.max (hB.top hB1) (kk _ locs1 hB1 hS1)))
-- ends
theorem tx_v {r : TW} (hx : p.tables.exec = Jvm.exec) (hb : c.code = cc) (hr : meth.sig.returnType = none) (hlk : meth.locks = false) (hS : va_S A s.heap H locs) (hW : WT D yc e0 A S Z w.1 w.2.1 w.2.2 H) (he : r = w) (hdg : decode cc pc = .ok (.return_, 1)) :
    W p l e R s m args below meth c H locs (Tc - s.heap.size) (Ts - zh s.heap) (MQ below (tQv D yc e0 A S Z r) args s (Tc - s.heap.size) (Ts - zh s.heap) A) (F0 m pc ls []) := by
  subst he
  exact W.vret hx hb hr (fun t ht _ => ⟨⟨(), rfl, trivial, by subst ht; exact hW⟩, hS.F ht⟩) hS.2.2 hdg hlk
theorem tx_i {r : TW × Int32} {v : Int32} {ty : FieldType} (hx : p.tables.exec = Jvm.exec) (hb : c.code = cc) (hr : meth.sig.returnType = some ty) (hlk : meth.locks = false) (hS : va_S A s.heap H locs) (hn : narrow ty (.int v) = .int v) (hW : WT D yc e0 A S Z w.1 w.2.1 w.2.2 H) (he : r = (w, v)) (hdg : decode cc pc = .ok (.ireturn, 1)) :
    W p l e R s m args below meth c H locs (Tc - s.heap.size) (Ts - zh s.heap) (MQ below (tQi D yc e0 A S Z r) args s (Tc - s.heap.size) (Ts - zh s.heap) A) (F0 m pc ls [.int v]) := by
  subst he
  exact W.zret hx hb hr hn (fun t ht _ => ⟨⟨v, (), rfl, rfl, by subst ht; exact hW⟩, hS.F ht⟩) hS.2.2 hdg hlk
theorem tx_l {r : TW × Int64} {v : Int64} (hx : p.tables.exec = Jvm.exec) (hb : c.code = cc) (hr : meth.sig.returnType = some .long) (hlk : meth.locks = false) (hS : va_S A s.heap H locs) (hW : WT D yc e0 A S Z w.1 w.2.1 w.2.2 H) (he : r = (w, v)) (hdg : decode cc pc = .ok (.lreturn, 1)) :
    W p l e R s m args below meth c H locs (Tc - s.heap.size) (Ts - zh s.heap) (MQ below (tQl D yc e0 A S Z r) args s (Tc - s.heap.size) (Ts - zh s.heap) A) (F0 m pc ls [.long v]) := by
  subst he
  exact W.lret hx hb hr (fun t ht _ => ⟨⟨v, (), rfl, rfl, by subst ht; exact hW⟩, hS.F ht⟩) hS.2.2 hdg hlk
-- the end of a walk over a row alone
abbrev RQ (D : va_G) (yc : Nat → ClassId) (A : Nat → Prop) (r : Nat) (wo : va_W) (pp : Nat × List Int64) : Array Value → State → Outcome → State → Prop := va_Qv (fun u : Nat × (Nat → Int64) => RC pp u.2) (fun u t => va_P D vwCl (RW yc r u.1 pp.1 pp.2.length u.2 ++ wo) t.heap ∧ va_D A (RW yc r u.1 pp.1 pp.2.length u.2 ++ wo)) A
theorem te_row {ws wo : va_W} {r : Nat} {pp : Nat × List Int64} {mc ms : Nat} (hx : p.tables.exec = Jvm.exec) (hb : c.code = cc) (hr : meth.sig.returnType = none) (hlk : meth.locks = false) (hP : va_P D vwCl ws H) (hD : va_D A ws) (hS : va_S A s.heap H locs) (x' : Nat) (f' : Nat → Int64) (n' : Nat) (hn' : pp.2.length = n') (hc : RC pp f') (is : List Nat) (hs : is.map (fun i => ws[i]?) = (RW yc r x' pp.1 n' f' ++ wo).map some) (hn : va_nd is = true) (h1 : cells ≤ mc) (h2 : slots ≤ ms) (hdg : decode cc pc = .ok (.return_, 1)) :
    W p l e R s m args below meth c H locs cells slots (MQ below (RQ D yc A r wo pp) args s mc ms A) (F0 m pc ls []) := by
  subst hn'
  exact W.widen h1 h2 (W.vret hx hb hr (fun t ht _ => ⟨⟨(x', f'), rfl, hc, by rw [ht]; exact zk_sub hP is hs, hD.sub is hn hs⟩, hS.F ht⟩) hS.2.2 hdg hlk)
end ZWM
theorem tk_W {l : Launch} {y : MethodName} {cc : ByteArray} {maxL : Nat} {ret : Option FieldType} {fr lo : Nat} {D : va_G} {yc : Nat → ClassId} {e0 : Nat} {A : Nat → Prop} {S : TS} {Z : Nat × Nat} {w : TW} {Tc Ts cN zN : Nat} {av : List Value} {Qc : Array Value → State → Outcome → State → Prop} {free : Addr → Prop} (hB : ZB Z Tc Ts w) (hy : plainName y.cls = true) (hav : (lg_sl av).length ≤ maxL)
    (body : ∀ (p : Program) (e : Env) (s : State) (m : MethodId) (args : Array Value) (below : List Frame) (meth : Method) (c : Code) (ls : Array Slot) (H : Heap) (locs : List Loc), p.tables.exec = Jvm.exec → c.code = cc → c.maxLocals = maxL → meth.sig.returnType = ret → meth.locks = false → s.vm.findClass y.cls = some m.cls → (∀ w ∈ lw_all, w.before args s = true) → WT D yc e0 A S Z w.1 w.2.1 w.2.2 H → va_S A s.heap H locs → (∀ a, s.heap.size ≤ a → A a) → CX D yc e0 A s → lv_has ls maxL (lv_args 0 av) →
      W p l e { frames := fr, cells := Tc - s.heap.size, slots := Ts - zh s.heap, locals := lo } s m args below meth c H locs (Tc - s.heap.size) (Ts - zh s.heap) (MQ below Qc args s (Tc - s.heap.size) (Ts - zh s.heap) free) (F0 m 0 ls [])) :
    Met l y (ws_ y cc maxL ret) { frames := fr, cells := Tc - cN, slots := Ts - zN, locals := lo } (PM D yc e0 A S Z w cN zN av) Qc (Tc - cN) (Ts - zN) free := by
  refine Met.ofW (cc := cc) (maxL := maxL) (ret := ret) hy rfl ?_
  intro p e s m args below meth c s₁ B hml hv
  obtain ⟨rfl, hW, ⟨rfl, rfl⟩, hA, hC⟩ := hv
  have hts := atoms_spec (ws := ws_ y cc maxL ret) B.pre
  rw [lg_entry_eq]
  exact W.max (hB.top hW) (body p e s m _ below meth c _ _ _ B.exec B.bytes hml B.returns B.notSynchronized (findClass_of_methodNamed B.named) (fun w h => hts w (List.mem_cons_of_mem _ h)) hW va_S.rf hA hC (lv_entry av hav))
theorem rw_D {A : Nat → Prop} {yc : Nat → ClassId} {r x c n : Nat} {f : Nat → Int64} (h : r ≠ x) (h1 : A r) (h2 : A x) : va_D A (RW yc r x c n f) := by
  refine ⟨fun i' j' p' q' hi hj e => ?_, fun k q' hk => ?_⟩
  · match i', j', hi, hj with
    | 0, 0, _, _ => rfl
    | 1, 1, _, _ => rfl
    | 0, 1, hi, hj => cases hi; cases hj; exact absurd e h
    | 1, 0, hi, hj => cases hi; cases hj; exact absurd e.symm h
    | 0, k + 2, _, hj => simp at hj
    | 1, k + 2, _, hj => simp at hj
    | k + 2, _, hi, _ => simp at hi
  · match k, hk with
    | 0, hk => cases hk; exact h1
    | 1, hk => cases hk; exact h2
    | k + 2, hk => simp at hk
theorem rw_in {yc : Nat → ClassId} {r x c n : Nat} {f : Nat → Int64} {k : Nat} {q : Nat × va_E} (hk : (RW yc r x c n f)[k]? = some q) : q.1 = r ∨ q.1 = x := by
  match k, hk with
  | 0, hk => cases hk; exact Or.inl rfl
  | 1, hk => cases hk; exact Or.inr rfl
  | k + 2, hk => simp at hk
theorem rw_A {yc : Nat → ClassId} {r x c n sz y : Nat} {f : Nat → Int64} (h : va_A (RW yc r x c n f) sz y) : y = r ∨ y = x ∨ sz ≤ y := by
  rcases h with ⟨k, e, hk⟩ | hq
  · rcases rw_in hk with h | h
    · exact Or.inl h
    · exact Or.inr (Or.inl h)
  · exact Or.inr (Or.inr hq)
theorem rw_A2 {yc : Nat → ClassId} {r x c n r2 x2 c2 n2 sz y : Nat} {f g : Nat → Int64} (h : va_A (RW yc r x c n f ++ RW yc r2 x2 c2 n2 g) sz y) : y = r ∨ y = x ∨ y = r2 ∨ y = x2 ∨ sz ≤ y := by
  rcases h with ⟨k, e, hk⟩ | hq
  · match k, hk with
    | 0, hk => exact Or.inl (Prod.mk.inj (Option.some.inj hk)).1.symm
    | 1, hk => exact Or.inr (Or.inl (Prod.mk.inj (Option.some.inj hk)).1.symm)
    | 2, hk => exact Or.inr (Or.inr (Or.inl (Prod.mk.inj (Option.some.inj hk)).1.symm))
    | 3, hk => exact Or.inr (Or.inr (Or.inr (Or.inl (Prod.mk.inj (Option.some.inj hk)).1.symm)))
    | k + 4, hk => simp at hk
  · exact Or.inr (Or.inr (Or.inr (Or.inr hq)))
/-- a row's contract, out of its own over the row alone -/
theorem tk_row {l : Launch} {y : MethodName} {ws : List Cond} {fr lo : Nat} {D : va_G} {yc : Nat → ClassId} {e0 : Nat} {A : Nat → Prop} {S : TS} {Z : Nat × Nat} {w : TW} {Tc Ts cN zN : Nat} {av : List Value} {i : Nat} (hd : dr S i) (pp : Nat × List Int64) (a b fr1 lo1 : Nat) (hfr : fr1 ≤ fr ∧ lo1 ≤ lo) (hB : ZB Z Tc Ts (zrw w i pp)) (hp : (w.2.2 i).2.length ≤ (w.2.2 i).1 → RK (w.2.2 i).1 → pp.2.length ≤ pp.1 ∧ RK pp.1 ∧ a + (w.2.2 i).1 / 8 ≤ pp.1 / 8 ∧ b + 2 * (w.2.2 i).1 ≤ 2 * pp.1)
    (hl : ∀ (x : Nat) (f : Nat → Int64) (sz : Nat), (w.2.2 i).2.length ≤ (w.2.2 i).1 → RK (w.2.2 i).1 → RC (w.2.2 i) f → Met l y ws { frames := fr1, cells := a, slots := b, locals := lo1 } (PR D yc e0 (RW yc (zr S i) x (w.2.2 i).1 (w.2.2 i).2.length f) sz (.ref (zr S i) :: av)) (RQ D yc (va_A (RW yc (zr S i) x (w.2.2 i).1 (w.2.2 i).2.length f) sz) (zr S i) [] pp) a b (va_A (RW yc (zr S i) x (w.2.2 i).1 (w.2.2 i).2.length f) sz)) :
    Met l y ws { frames := fr, cells := Tc - cN, slots := Ts - zN, locals := lo } (PM D yc e0 A S Z w cN zN (.ref (zr S i) :: av)) (tQv D yc e0 A S Z (zrw w i pp)) (Tc - cN) (Ts - zN) A := by
  refine Met.conv2 fun args s hP => ?_
  obtain ⟨rfl, hW, ⟨rfl, rfl⟩, hA, hC⟩ := hP
  obtain ⟨x, f, ⟨h1, h2, h3, h4⟩, ⟨h5, h6, h7⟩, ax, af, -, hcl⟩ := hW.rowK2 hd (fun _ => False) (fun _ h => h.elim)
  obtain ⟨p1, p2, p3, p4⟩ := hp h2 h4
  have hsz : s.heap.size ≤ Z.1 + Psi w.2.2 ∧ zh s.heap ≤ Z.2 + Phi w.2.2 := by
    obtain ⟨own, g1, g2, g3, g4, g5, g6, g7⟩ := hW
    exact ⟨g5, g6⟩
  have e1 := Psi_upd (q := w.2.2) (p := pp) (dr_lt hd)
  have e2 := Phi_upd (q := w.2.2) (p := pp) (dr_lt hd)
  have b1 : Z.1 + Psi (zq w.2.2 i pp) ≤ Tc := hB.1
  have b2 : Z.2 + Phi (zq w.2.2 i pp) ≤ Ts := hB.2.1
  have hfree : ∀ q, va_A (RW yc (zr S i) x (w.2.2 i).1 (w.2.2 i).2.length f) s.heap.size q → A q := fun q hq => by
    rcases rw_A hq with h | h | h
    · rw [h]; exact h5
    · rw [h]; exact h6
    · exact hA q h
  refine ⟨_, _, _, _, a, b, hl x f s.heap.size h2 h4 h3, ⟨⟨hfr.1, hfr.2, by show a ≤ Tc - s.heap.size; omega, by show b ≤ Ts - zh s.heap; omega⟩, by omega, by omega⟩, ⟨rfl, rfl, h1, rw_D h7 trivial trivial, hC.narrow hfree⟩, hfree, ?_⟩
  rintro o t ⟨⟨⟨x', f'⟩, rfl, hc, hP', hD'⟩, hF⟩ z1 z2 z3
  have hx' := hD'.2 1 _ rfl
  have hxx : x' = x ∨ s.heap.size ≤ x' := by
    rcases rw_A hx' with h | h | h
    · have := hD'.1 0 1 _ _ rfl rfl h.symm
      omega
    · exact Or.inl h
    · exact Or.inr h
  refine ⟨⟨(), rfl, trivial, hcl t.heap x' f' pp hP' (fun _ h => h.elim) hxx (hfree _ hx') (fun y hy n1 n2 _ => z3 y hy (fun h => ?_)) p1 hc p2 (by omega) (by omega)⟩, hF.1, fun q hq hn => hF.2 q hq (fun h => hn (hfree q h))⟩
  rcases rw_A h with h | h | h
  · exact n1 h
  · exact n2 h
  · omega
/-- .. of two rows, the second one only read -/
theorem tk_row2 {l : Launch} {y : MethodName} {ws : List Cond} {fr lo : Nat} {D : va_G} {yc : Nat → ClassId} {e0 : Nat} {A : Nat → Prop} {S : TS} {Z : Nat × Nat} {w : TW} {Tc Ts cN zN : Nat} {av : List Value} {i o : Nat} (hd : dr S i) (hdo : dr S o) (hne : o ≠ i) (pp : Nat × List Int64) (a b fr1 lo1 : Nat) (hfr : fr1 ≤ fr ∧ lo1 ≤ lo) (hB : ZB Z Tc Ts (zrw w i pp)) (hp : (w.2.2 i).2.length ≤ (w.2.2 i).1 → RK (w.2.2 i).1 → (w.2.2 o).2.length ≤ (w.2.2 o).1 → RK (w.2.2 o).1 → pp.2.length ≤ pp.1 ∧ RK pp.1 ∧ a + (w.2.2 i).1 / 8 ≤ pp.1 / 8 ∧ b + 2 * (w.2.2 i).1 ≤ 2 * pp.1)
    (hl : ∀ (x : Nat) (f : Nat → Int64) (x2 : Nat) (g : Nat → Int64) (sz : Nat), (w.2.2 i).2.length ≤ (w.2.2 i).1 → RK (w.2.2 i).1 → RC (w.2.2 i) f → (w.2.2 o).2.length ≤ (w.2.2 o).1 → RK (w.2.2 o).1 → RC (w.2.2 o) g → Met l y ws { frames := fr1, cells := a, slots := b, locals := lo1 } (PR D yc e0 (RW yc (zr S i) x (w.2.2 i).1 (w.2.2 i).2.length f ++ RW yc (zr S o) x2 (w.2.2 o).1 (w.2.2 o).2.length g) sz (.ref (zr S i) :: av)) (RQ D yc (va_A (RW yc (zr S i) x (w.2.2 i).1 (w.2.2 i).2.length f ++ RW yc (zr S o) x2 (w.2.2 o).1 (w.2.2 o).2.length g) sz) (zr S i) (RW yc (zr S o) x2 (w.2.2 o).1 (w.2.2 o).2.length g) pp) a b (va_A (RW yc (zr S i) x (w.2.2 i).1 (w.2.2 i).2.length f ++ RW yc (zr S o) x2 (w.2.2 o).1 (w.2.2 o).2.length g) sz)) :
    Met l y ws { frames := fr, cells := Tc - cN, slots := Ts - zN, locals := lo } (PM D yc e0 A S Z w cN zN (.ref (zr S i) :: av)) (tQv D yc e0 A S Z (zrw w i pp)) (Tc - cN) (Ts - zN) A := by
  refine Met.conv2 fun args s hP => ?_
  obtain ⟨rfl, hW, ⟨rfl, rfl⟩, hA, hC⟩ := hP
  obtain ⟨x, f, ⟨h1, h2, h3, h4⟩, ⟨h5, h6, h7⟩, ax, af, hoth, hcl⟩ := hW.rowK2 hd (fun j => j = o) (fun j h => by subst h; exact ⟨hdo, hne⟩)
  obtain ⟨o1, o2, o3, o4, o5, o6, o7, o8, o9, o10, o11⟩ := hoth o rfl
  obtain ⟨p1, p2, p3, p4⟩ := hp h2 h4 o2 o4
  have hsz : s.heap.size ≤ Z.1 + Psi w.2.2 ∧ zh s.heap ≤ Z.2 + Phi w.2.2 := by
    obtain ⟨own, g1, g2, g3, g4, g5, g6, g7⟩ := hW
    exact ⟨g5, g6⟩
  have e1 := Psi_upd (q := w.2.2) (p := pp) (dr_lt hd)
  have e2 := Phi_upd (q := w.2.2) (p := pp) (dr_lt hd)
  have b1 : Z.1 + Psi (zq w.2.2 i pp) ≤ Tc := hB.1
  have b2 : Z.2 + Phi (zq w.2.2 i pp) ≤ Ts := hB.2.1
  have hfree : ∀ q, va_A (RW yc (zr S i) x (w.2.2 i).1 (w.2.2 i).2.length f ++ RW yc (zr S o) (ax o) (w.2.2 o).1 (w.2.2 o).2.length (af o)) s.heap.size q → A q := fun q hq => by
    rcases rw_A2 hq with h | h | h | h | h
    · rw [h]; exact h5
    · rw [h]; exact h6
    · rw [h]; exact o5
    · rw [h]; exact o6
    · exact hA q h
  have hD4 : va_D (fun _ => True) (RW yc (zr S i) x (w.2.2 i).1 (w.2.2 i).2.length f ++ RW yc (zr S o) (ax o) (w.2.2 o).1 (w.2.2 o).2.length (af o)) := by
    refine va_D.app (rw_D h7 trivial trivial) (rw_D o7 trivial trivial) (fun i' j' x' y' hx hy hxy => ?_)
    rcases rw_in hx with h | h <;> rcases rw_in hy with k | k
    · exact o8 (by rw [← k, ← h]; exact hxy.symm)
    · exact o10 (by rw [← k, ← h]; exact hxy.symm)
    · exact o9 (by rw [← k, ← h]; exact hxy.symm)
    · exact o11 (by rw [← k, ← h]; exact hxy.symm)
  refine ⟨_, _, _, _, a, b, hl x f (ax o) (af o) s.heap.size h2 h4 h3 o2 o4 o3, ⟨⟨hfr.1, hfr.2, by show a ≤ Tc - s.heap.size; omega, by show b ≤ Ts - zh s.heap; omega⟩, by omega, by omega⟩, ⟨rfl, rfl, h1.app o1, hD4, hC.narrow hfree⟩, hfree, ?_⟩
  rintro oc t ⟨⟨⟨x', f'⟩, rfl, hc, hP', hD'⟩, hF⟩ z1 z2 z3
  have hx' := hD'.2 1 _ rfl
  have hxx : x' = x ∨ s.heap.size ≤ x' := by
    rcases rw_A2 hx' with h | h | h | h | h
    · have := hD'.1 0 1 _ _ rfl rfl h.symm
      omega
    · exact Or.inl h
    · have := hD'.1 2 1 _ _ rfl rfl h.symm
      omega
    · have := hD'.1 3 1 _ _ rfl rfl h.symm
      omega
    · exact Or.inr h
  refine ⟨⟨(), rfl, trivial, hcl t.heap x' f' pp (zk_sub hP' [0, 1] rfl) (fun j hj => by subst hj; exact zk_sub hP' [2, 3] rfl) hxx (hfree _ hx') (fun y hy n1 n2 n3 => z3 y hy (fun h => ?_)) p1 hc p2 (by omega) (by omega)⟩, hF.1, fun q hq hn => hF.2 q hq (fun h => hn (hfree q h))⟩
  rcases rw_A2 h with h | h | h | h | h
  · exact n1 h
  · exact n2 h
  · exact (n3 o rfl).1 h
  · exact (n3 o rfl).2 h
  · omega
theorem zbit {kd j0 : Nat} {f : Nat → Int32} {v : Int32} (hb : ∀ j, zib kd j = true → f j = 0 ∨ f j = 1) (hv : zib kd j0 = true → v = 0 ∨ v = 1) : ∀ j, zib kd j = true → (if j = j0 then v else f j) = 0 ∨ (if j = j0 then v else f j) = 1 := fun j hj => by
  by_cases e : j = j0
  · subst e
    rw [if_pos rfl]
    exact hv hj
  · rw [if_neg e]
    exact hb j hj
theorem zib_ch {kd : Nat} (h : kd = 4 ∨ kd = 5) : zib kd 2 = true := by rcases h with rfl | rfl <;> rfl
theorem zib_c1 {kd : Nat} (h : kd = 4 ∨ kd = 5) : ¬ zib kd 1 = true := by rcases h with rfl | rfl <;> decide
theorem zsav_s {w : TW} {fl k : Nat} {p : Nat × Nat} : (zsav w fl k p).2.1 fl k = p := if_pos ⟨rfl, rfl⟩
theorem zsav_n {w : TW} {fl k fl' k' : Nat} {p : Nat × Nat} (h : ¬ (2 = 2 ∧ fl' = fl ∧ k' = k)) : (zsav w fl k p).2.1 fl' k' = w.2.1 fl' k' := if_neg fun h8 => h ⟨rfl, h8⟩
