/-! ===== streams of items ===== -/
def isB (x : Int64) : Prop := ¬ v_X3_kind x = 0 ∧ ¬ v_X3_kind x = 1
def nob (L : List Int64) : Prop := ∀ x ∈ L, ¬ isB x
def lm1 (m : Int) (x : Int64) : Int := if v_X3_kind x = 1 then (v_X3_time x).toInt else m
def lm : Int → List Int64 → Int
  | m, [] => m
  | m, x :: l => lm (lm1 m x) l
def LK (E : Nat) (cl : Prop) : Int → List Int64 → Prop
  | _, [] => True
  | m, x :: l => (v_X3_kind x = 0 → m < 1000000 ∧ (v_X3_time x).toInt ≤ E) ∧ (v_X3_kind x = 1 → m < (v_X3_time x).toInt ∧ ((v_X3_time x).toInt ≤ 400 ∨ (cl ∧ (v_X3_time x).toInt = 1000000))) ∧ LK E cl (lm1 m x) l
theorem lm_app : ∀ (L M : List Int64) (m : Int), lm m (L ++ M) = lm (lm m L) M
  | [], _, _ => rfl
  | x :: L, M, m => lm_app L M (lm1 m x)
theorem LK_app {E : Nat} {cl : Prop} : ∀ (L M : List Int64) (m : Int), LK E cl m (L ++ M) ↔ LK E cl m L ∧ LK E cl (lm m L) M
  | [], M, m => ⟨fun h => ⟨trivial, h⟩, fun h => h.2⟩
  | x :: L, M, m => by
    have ih := LK_app (E := E) (cl := cl) L M (lm1 m x)
    constructor
    · intro h
      have h2 := ih.mp h.2.2
      exact ⟨⟨h.1, h.2.1, h2.1⟩, h2.2⟩
    · intro h
      exact ⟨h.1.1, h.1.2.1, ih.mpr ⟨h.1.2.2, h.2⟩⟩
theorem lm_ev {E : Nat} : ∀ (L : List Int64) (m : Int), EvL E L → lm m L = m
  | [], _, _ => rfl
  | x :: L, m, h => by
    have h1 := (h x List.mem_cons_self).1
    have e : lm1 m x = m := by unfold lm1; rw [if_neg (by rw [h1]; decide)]
    show lm (lm1 m x) L = m
    rw [e]
    exact lm_ev L m (fun y hy => h y (List.mem_cons_of_mem _ hy))
theorem LK_ev {E : Nat} {cl : Prop} : ∀ (L : List Int64) (m : Int), EvL E L → (L ≠ [] → m < 1000000) → LK E cl m L
  | [], _, _, _ => trivial
  | x :: L, m, h, hm => by
    have h1 := h x List.mem_cons_self
    have e : lm1 m x = m := by unfold lm1; rw [if_neg (by rw [h1.1]; decide)]
    refine ⟨fun _ => ⟨hm (by simp), h1.2⟩, fun h2 => by rw [h1.1] at h2; exact absurd h2 (by decide), ?_⟩
    rw [e]
    exact LK_ev L m (fun y hy => h y (List.mem_cons_of_mem _ hy)) (fun _ => hm (by simp))
theorem nob.app {L M : List Int64} (h : nob L) (g : nob M) : nob (L ++ M) := fun x hx => by
  rcases List.mem_append.mp hx with h1 | h1
  · exact h x h1
  · exact g x h1
theorem nob.ev {E : Nat} {L : List Int64} (h : EvL E L) : nob L := fun x hx hb => hb.1 (h x hx).1
theorem nob.nil : nob [] := fun x h => by cases h
theorem mk_nob {t : Nat} (ht : t < 2 ^ 20) : ¬ isB (v_X3_mark (nI t)) := fun h => h.2 (mk_kind t ht)
theorem ba_isB : isB v_X3_barrier := by unfold isB; rw [ba_kind]; decide
theorem mk_lm1 (m : Int) {t : Nat} (ht : t < 2 ^ 20) : lm1 m (v_X3_mark (nI t)) = (t : Int) := by
  unfold lm1
  rw [if_pos (mk_kind t ht), mk_time t ht, zi_nI (by omega)]
/-! ===== what always holds of the live flow ===== -/
def sI (w : TW) (st j : Nat) : Int := (w.1 0 0 st j).toInt
def OKm (cl : Prop) (m : Int) : Prop := -1 ≤ m ∧ (m ≤ 400 ∨ (cl ∧ m = 1000000))
def SIm (S : TS) (so : Nat) (cl : Prop) (w : TW) (k st : Nat) : Prop :=
  (∀ j, j < 3 → OKm cl (sI w st j)) ∧ (so ≠ 0 → (zp S 1 k).isSome = true → min (sI w st 1) (sI w st 2) ≤ sI w st 0) ∧ (so ≠ 0 → ¬ (zp S 1 k).isSome = true → sI w st 1 ≤ sI w st 0) ∧
  (sI w st 0 = 1000000 → (so ≠ 0 → sI w st 1 = 1000000 ∧ ((zp S 1 k).isSome = true → sI w st 2 = 1000000)) ∧ ((w.2.2 (rs 0 0 st)).2 = [] ∧ (w.2.2 (rs 2 0 st)).2 = [] ∧ (w.2.2 (rs 3 0 st)).2 = []) ∧ (so = 0 → w.1 0 0 st 4 = nI (w.2.2 (rl k)).2.length))
def SIc (so T : Nat) (w : TW) (st : Nat) : Prop :=
  ∃ tk lt, w.1 0 0 st 4 = nI tk ∧ w.1 0 0 st 6 = nI lt ∧ lt ≤ tk ∧ tk ≤ T ∧ (so = 0 ∨ so = 2 ∨ so = 6 → w.1 0 0 st 5 = w.1 0 0 st 4) ∧ (so = 1 → ∃ em, w.1 0 0 st 5 = nI em ∧ em ≤ tk) ∧ (so = 7 → w.1 0 0 st 5 = 0 ∧ w.1 0 0 st 7 = w.1 0 0 st 4)
def SI (S : TS) (so : Nat) (cl : Prop) (T : Nat) (w : TW) (k st : Nat) : Prop := SIm S so cl w k st ∧ SIc so T w st
def CH3 (pd : List Int64) (sh : Int32) (m cm : Int) (Pu Pc : Bool) : Prop :=
  (Pu = false → nob pd ∧ sh = 0 ∧ Pc = false) ∧ (Pu = true → Pc = true → nob pd ∧ sh = 0) ∧ (Pu = true → Pc = false → (sh = 1 ∧ nob pd ∧ m = cm) ∨ (sh = 0 ∧ ∃ A b B, pd = A ++ b :: B ∧ isB b ∧ nob A ∧ nob B ∧ lm m A = cm))
abbrev src (S : TS) (kd c : Nat) : Nat := zsrc S (kd - 4) c
def PCa (S : TS) (cl : Prop) (w : TW) (kd c : Nat) : Prop := LK (EE (src S kd c)) cl (sI w (3 * c) (kd - 3)) (pend S w 0 kd c) ∧ lm (sI w (3 * c) (kd - 3)) (pend S w 0 kd c) = sI w (3 * src S kd c) 0 ∧ sI w (3 * c + (w.2.1 0 c).1) (kd - 3) = sI w (3 * src S kd c + (w.2.1 0 (src S kd c)).1) 0
def PC (S : TS) (cl : Prop) (w : TW) (P : Nat → Bool) (kd c : Nat) : Prop := PCa S cl w kd c ∧
  CH3 (pend S w 0 kd c) (w.1 kd 0 c 2) (sI w (3 * c) (kd - 3)) (sI w (3 * src S kd c + (w.2.1 0 (src S kd c)).2) 0) (P (src S kd c)) (P c) ∧ (P c = true → sI w (3 * c + (w.2.1 0 c).2) (kd - 3) = sI w (3 * src S kd c + (w.2.1 0 (src S kd c)).2) 0)
def PS (S : TS) (so : Nat → Nat) (cl : Prop) (T : Nat) (w : TW) (P : Nat → Bool) (k : Nat) : Prop :=
  SI S (so k) cl T w k (3 * k) ∧ SI S (so k) cl T w k (3 * k + (w.2.1 0 k).1) ∧ (P k = true → SI S (so k) cl T w k (3 * k + (w.2.1 0 k).2)) ∧ sI w (3 * k + (w.2.1 0 k).1) 4 ≤ sI w (3 * k) 4 ∧ (P k = true → sI w (3 * k + (w.2.1 0 k).2) 4 ≤ sI w (3 * k) 4) ∧
  (so k ≠ 0 → w.1 2 0 k 11 = 0) ∧ (so k = 0 → (w.1 2 0 k 11 = 0 ↔ (w.1 6 0 0 5 = 0 ∨ P k = true))) ∧ (¬ w.1 2 0 k 10 = 0 → cl) ∧ ∀ kd, CI S kd k → ¬ w.1 kd 0 k 2 = 0 → CI S (9 - kd) k ∧ w.1 (9 - kd) 0 k 2 = 0
def cnP (P : Nat → Bool) (n : Nat) : Nat := zsm (fun k => if P k then 0 else 1) n
def PG (S : TS) (w : TW) (P : Nat → Bool) : Prop := (w.1 6 0 0 5 = 0 → ∀ k, k < zn S → P k = false) ∧ (¬ w.1 6 0 0 5 = 0 → w.1 6 0 0 7 = nI (cnP P (zn S)) ∧ 0 < cnP P (zn S))
def PI (S : TS) (so : Nat → Nat) (cl : Prop) (T : Nat) (w : TW) (P : Nat → Bool) : Prop := (∀ k, k < zn S → PS S so cl T w P k) ∧ (∀ kd c, CI S kd c → PC S cl w P kd c) ∧ PG S w P
theorem SI.mono {S : TS} {so : Nat} {cl : Prop} {T T' : Nat} {w : TW} {k st : Nat} (h : SI S so cl T w k st) (ht : T ≤ T') : SI S so cl T' w k st := by
  obtain ⟨h1, tk, lt, a, b, c, d, e⟩ := h
  exact ⟨h1, tk, lt, a, b, c, by omega, e⟩
theorem SI.same {S : TS} {so : Nat} {cl : Prop} {T : Nat} {w b : TW} {k st : Nat} (h : SI S so cl T w k st) (hF : ∀ j, b.1 0 0 st j = w.1 0 0 st j) (hq : ∀ x, x < 4 → b.2.2 (rs x 0 st) = w.2.2 (rs x 0 st)) (hl : b.2.2 (rl k) = w.2.2 (rl k)) : SI S so cl T b k st := by
  unfold SI SIm SIc sI at *
  simp only [hF, hq 0 (by omega), hq 2 (by omega), hq 3 (by omega), hl]
  exact h
/-- what a stage's own work changes, as the protocol sees it -/
def LD (S : TS) (k : Nat) (w b : TW) (L : List Int64) : Prop :=
  (∀ st j, st < 36 → st ≠ 3 * k → b.1 0 0 st j = w.1 0 0 st j) ∧ (∀ kd c, CI S kd c → b.1 kd 0 c 2 = w.1 kd 0 c 2) ∧ b.2.1 = w.2.1 ∧ (∀ c j, b.1 2 0 c j = w.1 2 0 c j) ∧ (∀ j, j ≠ 3 → b.1 6 0 0 j = w.1 6 0 0 j) ∧ (∀ x st, x < 4 → st < 36 → st ≠ 3 * k → b.2.2 (rs x 0 st) = w.2.2 (rs x 0 st)) ∧ (∀ j, b.2.2 (rl j) = w.2.2 (rl j)) ∧
  (∀ kd c, CI S kd c → src S kd c = k → pend S b 0 kd c = pend S w 0 kd c ++ L) ∧
  (∀ kd, CI S kd k → (pend S b 0 kd k = pend S w 0 kd k ∧ sI b (3 * k) (kd - 3) = sI w (3 * k) (kd - 3)) ∨ (∃ x, ¬ isB x ∧ pend S w 0 kd k = x :: pend S b 0 kd k ∧ sI b (3 * k) (kd - 3) = lm1 (sI w (3 * k) (kd - 3)) x ∧ w.1 kd 0 k 2 = 0)) ∧
  (∀ kd c, CI S kd c → src S kd c ≠ k → c ≠ k → pend S b 0 kd c = pend S w 0 kd c)
theorem CH3.emit {pd L : List Int64} {sh : Int32} {m cm : Int} {Pu Pc : Bool} (h : CH3 pd sh m cm Pu Pc) (hL : nob L) : CH3 (pd ++ L) sh m cm Pu Pc := by
  obtain ⟨h1, h2, h3⟩ := h
  refine ⟨fun a => ?_, fun a b => ?_, fun a b => ?_⟩
  · obtain ⟨x, y, z⟩ := h1 a; exact ⟨x.app hL, y, z⟩
  · obtain ⟨x, y⟩ := h2 a b; exact ⟨x.app hL, y⟩
  · rcases h3 a b with ⟨x, y, z⟩ | ⟨x, A, bb, B, e, f, g, i, j⟩
    · exact Or.inl ⟨x, y.app hL, z⟩
    · exact Or.inr ⟨x, A, bb, B ++ L, by rw [e, List.append_assoc, List.cons_append], f, g, i.app hL, j⟩
theorem CH3.take {pd : List Int64} {x : Int64} {sh : Int32} {m cm : Int} {Pu Pc : Bool} (h : CH3 (x :: pd) sh m cm Pu Pc) (hx : ¬ isB x) (hsh : sh = 0) : CH3 pd sh (lm1 m x) cm Pu Pc := by
  obtain ⟨h1, h2, h3⟩ := h
  have tl : nob (x :: pd) → nob pd := fun h y hy => h y (List.mem_cons_of_mem _ hy)
  refine ⟨fun a => ?_, fun a b => ?_, fun a b => ?_⟩
  · obtain ⟨p, q, r⟩ := h1 a; exact ⟨tl p, q, r⟩
  · obtain ⟨p, q⟩ := h2 a b; exact ⟨tl p, q⟩
  · rcases h3 a b with ⟨p, q, r⟩ | ⟨p, A, bb, B, e, f, g, i, j⟩
    · rw [hsh] at p; exact absurd p (by decide)
    · right
      cases A with
      | nil =>
        have := (List.cons.inj e).1
        rw [this] at hx
        exact absurd f hx
      | cons y A =>
        have e2 := List.cons.inj e
        obtain ⟨e3, e4⟩ := e2
        subst e3
        exact ⟨p, A, bb, B, e4, f, fun z hz => g z (List.mem_cons_of_mem _ hz), i, j⟩
theorem PI_loc {S : TS} {so : Nat → Nat} {cl : Prop} {T k : Nat} {w b : TW} {P : Nat → Bool} {L : List Int64} (hz : zok S) (hn : zn S ≤ 12) (hG : GS w.2.1) (hk : k < zn S) (h : PI S so cl T w P) (hD : LD S k w b L) (hL1 : nob L) (hL2 : LK (EE k) cl (sI w (3 * k) 0) L) (hL3 : lm (sI w (3 * k) 0) L = sI b (3 * k) 0) (hS : SI S (so k) cl (T + 1) b k (3 * k)) (hm : sI w (3 * k) 4 ≤ sI b (3 * k) 4) : PI S so cl (T + 1) b P := by
  obtain ⟨hPS, hPC, hPG⟩ := h
  obtain ⟨d1, d2, d3, d4, d5, d6, d7, d8, d9, d10⟩ := hD
  have sj : ∀ j s i, j < zn S → s < 3 → ¬ (j = k ∧ s = 0) → sI b (3 * j + s) i = sI w (3 * j + s) i := fun j s i hj hs hne => by unfold sI; rw [d1 _ _ (by omega) (by omega)]
  have sj0 : ∀ j i, j < zn S → j ≠ k → sI b (3 * j) i = sI w (3 * j) i := fun j i hj hne => sj j 0 i hj (by omega) (by omega)
  refine ⟨fun j hj => ?_, fun kd c hc => ?_, ?_⟩
  · obtain ⟨p1, p2, p3, p4, p5, p6, p7, p8, p9⟩ := hPS j hj
    have hg := hG 0 j
    have cp : ∀ s, s < 3 → ¬ (j = k ∧ s = 0) → SI S (so j) cl T w j (3 * j + s) → SI S (so j) cl (T + 1) b j (3 * j + s) := fun s hs hne h => (h.same (fun i => d1 _ _ (by omega) (by omega)) (fun x hx => d6 _ _ hx (by omega) (by omega)) (d7 j)).mono (by omega)
    refine ⟨?_, ?_, fun hP => ?_, ?_, fun hP => ?_, fun h0 => by rw [d4]; exact p6 h0, fun h0 => by rw [d4, d5 5 (by omega)]; exact p7 h0, fun h0 => p8 (by rw [← d4]; exact h0), fun kd hc hs => ?_⟩
    · by_cases e : j = k
      · subst e; exact hS
      · exact cp 0 (by omega) (by omega) p1
    · rw [d3]; exact cp _ (by omega) (by omega) p2
    · rw [d3]; exact cp _ (by omega) (by omega) (p3 hP)
    · rw [d3, sj j _ 4 hj (by omega) (by omega)]
      by_cases e : j = k
      · subst e; omega
      · rw [sj0 j 4 hj e]; exact p4
    · rw [d3, sj j _ 4 hj (by omega) (by omega)]
      have := p5 hP
      by_cases e : j = k
      · subst e; omega
      · rw [sj0 j 4 hj e]; exact this
    · rw [d2 kd j hc] at hs
      obtain ⟨a, c⟩ := p9 kd hc hs
      exact ⟨a, by rw [d2 _ j a]; exact c⟩
  · obtain ⟨⟨p1, p2, p3⟩, p4, p5⟩ := hPC kd c hc
    have hcn := hc.2.1
    have hu : src S kd c < c := hc.lt hz
    have hgc := hG 0 c
    have hgu := hG 0 (src S kd c)
    have e3 : sI b (3 * c + (b.2.1 0 c).1) (kd - 3) = sI b (3 * src S kd c + (b.2.1 0 (src S kd c)).1) 0 := by
      rw [d3, sj c _ _ hcn (by omega) (by omega), sj (src S kd c) _ _ (by omega) (by omega) (by omega)]
      exact p3
    have e5 : P c = true → sI b (3 * c + (b.2.1 0 c).2) (kd - 3) = sI b (3 * src S kd c + (b.2.1 0 (src S kd c)).2) 0 := fun hP => by
      rw [d3, sj c _ _ hcn (by omega) (by omega), sj (src S kd c) _ _ (by omega) (by omega) (by omega)]
      exact p5 hP
    have ecm : sI b (3 * src S kd c + (b.2.1 0 (src S kd c)).2) 0 = sI w (3 * src S kd c + (w.2.1 0 (src S kd c)).2) 0 := by rw [d3, sj (src S kd c) _ _ (by omega) (by omega) (by omega)]
    by_cases eu : src S kd c = k
    · have ec : c ≠ k := by omega
      have em : sI b (3 * c) (kd - 3) = sI w (3 * c) (kd - 3) := sj0 c _ hcn ec
      refine ⟨⟨?_, ?_, e3⟩, ?_, e5⟩
      · rw [em, d8 kd c hc eu, LK_app]
        refine ⟨p1, ?_⟩
        rw [p2, eu]
        exact hL2
      · rw [em, d8 kd c hc eu, lm_app, p2, eu]
        exact hL3
      · rw [em, d8 kd c hc eu, d2 kd c hc, ecm]
        exact p4.emit hL1
    · have emu : sI b (3 * src S kd c) 0 = sI w (3 * src S kd c) 0 := sj0 _ _ (by omega) eu
      by_cases ec : c = k
      · subst ec
        rcases d9 kd hc with ⟨a1, a2⟩ | ⟨x, a1, a2, a3, a4⟩
        · exact ⟨⟨by rw [a1, a2]; exact p1, by rw [a1, a2, emu]; exact p2, e3⟩, by rw [a1, a2, d2 kd c hc, ecm]; exact p4, e5⟩
        · rw [a2] at p1 p2 p4
          exact ⟨⟨by rw [a3]; exact p1.2.2, by rw [a3, emu]; exact p2, e3⟩, by rw [a3, d2 kd c hc, ecm]; exact p4.take a1 a4, e5⟩
      · have em : sI b (3 * c) (kd - 3) = sI w (3 * c) (kd - 3) := sj0 c _ hcn ec
        have ep := d10 kd c hc eu ec
        exact ⟨⟨by rw [ep, em]; exact p1, by rw [ep, em, emu]; exact p2, e3⟩, by rw [ep, em, d2 kd c hc, ecm]; exact p4, e5⟩
  · unfold PG at *
    rw [d5 5 (by omega), d5 7 (by omega)]
    exact hPG
