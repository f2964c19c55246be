theorem raise_lm {S : TS} {so k N M : Nat} {cl : Prop} (hn : zn S ≤ 12) (hk : k < 12) (v : TW) (t : Int32) (hN : N + 60 ≤ 4194304) (hp : PLk v k so) (h : SB so v 0 k N M) (ht : t.toInt ≤ 400 ∨ (cl ∧ t.toInt = 1000000)) :
    ∃ b L, w_X8_raiseMark S v 0 k t = b ∧ EM S 0 k v b L ∧ nob L ∧ LK (EE k) cl (sI v (3 * k) 0) L ∧ lm (sI v (3 * k) 0) L = sI b (3 * k) 0 ∧ (∀ j, 1 ≤ j → j ≠ 5 → b.1 0 0 (3 * k) j = v.1 0 0 (3 * k) j) ∧ (so ≠ 3 → so ≠ 4 → b.1 0 0 (3 * k) 5 = v.1 0 0 (3 * k) 5) ∧
      ((sI v (3 * k) 0 < t.toInt ∧ sI b (3 * k) 0 = t.toInt ∧ (t.toInt = 1000000 → (b.2.2 (rs 0 0 (3 * k))).2 = [] ∧ (b.2.2 (rs 2 0 (3 * k))).2 = [] ∧ (b.2.2 (rs 3 0 (3 * k))).2 = [])) ∨ (t.toInt ≤ sI v (3 * k) 0 ∧ b = v)) := by
  have hb := EE_b hk
  by_cases hlt : v.1 0 0 (3 * k) 0 < t
  · have hm := h.2.1 0 (by omega) 0 (by omega)
    have h0 := zi_lt.mp hlt
    have h0' : -1 ≤ (v.1 0 0 (3 * k) 0).toInt := hm.1
    have et := zi_of (x := t) (by omega)
    have htn : t.toInt.toNat < 2 ^ 20 := by omega
    obtain ⟨L, r1, r2, r3, r4, r5, r6, r7, r8, r9⟩ := rm_ok hn v 0 k (by omega) hk t t.toInt.toNat et htn hb.1 (by omega) hp (h.1 0 (by omega)) hlt
    have hmark : ∀ x, x ∈ [v_X3_mark t] → x = v_X3_mark (nI t.toInt.toNat) := fun x hx => by rw [List.mem_singleton.mp hx]; exact congrArg _ et
    have hl1 : lm1 (sI v (3 * k) 0) (v_X3_mark t) = t.toInt := by
      rw [show v_X3_mark t = v_X3_mark (nI t.toInt.toNat) from congrArg _ et, mk_lm1 _ htn]
      omega
    refine ⟨_, L ++ [v_X3_mark t], rfl, r3, (nob.ev r2).app (fun x hx => by rw [hmark x hx]; exact mk_nob htn), (LK_app _ _ _).mpr ⟨LK_ev L _ r2 (fun _ => by unfold sI; omega), ?_⟩, ?_, r6, r7, Or.inl ⟨h0, ?_, fun hl => r9 (zi_eq.mpr (by rw [zi_L]; exact hl))⟩⟩
    · rw [lm_ev L _ r2]
      refine ⟨fun hk0 => ?_, fun _ => ?_, trivial⟩
      · rw [show v_X3_mark t = v_X3_mark (nI t.toInt.toNat) from congrArg _ et, mk_kind _ htn] at hk0
        exact absurd hk0 (by decide)
      · rw [show v_X3_mark t = v_X3_mark (nI t.toInt.toNat) from congrArg _ et, mk_time _ htn, ← et]
        exact ⟨h0, ht⟩
    · rw [lm_app, lm_ev L _ r2, lm_one, hl1]
      unfold sI
      rw [r5]
    · unfold sI
      rw [r5]
  · refine ⟨v, [], rm_not v 0 k t hlt, EM.of rfl, nob.nil, trivial, rfl, fun _ _ _ => rfl, fun _ _ => rfl, Or.inr ⟨?_, rfl⟩⟩
    have : ¬ (v.1 0 0 (3 * k) 0).toInt < t.toInt := fun h => hlt (zi_lt.mpr h)
    unfold sI
    omega
theorem no_in {S : TS} {k so : Nat} (h0 : so = 0) (hs0 : so = 0 → ¬ (zp S 0 k).isSome = true) (hs2 : (zp S 1 k).isSome = true ↔ so = 5 ∨ so = 6) : ∀ kd, ¬ CI S kd k := fun kd h => by
  rcases h.1 with e | e
  · rw [e] at h; exact hs0 h0 h.2.2
  · rw [e] at h
    have := hs2.mp h.2.2
    omega
/-- what a step makes of the protocol -/
theorem step_PI {S : TS} {so : Nat → Nat} {cl : Prop} {w : TW} {k C T : Nat} {N M : Nat → Nat} {P : Nat → Bool} (hGI : GI S so w) (hG : GS w.2.1) (hB : BI S so w 0 N M C) (hN : ∀ j, j < zn S → N j + 100 ≤ 4194304) (hT : T ≤ 1000000) (hk : k < zn S) (hcw : ¬ v_X8_canWork S w.1 w.2.1 w.2.2 0 k (w.1 6 0 0 2) = 0) (hP : PI S so cl T w P) :
    ∃ P', PI S so cl (T + 2) (w_X2_step S w 0 k).1 P' ∧ ∀ j, j < zn S → sI w (3 * j) 0 ≤ sI (w_X2_step S w 0 k).1 (3 * j) 0 := by
  obtain ⟨hn, hz, hgi⟩ := hGI
  obtain ⟨hC, hcap, hC9, hSB⟩ := hB
  have hk12 : k < 12 := by omega
  obtain ⟨hpl, hlogR, hlogE, hs0, hs1, hs2⟩ := hgi k hk
  have hb := EE_b hk12
  have hNk := hN k hk
  obtain ⟨w2, hP0, hST⟩ := step_cases (S := S) (w := w) (fl := 0) (k := k) (so := so k) (C := C) (B := 4194304) hn hz (by omega) hk hC (fun u hu => (hSB u hu).2.2.1.mono (by have := hN u hu; omega)) (Nat.le_refl _) hcap (by omega) hpl.1 hpl.2.1 hcw
  obtain ⟨p1, p2, p3, p4, p5, p6, p7, p8, p9⟩ := hP0
  have hG2 : GS w2.2.1 := by rw [p1]; exact hG
  have f0 : ∀ st i, w2.1 0 0 st i = w.1 0 0 st i := fun st i => p2 _ _ _ _ (fun h => by have := h.1.1; omega) (by omega)
  have hrs2 : ∀ x st, x < 4 → st < 36 → w2.2.2 (rs x 0 st) = w.2.2 (rs x 0 st) := fun x st hx hst => p4 _ (rs_ri hx (by omega) hst)
  have hrl2 : ∀ j, w2.2.2 (rl j) = w.2.2 (rl j) := fun j => p4 _ (rl_ri (by omega) hk12)
  have hS2 : SB (so k) w2 0 k (N k) (M k) := by
    obtain ⟨h1, h2, h3, h4, h5, h6⟩ := hSB k hk
    refine ⟨fun s hs => (h1 s hs).same (fun x hx => hrs2 x _ hx (by omega)), fun s hs i hi => by rw [f0]; exact h2 s hs i hi, p8 _ h3, by rw [p4 _ (ro_ri (by omega) hk12)]; exact h4, fun x hx => h5 x (p9 x hx), fun h0 s hs => ?_⟩
    obtain ⟨tk, a, c⟩ := h6 h0 s hs
    exact ⟨tk, by rw [f0]; exact a, by rw [hrl2]; exact c⟩
  have hpl2 : PLk w2 k (so k) := hpl.same (fun j => p2 _ _ _ _ (fun h => by have := h.1.1; omega) (by omega))
  have hlen2 : (w2.2.2 (ri 0 k)).2.length ≤ 18 := by omega
  have mk0 : ∀ st i, sI w2 st i = sI w st i := fun st i => by unfold sI; rw [f0]
  -- the protocol behind the forgetting
  have hD0 : LD S k w w2 [] := ⟨fun st j _ _ => f0 st j, fun kd c hc => p2 _ _ _ _ (by omega) (by have := hc.1; omega), p1, fun c j => p2 _ _ _ _ (fun h => by have := h.1.1; omega) (by omega), fun j hj => p2 _ _ _ _ (fun h => by have := h.1.1; omega) (by omega), fun x st hx h1 _ => hrs2 x st hx h1, hrl2, fun kd c hc _ => by rw [List.append_nil]; exact p6 kd c hc, fun kd hc => Or.inl ⟨p6 kd k hc, mk0 _ _⟩, fun kd c hc _ _ => p6 kd c hc⟩
  have hP2 : PI S so cl (T + 1) w2 P := PI_loc hz hn hG hk hP hD0 nob.nil trivial (mk0 _ _).symm (((hP.1 k hk).1.same (fun j => f0 _ _) (fun x hx => hrs2 x _ hx (by omega)) (hrl2 k)).mono (by omega)) (by rw [mk0]; exact Int.le_refl _)
  obtain ⟨⟨⟨s1, s2, s3, s4⟩, s5⟩, q2, q3, q4, q5, q6, q7, q8, q9⟩ := hP2.1 k hk
  have low : ∀ x, x < 4 → ∀ v : TW, v.2.2 = w2.2.2 → (v.2.2 (rs x 0 (3 * k))).2.length < 2 ^ 31 := fun x hx v hv => by
    rw [hv]
    have hh := hS2.1 0 (by omega)
    have hx4 : x = 0 ∨ x = 1 ∨ x = 2 ∨ x = 3 := by omega
    rcases hx4 with rfl | rfl | rfl | rfl
    · have := hh.1.1.1; simp only [Nat.add_zero] at this; omega
    · have := hh.1.2.1.1; simp only [Nat.add_zero] at this; omega
    · have := hh.2.1.1.1; simp only [Nat.add_zero] at this; omega
    · have := hh.2.2.1.1.1; simp only [Nat.add_zero] at this; omega
  -- the end of a case without a barrier
  have fin : ∀ (b : TW) (L : List Int64), LD S k w2 b L → nob L → LK (EE k) cl (sI w2 (3 * k) 0) L → lm (sI w2 (3 * k) 0) L = sI b (3 * k) 0 → SI S (so k) cl (T + 2) b k (3 * k) → sI w2 (3 * k) 4 ≤ sI b (3 * k) 4 → sI w2 (3 * k) 0 ≤ sI b (3 * k) 0 → ∃ P', PI S so cl (T + 2) b P' ∧ ∀ j, j < zn S → sI w (3 * j) 0 ≤ sI b (3 * j) 0 := fun b L e1 e2 e3 e4 e5 e6 e7 => by
    refine ⟨P, PI_loc hz hn hG2 hk hP2 e1 e2 e3 e4 e5 e6, fun j hj => ?_⟩
    by_cases e : j = k
    · subst e; rw [← mk0]; exact e7
    · have : sI b (3 * j) 0 = sI w2 (3 * j) 0 := by unfold sI; rw [e1.1 _ _ (by omega) (by omega)]
      rw [this, mk0]
      exact Int.le_refl _
  have up : ∀ b : TW, (∃ P', PI S so cl (T + 1) b P' ∧ ∀ j, j < zn S → sI b (3 * j) 0 = sI w2 (3 * j) 0) → ∃ P', PI S so cl (T + 2) b P' ∧ ∀ j, j < zn S → sI w (3 * j) 0 ≤ sI b (3 * j) 0 := fun b h => by
    obtain ⟨P', a, c⟩ := h
    exact ⟨P', a.mono (by omega), fun j hj => by rw [c j hj, mk0]; exact Int.le_refl _⟩
  rcases hST with ⟨s0, ow, hr⟩ | ⟨s0, ow, hr⟩ | ⟨s0, kd, x, rest, w3, hc, hsh, hpd, h3, hk3⟩
  · rw [hr]
    have h7 := q7 s0
    have hbg : ¬ w2.1 6 0 0 5 = 0 := fun h => ow (h7.mpr (Or.inl h))
    have hPk : P k = false := by
      cases hh : P k with
      | false => rfl
      | true => exact absurd (h7.mpr (Or.inr hh)) ow
    have nin := no_in s0 hs0 hs2
    exact up _ (pass_PI hn hz hG2 hk p5 hP2 hPk hbg (fun x hx => low x hx w2 rfl) (fun _ _ _ _ => rfl) (fun _ _ _ _ => rfl) (fun kd hc => absurd hc (nin kd)) rfl (fun _ _ => rfl) (fun _ _ => rfl) (fun _ _ _ _ => rfl) (fun kd hc => absurd hc (nin kd)))
  · rw [hr]
    have nin := no_in s0 hs0 hs2
    obtain ⟨tk0, lt, c1, c2, c3, c4, c5, c6, c7⟩ := s5
    obtain ⟨tk, t1, t2⟩ := hS2.2.2.2.2.2 s0 0 (by omega)
    have hlog : RBd 60 (w2.2.2 (rl k)) := by rw [hrl2]; exact hlogR
    have hlenl := hlog.1
    have etk : tk0 = tk := by
      have := c1.symm.trans t1
      exact (nI_eq (by omega) (by omega)).mp this
    subst etk
    obtain ⟨sl, sl1, sl2⟩ := hpl2.2.2.2.2.2.2.2 s0
    rcases read_ok (S := S) (w := w2) (fl := 0) (k := k) t1 t2 hlog (by omega) with ⟨r1, ev, r2, r3⟩ | ⟨r1, r3⟩
    · rw [r3]
      have hnl : sI w2 (3 * k) 0 < 1000000 := (s1 0 (by omega)).nl (fun h => by
        have := (s4 h).2.2 s0
        rw [c1] at this
        have := (nI_eq (by omega) (by omega)).mp this
        omega)
      have hev0 : v_X3_kind ev = 0 ∧ (v_X3_time ev).toInt ≤ 400 := by
        rw [hrl2] at r2
        exact hlogE ev r2
      have hev : v_X3_kind ev = 0 ∧ (v_X3_time ev).toInt ≤ EE k := ⟨hev0.1, by omega⟩
      obtain ⟨v1, hv1⟩ : ∃ v1, v1 = zset w2 0 0 (3 * k) 4 (nI (tk0 + 1)) := ⟨_, rfl⟩
      rw [← hv1]
      have hq1 : v1.2.2 = w2.2.2 := by rw [hv1]; rfl
      have hL : Loc 0 k w2 (w_X8_emit S v1 0 k ev) := loc_X8_emit S v1 0 k ev (by rw [hv1]; exact Loc.set ⟨rfl, rfl, rfl⟩ Loc.rf)
      have hEm : EM S 0 k w2 (w_X8_emit S v1 0 k ev) [ev] := by have := emit_EM hn v1 0 k ev; unfold EM at *; rw [← hq1]; exact this
      have hrow := emit_row hn v1 0 k ev
      have hfr := emit_f hn v1 0 k ev
      have hv1F : ∀ j, j ≠ 4 → v1.1 0 0 (3 * k) j = w2.1 0 0 (3 * k) j := fun j hj => by rw [hv1, zset_F, if_neg (by omega)]
      have hSv : SB (so k) (w_X8_emit S v1 0 k ev) 0 k (N k) (M k) := by
        refine hS2.loc (by omega) hk12 hL (Nat.le_refl _) ((hS2.1 0 (by omega)).same (fun x hx => by rw [Nat.add_zero, hrow _ (rs_ri hx (by omega) (by omega)), hq1])) (fun j hj => ?_) ?_ (by rw [hrow _ (ro_ri (by omega) hk12), hq1]; exact hS2.2.2.2.1) ?_ (fun _ => ⟨tk0 + 1, ?_, ?_⟩)
        · rw [hfr _ _ _ _ (by omega), hv1F j (by omega)]; exact hS2.2.1 0 (by omega) j hj
        · exact hEm.2 _ hS2.2.2.1 (by simp only [List.length_cons, List.length_nil]; omega)
        · rw [hEm.1]; exact ITk.app hS2.2.2.2.2.1 (EvL.it (EvL.one hev))
        · rw [hfr _ _ _ _ (by omega), hv1, zset_F, if_pos ⟨rfl, rfl, rfl, rfl⟩]
        · rw [hrow _ (rl_ri (by omega) hk12), hq1]; omega
      have hplv : PLk (w_X8_emit S v1 0 k ev) k (so k) := hpl2.same (fun j => hL.2.1 _ _ _ _ (by omega))
      have htl : ((v_X3_time ev) - w2.1 8 0 k 3).toInt ≤ 400 := by
        obtain ⟨t, ht, et⟩ := it_timeE ev
        rw [et, sl1, fb_subI (by rw [zi_nI (by omega), zi_nI (by omega)]; omega) (by rw [zi_nI (by omega), zi_nI (by omega)]; omega), zi_nI (by omega), zi_nI (by omega)]
        have := hev0.2
        rw [et, zi_nI (by omega)] at this
        omega
      have mv : sI (w_X8_emit S v1 0 k ev) (3 * k) 0 = sI w2 (3 * k) 0 := by unfold sI; rw [hfr _ _ _ _ (by omega), hv1F 0 (by omega)]
      obtain ⟨b, L, b1, b2, b3, b4, b5, b6, b7, b8⟩ := raise_lm (cl := cl) hn hk12 (w_X8_emit S v1 0 k ev) (v_X3_time ev - w2.1 8 0 k 3) (by omega) hplv hSv (Or.inl htl)
      have hLr : Loc 0 k w2 b := by rw [← b1]; exact loc_X8_raiseMark S (w_X8_emit S v1 0 k ev) 0 k (v_X3_time ev - w2.1 8 0 k 3) hL
      rw [b1]
      have bF : ∀ j, 1 ≤ j → j ≠ 4 → j ≠ 5 → b.1 0 0 (3 * k) j = w2.1 0 0 (3 * k) j := fun j h1 h4 h5 => by rw [b6 j h1 h5, hfr _ _ _ _ (by omega), hv1F j h4]
      have b4' : b.1 0 0 (3 * k) 4 = nI (tk0 + 1) := by rw [b6 4 (by omega) (by omega), hfr _ _ _ _ (by omega), hv1, zset_F, if_pos ⟨rfl, rfl, rfl, rfl⟩]
      have b5' : b.1 0 0 (3 * k) 5 = w2.1 0 0 (3 * k) 5 + 1 := by rw [b7 (by omega) (by omega), emit_5 hn, if_pos hev.1, hv1F 5 (by omega)]
      have eev : lm (sI w2 (3 * k) 0) [ev] = sI w2 (3 * k) 0 := lm_ev (E := EE k) _ _ (EvL.one hev)
      have bge : sI w2 (3 * k) 0 ≤ sI b (3 * k) 0 ∧ sI b (3 * k) 0 < 1000000 ∧ OKm cl (sI b (3 * k) 0) := by
        have m0 := s1 0 (by omega)
        rcases b8 with ⟨u1, u2, -⟩ | ⟨u1, u2⟩
        · rw [mv] at u1
          rw [u2]
          exact ⟨by omega, by omega, ⟨by have := m0.1; omega, Or.inl htl⟩⟩
        · rw [u2, mv]; exact ⟨Int.le_refl _, hnl, m0⟩
      refine fin b ([ev] ++ L) (LD_of hn hz hk p5 hLr (hEm.tr b2) rfl (fun _ _ _ _ _ _ => rfl) (fun _ _ _ _ => rfl) (fun kd hc => absurd hc (nin kd))) ((nob.ev (EvL.one hev)).app b3) ((LK_app _ _ _).mpr ⟨LK_ev _ _ (EvL.one hev) (fun _ => hnl), by rw [eev, ← mv]; exact b4⟩) (by rw [lm_app, eev, ← mv]; exact b5) ⟨⟨fun j hj => ?_, fun h => absurd s0 h, fun h => absurd s0 h, fun h => ?_⟩, ?_⟩ ?_ bge.1
      · by_cases e : j = 0
        · subst e; exact bge.2.2
        · unfold sI; rw [bF j (by omega) (by omega) (by omega)]; exact s1 j hj
      · exfalso; have := bge.2.1; omega
      · exact ⟨tk0 + 1, lt, b4', by rw [bF 6 (by omega) (by omega) (by omega)]; exact c2, by omega, by omega, fun h => by rw [b5', c5 h, c1, b4', nI_1], by omega, by omega⟩
      · rw [sI_nI c1 (by omega), sI_nI b4' (by omega)]; omega
    · rw [r3]
      have hunr : ¬ 0 < v_X8_unread S w.1 w.2.1 w.2.2 0 k := by
        rw [unr_ok (tk := tk0) (by rw [← f0]; exact t1) (by rw [← hrl2]; omega), ← hrl2, r1, Nat.sub_self]
        decide
      obtain ⟨-, hcw2⟩ := cw_ok hcw
      have hcm : cl ∧ ¬ w2.1 0 0 (3 * k) 0 = 1000000 := by
        rcases hcw2 with ⟨-, h | h | ⟨h1, h2⟩⟩ | ⟨h, -⟩
        · exact absurd (by rw [← p2 _ _ _ _ (fun h => by have := h.1.1; omega) (by omega)]; exact ow) h
        · exact absurd h hunr
        · exact ⟨q8 (by rw [p2 _ _ _ _ (fun h => by have := h.1.1; omega) (by omega)]; exact h1), by rw [f0]; exact h2⟩
        · exact absurd (by rw [hpl.1, s0]; rfl) h
      have hnl : sI w2 (3 * k) 0 < 1000000 := (s1 0 (by omega)).nl (fun h => hcm.2 (zi_eq.mpr (by rw [zi_L]; exact h)))
      obtain ⟨b, L, b1, b2, b3, b4, b5, b6, b7, b8⟩ := raise_lm (cl := cl) hn hk12 w2 1000000 (by omega) hpl2 hS2 (Or.inr ⟨hcm.1, zi_L⟩)
      have hLr : Loc 0 k w2 b := by rw [← b1]; exact loc_X8_raiseMark S w2 0 k 1000000 Loc.rf
      rw [b1]
      rcases b8 with ⟨u1, u2, u3⟩ | ⟨u1, -⟩
      · rw [zi_L] at u2
        refine fin b L (LD_of hn hz hk p5 hLr b2 rfl (fun _ _ _ _ _ _ => rfl) (fun _ _ _ _ => rfl) (fun kd hc => absurd hc (nin kd))) b3 b4 b5 ⟨⟨fun j hj => ?_, fun h => absurd s0 h, fun h => absurd s0 h, fun h => ⟨fun h => absurd s0 h, u3 zi_L, fun _ => ?_⟩⟩, ?_⟩ ?_ (by omega)
        · by_cases e : j = 0
          · subst e; exact ⟨by omega, Or.inr ⟨hcm.1, u2⟩⟩
          · unfold sI; rw [b6 j (by omega) (by omega)]; exact s1 j hj
        · rw [b6 4 (by omega) (by omega), c1, r1, (TOn.loc (by omega) hk12 hLr).2.2.2.2.1 k]
        · exact (show SIc (so k) (T + 2) b (3 * k) from SIc.same ⟨tk0, lt, c1, c2, c3, by omega, c5, c6, c7⟩ (b6 4 (by omega) (by omega)) (b6 6 (by omega) (by omega)) (b6 7 (by omega) (by omega)) b7)
        · unfold sI; rw [b6 4 (by omega) (by omega)]; exact Int.le_refl _
      · rw [zi_L] at u1; omega
  · have hu : src S kd k < k := hc.lt hz
    have h45 := hc.1
    have hru : (w2.2.2 (rin S 0 kd k)) = w.2.2 (rin S 0 kd k) := p4 _ (fun e => by have h9 : src S kd k = k := ri_eq e; omega)
    have hRu := (hSB (src S kd k) (by omega)).2.2.1
    obtain ⟨a1, a2, a3, a4, a5⟩ := eff_take p5 (by rw [hru]; have := hRu.1; have := hN (src S kd k) (by omega); show (w.2.2 (ri 0 (src S kd k))).2.length < 2 ^ 31; omega) hc hpd h3
    have hq3 : w3.2.2 = w2.2.2 := by rw [a4]
    have hS3 : SB (so k) w3 0 k (N k) (M k) := hS2.same (fun s i hs hi h3 => a5 _ _ _ _ (by omega) (by omega)) hq3
    have hpl3 : PLk w3 k (so k) := hpl2.same (fun j => a5 _ _ _ _ (by omega) (by omega))
    have w3F : ∀ j, j ≠ 3 → w3.1 0 0 (3 * k) j = w2.1 0 0 (3 * k) j := fun j hj => a5 _ _ _ _ (by omega) (by omega)
    have hxin : x ∈ (w.2.2 (ri 0 (src S kd k))).2 := by
      have : x ∈ pend S w2 0 kd k := by rw [hpd]; exact List.mem_cons_self
      unfold pend at this
      rw [hru] at this
      exact List.mem_of_mem_drop this
    obtain ⟨⟨k1, k2, k3⟩, k4, k5⟩ := hP2.2.1 kd k hc
    rw [hpd] at k1 k2 k4
    -- the mark of the input below the end, and so the stage's own
    have hnl : sI w2 (3 * k) (kd - 3) < 1000000 → sI w2 (3 * k) 0 < 1000000 := fun hlt => (s1 0 (by omega)).nl (fun h => by
      obtain ⟨l1, l2⟩ := (s4 h).1 s0
      rcases h45 with e | e
      · rw [e] at hlt
        have : sI w2 (3 * k) 1 < 1000000 := hlt
        omega
      · rw [e] at hlt hc
        have : sI w2 (3 * k) 2 < 1000000 := hlt
        have := l2 hc.2.2
        omega)
    have f3 : ∀ kd' f a j, ¬ (a = k ∧ j = 1 ∧ (kd' = 4 ∨ kd' = 5)) → ¬ (kd' = 0 ∧ f = 0 ∧ a = 3 * k) → w3.1 kd' f a j = w2.1 kd' f a j := fun kd' f a j h1 h2 => a5 _ _ _ _ (by omega) (by omega)
    have p3' : ∀ kd' c, CI S kd' c → c ≠ k → pend S w3 0 kd' c = pend S w2 0 kd' c := fun kd' c hc' hne => a3 kd' c hc' (fun h => hne h.2)
    rcases hk3 with ⟨k0, hr⟩ | ⟨kk1, hr⟩ | ⟨k0, kk1, o, hr⟩ | ⟨k0, kk1, o, hr⟩
    · rw [hr]
      have hxt := (hSB (src S kd k) (by omega)).2.2.2.2.1 x hxin k0
      have hTE := te_ok hn w3 0 k (by omega) hk12 x (nI (kd - 4)) k0 hxt (EE_le hu) hb.2.1 (by omega) hpl3 s0 (hS3.1 0 (by omega))
      have hL := loc_X8_takeEvent S w3 0 k x (nI (kd - 4)) (w0 := w3) Loc.rf
      have hTE' := hTE
      obtain ⟨L, e1, e2, e3, e4, e5, e6, e7, -⟩ := hTE'
      have hm := hnl (k1.1 k0).1
      have l1x : lm1 (sI w2 (3 * k) (kd - 3)) x = sI w2 (3 * k) (kd - 3) := by unfold lm1; rw [if_neg (by rw [k0]; decide)]
      have bF : ∀ j, j < 3 → sI (w_X8_takeEvent S w3 0 k x (nI (kd - 4))) (3 * k) j = sI w2 (3 * k) j := fun j hj => by unfold sI; rw [e5 j (by omega), w3F j (by omega)]
      have hSc3 : SIc (so k) (T + 1) w3 (3 * k) := SIc.same s5 (w3F 4 (by omega)) (w3F 6 (by omega)) (w3F 7 (by omega)) (fun _ _ => w3F 5 (by omega))
      refine fin _ L (LD_of hn hz hk a1 hL e3 a4 f3 p3' (fun kd' hc' => ?_)) (nob.ev e2) (LK_ev _ _ e2 (fun _ => hm)) (by rw [lm_ev L _ e2, bF 0 (by omega)]) ⟨⟨fun j hj => ?_, ?_, ?_, fun h => ?_⟩, hSc3.ev s0 hTE⟩ ?_ (by rw [bF 0 (by omega)]; exact Int.le_refl _)
      · have h45' := hc'.1
        by_cases e : kd' = kd
        · subst e
          exact Or.inr ⟨x, fun h => h.1 k0, by rw [a2]; exact hpd, by rw [bF _ (by omega), l1x], hsh⟩
        · exact Or.inl ⟨a3 kd' k hc' (fun h => e h.1), bF _ (by omega)⟩
      · rw [bF j hj]; exact s1 j hj
      · rw [bF 0 (by omega), bF 1 (by omega), bF 2 (by omega)]; exact s2
      · rw [bF 0 (by omega), bF 1 (by omega)]; exact s3
      · rw [bF 0 (by omega)] at h; omega
      · obtain ⟨tk0, lt, c1, -, -, c4, -⟩ := s5
        have : (w_X8_takeEvent S w3 0 k x (nI (kd - 4))).1 0 0 (3 * k) 4 = nI (tk0 + 1) := by rw [e6, w3F 4 (by omega), c1, nI_1]
        rw [sI_nI c1 (by omega), sI_nI this (by omega)]; omega
    · rw [hr]
      obtain ⟨v, v1, v2⟩ := least_ok (S := S) w3 0 k kd (v_X3_time x) h45
      rw [v2]
      obtain ⟨t, ht, et⟩ := it_timeE x
      have hLv : Loc 0 k w3 v := by rw [v1]; exact Loc.set ⟨rfl, rfl, rfl⟩ Loc.rf
      have hqv : v.2 = w3.2 := by rw [v1]; rfl
      have hqv2 : v.2.2 = w3.2.2 := by rw [hqv]
      have hFv : ∀ j, j ≠ kd - 3 → v.1 0 0 (3 * k) j = w3.1 0 0 (3 * k) j := fun j hj => by rw [v1, zset_F, if_neg (by omega)]
      have hFk : v.1 0 0 (3 * k) (kd - 3) = v_X3_time x := by rw [v1, zset_F, if_pos ⟨rfl, rfl, rfl, rfl⟩]
      have hxm := k1.2.1 kk1
      have tx0 : 0 ≤ (v_X3_time x).toInt := by rw [et, zi_nI (by omega)]; omega
      have tx1 : (v_X3_time x).toInt < 1048576 := by rw [et, zi_nI (by omega)]; omega
      have okx : OKm cl (v_X3_time x).toInt := ⟨by omega, hxm.2⟩
      have hMv : MI v 0 (3 * k) := fun j hj => by
        by_cases e : j = kd - 3
        · rw [e, hFk]; omega
        · rw [hFv j e]; exact hS3.2.1 0 (by omega) j hj
      have hSv : SB (so k) v 0 k (N k) (M k) := hS3.loc (by omega) hk12 hLv (Nat.le_refl _) ((hS3.1 0 (by omega)).same (fun x hx => by rw [hqv2])) hMv (by rw [hqv2]; exact hS3.2.2.1) (by rw [hqv2]; exact hS3.2.2.2.1) (by rw [hqv2]; exact hS3.2.2.2.2.1) (fun h0 => absurd h0 s0)
      have hplv : PLk v k (so k) := hpl3.same (fun j => hLv.2.1 _ _ _ _ (by omega))
      have vS : ∀ j, j < 3 → OKm cl (sI v (3 * k) j) := fun j hj => by
        by_cases e : j = kd - 3
        · unfold sI; rw [e, hFk]; exact okx
        · unfold sI; rw [hFv j e, w3F j (by omega)]; exact s1 j hj
      have v0 : sI v (3 * k) 0 = sI w2 (3 * k) 0 := by unfold sI; rw [hFv 0 (by omega), w3F 0 (by omega)]
      obtain ⟨lv, hlv⟩ : ∃ lv, lv = (if (zp S 1 k).isSome = true then zmin (v.1 0 0 (3 * k) 1) (v.1 0 0 (3 * k) 2) else v.1 0 0 (3 * k) 1) := ⟨_, rfl⟩
      rw [← hlv]
      have lvo : OKm cl lv.toInt := by
        rw [hlv]
        split
        · rcases zmin_or (v.1 0 0 (3 * k) 1) (v.1 0 0 (3 * k) 2) with h | h <;> rw [h]
          · exact vS 1 (by omega)
          · exact vS 2 (by omega)
        · exact vS 1 (by omega)
      have lvmin : ((zp S 1 k).isSome = true → lv.toInt = min (sI v (3 * k) 1) (sI v (3 * k) 2)) ∧ (¬ (zp S 1 k).isSome = true → lv.toInt = sI v (3 * k) 1) := by
        rw [hlv]
        exact ⟨fun h => by rw [if_pos h, zi_min]; rfl, fun h => by rw [if_neg h]; rfl⟩
      have hCv : CHK S v 0 := fun kd' c' hc' => by
        have := a1 kd' c' hc'
        have h45' := hc'.1
        unfold gvn at *
        rw [(hLv.ch (by omega) hk12).1 _ _ h45', hqv2]
        exact this
      have pv : ∀ kd' c, CI S kd' c → pend S v 0 kd' c = pend S w3 0 kd' c := fun kd' c hc' => by
        have h45' := hc'.1
        unfold pend gvn
        rw [(hLv.ch (by omega) hk12).1 _ _ h45', hqv2]
      obtain ⟨b, L, b1, b2, b3, b4, b5, b6, b7, b8⟩ := raise_lm (cl := cl) hn hk12 v lv (by omega) hplv hSv lvo.2
      have hLb : Loc 0 k v b := by rw [← b1]; exact loc_X8_raiseMark S v 0 k lv Loc.rf
      rw [b1]
      have bj : ∀ j, 1 ≤ j → j < 3 → sI b (3 * k) j = sI v (3 * k) j := fun j h1 h2 => by unfold sI; rw [b6 j h1 (by omega)]
      have mlt : sI w2 (3 * k) (kd - 3) < (v_X3_time x).toInt := hxm.1
      have m2nl : sI w2 (3 * k) 0 < 1000000 := hnl (by have := okx.lt; omega)
      have b0 : sI w2 (3 * k) 0 ≤ sI b (3 * k) 0 ∧ lv.toInt ≤ sI b (3 * k) 0 ∧ OKm cl (sI b (3 * k) 0) ∧ (sI b (3 * k) 0 = 1000000 → lv.toInt = 1000000 ∧ (b.2.2 (rs 0 0 (3 * k))).2 = [] ∧ (b.2.2 (rs 2 0 (3 * k))).2 = [] ∧ (b.2.2 (rs 3 0 (3 * k))).2 = []) := by
        rcases b8 with ⟨u1, u2, u3⟩ | ⟨u1, u2⟩
        · rw [v0] at u1
          exact ⟨by omega, by omega, by rw [u2]; exact lvo, fun h => ⟨by omega, u3 (by omega)⟩⟩
        · rw [u2, v0]
          rw [v0] at u1
          exact ⟨Int.le_refl _, u1, s1 0 (by omega), fun h => by omega⟩
      have vkd : sI v (3 * k) (kd - 3) = (v_X3_time x).toInt := by unfold sI; rw [hFk]
      have l1x : lm1 (sI w2 (3 * k) (kd - 3)) x = (v_X3_time x).toInt := by unfold lm1; rw [if_pos kk1]
      have vF4 : ∀ j, 3 < j → v.1 0 0 (3 * k) j = w2.1 0 0 (3 * k) j := fun j hj => by rw [hFv j (by omega), w3F j (by omega)]
      have hSc : SIc (so k) (T + 2) b (3 * k) := by
        obtain ⟨tk0, lt, c1, c2, c3, c4, c5⟩ := s5
        refine SIc.same (w := w2) ⟨tk0, lt, c1, c2, c3, by omega, c5⟩ ?_ ?_ ?_ (fun n3 n4 => ?_)
        · rw [b6 4 (by omega) (by omega), vF4 4 (by omega)]
        · rw [b6 6 (by omega) (by omega), vF4 6 (by omega)]
        · rw [b6 7 (by omega) (by omega), vF4 7 (by omega)]
        · rw [b7 n3 n4, vF4 5 (by omega)]
      refine fin b L (LD_of hn hz hk hCv hLb b2 (by rw [hqv, a4]) (fun kd' f a j h1 h2 => by rw [hLv.2.1 _ _ _ _ h2]; exact f3 _ _ _ _ h1 h2) (fun kd' c hc' hne => by rw [pv kd' c hc']; exact p3' kd' c hc' hne) (fun kd' hc' => ?_)) b3 (by rw [← v0]; exact b4) (by rw [← v0]; exact b5) ⟨⟨fun j hj => ?_, fun _ h2 => ?_, fun _ h2 => ?_, fun h => ?_⟩, hSc⟩ ?_ b0.1
      · have h45' := hc'.1
        by_cases e : kd' = kd
        · subst e
          exact Or.inr ⟨x, fun h => h.2 kk1, by rw [pv _ _ hc', a2]; exact hpd, by rw [bj _ (by omega) (by omega), vkd, l1x], hsh⟩
        · refine Or.inl ⟨by rw [pv _ _ hc']; exact a3 kd' k hc' (fun h => e h.1), ?_⟩
          rw [bj _ (by omega) (by omega)]
          unfold sI
          rw [hFv _ (by omega), w3F _ (by omega)]
      · by_cases e : j = 0
        · subst e; exact b0.2.2.1
        · rw [bj j (by omega) hj]; exact vS j hj
      · rw [bj 1 (by omega) (by omega), bj 2 (by omega) (by omega), ← lvmin.1 h2]; exact b0.2.1
      · rw [bj 1 (by omega) (by omega), ← lvmin.2 h2]; exact b0.2.1
      · obtain ⟨l1, l2⟩ := b0.2.2.2 h
        have o1 := (vS 1 (by omega)).lt
        have o2 := (vS 2 (by omega)).lt
        refine ⟨fun _ => ?_, l2, fun h0 => absurd h0 s0⟩
        rw [bj 1 (by omega) (by omega), bj 2 (by omega) (by omega)]
        by_cases h2 : (zp S 1 k).isSome = true
        · have := lvmin.1 h2
          exact ⟨by omega, fun _ => by omega⟩
        · have := lvmin.2 h2
          exact ⟨by omega, fun h => absurd h h2⟩
      · unfold sI
        rw [b6 4 (by omega) (by omega), vF4 4 (by omega)]
        exact Int.le_refl _
    · rw [hr]
      have hxB : isB x := ⟨k0, kk1⟩
      obtain ⟨g1, g2, g3, g4⟩ := k4.bar hxB
      have l1x : lm1 (sI w2 (3 * k) (kd - 3)) x = sI w2 (3 * k) (kd - 3) := by unfold lm1; rw [if_neg kk1]
      have kr1 : LK (EE (src S kd k)) cl (sI w2 (3 * k) (kd - 3)) rest := by have := k1.2.2; rw [l1x] at this; exact this
      have kr2 : lm (sI w2 (3 * k) (kd - 3)) rest = sI w2 (3 * src S kd k) 0 := by
        have : lm (lm1 (sI w2 (3 * k) (kd - 3)) x) rest = sI w2 (3 * src S kd k) 0 := k2
        rw [l1x] at this
        exact this
      have ob := o.1
      show ∃ P', PI S so cl (T + 2) (w_X2_takeBarrier S w3 0 k kd (9 - kd)) P' ∧ ∀ j, j < zn S → sI w (3 * j) 0 ≤ sI (w_X2_takeBarrier S w3 0 k kd (9 - kd)) (3 * j) 0
      unfold w_X2_takeBarrier
      have w3sh : ∀ kd' a, w3.1 kd' 0 a 2 = w2.1 kd' 0 a 2 := fun kd' a => a5 _ _ _ _ (by omega) (by omega)
      have po : pend S w3 0 (9 - kd) k = pend S w2 0 (9 - kd) k := a3 _ _ o (fun h => by have := h.1; omega)
      by_cases c0 : (w3.1 (9 - kd) 0 k 2) = 0
      · rw [if_pos c0, zlet_eq]
        have hFz : ∀ kd' f a j, ¬ (kd' = kd ∧ f = 0 ∧ a = k ∧ j = 2) → (zset w3 kd 0 k 2 1).1 kd' f a j = w3.1 kd' f a j := fun kd' f a j h => by rw [zset_F, if_neg h]
        have pz : ∀ kd' c, pend S (zset w3 kd 0 k 2 1) 0 kd' c = pend S w3 0 kd' c := fun kd' c => by unfold pend gvn; rw [hFz _ _ _ _ (by omega)]; rfl
        refine up _ ⟨P, PI_gen hz hn hG2 hk hP2 (fun st j h1 h2 => ?_) (fun kd' c hc' hne => ?_) (by show w3.2.1 = _; rw [a4]) (fun c j => ?_) (fun j hj => ?_) (fun x st _ _ _ => by show w3.2.2 _ = _; rw [hq3]) (fun j => by show w3.2.2 _ = _; rw [hq3]) (fun i _ h3 => ?_) (fun x _ => by show w3.2.2 _ = _; rw [hq3]) (fun kd' c hc' hne => by rw [pz]; exact p3' kd' c hc' hne) (fun kd' hc' => ?_) (fun kd' hc' hs => ?_), fun j hj => ?_⟩
        · rw [hFz _ _ _ _ (by omega), a5 _ _ _ _ (by omega) (by omega)]
        · rw [hFz _ _ _ _ (by omega), w3sh]
        · rw [hFz _ _ _ _ (by omega), a5 _ _ _ _ (by omega) (by omega)]
        · rw [hFz _ _ _ _ (by omega), a5 _ _ _ _ (by omega) (by omega)]
        · rw [hFz _ _ _ _ (by omega), w3F i h3]
        · rw [pz]
          by_cases e : kd' = kd
          · subst e
            rw [a2]
            refine ⟨kr1, kr2, ?_⟩
            rw [zset_F, if_pos ⟨rfl, rfl, rfl, rfl⟩, g1, g2]
            exact ⟨(fun h => by cases h), (fun _ h => by cases h), fun _ _ => Or.inl ⟨rfl, g3, g4⟩⟩
          · obtain ⟨⟨y1, y2, -⟩, y4, -⟩ := hP2.2.1 kd' k hc'
            rw [a3 kd' k hc' (fun h => e h.1), hFz _ _ _ _ (by omega), w3sh]
            exact ⟨y1, y2, y4⟩
        · by_cases e : kd' = kd
          · subst e
            exact ⟨o, by rw [hFz _ _ _ _ (by omega)]; exact c0⟩
          · have h45' := hc'.1
            have e2 : kd' = 9 - kd := by omega
            rw [hFz _ _ _ _ (by omega), e2] at hs
            exact absurd c0 hs
        · unfold sI
          rw [hFz _ _ _ _ (by omega), a5 _ _ _ _ (by omega) (by omega)]
      · rw [if_neg c0]
        simp only [zlet_eq]
        have hFz : ∀ kd' f a j, ¬ (kd' = 9 - kd ∧ f = 0 ∧ a = k ∧ j = 2) → (zset w3 (9 - kd) 0 k 2 0).1 kd' f a j = w3.1 kd' f a j := fun kd' f a j h => by rw [zset_F, if_neg h]
        have pz : ∀ kd' c, pend S (zset w3 (9 - kd) 0 k 2 0) 0 kd' c = pend S w3 0 kd' c := fun kd' c => by unfold pend gvn; rw [hFz _ _ _ _ (by omega)]; rfl
        -- the other input is shut: it gave its barrier
        obtain ⟨⟨y1, y2, -⟩, y4, -⟩ := hP2.2.1 (9 - kd) k o
        have yo : P (src S (9 - kd) k) = true ∧ nob (pend S w2 0 (9 - kd) k) ∧ sI w2 (3 * k) (9 - kd - 3) = sI w2 (3 * src S (9 - kd) k + (w2.2.1 0 (src S (9 - kd) k)).2) 0 := by
          rw [w3sh] at c0
          rw [g2] at y4
          obtain ⟨z1, z2, z3⟩ := y4
          cases hh : P (src S (9 - kd) k) with
          | false => exact absurd (z1 hh).2.1 c0
          | true =>
            rcases z3 hh rfl with ⟨-, u, u'⟩ | ⟨u, -⟩
            · exact ⟨rfl, u, u'⟩
            · exact absurd u c0
        have hbg : ¬ w2.1 6 0 0 5 = 0 := fun h => by
          have := hP2.2.2.1 h (src S kd k) (by omega)
          rw [g1] at this
          cases this
        refine up _ (pass_PI hn hz hG2 hk (fun kd' c' hc' => ?_) hP2 g2 hbg (fun x hx => low x hx _ (by show w3.2.2 = _; exact hq3)) (fun st j h1 h2 => ?_) (fun kd' a hc' hne => ?_) (fun kd' hc' => ?_) a4 (fun a j => ?_) (fun j hj => ?_) (fun kd' c hc' hne => by rw [pz]; exact p3' kd' c hc' hne) (fun kd' hc' => ?_))
        · have := a1 kd' c' hc'
          unfold gvn at *
          rw [hFz _ _ _ _ (by omega)]
          exact this
        · rw [hFz _ _ _ _ (by omega), a5 _ _ _ _ (by omega) (by omega)]
        · rw [hFz _ _ _ _ (by omega), w3sh]
        · have h45' := hc'.1
          by_cases e : kd' = kd
          · rw [e, hFz _ _ _ _ (by omega), w3sh]; exact hsh
          · rw [show kd' = 9 - kd by omega, zset_F, if_pos ⟨rfl, rfl, rfl, rfl⟩]
        · rw [hFz _ _ _ _ (by omega), a5 _ _ _ _ (by omega) (by omega)]
        · rw [hFz _ _ _ _ (by omega), a5 _ _ _ _ (by omega) (by omega)]
        · rw [pz]
          have h45' := hc'.1
          by_cases e : kd' = kd
          · subst e
            rw [a2]
            exact ⟨g3, kr1, kr2, g4, g1⟩
          · have e2 : kd' = 9 - kd := by omega
            subst e2
            rw [po]
            exact ⟨yo.2.1, y1, y2, yo.2.2, yo.1⟩
    · rw [hr]
      have hxB : isB x := ⟨k0, kk1⟩
      obtain ⟨g1, g2, g3, g4⟩ := k4.bar hxB
      have l1x : lm1 (sI w2 (3 * k) (kd - 3)) x = sI w2 (3 * k) (kd - 3) := by unfold lm1; rw [if_neg kk1]
      have kr1 : LK (EE (src S kd k)) cl (sI w2 (3 * k) (kd - 3)) rest := by have := k1.2.2; rw [l1x] at this; exact this
      have kr2 : lm (sI w2 (3 * k) (kd - 3)) rest = sI w2 (3 * src S kd k) 0 := by
        have : lm (lm1 (sI w2 (3 * k) (kd - 3)) x) rest = sI w2 (3 * src S kd k) 0 := k2
        rw [l1x] at this
        exact this
      have w3sh : ∀ kd' a, w3.1 kd' 0 a 2 = w2.1 kd' 0 a 2 := fun kd' a => a5 _ _ _ _ (by omega) (by omega)
      have only : ∀ kd', CI S kd' k → kd' = kd := fun kd' hc' => by
        have h45' := hc'.1
        by_cases e : kd' = kd
        · exact e
        · have e2 : kd' = 9 - kd := by omega
          rw [e2] at hc'
          exact absurd hc' o
      have hbg : ¬ w2.1 6 0 0 5 = 0 := fun h => by
        have := hP2.2.2.1 h (src S kd k) (by omega)
        rw [g1] at this
        cases this
      show ∃ P', PI S so cl (T + 2) (w_X2_takeBarrierN S w3 0 k kd) P' ∧ ∀ j, j < zn S → sI w (3 * j) 0 ≤ sI (w_X2_takeBarrierN S w3 0 k kd) (3 * j) 0
      unfold w_X2_takeBarrierN
      simp only [zlet_eq]
      refine up _ (pass_PI hn hz hG2 hk a1 hP2 g2 hbg (fun x hx => low x hx _ hq3) (fun st j h1 h2 => a5 _ _ _ _ (by omega) (by omega)) (fun kd' a _ _ => w3sh kd' a) (fun kd' hc' => by rw [only kd' hc', w3sh]; exact hsh) a4 (fun a j => a5 _ _ _ _ (by omega) (by omega)) (fun j hj => a5 _ _ _ _ (by omega) (by omega)) p3' (fun kd' hc' => ?_))
      have e := only kd' hc'
      subst e
      rw [a2]
      exact ⟨g3, kr1, kr2, g4, g1⟩
