set_option maxHeartbeats 4000000 in
set_option maxRecDepth 100000 in
theorem x_wireS_0 (l : Launch) {D : va_G} {yc : Nat → ClassId} {e0 : Nat} {A : Nat → Prop} {own : TO} {sz : Nat} {S : TS} {pl : Nat → Nat → Int32} {pp : Nat → Int32} {pa : Nat} (hn : zn S ≤ 11) (hok : zok S) (hdis : zdis S) (h1 : pp 1 = (-1)) (h2 : pp 2 = (-1)) : Met l yX10_wire (ws_ yX10_wire cX10_wire 4 (some .int)) { frames := 10, cells := 86, slots := 534, locals := 340 } (PX D yc e0 A own (obadd (obS S pl) 8 0 (zn S) pa (4, [.int (pp 0), .int (-1), .int (-1), .int (pp 3), .int (pp 4), .int (pp 5), .int (pp 6), .int (pp 7), .int (pp 8), .int (pp 9), .int (pp 10), .int (pp 11), .int (pp 12), .int 0, .int 0])) (rwS S) (lsS S) sz [.ref (zg S 7 0 0), .ref pa]) (va_Qi (fun r (_ : TS × (Nat → Nat → Int32) × TO) => r = nI (zn S)) (fun v t => SX S none none pl pp v.1 v.2.1 ∧ WX D yc e0 A v.2.2 (obS v.1 v.2.1) (rwS v.1) (lsS v.1) t.heap) A) 86 534 A := by
  refine Met.conv fun args s hP => ?_
  obtain ⟨hargs, hW, hz, hA, hC⟩ := hP
  have hnew : (obadd (obS S pl) 8 0 (zn S) pa (4, [.int (pp 0), .int (-1), .int (-1), .int (pp 3), .int (pp 4), .int (pp 5), .int (pp 6), .int (pp 7), .int (pp 8), .int (pp 9), .int (pp 10), .int (pp 11), .int (pp 12), .int 0, .int 0])) 8 0 (zn S) pa (4, [.int (pp 0), .int (-1), .int (-1), .int (pp 3), .int (pp 4), .int (pp 5), .int (pp 6), .int (pp 7), .int (pp 8), .int (pp 9), .int (pp 10), .int (pp 11), .int (pp 12), .int 0, .int 0]) := Or.inr ⟨⟨rfl, rfl, rfl⟩, rfl, rfl⟩
  have hpu : ∀ kd fl k e, (obadd (obS S pl) 8 0 (zn S) pa (4, [.int (pp 0), .int (-1), .int (-1), .int (pp 3), .int (pp 4), .int (pp 5), .int (pp 6), .int (pp 7), .int (pp 8), .int (pp 9), .int (pp 10), .int (pp 11), .int (pp 12), .int 0, .int 0])) kd fl k pa e → kd = 8 ∧ fl = 0 ∧ k = zn S := fun kd fl k e h => by
    have q1 := hW.tag h
    have q2 := hW.tag hnew
    rw [q1] at q2
    simp only [Prod.mk.injEq] at q2
    exact ⟨q2.2.1, q2.2.2.1, q2.2.2.2⟩
  have hfr : ∀ kd fl k a e, obS S pl kd fl k a e → ¬ a = pa := fun kd fl k a e h h9 => by
    obtain ⟨q1, q2, q3⟩ := hpu kd fl k e (Or.inl (by rw [← h9]; exact h))
    subst q1 q2 q3
    exact absurd h.1.2 (Nat.lt_irrefl _)
  refine ⟨_, _, _, x_wire_0 l (ob := (obadd (obS S pl) 8 0 (zn S) pa (4, [.int (pp 0), .int (-1), .int (-1), .int (pp 3), .int (pp 4), .int (pp 5), .int (pp 6), .int (pp 7), .int (pp 8), .int (pp 9), .int (pp 10), .int (pp 11), .int (pp 12), .int 0, .int 0]))) (i := 0) (j := 0) (Or.inl oS_ws) (Or.inl oS_f0) (Or.inl oS_f1) (lS_0 (by decide)) (lS_0 (by decide)) lS_len lS_len hn (fun y hy => by obtain ⟨z1, z2, z3, z4, z5⟩ := lS_E0 (by decide) y hy; exact ⟨z1, z2, z3, z4, Or.inl z5⟩) (fun y hy => by obtain ⟨z1, z2, z3, z4, z5⟩ := lS_E0 (by decide) y hy; exact ⟨z1, z2, z3, z4, Or.inl z5⟩) hnew hpu, ⟨hargs, hW, hz, hA, hC⟩, fun _ h => h, ?_⟩
  rintro o t ⟨⟨r, u, hr, hr1, hW'⟩, hF⟩ - - -
  obtain ⟨S', hS'⟩ : ∃ S', S' = (nS S none none pa u.2.2.1 (fun f => if f = 0 then u.2.2.2.1.1 else u.2.2.2.1.2) (fun f => if f = 0 then u.2.2.2.2.1.2.2.1 else u.2.2.2.2.2.2.2.1) (fun f => if f = 0 then u.2.2.2.2.1.2.2.2 else u.2.2.2.2.2.2.2.2) (fun f j => if f = 0 then u.2.2.2.2.1.1 j 0 else u.2.2.2.2.2.1 j 0)) := ⟨_, rfl⟩
  refine ⟨⟨r, (S', pn (zn S) pl pp u.1, u.2.1), hr, hr1, by show SX S none none pl pp S' (pn (zn S) pl pp u.1); rw [hS']; exact SX.mk, hW'.mono ?_ ?_ ?_⟩, hF⟩
  · intro kd fl k a e hob9
    change obS S' (pn (zn S) pl pp u.1) kd fl k a e at hob9
    rw [hS'] at hob9
    obtain ⟨hd, ha, he⟩ := hob9
    by_cases hold : dm S kd fl k
    · obtain ⟨q1, q2⟩ := ns_old hn hok (pl := pl) (pl' := pn (zn S) pl pp u.1) (fun k j hk => by unfold pn; exact if_neg (Nat.ne_of_lt hk)) hold
      rw [q1] at ha
      rw [q2] at he
      have hob : obS S pl kd fl k a e := ⟨hold, ha, he⟩
      exact Or.inl (Or.inl ⟨Or.inl hob, hfr _ _ _ _ _ hob⟩)
    · by_cases hkd : kd < 4
      · have hfl : fl < 2 := by
          match kd, hkd, hd with
          | 0, _, hd => exact hd.1
          | 1, _, hd => exact hd.1
          | 2, _, hd => exact hd.1
          | 3, _, hd => exact hd.1
        rcases (show fl = 0 ∨ fl = 1 by omega) with rfl | rfl
        · have hb := ns_new (yc := yc) (e0 := e0) (u := u.2.2.2.2.1.1) (cv1 := .null) (cv2 := .null) (it := .int 0) hn (by decide) (fun _ => rfl) (by unfold zch; rw [ns_p0]; rfl) (by unfold zch; rw [ns_p1]; rfl) rfl hkd hd hold he
          rw [← ha] at hb
          exact Or.inr (Or.inr (Or.inl hb))
        · have hb := ns_new (yc := yc) (e0 := e0) (u := u.2.2.2.2.2.1) (cv1 := .null) (cv2 := .null) (it := .int 1) hn (by decide) (fun _ => rfl) (by unfold zch; rw [ns_p0]; rfl) (by unfold zch; rw [ns_p1]; rfl) rfl hkd hd hold he
          rw [← ha] at hb
          exact Or.inr (Or.inr (Or.inr (Or.inr hb)))
      · match kd, hkd with
        | 0, hkd => exact absurd (by decide) hkd
        | 1, hkd => exact absurd (by decide) hkd
        | 2, hkd => exact absurd (by decide) hkd
        | 3, hkd => exact absurd (by decide) hkd
        | 4, _ =>
          have hk : k = zn S := by
            have h3 : k < zn S + 1 := hd.2.1
            have h4 : ¬ k < zn S := fun h => hold ⟨hd.1, h, by have h5 := hd.2.2; rw [ns_p h] at h5; exact h5⟩
            omega
          subst hk
          have h5 := hd.2.2
          rw [ns_p0] at h5
          cases h5
        | 5, _ =>
          have hk : k = zn S := by
            have h3 : k < zn S + 1 := hd.2.1
            have h4 : ¬ k < zn S := fun h => hold ⟨hd.1, h, by have h5 := hd.2.2; rw [ns_p h] at h5; exact h5⟩
            omega
          subst hk
          have h5 := hd.2.2
          rw [ns_p1] at h5
          cases h5
        | 6, _ => exact absurd hd hold
        | 7, _ => exact absurd hd hold
        | 8, _ =>
          have hk : k = zn S := by
            have h3 : k < zn S + 1 := hd.2
            have h4 : ¬ k < zn S := fun h => hold ⟨hd.1, h⟩
            omega
          subst hk
          have hfl : fl = 0 := hd.1
          subst hfl
          have he' : e = _ := (Sum.inr.inj he).symm
          rw [ns_8n] at ha
          have hpn : ∀ j, F0p (pn (zn S) pl pp u.1) 8 0 (zn S) j = if j = 13 then u.1.1 else if j = 14 then u.1.2 else pp j := fun j => if_pos rfl
          have h9 : e = (4, [.int (pp 0), .int (pp 1), .int (pp 2), .int (pp 3), .int (pp 4), .int (pp 5), .int (pp 6), .int (pp 7), .int (pp 8), .int (pp 9), .int (pp 10), .int (pp 11), .int (pp 12), .int u.1.1, .int u.1.2]) := by
            rw [he']
            simp only [hpn]
            rfl
          refine Or.inl (Or.inr ⟨⟨rfl, rfl, rfl⟩, ha, ?_⟩)
          rw [h9, h1, h2]
        | kd + 9, _ => exact hd.elim
  · intro i9 r9 hrow
    change rwS S' i9 r9 at hrow
    rw [hS'] at hrow
    obtain ⟨hd, hr9⟩ := hrow
    rcases ns_newr (yc := yc) (e0 := e0) (w1 := (fun f => if f = 0 then .null else .null)) (w2 := (fun f => if f = 0 then .null else .null)) (w3 := (fun f => if f = 0 then .int 0 else .int 1)) hn hd with ⟨q1, q2⟩ | ⟨q1, q2⟩ | ⟨f, hf, q⟩
    · exact Or.inl ⟨q1, by rw [hr9, q2]⟩
    · exact Or.inr (Or.inl ⟨q1, by rw [hr9, q2]⟩)
    · rcases (show f = 0 ∨ f = 1 by omega) with rfl | rfl
      · have hb := q u.2.2.2.2.1.1 (fun _ => rfl)
        rw [← hr9] at hb
        exact Or.inr (Or.inr (Or.inl hb))
      · have hb := q u.2.2.2.2.2.1 (fun _ => rfl)
        rw [← hr9] at hb
        exact Or.inr (Or.inr (Or.inr hb))
  · intro b fl k a L9 hlist
    change lsS S' b fl k a L9 at hlist
    rw [hS'] at hlist
    obtain ⟨hd, ha, hL⟩ := hlist
    rcases hd with ⟨rfl, hf, rfl⟩ | ⟨rfl, hf, hk⟩
    · rw [ns_l0] at ha
      rw [ns_lic0] at hL
      rcases (show fl = 0 ∨ fl = 1 by omega) with rfl | rfl
      · exact Or.inl ⟨Or.inl (Or.inr ⟨⟨rfl, rfl, rfl⟩, ha, hL⟩), (fun h9 => absurd h9.2.1 (by decide))⟩
      · exact Or.inr ⟨⟨rfl, rfl, rfl⟩, ha, hL⟩
    · by_cases hkn : k < zn S
      · rw [ns_l1 hkn] at ha
        rw [ns_lic1] at hL
        rcases (show fl = 0 ∨ fl = 1 by omega) with rfl | rfl
        · have e9 : L9 = lic S 1 0 k := by rw [hL]; simp
          exact Or.inl ⟨Or.inl (Or.inl ⟨Or.inl (⟨dl1 (by decide) hkn, ha, e9⟩), (fun h9 => absurd h9.1 (by decide))⟩), (fun h9 => absurd h9.1 (by decide))⟩
        · have e9 : L9 = lic S 1 1 k := by rw [hL]; simp
          exact Or.inl ⟨Or.inl (Or.inl ⟨Or.inl (⟨dl1 (by decide) hkn, ha, e9⟩), (fun h9 => absurd h9.1 (by decide))⟩), (fun h9 => absurd h9.1 (by decide))⟩
      · obtain rfl : k = zn S := by
          have h3 : k < zn S + 1 := hk
          omega
        rw [ns_l1n] at ha
        rw [ns_och_n hok (fun q hq => by cases hq) (fun q hq => by cases hq)] at hL
        rcases (show fl = 0 ∨ fl = 1 by omega) with rfl | rfl
        · exact Or.inl ⟨Or.inl (Or.inl ⟨(Or.inr ⟨hL, 4, rfl, by rw [ha]; rfl⟩), (fun h9 => absurd h9.1 (by decide))⟩), (fun h9 => absurd h9.1 (by decide))⟩
        · exact Or.inl ⟨(Or.inr ⟨hL, 4, rfl, by rw [ha]; rfl⟩), (fun h9 => absurd h9.1 (by decide))⟩
set_option maxHeartbeats 4000000 in
set_option maxRecDepth 100000 in
theorem x_wireS_1 (l : Launch) {D : va_G} {yc : Nat → ClassId} {e0 : Nat} {A : Nat → Prop} {own : TO} {sz : Nat} {S : TS} {pl : Nat → Nat → Int32} {pp : Nat → Int32} {pa i : Nat} (hn : zn S ≤ 11) (hok : zok S) (hdis : zdis S) (h1 : pp 1 = (nI i)) (h2 : pp 2 = (-1)) (hi : i < zn S) : Met l yX10_wire (ws_ yX10_wire cX10_wire 4 (some .int)) { frames := 10, cells := 86, slots := 534, locals := 340 } (PX D yc e0 A own (obadd (obS S pl) 8 0 (zn S) pa (4, [.int (pp 0), .int (nI i), .int (-1), .int (pp 3), .int (pp 4), .int (pp 5), .int (pp 6), .int (pp 7), .int (pp 8), .int (pp 9), .int (pp 10), .int (pp 11), .int (pp 12), .int 0, .int 0])) (rwS S) (lsS S) sz [.ref (zg S 7 0 0), .ref pa]) (va_Qi (fun r (_ : TS × (Nat → Nat → Int32) × TO) => r = nI (zn S)) (fun v t => SX S (some i) none pl pp v.1 v.2.1 ∧ WX D yc e0 A v.2.2 (obS v.1 v.2.1) (rwS v.1) (lsS v.1) t.heap) A) 86 534 A := by
  refine Met.conv fun args s hP => ?_
  obtain ⟨hargs, hW, hz, hA, hC⟩ := hP
  have hnew : (obadd (obS S pl) 8 0 (zn S) pa (4, [.int (pp 0), .int (nI i), .int (-1), .int (pp 3), .int (pp 4), .int (pp 5), .int (pp 6), .int (pp 7), .int (pp 8), .int (pp 9), .int (pp 10), .int (pp 11), .int (pp 12), .int 0, .int 0])) 8 0 (zn S) pa (4, [.int (pp 0), .int (nI i), .int (-1), .int (pp 3), .int (pp 4), .int (pp 5), .int (pp 6), .int (pp 7), .int (pp 8), .int (pp 9), .int (pp 10), .int (pp 11), .int (pp 12), .int 0, .int 0]) := Or.inr ⟨⟨rfl, rfl, rfl⟩, rfl, rfl⟩
  have hpu : ∀ kd fl k e, (obadd (obS S pl) 8 0 (zn S) pa (4, [.int (pp 0), .int (nI i), .int (-1), .int (pp 3), .int (pp 4), .int (pp 5), .int (pp 6), .int (pp 7), .int (pp 8), .int (pp 9), .int (pp 10), .int (pp 11), .int (pp 12), .int 0, .int 0])) kd fl k pa e → kd = 8 ∧ fl = 0 ∧ k = zn S := fun kd fl k e h => by
    have q1 := hW.tag h
    have q2 := hW.tag hnew
    rw [q1] at q2
    simp only [Prod.mk.injEq] at q2
    exact ⟨q2.2.1, q2.2.2.1, q2.2.2.2⟩
  have hfr : ∀ kd fl k a e, obS S pl kd fl k a e → ¬ a = pa := fun kd fl k a e h h9 => by
    obtain ⟨q1, q2, q3⟩ := hpu kd fl k e (Or.inl (by rw [← h9]; exact h))
    subst q1 q2 q3
    exact absurd h.1.2 (Nat.lt_irrefl _)
  refine ⟨_, _, _, x_wire_1 l (ob := (obadd (obS S pl) 8 0 (zn S) pa (4, [.int (pp 0), .int (nI i), .int (-1), .int (pp 3), .int (pp 4), .int (pp 5), .int (pp 6), .int (pp 7), .int (pp 8), .int (pp 9), .int (pp 10), .int (pp 11), .int (pp 12), .int 0, .int 0]))) (j := 0) (Or.inl oS_ws) (Or.inl oS_f0) (Or.inl oS_f1) (lS_0 (by decide)) (lS_0 (by decide)) lS_len lS_len hn (fun y hy => by obtain ⟨z1, z2, z3, z4, z5⟩ := lS_E0 (by decide) y hy; exact ⟨z1, z2, z3, z4, Or.inl z5⟩) (fun y hy => by obtain ⟨z1, z2, z3, z4, z5⟩ := lS_E0 (by decide) y hy; exact ⟨z1, z2, z3, z4, Or.inl z5⟩) hnew hpu (by rw [lS_len]; exact hi) (Or.inl (oS_st (by decide) hi (by rw [lS_len]; exact hi))) (Or.inl (oS_o (by decide) hi)) (lS_1 (by decide) hi) (by have := och_le hdis i; omega) (fun y hy => by obtain ⟨z1, z2, z3, z4, z5⟩ := lS_E1 (by decide) y hy; exact ⟨z1, z2, z3, z4, Or.inl z5⟩) (by rw [lS_len]; exact hi) (Or.inl (oS_st (by decide) hi (by rw [lS_len]; exact hi))) (Or.inl (oS_o (by decide) hi)) (lS_1 (by decide) hi) (by have := och_le hdis i; omega) (fun y hy => by obtain ⟨z1, z2, z3, z4, z5⟩ := lS_E1 (by decide) y hy; exact ⟨z1, z2, z3, z4, Or.inl z5⟩) (Or.inl (oS_p hi)), ⟨hargs, hW, hz, hA, hC⟩, fun _ h => h, ?_⟩
  rintro o t ⟨⟨r, u, hr, hr1, hW'⟩, hF⟩ - - -
  obtain ⟨S', hS'⟩ : ∃ S', S' = (nS S (some i) none pa u.2.2.1 (fun f => if f = 0 then u.2.2.2.1.1 else u.2.2.2.1.2) (fun f => if f = 0 then u.2.2.2.2.1.2.2.1 else u.2.2.2.2.2.2.2.1) (fun f => if f = 0 then u.2.2.2.2.1.2.2.2 else u.2.2.2.2.2.2.2.2) (fun f j => if f = 0 then u.2.2.2.2.1.1 j 0 else u.2.2.2.2.2.1 j 0)) := ⟨_, rfl⟩
  refine ⟨⟨r, (S', pn (zn S) pl pp u.1, u.2.1), hr, hr1, by show SX S (some i) none pl pp S' (pn (zn S) pl pp u.1); rw [hS']; exact SX.mk, hW'.mono ?_ ?_ ?_⟩, hF⟩
  · intro kd fl k a e hob9
    change obS S' (pn (zn S) pl pp u.1) kd fl k a e at hob9
    rw [hS'] at hob9
    obtain ⟨hd, ha, he⟩ := hob9
    by_cases hold : dm S kd fl k
    · obtain ⟨q1, q2⟩ := ns_old hn hok (pl := pl) (pl' := pn (zn S) pl pp u.1) (fun k j hk => by unfold pn; exact if_neg (Nat.ne_of_lt hk)) hold
      rw [q1] at ha
      rw [q2] at he
      have hob : obS S pl kd fl k a e := ⟨hold, ha, he⟩
      exact Or.inl (Or.inl ⟨Or.inl hob, hfr _ _ _ _ _ hob⟩)
    · by_cases hkd : kd < 4
      · have hfl : fl < 2 := by
          match kd, hkd, hd with
          | 0, _, hd => exact hd.1
          | 1, _, hd => exact hd.1
          | 2, _, hd => exact hd.1
          | 3, _, hd => exact hd.1
        rcases (show fl = 0 ∨ fl = 1 by omega) with rfl | rfl
        · have hb := ns_new (yc := yc) (e0 := e0) (u := u.2.2.2.2.1.1) (cv1 := (.ref u.2.2.2.2.1.2.2.1)) (cv2 := .null) (it := .int 0) hn (by decide) (fun _ => rfl) (by unfold zch; rw [ns_p0]; exact congrArg Value.ref ns_4n) (by unfold zch; rw [ns_p1]; rfl) rfl hkd hd hold he
          rw [← ha] at hb
          exact Or.inr (Or.inr (Or.inl hb))
        · have hb := ns_new (yc := yc) (e0 := e0) (u := u.2.2.2.2.2.1) (cv1 := (.ref u.2.2.2.2.2.2.2.1)) (cv2 := .null) (it := .int 1) hn (by decide) (fun _ => rfl) (by unfold zch; rw [ns_p0]; exact congrArg Value.ref ns_4n) (by unfold zch; rw [ns_p1]; rfl) rfl hkd hd hold he
          rw [← ha] at hb
          exact Or.inr (Or.inr (Or.inr (Or.inr hb)))
      · match kd, hkd with
        | 0, hkd => exact absurd (by decide) hkd
        | 1, hkd => exact absurd (by decide) hkd
        | 2, hkd => exact absurd (by decide) hkd
        | 3, hkd => exact absurd (by decide) hkd
        | 4, _ =>
          have hk : k = zn S := by
            have h3 : k < zn S + 1 := hd.2.1
            have h4 : ¬ k < zn S := fun h => hold ⟨hd.1, h, by have h5 := hd.2.2; rw [ns_p h] at h5; exact h5⟩
            omega
          subst hk
          have hsr : zsrc (nS S (some i) none pa u.2.2.1 (fun f => if f = 0 then u.2.2.2.1.1 else u.2.2.2.1.2) (fun f => if f = 0 then u.2.2.2.2.1.2.2.1 else u.2.2.2.2.2.2.2.1) (fun f => if f = 0 then u.2.2.2.2.1.2.2.2 else u.2.2.2.2.2.2.2.2) (fun f j => if f = 0 then u.2.2.2.2.1.1 j 0 else u.2.2.2.2.2.1 j 0)) 0 (zn S) = i := by unfold zsrc; rw [ns_p0]; rfl
          have he' : e = _ := (Sum.inr.inj he).symm
          rw [hsr, ns_ri hn hd.1 hi] at he'
          rw [ns_4n] at ha
          have hfl : fl < 2 := hd.1
          rcases (show fl = 0 ∨ fl = 1 by omega) with rfl | rfl
          · exact Or.inr (Or.inl ⟨⟨rfl, rfl, rfl⟩, ha, he'⟩)
          · exact Or.inr (Or.inr (Or.inr (Or.inl ⟨⟨rfl, rfl, rfl⟩, ha, he'⟩)))
        | 5, _ =>
          have hk : k = zn S := by
            have h3 : k < zn S + 1 := hd.2.1
            have h4 : ¬ k < zn S := fun h => hold ⟨hd.1, h, by have h5 := hd.2.2; rw [ns_p h] at h5; exact h5⟩
            omega
          subst hk
          have h5 := hd.2.2
          rw [ns_p1] at h5
          cases h5
        | 6, _ => exact absurd hd hold
        | 7, _ => exact absurd hd hold
        | 8, _ =>
          have hk : k = zn S := by
            have h3 : k < zn S + 1 := hd.2
            have h4 : ¬ k < zn S := fun h => hold ⟨hd.1, h⟩
            omega
          subst hk
          have hfl : fl = 0 := hd.1
          subst hfl
          have he' : e = _ := (Sum.inr.inj he).symm
          rw [ns_8n] at ha
          have hpn : ∀ j, F0p (pn (zn S) pl pp u.1) 8 0 (zn S) j = if j = 13 then u.1.1 else if j = 14 then u.1.2 else pp j := fun j => if_pos rfl
          have h9 : e = (4, [.int (pp 0), .int (pp 1), .int (pp 2), .int (pp 3), .int (pp 4), .int (pp 5), .int (pp 6), .int (pp 7), .int (pp 8), .int (pp 9), .int (pp 10), .int (pp 11), .int (pp 12), .int u.1.1, .int u.1.2]) := by
            rw [he']
            simp only [hpn]
            rfl
          refine Or.inl (Or.inr ⟨⟨rfl, rfl, rfl⟩, ha, ?_⟩)
          rw [h9, h1, h2]
        | kd + 9, _ => exact hd.elim
  · intro i9 r9 hrow
    change rwS S' i9 r9 at hrow
    rw [hS'] at hrow
    obtain ⟨hd, hr9⟩ := hrow
    rcases ns_newr (yc := yc) (e0 := e0) (w1 := (fun f => if f = 0 then (.ref u.2.2.2.2.1.2.2.1) else (.ref u.2.2.2.2.2.2.2.1))) (w2 := (fun f => if f = 0 then .null else .null)) (w3 := (fun f => if f = 0 then .int 0 else .int 1)) hn hd with ⟨q1, q2⟩ | ⟨q1, q2⟩ | ⟨f, hf, q⟩
    · exact Or.inl ⟨q1, by rw [hr9, q2]⟩
    · exact Or.inr (Or.inl ⟨q1, by rw [hr9, q2]⟩)
    · rcases (show f = 0 ∨ f = 1 by omega) with rfl | rfl
      · have hb := q u.2.2.2.2.1.1 (fun _ => rfl)
        rw [← hr9] at hb
        exact Or.inr (Or.inr (Or.inl hb))
      · have hb := q u.2.2.2.2.2.1 (fun _ => rfl)
        rw [← hr9] at hb
        exact Or.inr (Or.inr (Or.inr hb))
  · intro b fl k a L9 hlist
    change lsS S' b fl k a L9 at hlist
    rw [hS'] at hlist
    obtain ⟨hd, ha, hL⟩ := hlist
    rcases hd with ⟨rfl, hf, rfl⟩ | ⟨rfl, hf, hk⟩
    · rw [ns_l0] at ha
      rw [ns_lic0] at hL
      rcases (show fl = 0 ∨ fl = 1 by omega) with rfl | rfl
      · exact Or.inl ⟨Or.inl (Or.inl ⟨(Or.inr ⟨⟨rfl, rfl, rfl⟩, ha, hL⟩), (fun h9 => absurd h9.1 (by decide))⟩), (fun h9 => absurd h9.2.1 (by decide))⟩
      · exact Or.inr ⟨⟨rfl, rfl, rfl⟩, ha, hL⟩
    · by_cases hkn : k < zn S
      · rw [ns_l1 hkn] at ha
        rw [ns_lic1] at hL
        rcases (show fl = 0 ∨ fl = 1 by omega) with rfl | rfl
        · by_cases hki : k = i
          · subst hki
            have e9 : L9 = lic S 1 0 k ++ [u.2.2.2.2.1.2.2.1] := by rw [hL]; simp
            exact Or.inl ⟨Or.inl (Or.inl ⟨(Or.inl ⟨Or.inl (Or.inr ⟨⟨rfl, rfl, rfl⟩, ha, e9⟩), (fun h9 => absurd h9.1 (by decide))⟩), (fun h9 => absurd h9.2.1 (by decide))⟩), (fun h9 => absurd h9.1 (by decide))⟩
          · have e9 : L9 = lic S 1 0 k := by rw [hL, if_neg (fun h => hki (Option.some.inj h).symm)]; simp
            exact Or.inl ⟨Or.inl (Or.inl ⟨(Or.inl ⟨Or.inl (Or.inl ⟨(⟨dl1 (by decide) hkn, ha, e9⟩), fun h9 => hki h9.2.2⟩), (fun h9 => absurd h9.1 (by decide))⟩), (fun h9 => absurd h9.2.1 (by decide))⟩), (fun h9 => absurd h9.1 (by decide))⟩
        · by_cases hki : k = i
          · subst hki
            have e9 : L9 = lic S 1 1 k ++ [u.2.2.2.2.2.2.2.1] := by rw [hL]; simp
            exact Or.inl ⟨Or.inl (Or.inr ⟨⟨rfl, rfl, rfl⟩, ha, e9⟩), (fun h9 => absurd h9.1 (by decide))⟩
          · have e9 : L9 = lic S 1 1 k := by rw [hL, if_neg (fun h => hki (Option.some.inj h).symm)]; simp
            exact Or.inl ⟨Or.inl (Or.inl ⟨(Or.inl ⟨Or.inl (Or.inl ⟨(⟨dl1 (by decide) hkn, ha, e9⟩), (fun h9 => absurd h9.2.1 (by decide))⟩), (fun h9 => absurd h9.1 (by decide))⟩), fun h9 => hki h9.2.2⟩), (fun h9 => absurd h9.1 (by decide))⟩
      · obtain rfl : k = zn S := by
          have h3 : k < zn S + 1 := hk
          omega
        rw [ns_l1n] at ha
        rw [ns_och_n hok (fun q hq => by cases hq; exact hi) (fun q hq => by cases hq)] at hL
        rcases (show fl = 0 ∨ fl = 1 by omega) with rfl | rfl
        · exact Or.inl ⟨Or.inl (Or.inl ⟨(Or.inl ⟨(Or.inr ⟨hL, 4, rfl, by rw [ha]; rfl⟩), (fun h9 => absurd h9.1 (by decide))⟩), (fun h9 => absurd h9.2.1 (by decide))⟩), (fun h9 => absurd h9.1 (by decide))⟩
        · exact Or.inl ⟨(Or.inr ⟨hL, 4, rfl, by rw [ha]; rfl⟩), (fun h9 => absurd h9.1 (by decide))⟩
set_option maxHeartbeats 4000000 in
set_option maxRecDepth 100000 in
theorem x_wireS_2 (l : Launch) {D : va_G} {yc : Nat → ClassId} {e0 : Nat} {A : Nat → Prop} {own : TO} {sz : Nat} {S : TS} {pl : Nat → Nat → Int32} {pp : Nat → Int32} {pa i j : Nat} (hn : zn S ≤ 11) (hok : zok S) (hdis : zdis S) (h1 : pp 1 = (nI i)) (h2 : pp 2 = (nI j)) (hi : i < zn S) (hj : j < zn S) (hij : i ≠ j) : Met l yX10_wire (ws_ yX10_wire cX10_wire 4 (some .int)) { frames := 10, cells := 86, slots := 534, locals := 340 } (PX D yc e0 A own (obadd (obS S pl) 8 0 (zn S) pa (4, [.int (pp 0), .int (nI i), .int (nI j), .int (pp 3), .int (pp 4), .int (pp 5), .int (pp 6), .int (pp 7), .int (pp 8), .int (pp 9), .int (pp 10), .int (pp 11), .int (pp 12), .int 0, .int 0])) (rwS S) (lsS S) sz [.ref (zg S 7 0 0), .ref pa]) (va_Qi (fun r (_ : TS × (Nat → Nat → Int32) × TO) => r = nI (zn S)) (fun v t => SX S (some i) (some j) pl pp v.1 v.2.1 ∧ WX D yc e0 A v.2.2 (obS v.1 v.2.1) (rwS v.1) (lsS v.1) t.heap) A) 86 534 A := by
  refine Met.conv fun args s hP => ?_
  obtain ⟨hargs, hW, hz, hA, hC⟩ := hP
  have hnew : (obadd (obS S pl) 8 0 (zn S) pa (4, [.int (pp 0), .int (nI i), .int (nI j), .int (pp 3), .int (pp 4), .int (pp 5), .int (pp 6), .int (pp 7), .int (pp 8), .int (pp 9), .int (pp 10), .int (pp 11), .int (pp 12), .int 0, .int 0])) 8 0 (zn S) pa (4, [.int (pp 0), .int (nI i), .int (nI j), .int (pp 3), .int (pp 4), .int (pp 5), .int (pp 6), .int (pp 7), .int (pp 8), .int (pp 9), .int (pp 10), .int (pp 11), .int (pp 12), .int 0, .int 0]) := Or.inr ⟨⟨rfl, rfl, rfl⟩, rfl, rfl⟩
  have hpu : ∀ kd fl k e, (obadd (obS S pl) 8 0 (zn S) pa (4, [.int (pp 0), .int (nI i), .int (nI j), .int (pp 3), .int (pp 4), .int (pp 5), .int (pp 6), .int (pp 7), .int (pp 8), .int (pp 9), .int (pp 10), .int (pp 11), .int (pp 12), .int 0, .int 0])) kd fl k pa e → kd = 8 ∧ fl = 0 ∧ k = zn S := fun kd fl k e h => by
    have q1 := hW.tag h
    have q2 := hW.tag hnew
    rw [q1] at q2
    simp only [Prod.mk.injEq] at q2
    exact ⟨q2.2.1, q2.2.2.1, q2.2.2.2⟩
  have hfr : ∀ kd fl k a e, obS S pl kd fl k a e → ¬ a = pa := fun kd fl k a e h h9 => by
    obtain ⟨q1, q2, q3⟩ := hpu kd fl k e (Or.inl (by rw [← h9]; exact h))
    subst q1 q2 q3
    exact absurd h.1.2 (Nat.lt_irrefl _)
  refine ⟨_, _, _, x_wire_2 l (ob := (obadd (obS S pl) 8 0 (zn S) pa (4, [.int (pp 0), .int (nI i), .int (nI j), .int (pp 3), .int (pp 4), .int (pp 5), .int (pp 6), .int (pp 7), .int (pp 8), .int (pp 9), .int (pp 10), .int (pp 11), .int (pp 12), .int 0, .int 0]))) (Or.inl oS_ws) (Or.inl oS_f0) (Or.inl oS_f1) (lS_0 (by decide)) (lS_0 (by decide)) lS_len lS_len hn (fun y hy => by obtain ⟨z1, z2, z3, z4, z5⟩ := lS_E0 (by decide) y hy; exact ⟨z1, z2, z3, z4, Or.inl z5⟩) (fun y hy => by obtain ⟨z1, z2, z3, z4, z5⟩ := lS_E0 (by decide) y hy; exact ⟨z1, z2, z3, z4, Or.inl z5⟩) hnew hpu (by rw [lS_len]; exact hi) (Or.inl (oS_st (by decide) hi (by rw [lS_len]; exact hi))) (Or.inl (oS_o (by decide) hi)) (lS_1 (by decide) hi) (by have := och_le hdis i; omega) (fun y hy => by obtain ⟨z1, z2, z3, z4, z5⟩ := lS_E1 (by decide) y hy; exact ⟨z1, z2, z3, z4, Or.inl z5⟩) (by rw [lS_len]; exact hi) (Or.inl (oS_st (by decide) hi (by rw [lS_len]; exact hi))) (Or.inl (oS_o (by decide) hi)) (lS_1 (by decide) hi) (by have := och_le hdis i; omega) (fun y hy => by obtain ⟨z1, z2, z3, z4, z5⟩ := lS_E1 (by decide) y hy; exact ⟨z1, z2, z3, z4, Or.inl z5⟩) (Or.inl (oS_p hi)) (by rw [lS_len]; exact hj) (Or.inl (oS_st (by decide) hj (by rw [lS_len]; exact hj))) (Or.inl (oS_o (by decide) hj)) (lS_1 (by decide) hj) (by have := och_le hdis j; omega) (fun y hy => by obtain ⟨z1, z2, z3, z4, z5⟩ := lS_E1 (by decide) y hy; exact ⟨z1, z2, z3, z4, Or.inl z5⟩) (by rw [lS_len]; exact hj) (Or.inl (oS_st (by decide) hj (by rw [lS_len]; exact hj))) (Or.inl (oS_o (by decide) hj)) (lS_1 (by decide) hj) (by have := och_le hdis j; omega) (fun y hy => by obtain ⟨z1, z2, z3, z4, z5⟩ := lS_E1 (by decide) y hy; exact ⟨z1, z2, z3, z4, Or.inl z5⟩) (Or.inl (oS_p hj)) hij, ⟨hargs, hW, hz, hA, hC⟩, fun _ h => h, ?_⟩
  rintro o t ⟨⟨r, u, hr, hr1, hW'⟩, hF⟩ - - -
  obtain ⟨S', hS'⟩ : ∃ S', S' = (nS S (some i) (some j) pa u.2.2.1 (fun f => if f = 0 then u.2.2.2.1.1 else u.2.2.2.1.2) (fun f => if f = 0 then u.2.2.2.2.1.2.2.1 else u.2.2.2.2.2.2.2.1) (fun f => if f = 0 then u.2.2.2.2.1.2.2.2 else u.2.2.2.2.2.2.2.2) (fun f j => if f = 0 then u.2.2.2.2.1.1 j 0 else u.2.2.2.2.2.1 j 0)) := ⟨_, rfl⟩
  refine ⟨⟨r, (S', pn (zn S) pl pp u.1, u.2.1), hr, hr1, by show SX S (some i) (some j) pl pp S' (pn (zn S) pl pp u.1); rw [hS']; exact SX.mk, hW'.mono ?_ ?_ ?_⟩, hF⟩
  · intro kd fl k a e hob9
    change obS S' (pn (zn S) pl pp u.1) kd fl k a e at hob9
    rw [hS'] at hob9
    obtain ⟨hd, ha, he⟩ := hob9
    by_cases hold : dm S kd fl k
    · obtain ⟨q1, q2⟩ := ns_old hn hok (pl := pl) (pl' := pn (zn S) pl pp u.1) (fun k j hk => by unfold pn; exact if_neg (Nat.ne_of_lt hk)) hold
      rw [q1] at ha
      rw [q2] at he
      have hob : obS S pl kd fl k a e := ⟨hold, ha, he⟩
      exact Or.inl (Or.inl ⟨Or.inl hob, hfr _ _ _ _ _ hob⟩)
    · by_cases hkd : kd < 4
      · have hfl : fl < 2 := by
          match kd, hkd, hd with
          | 0, _, hd => exact hd.1
          | 1, _, hd => exact hd.1
          | 2, _, hd => exact hd.1
          | 3, _, hd => exact hd.1
        rcases (show fl = 0 ∨ fl = 1 by omega) with rfl | rfl
        · have hb := ns_new (yc := yc) (e0 := e0) (u := u.2.2.2.2.1.1) (cv1 := (.ref u.2.2.2.2.1.2.2.1)) (cv2 := (.ref u.2.2.2.2.1.2.2.2)) (it := .int 0) hn (by decide) (fun _ => rfl) (by unfold zch; rw [ns_p0]; exact congrArg Value.ref ns_4n) (by unfold zch; rw [ns_p1]; exact congrArg Value.ref ns_5n) rfl hkd hd hold he
          rw [← ha] at hb
          exact Or.inr (Or.inr (Or.inl hb))
        · have hb := ns_new (yc := yc) (e0 := e0) (u := u.2.2.2.2.2.1) (cv1 := (.ref u.2.2.2.2.2.2.2.1)) (cv2 := (.ref u.2.2.2.2.2.2.2.2)) (it := .int 1) hn (by decide) (fun _ => rfl) (by unfold zch; rw [ns_p0]; exact congrArg Value.ref ns_4n) (by unfold zch; rw [ns_p1]; exact congrArg Value.ref ns_5n) rfl hkd hd hold he
          rw [← ha] at hb
          exact Or.inr (Or.inr (Or.inr (Or.inr hb)))
      · match kd, hkd with
        | 0, hkd => exact absurd (by decide) hkd
        | 1, hkd => exact absurd (by decide) hkd
        | 2, hkd => exact absurd (by decide) hkd
        | 3, hkd => exact absurd (by decide) hkd
        | 4, _ =>
          have hk : k = zn S := by
            have h3 : k < zn S + 1 := hd.2.1
            have h4 : ¬ k < zn S := fun h => hold ⟨hd.1, h, by have h5 := hd.2.2; rw [ns_p h] at h5; exact h5⟩
            omega
          subst hk
          have hsr : zsrc (nS S (some i) (some j) pa u.2.2.1 (fun f => if f = 0 then u.2.2.2.1.1 else u.2.2.2.1.2) (fun f => if f = 0 then u.2.2.2.2.1.2.2.1 else u.2.2.2.2.2.2.2.1) (fun f => if f = 0 then u.2.2.2.2.1.2.2.2 else u.2.2.2.2.2.2.2.2) (fun f j => if f = 0 then u.2.2.2.2.1.1 j 0 else u.2.2.2.2.2.1 j 0)) 0 (zn S) = i := by unfold zsrc; rw [ns_p0]; rfl
          have he' : e = _ := (Sum.inr.inj he).symm
          rw [hsr, ns_ri hn hd.1 hi] at he'
          rw [ns_4n] at ha
          have hfl : fl < 2 := hd.1
          rcases (show fl = 0 ∨ fl = 1 by omega) with rfl | rfl
          · exact Or.inr (Or.inl (Or.inl ⟨⟨rfl, rfl, rfl⟩, ha, he'⟩))
          · exact Or.inr (Or.inr (Or.inr (Or.inl (Or.inl ⟨⟨rfl, rfl, rfl⟩, ha, he'⟩))))
        | 5, _ =>
          have hk : k = zn S := by
            have h3 : k < zn S + 1 := hd.2.1
            have h4 : ¬ k < zn S := fun h => hold ⟨hd.1, h, by have h5 := hd.2.2; rw [ns_p h] at h5; exact h5⟩
            omega
          subst hk
          have hsr : zsrc (nS S (some i) (some j) pa u.2.2.1 (fun f => if f = 0 then u.2.2.2.1.1 else u.2.2.2.1.2) (fun f => if f = 0 then u.2.2.2.2.1.2.2.1 else u.2.2.2.2.2.2.2.1) (fun f => if f = 0 then u.2.2.2.2.1.2.2.2 else u.2.2.2.2.2.2.2.2) (fun f j => if f = 0 then u.2.2.2.2.1.1 j 0 else u.2.2.2.2.2.1 j 0)) 1 (zn S) = j := by unfold zsrc; rw [ns_p1]; rfl
          have he' : e = _ := (Sum.inr.inj he).symm
          rw [hsr, ns_ri hn hd.1 hj] at he'
          rw [ns_5n] at ha
          have hfl : fl < 2 := hd.1
          rcases (show fl = 0 ∨ fl = 1 by omega) with rfl | rfl
          · exact Or.inr (Or.inl (Or.inr ⟨⟨rfl, rfl, rfl⟩, ha, he'⟩))
          · exact Or.inr (Or.inr (Or.inr (Or.inl (Or.inr ⟨⟨rfl, rfl, rfl⟩, ha, he'⟩))))
        | 6, _ => exact absurd hd hold
        | 7, _ => exact absurd hd hold
        | 8, _ =>
          have hk : k = zn S := by
            have h3 : k < zn S + 1 := hd.2
            have h4 : ¬ k < zn S := fun h => hold ⟨hd.1, h⟩
            omega
          subst hk
          have hfl : fl = 0 := hd.1
          subst hfl
          have he' : e = _ := (Sum.inr.inj he).symm
          rw [ns_8n] at ha
          have hpn : ∀ j, F0p (pn (zn S) pl pp u.1) 8 0 (zn S) j = if j = 13 then u.1.1 else if j = 14 then u.1.2 else pp j := fun j => if_pos rfl
          have h9 : e = (4, [.int (pp 0), .int (pp 1), .int (pp 2), .int (pp 3), .int (pp 4), .int (pp 5), .int (pp 6), .int (pp 7), .int (pp 8), .int (pp 9), .int (pp 10), .int (pp 11), .int (pp 12), .int u.1.1, .int u.1.2]) := by
            rw [he']
            simp only [hpn]
            rfl
          refine Or.inl (Or.inr ⟨⟨rfl, rfl, rfl⟩, ha, ?_⟩)
          rw [h9, h1, h2]
        | kd + 9, _ => exact hd.elim
  · intro i9 r9 hrow
    change rwS S' i9 r9 at hrow
    rw [hS'] at hrow
    obtain ⟨hd, hr9⟩ := hrow
    rcases ns_newr (yc := yc) (e0 := e0) (w1 := (fun f => if f = 0 then (.ref u.2.2.2.2.1.2.2.1) else (.ref u.2.2.2.2.2.2.2.1))) (w2 := (fun f => if f = 0 then (.ref u.2.2.2.2.1.2.2.2) else (.ref u.2.2.2.2.2.2.2.2))) (w3 := (fun f => if f = 0 then .int 0 else .int 1)) hn hd with ⟨q1, q2⟩ | ⟨q1, q2⟩ | ⟨f, hf, q⟩
    · exact Or.inl ⟨q1, by rw [hr9, q2]⟩
    · exact Or.inr (Or.inl ⟨q1, by rw [hr9, q2]⟩)
    · rcases (show f = 0 ∨ f = 1 by omega) with rfl | rfl
      · have hb := q u.2.2.2.2.1.1 (fun _ => rfl)
        rw [← hr9] at hb
        exact Or.inr (Or.inr (Or.inl hb))
      · have hb := q u.2.2.2.2.2.1 (fun _ => rfl)
        rw [← hr9] at hb
        exact Or.inr (Or.inr (Or.inr hb))
  · intro b fl k a L9 hlist
    change lsS S' b fl k a L9 at hlist
    rw [hS'] at hlist
    obtain ⟨hd, ha, hL⟩ := hlist
    rcases hd with ⟨rfl, hf, rfl⟩ | ⟨rfl, hf, hk⟩
    · rw [ns_l0] at ha
      rw [ns_lic0] at hL
      rcases (show fl = 0 ∨ fl = 1 by omega) with rfl | rfl
      · exact Or.inl ⟨Or.inl (Or.inl ⟨(Or.inl ⟨(Or.inr ⟨⟨rfl, rfl, rfl⟩, ha, hL⟩), (fun h9 => absurd h9.1 (by decide))⟩), (fun h9 => absurd h9.1 (by decide))⟩), (fun h9 => absurd h9.2.1 (by decide))⟩
      · exact Or.inr ⟨⟨rfl, rfl, rfl⟩, ha, hL⟩
    · by_cases hkn : k < zn S
      · rw [ns_l1 hkn] at ha
        rw [ns_lic1] at hL
        rcases (show fl = 0 ∨ fl = 1 by omega) with rfl | rfl
        · by_cases hkj : k = j
          · subst hkj
            have e9 : L9 = lic S 1 0 k ++ [u.2.2.2.2.1.2.2.2] := by rw [hL, if_neg (fun h => hij (Option.some.inj h))]; simp
            exact Or.inl ⟨Or.inl (Or.inl ⟨(Or.inl ⟨(Or.inl ⟨Or.inl (Or.inr ⟨⟨rfl, rfl, rfl⟩, ha, e9⟩), (fun h9 => absurd h9.1 (by decide))⟩), (fun h9 => absurd h9.2.1 (by decide))⟩), (fun h9 => absurd h9.2.1 (by decide))⟩), (fun h9 => absurd h9.1 (by decide))⟩
          · by_cases hki : k = i
            · subst hki
              have e9 : L9 = lic S 1 0 k ++ [u.2.2.2.2.1.2.2.1] := by rw [hL, if_pos rfl, if_neg (fun h => hkj (Option.some.inj h).symm)]; simp
              exact Or.inl ⟨Or.inl (Or.inl ⟨(Or.inl ⟨(Or.inl ⟨Or.inl (Or.inl ⟨(Or.inr ⟨⟨rfl, rfl, rfl⟩, ha, e9⟩), fun h9 => hkj h9.2.2⟩), (fun h9 => absurd h9.1 (by decide))⟩), (fun h9 => absurd h9.2.1 (by decide))⟩), (fun h9 => absurd h9.2.1 (by decide))⟩), (fun h9 => absurd h9.1 (by decide))⟩
            · have e9 : L9 = lic S 1 0 k := by rw [hL, if_neg (fun h => hki (Option.some.inj h).symm), if_neg (fun h => hkj (Option.some.inj h).symm)]; simp
              exact Or.inl ⟨Or.inl (Or.inl ⟨(Or.inl ⟨(Or.inl ⟨Or.inl (Or.inl ⟨(Or.inl ⟨(⟨dl1 (by decide) hkn, ha, e9⟩), fun h9 => hki h9.2.2⟩), fun h9 => hkj h9.2.2⟩), (fun h9 => absurd h9.1 (by decide))⟩), (fun h9 => absurd h9.2.1 (by decide))⟩), (fun h9 => absurd h9.2.1 (by decide))⟩), (fun h9 => absurd h9.1 (by decide))⟩
        · by_cases hkj : k = j
          · subst hkj
            have e9 : L9 = lic S 1 1 k ++ [u.2.2.2.2.2.2.2.2] := by rw [hL, if_neg (fun h => hij (Option.some.inj h))]; simp
            exact Or.inl ⟨Or.inl (Or.inr ⟨⟨rfl, rfl, rfl⟩, ha, e9⟩), (fun h9 => absurd h9.1 (by decide))⟩
          · by_cases hki : k = i
            · subst hki
              have e9 : L9 = lic S 1 1 k ++ [u.2.2.2.2.2.2.2.1] := by rw [hL, if_pos rfl, if_neg (fun h => hkj (Option.some.inj h).symm)]; simp
              exact Or.inl ⟨Or.inl (Or.inl ⟨(Or.inr ⟨⟨rfl, rfl, rfl⟩, ha, e9⟩), fun h9 => hkj h9.2.2⟩), (fun h9 => absurd h9.1 (by decide))⟩
            · have e9 : L9 = lic S 1 1 k := by rw [hL, if_neg (fun h => hki (Option.some.inj h).symm), if_neg (fun h => hkj (Option.some.inj h).symm)]; simp
              exact Or.inl ⟨Or.inl (Or.inl ⟨(Or.inl ⟨(Or.inl ⟨Or.inl (Or.inl ⟨(Or.inl ⟨(⟨dl1 (by decide) hkn, ha, e9⟩), (fun h9 => absurd h9.2.1 (by decide))⟩), (fun h9 => absurd h9.2.1 (by decide))⟩), (fun h9 => absurd h9.1 (by decide))⟩), fun h9 => hki h9.2.2⟩), fun h9 => hkj h9.2.2⟩), (fun h9 => absurd h9.1 (by decide))⟩
      · obtain rfl : k = zn S := by
          have h3 : k < zn S + 1 := hk
          omega
        rw [ns_l1n] at ha
        rw [ns_och_n hok (fun q hq => by cases hq; exact hi) (fun q hq => by cases hq; exact hj)] at hL
        rcases (show fl = 0 ∨ fl = 1 by omega) with rfl | rfl
        · exact Or.inl ⟨Or.inl (Or.inl ⟨(Or.inl ⟨(Or.inl ⟨(Or.inr ⟨hL, 4, rfl, by rw [ha]; rfl⟩), (fun h9 => absurd h9.1 (by decide))⟩), (fun h9 => absurd h9.2.1 (by decide))⟩), (fun h9 => absurd h9.2.1 (by decide))⟩), (fun h9 => absurd h9.1 (by decide))⟩
        · exact Or.inl ⟨(Or.inr ⟨hL, 4, rfl, by rw [ha]; rfl⟩), (fun h9 => absurd h9.1 (by decide))⟩
