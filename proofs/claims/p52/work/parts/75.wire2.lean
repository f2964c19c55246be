set_option maxHeartbeats 4000000 in
set_option maxRecDepth 100000 in
theorem x_sb0 (l : Launch) {D : va_G} {yc : Nat → ClassId} {e0 : Nat} {A : Nat → Prop} {own : TO} {ob : XO} {rw : XR} {ls : XL} {sz : Nat} {pl : Nat} {x : Int32} : Met l yX5_standBehind (ws_ yX5_standBehind cX5_standBehind 3 none) { frames := 0, cells := 0, slots := 0, locals := 0 } (PX D yc e0 A own ob rw ls sz [.ref pl, .null, .int x]) (zQ none) 0 0 zno := by
  refine xk_M (by decide) (Nat.le_of_ble_eq_true rfl) ?_
  intro p e s m args below meth c ls hx hb hml hr hlk hown hts hW hz hS hA hC hl
  have hK := hC.1
  have hN := hC.2.1
  have hl : lv_has ls 3 [(0, .ref pl), (1, .null), (2, .int x)] := hl
  refine lv_aload_nN hx hb dX5_standBehind_0 rfl (lv_at hl 1 rfl) ?_
  refine lv_ifnullN (tgt := 38) hx hb dX5_standBehind_1 (by decide) ?_
  exact ze_v hx hb hr hlk dX5_standBehind_38
set_option maxHeartbeats 4000000 in
set_option maxRecDepth 100000 in
theorem x_sb (l : Launch) {D : va_G} {yc : Nat → ClassId} {e0 : Nat} {A : Nat → Prop} {own : TO} {ob : XO} {rw : XR} {ls : XL} {sz : Nat} {pl pl2 n k2 : Nat} {x p13 p14 q13 q14 : Int32} {p0 p1 p2 p3 p4 p5 p6 p7 p8 p9 p10 p11 p12 q0 q1 q2 q3 q4 q5 q6 q7 q8 q9 q10 q11 q12 : Value} (hp : ob 8 0 n pl (4, [p0, p1, p2, p3, p4, p5, p6, p7, p8, p9, p10, p11, p12, .int p13, .int p14])) (hp2 : ob 8 0 k2 pl2 (4, [q0, q1, q2, q3, q4, q5, q6, q7, q8, q9, q10, q11, q12, .int q13, .int q14])) (hne : pl2 ≠ pl) : Met l yX5_standBehind (ws_ yX5_standBehind cX5_standBehind 3 none) { frames := 1, cells := 0, slots := 0, locals := 20 } (PX D yc e0 A own ob rw ls sz [.ref pl, .ref pl2, .int x]) (va_Qv (fun _ : Int32 × Int32 => True) (fun u t => WX D yc e0 A own (obset ob 8 0 n pl (4, [p0, p1, p2, p3, p4, p5, p6, p7, p8, p9, p10, p11, p12, .int u.1, .int u.2])) rw ls t.heap) A) 0 0 A := by
  refine xk_M (by decide) (Nat.le_of_ble_eq_true rfl) ?_
  intro p e s m args below meth c ls hx hb hml hr hlk hown hts hW hz hS hA hC hl
  have hK := hC.1
  have hN := hC.2.1
  have hl : lv_has ls 3 [(0, .ref pl), (1, .ref pl2), (2, .int x)] := hl
  generalize hHH : s.heap = H at hW ⊢
  have hS : va_S A s.heap H [] := by rw [← hHH]; exact hS
  have hz : H.size = sz := by rw [← hHH]; exact hz
  subst hz
  have hpA := hW.in hp
  refine lv_aload_n hx hb dX5_standBehind_0 rfl (lv_at hl 1 rfl) ?_
  refine lv_ifnull hx hb dX5_standBehind_1 ?_
  refine lv_aload_n hx hb dX5_standBehind_4 rfl (lv_at hl 0 rfl) ?_
  refine lv_aload_n hx hb dX5_standBehind_5 rfl (lv_at hl 0 rfl) ?_
  refine va_get (D := D) (ci := 4) (v := .int p13) (C := RX5) (T := TX5) (N := 15) hx hb hts iX5 hown hK (va_P_one (hW.obj hp)) 0 rfl rfl 13 (by decide) (hts _ wq860) (fun _ h9 => h9) rfl dX5_standBehind_6 ?_
  refine lv_aload_n hx hb dX5_standBehind_9 rfl (lv_at hl 1 rfl) ?_
  refine va_get (D := D) (ci := 4) (v := .int q13) (C := RX5) (T := TX5) (N := 15) hx hb hts iX5 hown hK (va_P_one (hW.obj hp2)) 0 rfl rfl 13 (by decide) (hts _ wq860) (fun _ h9 => h9) rfl dX5_standBehind_10 ?_
  refine lv_iconst (v := 1) hx hb dX5_standBehind_13 (by decide) ?_
  refine lv_iadd hx hb dX5_standBehind_14 ?_
  refine va_mmax hx hb (by rw [hml]; exact hl.1.symm) hown (hts _ wq906) (hts _ wq375) (hts _ wq14) (hts _ wq376) (Nat.le_of_ble_eq_true rfl) (Nat.le_of_ble_eq_true rfl) (Nat.le_of_ble_eq_true rfl) (Nat.le_of_ble_eq_true rfl) dX5_standBehind_15 ?_
  refine x_put (D := D) (ci := 4) (C := RX5) (T := TX5) (N := 15) (ty := .int) hx hb hts iX5 tyX5 tyX5_ok nmX5 hown hK (hW.obj hp) hpA hS rfl 13 (by decide) (hts _ wq860) (fun _ h9 => h9) rfl (by decide +kernel) rfl rfl (Nat.le_of_ble_eq_true rfl) dX5_standBehind_18 (fun H1 locs1 hb1 hk1 hz1 hS1 => ?_)
  have hW1 := hW.set hp hb1 hk1
  have hq1 := hW1.obj (Or.inl ⟨hp2, hne⟩)
  refine lv_aload_n hx hb dX5_standBehind_21 rfl (lv_at hl 0 rfl) ?_
  refine lv_dup hx hb dX5_standBehind_22 rfl ?_
  refine va_get (D := D) (ci := 4) (v := .int p14) (C := RX5) (T := TX5) (N := 15) hx hb hts iX5 hown hK (va_P_one hb1) 0 rfl rfl 14 (by decide) (hts _ wq862) (fun _ h9 => h9) rfl dX5_standBehind_23 ?_
  refine lv_aload_n hx hb dX5_standBehind_26 rfl (lv_at hl 1 rfl) ?_
  refine va_get (D := D) (ci := 4) (v := .int q14) (C := RX5) (T := TX5) (N := 15) hx hb hts iX5 hown hK (va_P_one hq1) 0 rfl rfl 14 (by decide) (hts _ wq862) (fun _ h9 => h9) rfl dX5_standBehind_27 ?_
  refine lv_iconst (v := 1) hx hb dX5_standBehind_30 (by decide) ?_
  refine lv_iload_n hx hb dX5_standBehind_31 rfl (lv_at hl 2 rfl) ?_
  refine lv_ishl hx hb dX5_standBehind_32 ?_
  refine lv_ior hx hb dX5_standBehind_33 ?_
  refine lv_ior hx hb dX5_standBehind_34 ?_
  refine x_put (D := D) (ci := 4) (C := RX5) (T := TX5) (N := 15) (ty := .int) hx hb hts iX5 tyX5 tyX5_ok nmX5 hown hK hb1 hpA hS1 rfl 14 (by decide) (hts _ wq862) (fun _ h9 => h9) rfl (by decide +kernel) rfl rfl (Nat.le_of_ble_eq_true rfl) dX5_standBehind_35 (fun H2 locs2 hb2 hk2 hz2 hS2 => ?_)
  have hW2 := (hW1.set (Or.inr ⟨⟨rfl, rfl, rfl⟩, rfl, rfl⟩) hb2 hk2).set2
  exact W.vret hx hb hr (fun t ht hW9 => ⟨⟨((if p13 < q13 + 1 then q13 + 1 else p13), (p14 ||| (q14 ||| 1 <<< (x &&& 31)))), rfl, trivial, by have h9 := hW2; rw [← ht] at h9; exact h9⟩, hS2.F ht⟩) hS2.2.2 dX5_standBehind_38 hlk
set_option maxHeartbeats 4000000 in
set_option maxRecDepth 100000 in
theorem x_plan0 (l : Launch) {D : va_G} {yc : Nat → ClassId} {e0 : Nat} {A : Nat → Prop} {own : TO} {ob : XO} {rw : XR} {ls : XL} {sz : Nat} {ws g0 g1 : Nat} {s2 s3 s4 : Value} (hws : ob 7 0 0 ws (9, [.ref g0, .ref g1, s2, s3, s4])) {gs : List Value} {i1 : Int32} (hg : ob 6 0 0 g0 (2, gs)) (h0 : i1 < 0) : Met l yX10_planOf (ws_ yX10_planOf cX10_planOf 3 (some (.object "WeirStream$Plan"))) { frames := 1, cells := 0, slots := 0, locals := 24 } (PX D yc e0 A own ob rw ls sz [.ref ws, .int i1]) (zQ (some .null)) 0 0 zno := by
  refine xk_M (by decide) (Nat.le_of_ble_eq_true rfl) ?_
  intro p e s m args below meth c ls hx hb hml hr hlk hown hts hW hz hS hA hC hl
  have hK := hC.1
  have hN := hC.2.1
  have hl : lv_has ls 3 [(0, .ref ws), (1, .int i1)] := hl
  refine lv_aload_n hx hb dX10_planOf_0 rfl (lv_at hl 0 rfl) ?_
  refine va_get (D := D) (ci := 9) (v := .ref g0) (C := RX10) (T := TX10) (N := 5) hx hb hts iX10 hown hK (va_P_one (hW.obj hws)) 0 rfl rfl 0 (by decide) (hts _ wq95) (fun _ h9 => h9) rfl dX10_planOf_1 ?_
  refine lv_iload_n hx hb dX10_planOf_4 rfl (lv_at hl 1 rfl) ?_
  refine zr_q (va_runV (As := [.int i1]) (rest := []) ⟨hx, hb, hml, hown, hts⟩ (x_at0 l h0) (cwV 1 hts (lw_V wq223 wq224 wq225 wq2 wq226) rfl rfl rfl (by decide +kernel) ⟨(Nat.le_of_ble_eq_true rfl), (Nat.le_of_ble_eq_true rfl)⟩) (px_V hC hW hS hA (hW.obj hg) rfl) rfl rfl hl.1 rfl (lv_room (Nat.le_of_ble_eq_true rfl)) dX10_planOf_5 ⟨(Nat.le_of_ble_eq_true rfl), (Nat.le_of_ble_eq_true rfl)⟩) ?_
  refine lv_astore_nN (lv' := [(2, .null), (0, .ref ws), (1, .int i1)]) hx hb dX10_planOf_8 rfl hl (by decide) rfl (fun ls hl => ?_)
  refine lv_aload_nN hx hb dX10_planOf_9 rfl (lv_at hl 0 rfl) ?_
  refine lv_ifnonnullN hx hb dX10_planOf_10 ?_
  refine lv_null hx hb dX10_planOf_13 ?_
  refine lv_goto (tgt := 21) hx hb dX10_planOf_14 (by decide) ?_
  exact ze_q hx hb hr (by first | exact Or.inl ⟨_, rfl⟩ | exact Or.inr ⟨_, rfl⟩) hlk (by first | exact Or.inl rfl | exact Or.inr ⟨_, rfl⟩) (by rfl) dX10_planOf_21
set_option maxHeartbeats 4000000 in
set_option maxRecDepth 100000 in
theorem x_plan (l : Launch) {D : va_G} {yc : Nat → ClassId} {e0 : Nat} {A : Nat → Prop} {own : TO} {ob : XO} {rw : XR} {ls : XL} {sz : Nat} {ws g0 g1 : Nat} {s2 s3 s4 : Value} (hws : ob 7 0 0 ws (9, [.ref g0, .ref g1, s2, s3, s4])) {lst0 i pi : Nat} {t2 t3 t4 t5 t6 t7 : Value} {L : List Nat} {b1 b2 b3 b4 b5 b6 b7 b8 b9 b10 b11 : Value} (hg : ob 6 0 0 g0 (2, [.int 0, .ref lst0, t2, t3, t4, t5, t6, t7])) (hl0 : ls 0 0 0 lst0 L) (hi : i < L.length) (hLL : L.length ≤ 12) (hst : ob 2 0 i L[i] (7, [.ref pi, b1, b2, b3, b4, b5, b6, b7, b8, b9, b10, b11])) : Met l yX10_planOf (ws_ yX10_planOf cX10_planOf 3 (some (.object "WeirStream$Plan"))) { frames := 4, cells := 0, slots := 0, locals := 90 } (PX D yc e0 A own ob rw ls sz [.ref ws, .int (nI i)]) (zQ (some (.ref pi))) 0 0 zno := by
  refine xk_M (by decide) (Nat.le_of_ble_eq_true rfl) ?_
  intro p e s m args below meth c ls hx hb hml hr hlk hown hts hW hz hS hA hC hl
  have hK := hC.1
  have hN := hC.2.1
  have hl : lv_has ls 3 [(0, .ref ws), (1, .int (nI i))] := hl
  refine lv_aload_n hx hb dX10_planOf_0 rfl (lv_at hl 0 rfl) ?_
  refine va_get (D := D) (ci := 9) (v := .ref g0) (C := RX10) (T := TX10) (N := 5) hx hb hts iX10 hown hK (va_P_one (hW.obj hws)) 0 rfl rfl 0 (by decide) (hts _ wq95) (fun _ h9 => h9) rfl dX10_planOf_1 ?_
  refine lv_iload_n hx hb dX10_planOf_4 rfl (lv_at hl 1 rfl) ?_
  refine zr_q (va_runV (As := [.int (nI i)]) (rest := []) ⟨hx, hb, hml, hown, hts⟩ (x_at l hg hl0 hi (by omega) hst) (cwV 1 hts (lw_V wq223 wq224 wq225 wq2 wq226) rfl rfl rfl (by decide +kernel) ⟨(Nat.le_of_ble_eq_true rfl), (Nat.le_of_ble_eq_true rfl)⟩) (px_V hC hW hS hA (hW.obj hg) rfl) rfl rfl hl.1 rfl (lv_room (Nat.le_of_ble_eq_true rfl)) dX10_planOf_5 ⟨(Nat.le_of_ble_eq_true rfl), (Nat.le_of_ble_eq_true rfl)⟩) ?_
  refine lv_astore_n (lv' := [(2, .ref L[i]), (0, .ref ws), (1, .int (nI i))]) hx hb dX10_planOf_8 rfl hl (by decide) rfl (fun ls hl => ?_)
  refine lv_aload_n hx hb dX10_planOf_9 rfl (lv_at hl 0 rfl) ?_
  refine lv_ifnonnull (tgt := 17) hx hb dX10_planOf_10 (by decide) ?_
  refine lv_aload_n hx hb dX10_planOf_17 rfl (lv_at hl 0 rfl) ?_
  refine va_getN (D := D) (ci := 7) (v := .ref pi) (C := RX8) (T := TX8) (N := 12) hx hb hts iX8 hown hK (va_P_one (hW.obj hst)) 0 rfl rfl 0 (by decide) (zk_tab rfl (hN _ wr1104 rfl)) (fun _ h9 => h9) rfl dX10_planOf_18 ?_
  exact ze_q hx hb hr (by first | exact Or.inl ⟨_, rfl⟩ | exact Or.inr ⟨_, rfl⟩) hlk (by first | exact Or.inl rfl | exact Or.inr ⟨_, rfl⟩) (by rfl) dX10_planOf_21
set_option maxHeartbeats 4000000 in
set_option maxRecDepth 100000 in
theorem x_wire_0 (l : Launch) {D : va_G} {yc : Nat → ClassId} {e0 : Nat} {A : Nat → Prop} {own : TO} {ob : XO} {rw : XR} {ls : XL} {sz : Nat} {i j n pl lst0 lst1 : Nat} {p13 p14 : Int32} {p0 p3 p4 p5 p6 p7 p8 p9 p10 p11 p12 t2 t3 t4 t5 t6 t7 w2 w3 w4 w5 w6 w7 : Value} {L M : List Nat} {ws g0 g1 : Nat} {s2 s3 s4 : Value} (hws : ob 7 0 0 ws (9, [.ref g0, .ref g1, s2, s3, s4])) (hg0 : ob 6 0 0 g0 (2, [.int 0, .ref lst0, t2, t3, t4, t5, t6, t7])) (hg1 : ob 6 1 0 g1 (2, [.int 1, .ref lst1, w2, w3, w4, w5, w6, w7])) (hL : ls 0 0 0 lst0 L) (hM : ls 0 1 0 lst1 M) (hn : L.length = n) (hn1 : M.length = n) (hLL : n ≤ 11) (hEL : ∀ y ∈ L, ∃ kd fl k fs, ob kd fl k y (7, fs)) (hEM : ∀ y ∈ M, ∃ kd fl k fs, ob kd fl k y (7, fs)) (hp : ob 8 0 n pl (4, [p0, .int (-1), .int (-1), p3, p4, p5, p6, p7, p8, p9, p10, p11, p12, .int p13, .int p14])) (hpu : ∀ kd fl k e, ob kd fl k pl e → kd = 8 ∧ fl = 0 ∧ k = n) : Met l yX10_wire (ws_ yX10_wire cX10_wire 4 (some .int)) { frames := 10, cells := 86, slots := 534, locals := 340 } (PX D yc e0 A own ob rw ls sz [.ref ws, .ref pl]) (va_Qi (fun r (_ : (Int32 × Int32) × TO × Nat × (Nat × Nat) × ((Nat → Nat → Nat) × TO × Nat × Nat) × ((Nat → Nat → Nat) × TO × Nat × Nat)) => r = nI n) (fun u t => WX D yc e0 A u.2.1 (fun kd fl k a e => obset ob 8 0 n pl (4, [p0, .int (-1), .int (-1), p3, p4, p5, p6, p7, p8, p9, p10, p11, p12, .int u.1.1, .int u.1.2]) kd fl k a e ∨ False ∨ blo (sblk yc e0 u.2.2.2.2.1.1 u.2.2.2.1.1 pl u.2.2.1 .null .null (.int 0)) (stag 0 n) kd fl k a e ∨ False ∨ blo (sblk yc e0 u.2.2.2.2.2.1 u.2.2.2.1.2 pl u.2.2.1 .null .null (.int 1)) (stag 1 n) kd fl k a e) (fun i r => rw i r ∨ (i = rl n ∧ r = u.2.2.1) ∨ blr yc (sblk yc e0 u.2.2.2.2.1.1 u.2.2.2.1.1 pl u.2.2.1 .null .null (.int 0)) (stag 0 n) i r ∨ blr yc (sblk yc e0 u.2.2.2.2.2.1 u.2.2.2.1.2 pl u.2.2.1 .null .null (.int 1)) (stag 1 n) i r) (lsadd (fun b fl k a L1 => (lsadd (fun b fl k a L1 => ls b fl k a L1 ∨ bll e0 (sblk yc e0 u.2.2.2.2.1.1 u.2.2.2.1.1 pl u.2.2.1 .null .null (.int 0)) (stag 0 n) b fl k a L1) 0 0 0 lst0 (L ++ [u.2.2.2.1.1])) b fl k a L1 ∨ bll e0 (sblk yc e0 u.2.2.2.2.2.1 u.2.2.2.1.2 pl u.2.2.1 .null .null (.int 1)) (stag 1 n) b fl k a L1) 0 1 0 lst1 (M ++ [u.2.2.2.1.2])) t.heap) A) 86 534 A := by
  refine xk_M (by decide) (Nat.le_of_ble_eq_true rfl) ?_
  intro p e s m args below meth c ls hx hb hml hr hlk hown hts hW hz hS hA hC hl
  have hK := hC.1
  have hN := hC.2.1
  have hl : lv_has ls 4 [(0, .ref ws), (1, .ref pl)] := hl
  generalize hHH : s.heap = H at hW ⊢
  have hS : va_S A s.heap H [] := by rw [← hHH]; exact hS
  have hz : H.size = sz := by rw [← hHH]; exact hz
  subst hz
  refine lv_aload_n hx hb dX10_wire_0 rfl (lv_at hl 0 rfl) ?_
  refine va_get (D := D) (ci := 9) (v := .ref g0) (C := RX10) (T := TX10) (N := 5) hx hb hts iX10 hown hK (va_P_one (hW.obj hws)) 0 rfl rfl 0 (by decide) (hts _ wq95) (fun _ h9 => h9) rfl dX10_wire_1 ?_
  refine zr_i (va_runV (As := []) (rest := []) ⟨hx, hb, hml, hown, hts⟩ (x_fsize l hg0 hL) (cwV 0 hts (lw_V wq115 wq116 wq117 wq2 wq118) rfl rfl rfl (by decide +kernel) ⟨(Nat.le_of_ble_eq_true rfl), (Nat.le_of_ble_eq_true rfl)⟩) (px_V hC hW hS hA (hW.obj hg0) rfl) rfl rfl hl.1 rfl (lv_room (Nat.le_of_ble_eq_true rfl)) dX10_wire_4 ⟨(Nat.le_of_ble_eq_true rfl), (Nat.le_of_ble_eq_true rfl)⟩) ?_
  refine zk_ti (y := nI n) (by rw [hn]) ?_
  refine lv_istore_n (lv' := [(2, .int (nI n)), (0, .ref ws), (1, .ref pl)]) hx hb dX10_wire_7 rfl hl (by decide) rfl (fun ls hl => ?_)
  have hpA := hW.in hp
  have hltp : ∀ kd fl k a e, ob kd fl k a e → ¬ (kd = 8 ∧ fl = 0 ∧ k = n) → ¬ a = pl := fun kd fl k a e h1 h2 h3 => h2 (hpu kd fl k e (by rw [← h3]; exact h1))
  refine lv_aload_n hx hb dX10_wire_8 rfl (lv_at hl 2 rfl) ?_
  refine lv_aload_n hx hb dX10_wire_9 rfl (lv_at hl 1 rfl) ?_
  refine lv_aload_n hx hb dX10_wire_10 rfl (lv_at hl 2 rfl) ?_
  refine va_getN (D := D) (ci := 4) (v := .int (-1)) (C := RX5) (T := TX5) (N := 15) hx hb hts iX5 hown hK (va_P_one (hW.obj hp)) 0 rfl rfl 1 (by decide) (zk_tab rfl (hN _ wr836 rfl)) (fun _ h9 => h9) rfl dX10_wire_11 ?_
  refine zr_q (va_runV (As := [.int (-1)]) (rest := [.ref pl]) ⟨hx, hb, hml, hown, hts⟩ (x_plan0 l hws hg0 (by decide)) (cwV 1 hts (lw_V wq898 wq900 ws27 wq1 wq901) rfl rfl rfl (by decide +kernel) ⟨(Nat.le_of_ble_eq_true rfl), (Nat.le_of_ble_eq_true rfl)⟩) (px_V hC hW hS hA (hW.obj hws) rfl) rfl rfl hl.1 rfl (lv_room (Nat.le_of_ble_eq_true rfl)) dX10_wire_14 ⟨(Nat.le_of_ble_eq_true rfl), (Nat.le_of_ble_eq_true rfl)⟩) ?_
  refine lv_aload_n hx hb dX10_wire_17 rfl (lv_at hl 2 rfl) ?_
  refine va_getN (D := D) (ci := 4) (v := .int (-1)) (C := RX5) (T := TX5) (N := 15) hx hb hts iX5 hown hK (va_P_one (hW.obj hp)) 0 rfl rfl 1 (by decide) (zk_tab rfl (hN _ wr836 rfl)) (fun _ h9 => h9) rfl dX10_wire_18 ?_
  refine zr_v (va_runV (As := [.null, .int (-1)]) (rest := []) ⟨hx, hb, hml, hown, hts⟩ (x_sb0 l) (cwV 2 hts (lw_V wq902 wq903 wq904 wq11 wq905) rfl rfl rfl (by decide +kernel) ⟨(Nat.le_of_ble_eq_true rfl), (Nat.le_of_ble_eq_true rfl)⟩) (px_V hC hW hS hA (hW.obj hp) rfl) rfl rfl hl.1 rfl (lv_room (Nat.le_of_ble_eq_true rfl)) dX10_wire_21 ⟨(Nat.le_of_ble_eq_true rfl), (Nat.le_of_ble_eq_true rfl)⟩) ?_
  refine lv_aload_n hx hb dX10_wire_24 rfl (lv_at hl 2 rfl) ?_
  refine lv_aload_n hx hb dX10_wire_25 rfl (lv_at hl 1 rfl) ?_
  refine lv_aload_n hx hb dX10_wire_26 rfl (lv_at hl 2 rfl) ?_
  refine va_getN (D := D) (ci := 4) (v := .int (-1)) (C := RX5) (T := TX5) (N := 15) hx hb hts iX5 hown hK (va_P_one (hW.obj hp)) 0 rfl rfl 2 (by decide) (zk_tab rfl (hN _ wr839 rfl)) (fun _ h9 => h9) rfl dX10_wire_27 ?_
  refine zr_q (va_runV (As := [.int (-1)]) (rest := [.ref pl]) ⟨hx, hb, hml, hown, hts⟩ (x_plan0 l hws hg0 (by decide)) (cwV 1 hts (lw_V wq898 wq900 ws27 wq1 wq901) rfl rfl rfl (by decide +kernel) ⟨(Nat.le_of_ble_eq_true rfl), (Nat.le_of_ble_eq_true rfl)⟩) (px_V hC hW hS hA (hW.obj hws) rfl) rfl rfl hl.1 rfl (lv_room (Nat.le_of_ble_eq_true rfl)) dX10_wire_30 ⟨(Nat.le_of_ble_eq_true rfl), (Nat.le_of_ble_eq_true rfl)⟩) ?_
  refine lv_aload_n hx hb dX10_wire_33 rfl (lv_at hl 2 rfl) ?_
  refine va_getN (D := D) (ci := 4) (v := .int (-1)) (C := RX5) (T := TX5) (N := 15) hx hb hts iX5 hown hK (va_P_one (hW.obj hp)) 0 rfl rfl 2 (by decide) (zk_tab rfl (hN _ wr839 rfl)) (fun _ h9 => h9) rfl dX10_wire_34 ?_
  refine zr_v (va_runV (As := [.null, .int (-1)]) (rest := []) ⟨hx, hb, hml, hown, hts⟩ (x_sb0 l) (cwV 2 hts (lw_V wq902 wq903 wq904 wq11 wq905) rfl rfl rfl (by decide +kernel) ⟨(Nat.le_of_ble_eq_true rfl), (Nat.le_of_ble_eq_true rfl)⟩) (px_V hC hW hS hA (hW.obj hp) rfl) rfl rfl hl.1 rfl (lv_room (Nat.le_of_ble_eq_true rfl)) dX10_wire_37 ⟨(Nat.le_of_ble_eq_true rfl), (Nat.le_of_ble_eq_true rfl)⟩) ?_
  have hW1 : WX D yc e0 A own (obset ob 8 0 n pl (4, [p0, .int (-1), .int (-1), p3, p4, p5, p6, p7, p8, p9, p10, p11, p12, .int (p13, p14).1, .int (p13, p14).2])) rw _ H := hW.mono (fun kd fl k a e q => q.elim And.left (fun q => by obtain ⟨⟨rfl, rfl, rfl⟩, rfl, rfl⟩ := q; exact hp)) (fun _ _ q => q) (fun _ _ _ _ _ q => q)
  refine x_new (ci := 5) (fs := [.null, .int 0]) (C := RX6) (T := TX6) (N := 2) hx hb hts iX6 tyX6 tyX6_ok hown (hts _ wq907) (hts _ wq908) (hts _ wq15) hK rfl dfX6 (Nat.le_of_ble_eq_true rfl) (Nat.le_of_ble_eq_true rfl) dX10_wire_40 (fun H2 hz2 hk2 hb2 => ?_)
  have hS1 := hS
  have hAs : A H.size := hA _ hS1.1
  have hS2 : va_S A s.heap H2 _ := ⟨Nat.le_trans hS1.1 (by omega), fun q h1 h2 => (hk2 q (Nat.lt_of_lt_of_le h1 hS1.1)).trans (hS1.2.1 q h1 h2), hS1.2.2⟩
  have hA2 : ∀ q, H2.size ≤ q → A q := fun q hq => hA q (Nat.le_trans hS2.1 hq)
  refine lv_dup hx hb dX10_wire_43 rfl ?_
  refine va_callv (va_runIN (As := []) (rest := [.ref H.size]) ⟨hx, hb, hml, hown, hts⟩ (kX6_init_0 l D yc e0 H2.size H.size) ⟨va_cnB 0 hts (lw_C wq911) rfl rfl rfl (hN _ wr909 rfl) (hts _ wq15) (by decide +kernel) ⟨(Nat.le_of_ble_eq_true rfl), (Nat.le_of_ble_eq_true rfl)⟩, rfl, hts _ wq910⟩ (zk_pS (A := A) hC (va_P_one hb2) (xda hAs) hS2 hA [0] rfl rfl) rfl rfl hl.1 rfl (lv_room (Nat.le_of_ble_eq_true rfl)) dX10_wire_44 ⟨(Nat.le_of_ble_eq_true rfl), (Nat.le_of_ble_eq_true rfl)⟩) hS2 (fun q _ h => xfa hAs hA2 q h) (xfa hAs hA2) (fun u t3 H3 locs3 ht3 hvm3 hw3 hB3 hz3 hk3 hS3 => ?_)
  obtain ⟨hP3, hD3⟩ := hB3
  rw [ht3] at hP3
  have hge : ∀ (i : Nat) (q : Nat × va_E), [((H.size, .inr (5, [.ref (u 0 0), .int 0])) : Nat × va_E), (u 0 0, .inl (yc 1, 8, .inr (.inl (fun _ => 0))))][i]? = some q → A q.1 ∧ H.size ≤ q.1 := fun i q hi => ⟨xfa hAs hA2 _ (hD3.2 i q hi), by
    rcases hD3.2 i q hi with ⟨z, e9, h9⟩ | h9
    · match z, h9 with
      | 0, h9 => simp only [List.getElem?_cons_zero, Option.some.injEq, Prod.mk.injEq] at h9; omega
      | z + 1, h9 => simp at h9
    · omega⟩
  obtain ⟨own3, ho3, hW3⟩ := hW1.addblk [(H.size, .inr (5, [.ref (u 0 0), .int 0])), (u 0 0, .inl (yc 1, 8, .inr (.inl (fun _ => 0))))] [(1, rl n, 0, 0), (2, rl n, 0, 0)] (fun q hq => (hk3 q (by omega) (xna (by omega) (by omega))).trans (hk2 q hq)) hP3 hD3.1 hge
  have hW4 : WX D yc e0 A own3 (obset ob 8 0 n pl (4, [p0, .int (-1), .int (-1), p3, p4, p5, p6, p7, p8, p9, p10, p11, p12, .int (p13, p14).1, .int (p13, p14).2])) (fun i r => rw i r ∨ (i = rl n ∧ r = H.size)) _ H3 := hW3.mono (fun _ _ _ _ _ q => Or.inl q) (fun i r q => q.elim Or.inl (fun q => Or.inr ⟨0, u 0 0, by rw [q.1]; rfl, by rw [q.1]; rfl, by rw [q.2]; rfl, rfl⟩)) (fun _ _ _ _ _ q => Or.inl q)
  refine lv_astore_n (lv' := [(3, .ref H.size), (2, .int (nI n)), (0, .ref ws), (1, .ref pl)]) hx hb dX10_wire_47 rfl hl (by decide) rfl (fun ls hl => ?_)
  have hE7 : ∀ y fs kd fl k, ob kd fl k y (7, fs) → (obset ob 8 0 n pl (4, [p0, .int (-1), .int (-1), p3, p4, p5, p6, p7, p8, p9, p10, p11, p12, .int (p13, p14).1, .int (p13, p14).2])) kd fl k y (7, fs) := fun y fs kd fl k q => Or.inl ⟨q, fun h9 => by
    rw [h9] at q
    have h8 := (hW.2.2.2 _ _ _ _ _ _ _ _ _ q hp)
    simp at h8⟩
  have hE1 : ∀ y fs kd fl k, ob kd fl k y (1, fs) → (obset ob 8 0 n pl (4, [p0, .int (-1), .int (-1), p3, p4, p5, p6, p7, p8, p9, p10, p11, p12, .int (p13, p14).1, .int (p13, p14).2])) kd fl k y (1, fs) := fun y fs kd fl k q => Or.inl ⟨q, fun h9 => by
    rw [h9] at q
    have h8 := (hW.2.2.2 _ _ _ _ _ _ _ _ _ q hp)
    simp at h8⟩
  refine lv_aload_n hx hb dX10_wire_48 rfl (lv_at hl 2 rfl) ?_
  refine va_get (D := D) (ci := 9) (v := .ref g0) (C := RX10) (T := TX10) (N := 5) hx hb hts iX10 hown hK (va_P_one (hW4.obj (Or.inl ⟨hws, hltp _ _ _ _ _ hws (fun h9 => absurd h9.1 (by decide))⟩))) 0 rfl rfl 0 (by decide) (hts _ wq95) (fun _ h9 => h9) rfl dX10_wire_49 ?_
  refine lv_aload_n hx hb dX10_wire_52 rfl (lv_at hl 3 rfl) ?_
  refine lv_aload_n hx hb dX10_wire_53 rfl (lv_at hl 0 rfl) ?_
  refine va_callv (va_runV (As := [.ref pl, .ref H.size]) (rest := []) ⟨hx, hb, hml, hown, hts⟩ (x_fadd_00 l (i := 0) (j := 0) (np := n) (L := L) (Or.inl ⟨hg0, hltp _ _ _ _ _ hg0 (fun h9 => absurd h9.1 (by decide))⟩) hL (by omega) (fun y hy => by obtain ⟨z1, z2, z3, z4, z5⟩ := hEL y hy; exact ⟨z1, z2, z3, z4, hE7 _ _ _ _ _ z5⟩) (Or.inr ⟨⟨rfl, rfl, rfl⟩, rfl, rfl⟩)) (cwV 2 hts (lw_V wq920 wq921 wq922 wq2 wq923) rfl rfl rfl (by decide +kernel) ⟨(Nat.le_of_ble_eq_true rfl), (Nat.le_of_ble_eq_true rfl)⟩) (px_V hC hW4 hS3 hA (hW4.obj (Or.inl ⟨hg0, hltp _ _ _ _ _ hg0 (fun h9 => absurd h9.1 (by decide))⟩)) rfl) rfl rfl hl.1 rfl (lv_room (Nat.le_of_ble_eq_true rfl)) dX10_wire_54 ⟨(Nat.le_of_ble_eq_true rfl), (Nat.le_of_ble_eq_true rfl)⟩) hS3 (fun _ _ h => h) (fun _ h => h) (fun u5 t5 H5 locs5 ht5 hvm5 hw5 hB5 hz5 hk5 hS5 => ?_)
  obtain ⟨ho5, hW5⟩ := hB5
  rw [ht5] at hW5
  rw [hn] at hW5
  refine lv_aload_n hx hb dX10_wire_57 rfl (lv_at hl 2 rfl) ?_
  refine va_get (D := D) (ci := 9) (v := .ref g1) (C := RX10) (T := TX10) (N := 5) hx hb hts iX10 hown hK (va_P_one (hW5.obj (Or.inl (Or.inl ⟨hws, hltp _ _ _ _ _ hws (fun h9 => absurd h9.1 (by decide))⟩)))) 0 rfl rfl 1 (by decide) (hts _ wq96) (fun _ h9 => h9) rfl dX10_wire_58 ?_
  refine lv_aload_n hx hb dX10_wire_61 rfl (lv_at hl 3 rfl) ?_
  refine lv_aload_n hx hb dX10_wire_62 rfl (lv_at hl 0 rfl) ?_
  refine va_callv (va_runV (As := [.ref pl, .ref H.size]) (rest := []) ⟨hx, hb, hml, hown, hts⟩ (x_fadd_10 l (i := 0) (j := 0) (np := n) (L := M) (Or.inl (Or.inl ⟨hg1, hltp _ _ _ _ _ hg1 (fun h9 => absurd h9.1 (by decide))⟩)) (Or.inl ⟨Or.inl hM, (fun h9 => absurd h9.2.1 (by decide))⟩) (by omega) (fun y hy => by obtain ⟨z1, z2, z3, z4, z5⟩ := hEM y hy; exact ⟨z1, z2, z3, z4, Or.inl (hE7 _ _ _ _ _ z5)⟩) (Or.inl (Or.inr ⟨⟨rfl, rfl, rfl⟩, rfl, rfl⟩))) (cwV 2 hts (lw_V wq920 wq921 wq922 wq2 wq923) rfl rfl rfl (by decide +kernel) ⟨(Nat.le_of_ble_eq_true rfl), (Nat.le_of_ble_eq_true rfl)⟩) (px_V hC hW5 hS5 hA (hW5.obj (Or.inl (Or.inl ⟨hg1, hltp _ _ _ _ _ hg1 (fun h9 => absurd h9.1 (by decide))⟩))) rfl) rfl rfl hl.1 rfl (lv_room (Nat.le_of_ble_eq_true rfl)) dX10_wire_63 ⟨(Nat.le_of_ble_eq_true rfl), (Nat.le_of_ble_eq_true rfl)⟩) hS5 (fun _ _ h => h) (fun _ h => h) (fun u6 t6 H6 locs6 ht6 hvm6 hw6 hB6 hz6 hk6 hS6 => ?_)
  obtain ⟨ho6, hW6⟩ := hB6
  rw [ht6] at hW6
  rw [hn1] at hW6
  refine lv_iload_n hx hb dX10_wire_66 rfl (lv_at hl 1 rfl) ?_
  exact W.widen (Nat.le_of_ble_eq_true rfl) (Nat.le_of_ble_eq_true rfl) (W.zret hx hb hr rfl (fun t ht hW9 => ⟨⟨nI n, ((p13, p14), u6.2.1, H.size, (H3.size, H5.size), u5, u6), rfl, rfl, by subst ht; exact hW6.mono (fun kd fl k a e q => q.elim (fun q => Or.inl (Or.inl q)) (fun q => q.elim (fun q => Or.inl (Or.inr (Or.inl q))) (fun q => q.elim (fun q => Or.inl (Or.inr (Or.inr q))) (fun q => q.elim (fun q => Or.inr (Or.inl q)) (fun q => Or.inr (Or.inr q)))))) (fun i r q => q.elim (fun q => Or.inl (Or.inl (Or.inl q))) (fun q => q.elim (fun q => Or.inl (Or.inl (Or.inr q))) (fun q => q.elim (fun q => Or.inl (Or.inr q)) Or.inr))) (fun _ _ _ _ _ q => q)⟩, hS6.F ht⟩) hS6.2.2 dX10_wire_67 hlk)
set_option maxHeartbeats 4000000 in
set_option maxRecDepth 100000 in
theorem x_wire_1 (l : Launch) {D : va_G} {yc : Nat → ClassId} {e0 : Nat} {A : Nat → Prop} {own : TO} {ob : XO} {rw : XR} {ls : XL} {sz : Nat} {i j n pl lst0 lst1 : Nat} {p13 p14 : Int32} {p0 p3 p4 p5 p6 p7 p8 p9 p10 p11 p12 t2 t3 t4 t5 t6 t7 w2 w3 w4 w5 w6 w7 : Value} {L M : List Nat} {ws g0 g1 : Nat} {s2 s3 s4 : Value} (hws : ob 7 0 0 ws (9, [.ref g0, .ref g1, s2, s3, s4])) (hg0 : ob 6 0 0 g0 (2, [.int 0, .ref lst0, t2, t3, t4, t5, t6, t7])) (hg1 : ob 6 1 0 g1 (2, [.int 1, .ref lst1, w2, w3, w4, w5, w6, w7])) (hL : ls 0 0 0 lst0 L) (hM : ls 0 1 0 lst1 M) (hn : L.length = n) (hn1 : M.length = n) (hLL : n ≤ 11) (hEL : ∀ y ∈ L, ∃ kd fl k fs, ob kd fl k y (7, fs)) (hEM : ∀ y ∈ M, ∃ kd fl k fs, ob kd fl k y (7, fs)) (hp : ob 8 0 n pl (4, [p0, .int (nI i), .int (-1), p3, p4, p5, p6, p7, p8, p9, p10, p11, p12, .int p13, .int p14])) (hpu : ∀ kd fl k e, ob kd fl k pl e → kd = 8 ∧ fl = 0 ∧ k = n) {piA : Nat} {oA irA clA : Nat} {a1A a2A a3A a4A a6A a7A a8A a9A a10A a11A : Value} {LCA : List Nat} (hiA : i < L.length) (hstA : ob 2 0 i L[i] (7, [.ref piA, a1A, a2A, a3A, a4A, .ref oA, a6A, a7A, a8A, a9A, a10A, a11A])) (hoA : ob 3 0 i oA (3, [.ref irA, .ref clA])) (hcA : ls 1 0 i clA LCA) (hLCA : LCA.length ≤ 12) (hEA : ∀ y ∈ LCA, ∃ kd fl k fs, ob kd fl k y (1, fs)) {oAs irAs clAs : Nat} {a0As a1As a2As a3As a4As a6As a7As a8As a9As a10As a11As : Value} {LCAs : List Nat} (hiAs : i < M.length) (hstAs : ob 2 1 i M[i] (7, [a0As, a1As, a2As, a3As, a4As, .ref oAs, a6As, a7As, a8As, a9As, a10As, a11As])) (hoAs : ob 3 1 i oAs (3, [.ref irAs, .ref clAs])) (hcAs : ls 1 1 i clAs LCAs) (hLCAs : LCAs.length ≤ 12) (hEAs : ∀ y ∈ LCAs, ∃ kd fl k fs, ob kd fl k y (1, fs)) {q0A q1A q2A q3A q4A q5A q6A q7A q8A q9A q10A q11A q12A : Value} {q13A q14A : Int32} (hpiA : ob 8 0 i piA (4, [q0A, q1A, q2A, q3A, q4A, q5A, q6A, q7A, q8A, q9A, q10A, q11A, q12A, .int q13A, .int q14A])) : Met l yX10_wire (ws_ yX10_wire cX10_wire 4 (some .int)) { frames := 10, cells := 86, slots := 534, locals := 340 } (PX D yc e0 A own ob rw ls sz [.ref ws, .ref pl]) (va_Qi (fun r (_ : (Int32 × Int32) × TO × Nat × (Nat × Nat) × ((Nat → Nat → Nat) × TO × Nat × Nat) × ((Nat → Nat → Nat) × TO × Nat × Nat)) => r = nI n) (fun u t => WX D yc e0 A u.2.1 (fun kd fl k a e => obset ob 8 0 n pl (4, [p0, .int (nI i), .int (-1), p3, p4, p5, p6, p7, p8, p9, p10, p11, p12, .int u.1.1, .int u.1.2]) kd fl k a e ∨ ((kd = 4 ∧ fl = 0 ∧ k = n) ∧ a = u.2.2.2.2.1.2.2.1 ∧ e = (1, [.ref irA, .int 0, .int 0])) ∨ blo (sblk yc e0 u.2.2.2.2.1.1 u.2.2.2.1.1 pl u.2.2.1 (.ref u.2.2.2.2.1.2.2.1) .null (.int 0)) (stag 0 n) kd fl k a e ∨ ((kd = 4 ∧ fl = 1 ∧ k = n) ∧ a = u.2.2.2.2.2.2.2.1 ∧ e = (1, [.ref irAs, .int 0, .int 0])) ∨ blo (sblk yc e0 u.2.2.2.2.2.1 u.2.2.2.1.2 pl u.2.2.1 (.ref u.2.2.2.2.2.2.2.1) .null (.int 1)) (stag 1 n) kd fl k a e) (fun i r => rw i r ∨ (i = rl n ∧ r = u.2.2.1) ∨ blr yc (sblk yc e0 u.2.2.2.2.1.1 u.2.2.2.1.1 pl u.2.2.1 (.ref u.2.2.2.2.1.2.2.1) .null (.int 0)) (stag 0 n) i r ∨ blr yc (sblk yc e0 u.2.2.2.2.2.1 u.2.2.2.1.2 pl u.2.2.1 (.ref u.2.2.2.2.2.2.2.1) .null (.int 1)) (stag 1 n) i r) (lsadd (fun b fl k a L1 => (lsadd (lsadd (fun b fl k a L1 => (lsadd ls 1 0 i clA (LCA ++ [u.2.2.2.2.1.2.2.1])) b fl k a L1 ∨ bll e0 (sblk yc e0 u.2.2.2.2.1.1 u.2.2.2.1.1 pl u.2.2.1 (.ref u.2.2.2.2.1.2.2.1) .null (.int 0)) (stag 0 n) b fl k a L1) 0 0 0 lst0 (L ++ [u.2.2.2.1.1])) 1 1 i clAs (LCAs ++ [u.2.2.2.2.2.2.2.1])) b fl k a L1 ∨ bll e0 (sblk yc e0 u.2.2.2.2.2.1 u.2.2.2.1.2 pl u.2.2.1 (.ref u.2.2.2.2.2.2.2.1) .null (.int 1)) (stag 1 n) b fl k a L1) 0 1 0 lst1 (M ++ [u.2.2.2.1.2])) t.heap) A) 86 534 A := by
  refine xk_M (by decide) (Nat.le_of_ble_eq_true rfl) ?_
  intro p e s m args below meth c ls hx hb hml hr hlk hown hts hW hz hS hA hC hl
  have hK := hC.1
  have hN := hC.2.1
  have hl : lv_has ls 4 [(0, .ref ws), (1, .ref pl)] := hl
  generalize hHH : s.heap = H at hW ⊢
  have hS : va_S A s.heap H [] := by rw [← hHH]; exact hS
  have hz : H.size = sz := by rw [← hHH]; exact hz
  subst hz
  refine lv_aload_n hx hb dX10_wire_0 rfl (lv_at hl 0 rfl) ?_
  refine va_get (D := D) (ci := 9) (v := .ref g0) (C := RX10) (T := TX10) (N := 5) hx hb hts iX10 hown hK (va_P_one (hW.obj hws)) 0 rfl rfl 0 (by decide) (hts _ wq95) (fun _ h9 => h9) rfl dX10_wire_1 ?_
  refine zr_i (va_runV (As := []) (rest := []) ⟨hx, hb, hml, hown, hts⟩ (x_fsize l hg0 hL) (cwV 0 hts (lw_V wq115 wq116 wq117 wq2 wq118) rfl rfl rfl (by decide +kernel) ⟨(Nat.le_of_ble_eq_true rfl), (Nat.le_of_ble_eq_true rfl)⟩) (px_V hC hW hS hA (hW.obj hg0) rfl) rfl rfl hl.1 rfl (lv_room (Nat.le_of_ble_eq_true rfl)) dX10_wire_4 ⟨(Nat.le_of_ble_eq_true rfl), (Nat.le_of_ble_eq_true rfl)⟩) ?_
  refine zk_ti (y := nI n) (by rw [hn]) ?_
  refine lv_istore_n (lv' := [(2, .int (nI n)), (0, .ref ws), (1, .ref pl)]) hx hb dX10_wire_7 rfl hl (by decide) rfl (fun ls hl => ?_)
  have hpA := hW.in hp
  have hltp : ∀ kd fl k a e, ob kd fl k a e → ¬ (kd = 8 ∧ fl = 0 ∧ k = n) → ¬ a = pl := fun kd fl k a e h1 h2 h3 => h2 (hpu kd fl k e (by rw [← h3]; exact h1))
  refine lv_aload_n hx hb dX10_wire_8 rfl (lv_at hl 2 rfl) ?_
  refine lv_aload_n hx hb dX10_wire_9 rfl (lv_at hl 1 rfl) ?_
  refine lv_aload_n hx hb dX10_wire_10 rfl (lv_at hl 2 rfl) ?_
  refine va_getN (D := D) (ci := 4) (v := .int (nI i)) (C := RX5) (T := TX5) (N := 15) hx hb hts iX5 hown hK (va_P_one (hW.obj hp)) 0 rfl rfl 1 (by decide) (zk_tab rfl (hN _ wr836 rfl)) (fun _ h9 => h9) rfl dX10_wire_11 ?_
  refine zr_q (va_runV (As := [.int (nI i)]) (rest := [.ref pl]) ⟨hx, hb, hml, hown, hts⟩ (x_plan l hws hg0 hL hiA (by omega) hstA) (cwV 1 hts (lw_V wq898 wq900 ws27 wq1 wq901) rfl rfl rfl (by decide +kernel) ⟨(Nat.le_of_ble_eq_true rfl), (Nat.le_of_ble_eq_true rfl)⟩) (px_V hC hW hS hA (hW.obj hws) rfl) rfl rfl hl.1 rfl (lv_room (Nat.le_of_ble_eq_true rfl)) dX10_wire_14 ⟨(Nat.le_of_ble_eq_true rfl), (Nat.le_of_ble_eq_true rfl)⟩) ?_
  refine lv_aload_n hx hb dX10_wire_17 rfl (lv_at hl 2 rfl) ?_
  refine va_getN (D := D) (ci := 4) (v := .int (nI i)) (C := RX5) (T := TX5) (N := 15) hx hb hts iX5 hown hK (va_P_one (hW.obj hp)) 0 rfl rfl 1 (by decide) (zk_tab rfl (hN _ wr836 rfl)) (fun _ h9 => h9) rfl dX10_wire_18 ?_
  refine va_callv (va_runV (As := [.ref piA, .int (nI i)]) (rest := []) ⟨hx, hb, hml, hown, hts⟩ (x_sb l hp hpiA (hltp _ _ _ _ _ hpiA (fun h9 => by have h8 := hiA; rw [hn] at h8; omega))) (cwV 2 hts (lw_V wq902 wq903 wq904 wq11 wq905) rfl rfl rfl (by decide +kernel) ⟨(Nat.le_of_ble_eq_true rfl), (Nat.le_of_ble_eq_true rfl)⟩) (px_V hC hW hS hA (hW.obj hp) rfl) rfl rfl hl.1 rfl (lv_room (Nat.le_of_ble_eq_true rfl)) dX10_wire_21 ⟨(Nat.le_of_ble_eq_true rfl), (Nat.le_of_ble_eq_true rfl)⟩) hS (fun _ _ h => h) (fun _ h => h) (fun b0 tb0 K0 kl0 htb0 hvb0 hwb0 hBb0 hzb0 hkb0 hSb0 => ?_)
  rw [htb0] at hBb0
  refine lv_aload_n hx hb dX10_wire_24 rfl (lv_at hl 2 rfl) ?_
  refine lv_aload_n hx hb dX10_wire_25 rfl (lv_at hl 1 rfl) ?_
  refine lv_aload_n hx hb dX10_wire_26 rfl (lv_at hl 2 rfl) ?_
  refine va_getN (D := D) (ci := 4) (v := .int (-1)) (C := RX5) (T := TX5) (N := 15) hx hb hts iX5 hown hK (va_P_one (hBb0.obj (Or.inr ⟨⟨rfl, rfl, rfl⟩, rfl, rfl⟩))) 0 rfl rfl 2 (by decide) (zk_tab rfl (hN _ wr839 rfl)) (fun _ h9 => h9) rfl dX10_wire_27 ?_
  refine zr_q (va_runV (As := [.int (-1)]) (rest := [.ref pl]) ⟨hx, hb, hml, hown, hts⟩ (x_plan0 l (Or.inl ⟨hws, hltp _ _ _ _ _ hws (fun h9 => absurd h9.1 (by decide))⟩) (Or.inl ⟨hg0, hltp _ _ _ _ _ hg0 (fun h9 => absurd h9.1 (by decide))⟩) (by decide)) (cwV 1 hts (lw_V wq898 wq900 ws27 wq1 wq901) rfl rfl rfl (by decide +kernel) ⟨(Nat.le_of_ble_eq_true rfl), (Nat.le_of_ble_eq_true rfl)⟩) (px_V hC hBb0 hSb0 hA (hBb0.obj (Or.inl ⟨hws, hltp _ _ _ _ _ hws (fun h9 => absurd h9.1 (by decide))⟩)) rfl) rfl rfl hl.1 rfl (lv_room (Nat.le_of_ble_eq_true rfl)) dX10_wire_30 ⟨(Nat.le_of_ble_eq_true rfl), (Nat.le_of_ble_eq_true rfl)⟩) ?_
  refine lv_aload_n hx hb dX10_wire_33 rfl (lv_at hl 2 rfl) ?_
  refine va_getN (D := D) (ci := 4) (v := .int (-1)) (C := RX5) (T := TX5) (N := 15) hx hb hts iX5 hown hK (va_P_one (hBb0.obj (Or.inr ⟨⟨rfl, rfl, rfl⟩, rfl, rfl⟩))) 0 rfl rfl 2 (by decide) (zk_tab rfl (hN _ wr839 rfl)) (fun _ h9 => h9) rfl dX10_wire_34 ?_
  refine zr_v (va_runV (As := [.null, .int (-1)]) (rest := []) ⟨hx, hb, hml, hown, hts⟩ (x_sb0 l) (cwV 2 hts (lw_V wq902 wq903 wq904 wq11 wq905) rfl rfl rfl (by decide +kernel) ⟨(Nat.le_of_ble_eq_true rfl), (Nat.le_of_ble_eq_true rfl)⟩) (px_V hC hBb0 hSb0 hA (hBb0.obj (Or.inr ⟨⟨rfl, rfl, rfl⟩, rfl, rfl⟩)) rfl) rfl rfl hl.1 rfl (lv_room (Nat.le_of_ble_eq_true rfl)) dX10_wire_37 ⟨(Nat.le_of_ble_eq_true rfl), (Nat.le_of_ble_eq_true rfl)⟩) ?_
  have hW1 : WX D yc e0 A own (obset ob 8 0 n pl (4, [p0, .int (nI i), .int (-1), p3, p4, p5, p6, p7, p8, p9, p10, p11, p12, .int b0.1, .int b0.2])) rw _ K0 := hBb0
  refine x_new (ci := 5) (fs := [.null, .int 0]) (C := RX6) (T := TX6) (N := 2) hx hb hts iX6 tyX6 tyX6_ok hown (hts _ wq907) (hts _ wq908) (hts _ wq15) hK rfl dfX6 (Nat.le_of_ble_eq_true rfl) (Nat.le_of_ble_eq_true rfl) dX10_wire_40 (fun H2 hz2 hk2 hb2 => ?_)
  have hS1 := hSb0
  have hAs : A K0.size := hA _ hS1.1
  have hS2 : va_S A s.heap H2 _ := ⟨Nat.le_trans hS1.1 (by omega), fun q h1 h2 => (hk2 q (Nat.lt_of_lt_of_le h1 hS1.1)).trans (hS1.2.1 q h1 h2), hS1.2.2⟩
  have hA2 : ∀ q, H2.size ≤ q → A q := fun q hq => hA q (Nat.le_trans hS2.1 hq)
  refine lv_dup hx hb dX10_wire_43 rfl ?_
  refine va_callv (va_runIN (As := []) (rest := [.ref K0.size]) ⟨hx, hb, hml, hown, hts⟩ (kX6_init_0 l D yc e0 H2.size K0.size) ⟨va_cnB 0 hts (lw_C wq911) rfl rfl rfl (hN _ wr909 rfl) (hts _ wq15) (by decide +kernel) ⟨(Nat.le_of_ble_eq_true rfl), (Nat.le_of_ble_eq_true rfl)⟩, rfl, hts _ wq910⟩ (zk_pS (A := A) hC (va_P_one hb2) (xda hAs) hS2 hA [0] rfl rfl) rfl rfl hl.1 rfl (lv_room (Nat.le_of_ble_eq_true rfl)) dX10_wire_44 ⟨(Nat.le_of_ble_eq_true rfl), (Nat.le_of_ble_eq_true rfl)⟩) hS2 (fun q _ h => xfa hAs hA2 q h) (xfa hAs hA2) (fun u t3 H3 locs3 ht3 hvm3 hw3 hB3 hz3 hk3 hS3 => ?_)
  obtain ⟨hP3, hD3⟩ := hB3
  rw [ht3] at hP3
  have hge : ∀ (i : Nat) (q : Nat × va_E), [((K0.size, .inr (5, [.ref (u 0 0), .int 0])) : Nat × va_E), (u 0 0, .inl (yc 1, 8, .inr (.inl (fun _ => 0))))][i]? = some q → A q.1 ∧ K0.size ≤ q.1 := fun i q hi => ⟨xfa hAs hA2 _ (hD3.2 i q hi), by
    rcases hD3.2 i q hi with ⟨z, e9, h9⟩ | h9
    · match z, h9 with
      | 0, h9 => simp only [List.getElem?_cons_zero, Option.some.injEq, Prod.mk.injEq] at h9; omega
      | z + 1, h9 => simp at h9
    · omega⟩
  obtain ⟨own3, ho3, hW3⟩ := hW1.addblk [(K0.size, .inr (5, [.ref (u 0 0), .int 0])), (u 0 0, .inl (yc 1, 8, .inr (.inl (fun _ => 0))))] [(1, rl n, 0, 0), (2, rl n, 0, 0)] (fun q hq => (hk3 q (by omega) (xna (by omega) (by omega))).trans (hk2 q hq)) hP3 hD3.1 hge
  have hW4 : WX D yc e0 A own3 (obset ob 8 0 n pl (4, [p0, .int (nI i), .int (-1), p3, p4, p5, p6, p7, p8, p9, p10, p11, p12, .int b0.1, .int b0.2])) (fun i r => rw i r ∨ (i = rl n ∧ r = K0.size)) _ H3 := hW3.mono (fun _ _ _ _ _ q => Or.inl q) (fun i r q => q.elim Or.inl (fun q => Or.inr ⟨0, u 0 0, by rw [q.1]; rfl, by rw [q.1]; rfl, by rw [q.2]; rfl, rfl⟩)) (fun _ _ _ _ _ q => Or.inl q)
  refine lv_astore_n (lv' := [(3, .ref K0.size), (2, .int (nI n)), (0, .ref ws), (1, .ref pl)]) hx hb dX10_wire_47 rfl hl (by decide) rfl (fun ls hl => ?_)
  have hE7 : ∀ y fs kd fl k, ob kd fl k y (7, fs) → (obset ob 8 0 n pl (4, [p0, .int (nI i), .int (-1), p3, p4, p5, p6, p7, p8, p9, p10, p11, p12, .int b0.1, .int b0.2])) kd fl k y (7, fs) := fun y fs kd fl k q => Or.inl ⟨q, fun h9 => by
    rw [h9] at q
    have h8 := (hW.2.2.2 _ _ _ _ _ _ _ _ _ q hp)
    simp at h8⟩
  have hE1 : ∀ y fs kd fl k, ob kd fl k y (1, fs) → (obset ob 8 0 n pl (4, [p0, .int (nI i), .int (-1), p3, p4, p5, p6, p7, p8, p9, p10, p11, p12, .int b0.1, .int b0.2])) kd fl k y (1, fs) := fun y fs kd fl k q => Or.inl ⟨q, fun h9 => by
    rw [h9] at q
    have h8 := (hW.2.2.2 _ _ _ _ _ _ _ _ _ q hp)
    simp at h8⟩
  refine lv_aload_n hx hb dX10_wire_48 rfl (lv_at hl 2 rfl) ?_
  refine va_get (D := D) (ci := 9) (v := .ref g0) (C := RX10) (T := TX10) (N := 5) hx hb hts iX10 hown hK (va_P_one (hW4.obj (Or.inl ⟨hws, hltp _ _ _ _ _ hws (fun h9 => absurd h9.1 (by decide))⟩))) 0 rfl rfl 0 (by decide) (hts _ wq95) (fun _ h9 => h9) rfl dX10_wire_49 ?_
  refine lv_aload_n hx hb dX10_wire_52 rfl (lv_at hl 3 rfl) ?_
  refine lv_aload_n hx hb dX10_wire_53 rfl (lv_at hl 0 rfl) ?_
  refine va_callv (va_runV (As := [.ref pl, .ref K0.size]) (rest := []) ⟨hx, hb, hml, hown, hts⟩ (x_fadd_01 l (j := 0) (np := n) (L := L) (Or.inl ⟨hg0, hltp _ _ _ _ _ hg0 (fun h9 => absurd h9.1 (by decide))⟩) hL (by omega) (fun y hy => by obtain ⟨z1, z2, z3, z4, z5⟩ := hEL y hy; exact ⟨z1, z2, z3, z4, hE7 _ _ _ _ _ z5⟩) (Or.inr ⟨⟨rfl, rfl, rfl⟩, rfl, rfl⟩) hiA (Or.inl ⟨hstA, hltp _ _ _ _ _ hstA (fun h9 => absurd h9.1 (by decide))⟩) (Or.inl ⟨hoA, hltp _ _ _ _ _ hoA (fun h9 => absurd h9.1 (by decide))⟩) hcA hLCA (fun y hy => by obtain ⟨z1, z2, z3, z4, z5⟩ := hEA y hy; exact ⟨z1, z2, z3, z4, hE1 _ _ _ _ _ z5⟩)) (cwV 2 hts (lw_V wq920 wq921 wq922 wq2 wq923) rfl rfl rfl (by decide +kernel) ⟨(Nat.le_of_ble_eq_true rfl), (Nat.le_of_ble_eq_true rfl)⟩) (px_V hC hW4 hS3 hA (hW4.obj (Or.inl ⟨hg0, hltp _ _ _ _ _ hg0 (fun h9 => absurd h9.1 (by decide))⟩)) rfl) rfl rfl hl.1 rfl (lv_room (Nat.le_of_ble_eq_true rfl)) dX10_wire_54 ⟨(Nat.le_of_ble_eq_true rfl), (Nat.le_of_ble_eq_true rfl)⟩) hS3 (fun _ _ h => h) (fun _ h => h) (fun u5 t5 H5 locs5 ht5 hvm5 hw5 hB5 hz5 hk5 hS5 => ?_)
  obtain ⟨ho5, hW5⟩ := hB5
  rw [ht5] at hW5
  rw [hn] at hW5
  refine lv_aload_n hx hb dX10_wire_57 rfl (lv_at hl 2 rfl) ?_
  refine va_get (D := D) (ci := 9) (v := .ref g1) (C := RX10) (T := TX10) (N := 5) hx hb hts iX10 hown hK (va_P_one (hW5.obj (Or.inl (Or.inl ⟨hws, hltp _ _ _ _ _ hws (fun h9 => absurd h9.1 (by decide))⟩)))) 0 rfl rfl 1 (by decide) (hts _ wq96) (fun _ h9 => h9) rfl dX10_wire_58 ?_
  refine lv_aload_n hx hb dX10_wire_61 rfl (lv_at hl 3 rfl) ?_
  refine lv_aload_n hx hb dX10_wire_62 rfl (lv_at hl 0 rfl) ?_
  refine va_callv (va_runV (As := [.ref pl, .ref K0.size]) (rest := []) ⟨hx, hb, hml, hown, hts⟩ (x_fadd_11 l (j := 0) (np := n) (L := M) (Or.inl (Or.inl ⟨hg1, hltp _ _ _ _ _ hg1 (fun h9 => absurd h9.1 (by decide))⟩)) (Or.inl ⟨Or.inl (Or.inl ⟨hM, (fun h9 => absurd h9.1 (by decide))⟩), (fun h9 => absurd h9.2.1 (by decide))⟩) (by omega) (fun y hy => by obtain ⟨z1, z2, z3, z4, z5⟩ := hEM y hy; exact ⟨z1, z2, z3, z4, Or.inl (hE7 _ _ _ _ _ z5)⟩) (Or.inl (Or.inr ⟨⟨rfl, rfl, rfl⟩, rfl, rfl⟩)) hiAs (Or.inl (Or.inl ⟨hstAs, hltp _ _ _ _ _ hstAs (fun h9 => absurd h9.1 (by decide))⟩)) (Or.inl (Or.inl ⟨hoAs, hltp _ _ _ _ _ hoAs (fun h9 => absurd h9.1 (by decide))⟩)) (Or.inl ⟨Or.inl (Or.inl ⟨hcAs, (fun h9 => absurd h9.2.1 (by decide))⟩), (fun h9 => absurd h9.1 (by decide))⟩) hLCAs (fun y hy => by obtain ⟨z1, z2, z3, z4, z5⟩ := hEAs y hy; exact ⟨z1, z2, z3, z4, Or.inl (hE1 _ _ _ _ _ z5)⟩)) (cwV 2 hts (lw_V wq920 wq921 wq922 wq2 wq923) rfl rfl rfl (by decide +kernel) ⟨(Nat.le_of_ble_eq_true rfl), (Nat.le_of_ble_eq_true rfl)⟩) (px_V hC hW5 hS5 hA (hW5.obj (Or.inl (Or.inl ⟨hg1, hltp _ _ _ _ _ hg1 (fun h9 => absurd h9.1 (by decide))⟩))) rfl) rfl rfl hl.1 rfl (lv_room (Nat.le_of_ble_eq_true rfl)) dX10_wire_63 ⟨(Nat.le_of_ble_eq_true rfl), (Nat.le_of_ble_eq_true rfl)⟩) hS5 (fun _ _ h => h) (fun _ h => h) (fun u6 t6 H6 locs6 ht6 hvm6 hw6 hB6 hz6 hk6 hS6 => ?_)
  obtain ⟨ho6, hW6⟩ := hB6
  rw [ht6] at hW6
  rw [hn1] at hW6
  refine lv_iload_n hx hb dX10_wire_66 rfl (lv_at hl 1 rfl) ?_
  exact W.widen (Nat.le_of_ble_eq_true rfl) (Nat.le_of_ble_eq_true rfl) (W.zret hx hb hr rfl (fun t ht hW9 => ⟨⟨nI n, (b0, u6.2.1, K0.size, (H3.size, H5.size), u5, u6), rfl, rfl, by subst ht; exact hW6.mono (fun kd fl k a e q => q.elim (fun q => Or.inl (Or.inl q)) (fun q => q.elim (fun q => Or.inl (Or.inr (Or.inl q))) (fun q => q.elim (fun q => Or.inl (Or.inr (Or.inr q))) (fun q => q.elim (fun q => Or.inr (Or.inl q)) (fun q => Or.inr (Or.inr q)))))) (fun i r q => q.elim (fun q => Or.inl (Or.inl (Or.inl q))) (fun q => q.elim (fun q => Or.inl (Or.inl (Or.inr q))) (fun q => q.elim (fun q => Or.inl (Or.inr q)) Or.inr))) (fun _ _ _ _ _ q => q)⟩, hS6.F ht⟩) hS6.2.2 dX10_wire_67 hlk)
set_option maxHeartbeats 4000000 in
set_option maxRecDepth 100000 in
theorem x_wire_2 (l : Launch) {D : va_G} {yc : Nat → ClassId} {e0 : Nat} {A : Nat → Prop} {own : TO} {ob : XO} {rw : XR} {ls : XL} {sz : Nat} {i j n pl lst0 lst1 : Nat} {p13 p14 : Int32} {p0 p3 p4 p5 p6 p7 p8 p9 p10 p11 p12 t2 t3 t4 t5 t6 t7 w2 w3 w4 w5 w6 w7 : Value} {L M : List Nat} {ws g0 g1 : Nat} {s2 s3 s4 : Value} (hws : ob 7 0 0 ws (9, [.ref g0, .ref g1, s2, s3, s4])) (hg0 : ob 6 0 0 g0 (2, [.int 0, .ref lst0, t2, t3, t4, t5, t6, t7])) (hg1 : ob 6 1 0 g1 (2, [.int 1, .ref lst1, w2, w3, w4, w5, w6, w7])) (hL : ls 0 0 0 lst0 L) (hM : ls 0 1 0 lst1 M) (hn : L.length = n) (hn1 : M.length = n) (hLL : n ≤ 11) (hEL : ∀ y ∈ L, ∃ kd fl k fs, ob kd fl k y (7, fs)) (hEM : ∀ y ∈ M, ∃ kd fl k fs, ob kd fl k y (7, fs)) (hp : ob 8 0 n pl (4, [p0, .int (nI i), .int (nI j), p3, p4, p5, p6, p7, p8, p9, p10, p11, p12, .int p13, .int p14])) (hpu : ∀ kd fl k e, ob kd fl k pl e → kd = 8 ∧ fl = 0 ∧ k = n) {piA : Nat} {oA irA clA : Nat} {a1A a2A a3A a4A a6A a7A a8A a9A a10A a11A : Value} {LCA : List Nat} (hiA : i < L.length) (hstA : ob 2 0 i L[i] (7, [.ref piA, a1A, a2A, a3A, a4A, .ref oA, a6A, a7A, a8A, a9A, a10A, a11A])) (hoA : ob 3 0 i oA (3, [.ref irA, .ref clA])) (hcA : ls 1 0 i clA LCA) (hLCA : LCA.length ≤ 12) (hEA : ∀ y ∈ LCA, ∃ kd fl k fs, ob kd fl k y (1, fs)) {oAs irAs clAs : Nat} {a0As a1As a2As a3As a4As a6As a7As a8As a9As a10As a11As : Value} {LCAs : List Nat} (hiAs : i < M.length) (hstAs : ob 2 1 i M[i] (7, [a0As, a1As, a2As, a3As, a4As, .ref oAs, a6As, a7As, a8As, a9As, a10As, a11As])) (hoAs : ob 3 1 i oAs (3, [.ref irAs, .ref clAs])) (hcAs : ls 1 1 i clAs LCAs) (hLCAs : LCAs.length ≤ 12) (hEAs : ∀ y ∈ LCAs, ∃ kd fl k fs, ob kd fl k y (1, fs)) {q0A q1A q2A q3A q4A q5A q6A q7A q8A q9A q10A q11A q12A : Value} {q13A q14A : Int32} (hpiA : ob 8 0 i piA (4, [q0A, q1A, q2A, q3A, q4A, q5A, q6A, q7A, q8A, q9A, q10A, q11A, q12A, .int q13A, .int q14A])) {piB : Nat} {oB irB clB : Nat} {a1B a2B a3B a4B a6B a7B a8B a9B a10B a11B : Value} {LCB : List Nat} (hiB : j < L.length) (hstB : ob 2 0 j L[j] (7, [.ref piB, a1B, a2B, a3B, a4B, .ref oB, a6B, a7B, a8B, a9B, a10B, a11B])) (hoB : ob 3 0 j oB (3, [.ref irB, .ref clB])) (hcB : ls 1 0 j clB LCB) (hLCB : LCB.length ≤ 12) (hEB : ∀ y ∈ LCB, ∃ kd fl k fs, ob kd fl k y (1, fs)) {oBs irBs clBs : Nat} {a0Bs a1Bs a2Bs a3Bs a4Bs a6Bs a7Bs a8Bs a9Bs a10Bs a11Bs : Value} {LCBs : List Nat} (hiBs : j < M.length) (hstBs : ob 2 1 j M[j] (7, [a0Bs, a1Bs, a2Bs, a3Bs, a4Bs, .ref oBs, a6Bs, a7Bs, a8Bs, a9Bs, a10Bs, a11Bs])) (hoBs : ob 3 1 j oBs (3, [.ref irBs, .ref clBs])) (hcBs : ls 1 1 j clBs LCBs) (hLCBs : LCBs.length ≤ 12) (hEBs : ∀ y ∈ LCBs, ∃ kd fl k fs, ob kd fl k y (1, fs)) {q0B q1B q2B q3B q4B q5B q6B q7B q8B q9B q10B q11B q12B : Value} {q13B q14B : Int32} (hpiB : ob 8 0 j piB (4, [q0B, q1B, q2B, q3B, q4B, q5B, q6B, q7B, q8B, q9B, q10B, q11B, q12B, .int q13B, .int q14B])) (hij : i ≠ j) : Met l yX10_wire (ws_ yX10_wire cX10_wire 4 (some .int)) { frames := 10, cells := 86, slots := 534, locals := 340 } (PX D yc e0 A own ob rw ls sz [.ref ws, .ref pl]) (va_Qi (fun r (_ : (Int32 × Int32) × TO × Nat × (Nat × Nat) × ((Nat → Nat → Nat) × TO × Nat × Nat) × ((Nat → Nat → Nat) × TO × Nat × Nat)) => r = nI n) (fun u t => WX D yc e0 A u.2.1 (fun kd fl k a e => obset ob 8 0 n pl (4, [p0, .int (nI i), .int (nI j), p3, p4, p5, p6, p7, p8, p9, p10, p11, p12, .int u.1.1, .int u.1.2]) kd fl k a e ∨ (((kd = 4 ∧ fl = 0 ∧ k = n) ∧ a = u.2.2.2.2.1.2.2.1 ∧ e = (1, [.ref irA, .int 0, .int 0])) ∨ ((kd = 5 ∧ fl = 0 ∧ k = n) ∧ a = u.2.2.2.2.1.2.2.2 ∧ e = (1, [.ref irB, .int 0, .int 0]))) ∨ blo (sblk yc e0 u.2.2.2.2.1.1 u.2.2.2.1.1 pl u.2.2.1 (.ref u.2.2.2.2.1.2.2.1) (.ref u.2.2.2.2.1.2.2.2) (.int 0)) (stag 0 n) kd fl k a e ∨ (((kd = 4 ∧ fl = 1 ∧ k = n) ∧ a = u.2.2.2.2.2.2.2.1 ∧ e = (1, [.ref irAs, .int 0, .int 0])) ∨ ((kd = 5 ∧ fl = 1 ∧ k = n) ∧ a = u.2.2.2.2.2.2.2.2 ∧ e = (1, [.ref irBs, .int 0, .int 0]))) ∨ blo (sblk yc e0 u.2.2.2.2.2.1 u.2.2.2.1.2 pl u.2.2.1 (.ref u.2.2.2.2.2.2.2.1) (.ref u.2.2.2.2.2.2.2.2) (.int 1)) (stag 1 n) kd fl k a e) (fun i r => rw i r ∨ (i = rl n ∧ r = u.2.2.1) ∨ blr yc (sblk yc e0 u.2.2.2.2.1.1 u.2.2.2.1.1 pl u.2.2.1 (.ref u.2.2.2.2.1.2.2.1) (.ref u.2.2.2.2.1.2.2.2) (.int 0)) (stag 0 n) i r ∨ blr yc (sblk yc e0 u.2.2.2.2.2.1 u.2.2.2.1.2 pl u.2.2.1 (.ref u.2.2.2.2.2.2.2.1) (.ref u.2.2.2.2.2.2.2.2) (.int 1)) (stag 1 n) i r) (lsadd (fun b fl k a L1 => (lsadd (lsadd (lsadd (fun b fl k a L1 => (lsadd (lsadd ls 1 0 i clA (LCA ++ [u.2.2.2.2.1.2.2.1])) 1 0 j clB (LCB ++ [u.2.2.2.2.1.2.2.2])) b fl k a L1 ∨ bll e0 (sblk yc e0 u.2.2.2.2.1.1 u.2.2.2.1.1 pl u.2.2.1 (.ref u.2.2.2.2.1.2.2.1) (.ref u.2.2.2.2.1.2.2.2) (.int 0)) (stag 0 n) b fl k a L1) 0 0 0 lst0 (L ++ [u.2.2.2.1.1])) 1 1 i clAs (LCAs ++ [u.2.2.2.2.2.2.2.1])) 1 1 j clBs (LCBs ++ [u.2.2.2.2.2.2.2.2])) b fl k a L1 ∨ bll e0 (sblk yc e0 u.2.2.2.2.2.1 u.2.2.2.1.2 pl u.2.2.1 (.ref u.2.2.2.2.2.2.2.1) (.ref u.2.2.2.2.2.2.2.2) (.int 1)) (stag 1 n) b fl k a L1) 0 1 0 lst1 (M ++ [u.2.2.2.1.2])) t.heap) A) 86 534 A := by
  refine xk_M (by decide) (Nat.le_of_ble_eq_true rfl) ?_
  intro p e s m args below meth c ls hx hb hml hr hlk hown hts hW hz hS hA hC hl
  have hK := hC.1
  have hN := hC.2.1
  have hl : lv_has ls 4 [(0, .ref ws), (1, .ref pl)] := hl
  generalize hHH : s.heap = H at hW ⊢
  have hS : va_S A s.heap H [] := by rw [← hHH]; exact hS
  have hz : H.size = sz := by rw [← hHH]; exact hz
  subst hz
  refine lv_aload_n hx hb dX10_wire_0 rfl (lv_at hl 0 rfl) ?_
  refine va_get (D := D) (ci := 9) (v := .ref g0) (C := RX10) (T := TX10) (N := 5) hx hb hts iX10 hown hK (va_P_one (hW.obj hws)) 0 rfl rfl 0 (by decide) (hts _ wq95) (fun _ h9 => h9) rfl dX10_wire_1 ?_
  refine zr_i (va_runV (As := []) (rest := []) ⟨hx, hb, hml, hown, hts⟩ (x_fsize l hg0 hL) (cwV 0 hts (lw_V wq115 wq116 wq117 wq2 wq118) rfl rfl rfl (by decide +kernel) ⟨(Nat.le_of_ble_eq_true rfl), (Nat.le_of_ble_eq_true rfl)⟩) (px_V hC hW hS hA (hW.obj hg0) rfl) rfl rfl hl.1 rfl (lv_room (Nat.le_of_ble_eq_true rfl)) dX10_wire_4 ⟨(Nat.le_of_ble_eq_true rfl), (Nat.le_of_ble_eq_true rfl)⟩) ?_
  refine zk_ti (y := nI n) (by rw [hn]) ?_
  refine lv_istore_n (lv' := [(2, .int (nI n)), (0, .ref ws), (1, .ref pl)]) hx hb dX10_wire_7 rfl hl (by decide) rfl (fun ls hl => ?_)
  have hpA := hW.in hp
  have hltp : ∀ kd fl k a e, ob kd fl k a e → ¬ (kd = 8 ∧ fl = 0 ∧ k = n) → ¬ a = pl := fun kd fl k a e h1 h2 h3 => h2 (hpu kd fl k e (by rw [← h3]; exact h1))
  refine lv_aload_n hx hb dX10_wire_8 rfl (lv_at hl 2 rfl) ?_
  refine lv_aload_n hx hb dX10_wire_9 rfl (lv_at hl 1 rfl) ?_
  refine lv_aload_n hx hb dX10_wire_10 rfl (lv_at hl 2 rfl) ?_
  refine va_getN (D := D) (ci := 4) (v := .int (nI i)) (C := RX5) (T := TX5) (N := 15) hx hb hts iX5 hown hK (va_P_one (hW.obj hp)) 0 rfl rfl 1 (by decide) (zk_tab rfl (hN _ wr836 rfl)) (fun _ h9 => h9) rfl dX10_wire_11 ?_
  refine zr_q (va_runV (As := [.int (nI i)]) (rest := [.ref pl]) ⟨hx, hb, hml, hown, hts⟩ (x_plan l hws hg0 hL hiA (by omega) hstA) (cwV 1 hts (lw_V wq898 wq900 ws27 wq1 wq901) rfl rfl rfl (by decide +kernel) ⟨(Nat.le_of_ble_eq_true rfl), (Nat.le_of_ble_eq_true rfl)⟩) (px_V hC hW hS hA (hW.obj hws) rfl) rfl rfl hl.1 rfl (lv_room (Nat.le_of_ble_eq_true rfl)) dX10_wire_14 ⟨(Nat.le_of_ble_eq_true rfl), (Nat.le_of_ble_eq_true rfl)⟩) ?_
  refine lv_aload_n hx hb dX10_wire_17 rfl (lv_at hl 2 rfl) ?_
  refine va_getN (D := D) (ci := 4) (v := .int (nI i)) (C := RX5) (T := TX5) (N := 15) hx hb hts iX5 hown hK (va_P_one (hW.obj hp)) 0 rfl rfl 1 (by decide) (zk_tab rfl (hN _ wr836 rfl)) (fun _ h9 => h9) rfl dX10_wire_18 ?_
  refine va_callv (va_runV (As := [.ref piA, .int (nI i)]) (rest := []) ⟨hx, hb, hml, hown, hts⟩ (x_sb l hp hpiA (hltp _ _ _ _ _ hpiA (fun h9 => by have h8 := hiA; rw [hn] at h8; omega))) (cwV 2 hts (lw_V wq902 wq903 wq904 wq11 wq905) rfl rfl rfl (by decide +kernel) ⟨(Nat.le_of_ble_eq_true rfl), (Nat.le_of_ble_eq_true rfl)⟩) (px_V hC hW hS hA (hW.obj hp) rfl) rfl rfl hl.1 rfl (lv_room (Nat.le_of_ble_eq_true rfl)) dX10_wire_21 ⟨(Nat.le_of_ble_eq_true rfl), (Nat.le_of_ble_eq_true rfl)⟩) hS (fun _ _ h => h) (fun _ h => h) (fun b0 tb0 K0 kl0 htb0 hvb0 hwb0 hBb0 hzb0 hkb0 hSb0 => ?_)
  rw [htb0] at hBb0
  refine lv_aload_n hx hb dX10_wire_24 rfl (lv_at hl 2 rfl) ?_
  refine lv_aload_n hx hb dX10_wire_25 rfl (lv_at hl 1 rfl) ?_
  refine lv_aload_n hx hb dX10_wire_26 rfl (lv_at hl 2 rfl) ?_
  refine va_getN (D := D) (ci := 4) (v := .int (nI j)) (C := RX5) (T := TX5) (N := 15) hx hb hts iX5 hown hK (va_P_one (hBb0.obj (Or.inr ⟨⟨rfl, rfl, rfl⟩, rfl, rfl⟩))) 0 rfl rfl 2 (by decide) (zk_tab rfl (hN _ wr839 rfl)) (fun _ h9 => h9) rfl dX10_wire_27 ?_
  refine zr_q (va_runV (As := [.int (nI j)]) (rest := [.ref pl]) ⟨hx, hb, hml, hown, hts⟩ (x_plan l (Or.inl ⟨hws, hltp _ _ _ _ _ hws (fun h9 => absurd h9.1 (by decide))⟩) (Or.inl ⟨hg0, hltp _ _ _ _ _ hg0 (fun h9 => absurd h9.1 (by decide))⟩) hL hiB (by omega) (Or.inl ⟨hstB, hltp _ _ _ _ _ hstB (fun h9 => absurd h9.1 (by decide))⟩)) (cwV 1 hts (lw_V wq898 wq900 ws27 wq1 wq901) rfl rfl rfl (by decide +kernel) ⟨(Nat.le_of_ble_eq_true rfl), (Nat.le_of_ble_eq_true rfl)⟩) (px_V hC hBb0 hSb0 hA (hBb0.obj (Or.inl ⟨hws, hltp _ _ _ _ _ hws (fun h9 => absurd h9.1 (by decide))⟩)) rfl) rfl rfl hl.1 rfl (lv_room (Nat.le_of_ble_eq_true rfl)) dX10_wire_30 ⟨(Nat.le_of_ble_eq_true rfl), (Nat.le_of_ble_eq_true rfl)⟩) ?_
  refine lv_aload_n hx hb dX10_wire_33 rfl (lv_at hl 2 rfl) ?_
  refine va_getN (D := D) (ci := 4) (v := .int (nI j)) (C := RX5) (T := TX5) (N := 15) hx hb hts iX5 hown hK (va_P_one (hBb0.obj (Or.inr ⟨⟨rfl, rfl, rfl⟩, rfl, rfl⟩))) 0 rfl rfl 2 (by decide) (zk_tab rfl (hN _ wr839 rfl)) (fun _ h9 => h9) rfl dX10_wire_34 ?_
  refine va_callv (va_runV (As := [.ref piB, .int (nI j)]) (rest := []) ⟨hx, hb, hml, hown, hts⟩ (x_sb l (Or.inr ⟨⟨rfl, rfl, rfl⟩, rfl, rfl⟩) (Or.inl ⟨hpiB, hltp _ _ _ _ _ hpiB (fun h9 => by have h8 := hiB; rw [hn] at h8; omega)⟩) (hltp _ _ _ _ _ hpiB (fun h9 => by have h8 := hiB; rw [hn] at h8; omega))) (cwV 2 hts (lw_V wq902 wq903 wq904 wq11 wq905) rfl rfl rfl (by decide +kernel) ⟨(Nat.le_of_ble_eq_true rfl), (Nat.le_of_ble_eq_true rfl)⟩) (px_V hC hBb0 hSb0 hA (hBb0.obj (Or.inr ⟨⟨rfl, rfl, rfl⟩, rfl, rfl⟩)) rfl) rfl rfl hl.1 rfl (lv_room (Nat.le_of_ble_eq_true rfl)) dX10_wire_37 ⟨(Nat.le_of_ble_eq_true rfl), (Nat.le_of_ble_eq_true rfl)⟩) hSb0 (fun _ _ h => h) (fun _ h => h) (fun b1 tb1 K1 kl1 htb1 hvb1 hwb1 hBb1 hzb1 hkb1 hSb1 => ?_)
  rw [htb1] at hBb1
  have hBb1 := hBb1.set2
  have hW1 : WX D yc e0 A own (obset ob 8 0 n pl (4, [p0, .int (nI i), .int (nI j), p3, p4, p5, p6, p7, p8, p9, p10, p11, p12, .int b1.1, .int b1.2])) rw _ K1 := hBb1
  refine x_new (ci := 5) (fs := [.null, .int 0]) (C := RX6) (T := TX6) (N := 2) hx hb hts iX6 tyX6 tyX6_ok hown (hts _ wq907) (hts _ wq908) (hts _ wq15) hK rfl dfX6 (Nat.le_of_ble_eq_true rfl) (Nat.le_of_ble_eq_true rfl) dX10_wire_40 (fun H2 hz2 hk2 hb2 => ?_)
  have hS1 := hSb1
  have hAs : A K1.size := hA _ hS1.1
  have hS2 : va_S A s.heap H2 _ := ⟨Nat.le_trans hS1.1 (by omega), fun q h1 h2 => (hk2 q (Nat.lt_of_lt_of_le h1 hS1.1)).trans (hS1.2.1 q h1 h2), hS1.2.2⟩
  have hA2 : ∀ q, H2.size ≤ q → A q := fun q hq => hA q (Nat.le_trans hS2.1 hq)
  refine lv_dup hx hb dX10_wire_43 rfl ?_
  refine va_callv (va_runIN (As := []) (rest := [.ref K1.size]) ⟨hx, hb, hml, hown, hts⟩ (kX6_init_0 l D yc e0 H2.size K1.size) ⟨va_cnB 0 hts (lw_C wq911) rfl rfl rfl (hN _ wr909 rfl) (hts _ wq15) (by decide +kernel) ⟨(Nat.le_of_ble_eq_true rfl), (Nat.le_of_ble_eq_true rfl)⟩, rfl, hts _ wq910⟩ (zk_pS (A := A) hC (va_P_one hb2) (xda hAs) hS2 hA [0] rfl rfl) rfl rfl hl.1 rfl (lv_room (Nat.le_of_ble_eq_true rfl)) dX10_wire_44 ⟨(Nat.le_of_ble_eq_true rfl), (Nat.le_of_ble_eq_true rfl)⟩) hS2 (fun q _ h => xfa hAs hA2 q h) (xfa hAs hA2) (fun u t3 H3 locs3 ht3 hvm3 hw3 hB3 hz3 hk3 hS3 => ?_)
  obtain ⟨hP3, hD3⟩ := hB3
  rw [ht3] at hP3
  have hge : ∀ (i : Nat) (q : Nat × va_E), [((K1.size, .inr (5, [.ref (u 0 0), .int 0])) : Nat × va_E), (u 0 0, .inl (yc 1, 8, .inr (.inl (fun _ => 0))))][i]? = some q → A q.1 ∧ K1.size ≤ q.1 := fun i q hi => ⟨xfa hAs hA2 _ (hD3.2 i q hi), by
    rcases hD3.2 i q hi with ⟨z, e9, h9⟩ | h9
    · match z, h9 with
      | 0, h9 => simp only [List.getElem?_cons_zero, Option.some.injEq, Prod.mk.injEq] at h9; omega
      | z + 1, h9 => simp at h9
    · omega⟩
  obtain ⟨own3, ho3, hW3⟩ := hW1.addblk [(K1.size, .inr (5, [.ref (u 0 0), .int 0])), (u 0 0, .inl (yc 1, 8, .inr (.inl (fun _ => 0))))] [(1, rl n, 0, 0), (2, rl n, 0, 0)] (fun q hq => (hk3 q (by omega) (xna (by omega) (by omega))).trans (hk2 q hq)) hP3 hD3.1 hge
  have hW4 : WX D yc e0 A own3 (obset ob 8 0 n pl (4, [p0, .int (nI i), .int (nI j), p3, p4, p5, p6, p7, p8, p9, p10, p11, p12, .int b1.1, .int b1.2])) (fun i r => rw i r ∨ (i = rl n ∧ r = K1.size)) _ H3 := hW3.mono (fun _ _ _ _ _ q => Or.inl q) (fun i r q => q.elim Or.inl (fun q => Or.inr ⟨0, u 0 0, by rw [q.1]; rfl, by rw [q.1]; rfl, by rw [q.2]; rfl, rfl⟩)) (fun _ _ _ _ _ q => Or.inl q)
  refine lv_astore_n (lv' := [(3, .ref K1.size), (2, .int (nI n)), (0, .ref ws), (1, .ref pl)]) hx hb dX10_wire_47 rfl hl (by decide) rfl (fun ls hl => ?_)
  have hE7 : ∀ y fs kd fl k, ob kd fl k y (7, fs) → (obset ob 8 0 n pl (4, [p0, .int (nI i), .int (nI j), p3, p4, p5, p6, p7, p8, p9, p10, p11, p12, .int b1.1, .int b1.2])) kd fl k y (7, fs) := fun y fs kd fl k q => Or.inl ⟨q, fun h9 => by
    rw [h9] at q
    have h8 := (hW.2.2.2 _ _ _ _ _ _ _ _ _ q hp)
    simp at h8⟩
  have hE1 : ∀ y fs kd fl k, ob kd fl k y (1, fs) → (obset ob 8 0 n pl (4, [p0, .int (nI i), .int (nI j), p3, p4, p5, p6, p7, p8, p9, p10, p11, p12, .int b1.1, .int b1.2])) kd fl k y (1, fs) := fun y fs kd fl k q => Or.inl ⟨q, fun h9 => by
    rw [h9] at q
    have h8 := (hW.2.2.2 _ _ _ _ _ _ _ _ _ q hp)
    simp at h8⟩
  refine lv_aload_n hx hb dX10_wire_48 rfl (lv_at hl 2 rfl) ?_
  refine va_get (D := D) (ci := 9) (v := .ref g0) (C := RX10) (T := TX10) (N := 5) hx hb hts iX10 hown hK (va_P_one (hW4.obj (Or.inl ⟨hws, hltp _ _ _ _ _ hws (fun h9 => absurd h9.1 (by decide))⟩))) 0 rfl rfl 0 (by decide) (hts _ wq95) (fun _ h9 => h9) rfl dX10_wire_49 ?_
  refine lv_aload_n hx hb dX10_wire_52 rfl (lv_at hl 3 rfl) ?_
  refine lv_aload_n hx hb dX10_wire_53 rfl (lv_at hl 0 rfl) ?_
  refine va_callv (va_runV (As := [.ref pl, .ref K1.size]) (rest := []) ⟨hx, hb, hml, hown, hts⟩ (x_fadd_02 l (np := n) (L := L) (Or.inl ⟨hg0, hltp _ _ _ _ _ hg0 (fun h9 => absurd h9.1 (by decide))⟩) hL (by omega) (fun y hy => by obtain ⟨z1, z2, z3, z4, z5⟩ := hEL y hy; exact ⟨z1, z2, z3, z4, hE7 _ _ _ _ _ z5⟩) (Or.inr ⟨⟨rfl, rfl, rfl⟩, rfl, rfl⟩) hiA (Or.inl ⟨hstA, hltp _ _ _ _ _ hstA (fun h9 => absurd h9.1 (by decide))⟩) (Or.inl ⟨hoA, hltp _ _ _ _ _ hoA (fun h9 => absurd h9.1 (by decide))⟩) hcA hLCA (fun y hy => by obtain ⟨z1, z2, z3, z4, z5⟩ := hEA y hy; exact ⟨z1, z2, z3, z4, hE1 _ _ _ _ _ z5⟩) hiB (Or.inl ⟨hstB, hltp _ _ _ _ _ hstB (fun h9 => absurd h9.1 (by decide))⟩) (Or.inl ⟨hoB, hltp _ _ _ _ _ hoB (fun h9 => absurd h9.1 (by decide))⟩) hcB hLCB (fun y hy => by obtain ⟨z1, z2, z3, z4, z5⟩ := hEB y hy; exact ⟨z1, z2, z3, z4, hE1 _ _ _ _ _ z5⟩) hij) (cwV 2 hts (lw_V wq920 wq921 wq922 wq2 wq923) rfl rfl rfl (by decide +kernel) ⟨(Nat.le_of_ble_eq_true rfl), (Nat.le_of_ble_eq_true rfl)⟩) (px_V hC hW4 hS3 hA (hW4.obj (Or.inl ⟨hg0, hltp _ _ _ _ _ hg0 (fun h9 => absurd h9.1 (by decide))⟩)) rfl) rfl rfl hl.1 rfl (lv_room (Nat.le_of_ble_eq_true rfl)) dX10_wire_54 ⟨(Nat.le_of_ble_eq_true rfl), (Nat.le_of_ble_eq_true rfl)⟩) hS3 (fun _ _ h => h) (fun _ h => h) (fun u5 t5 H5 locs5 ht5 hvm5 hw5 hB5 hz5 hk5 hS5 => ?_)
  obtain ⟨ho5, hW5⟩ := hB5
  rw [ht5] at hW5
  rw [hn] at hW5
  refine lv_aload_n hx hb dX10_wire_57 rfl (lv_at hl 2 rfl) ?_
  refine va_get (D := D) (ci := 9) (v := .ref g1) (C := RX10) (T := TX10) (N := 5) hx hb hts iX10 hown hK (va_P_one (hW5.obj (Or.inl (Or.inl ⟨hws, hltp _ _ _ _ _ hws (fun h9 => absurd h9.1 (by decide))⟩)))) 0 rfl rfl 1 (by decide) (hts _ wq96) (fun _ h9 => h9) rfl dX10_wire_58 ?_
  refine lv_aload_n hx hb dX10_wire_61 rfl (lv_at hl 3 rfl) ?_
  refine lv_aload_n hx hb dX10_wire_62 rfl (lv_at hl 0 rfl) ?_
  refine va_callv (va_runV (As := [.ref pl, .ref K1.size]) (rest := []) ⟨hx, hb, hml, hown, hts⟩ (x_fadd_12 l (np := n) (L := M) (Or.inl (Or.inl ⟨hg1, hltp _ _ _ _ _ hg1 (fun h9 => absurd h9.1 (by decide))⟩)) (Or.inl ⟨Or.inl (Or.inl ⟨(Or.inl ⟨hM, (fun h9 => absurd h9.1 (by decide))⟩), (fun h9 => absurd h9.1 (by decide))⟩), (fun h9 => absurd h9.2.1 (by decide))⟩) (by omega) (fun y hy => by obtain ⟨z1, z2, z3, z4, z5⟩ := hEM y hy; exact ⟨z1, z2, z3, z4, Or.inl (hE7 _ _ _ _ _ z5)⟩) (Or.inl (Or.inr ⟨⟨rfl, rfl, rfl⟩, rfl, rfl⟩)) hiAs (Or.inl (Or.inl ⟨hstAs, hltp _ _ _ _ _ hstAs (fun h9 => absurd h9.1 (by decide))⟩)) (Or.inl (Or.inl ⟨hoAs, hltp _ _ _ _ _ hoAs (fun h9 => absurd h9.1 (by decide))⟩)) (Or.inl ⟨Or.inl (Or.inl ⟨(Or.inl ⟨hcAs, (fun h9 => absurd h9.2.1 (by decide))⟩), (fun h9 => absurd h9.2.1 (by decide))⟩), (fun h9 => absurd h9.1 (by decide))⟩) hLCAs (fun y hy => by obtain ⟨z1, z2, z3, z4, z5⟩ := hEAs y hy; exact ⟨z1, z2, z3, z4, Or.inl (hE1 _ _ _ _ _ z5)⟩) hiBs (Or.inl (Or.inl ⟨hstBs, hltp _ _ _ _ _ hstBs (fun h9 => absurd h9.1 (by decide))⟩)) (Or.inl (Or.inl ⟨hoBs, hltp _ _ _ _ _ hoBs (fun h9 => absurd h9.1 (by decide))⟩)) (Or.inl ⟨Or.inl (Or.inl ⟨(Or.inl ⟨hcBs, (fun h9 => absurd h9.2.1 (by decide))⟩), (fun h9 => absurd h9.2.1 (by decide))⟩), (fun h9 => absurd h9.1 (by decide))⟩) hLCBs (fun y hy => by obtain ⟨z1, z2, z3, z4, z5⟩ := hEBs y hy; exact ⟨z1, z2, z3, z4, Or.inl (hE1 _ _ _ _ _ z5)⟩) hij) (cwV 2 hts (lw_V wq920 wq921 wq922 wq2 wq923) rfl rfl rfl (by decide +kernel) ⟨(Nat.le_of_ble_eq_true rfl), (Nat.le_of_ble_eq_true rfl)⟩) (px_V hC hW5 hS5 hA (hW5.obj (Or.inl (Or.inl ⟨hg1, hltp _ _ _ _ _ hg1 (fun h9 => absurd h9.1 (by decide))⟩))) rfl) rfl rfl hl.1 rfl (lv_room (Nat.le_of_ble_eq_true rfl)) dX10_wire_63 ⟨(Nat.le_of_ble_eq_true rfl), (Nat.le_of_ble_eq_true rfl)⟩) hS5 (fun _ _ h => h) (fun _ h => h) (fun u6 t6 H6 locs6 ht6 hvm6 hw6 hB6 hz6 hk6 hS6 => ?_)
  obtain ⟨ho6, hW6⟩ := hB6
  rw [ht6] at hW6
  rw [hn1] at hW6
  refine lv_iload_n hx hb dX10_wire_66 rfl (lv_at hl 1 rfl) ?_
  exact W.widen (Nat.le_of_ble_eq_true rfl) (Nat.le_of_ble_eq_true rfl) (W.zret hx hb hr rfl (fun t ht hW9 => ⟨⟨nI n, (b1, u6.2.1, K1.size, (H3.size, H5.size), u5, u6), rfl, rfl, by subst ht; exact hW6.mono (fun kd fl k a e q => q.elim (fun q => Or.inl (Or.inl q)) (fun q => q.elim (fun q => Or.inl (Or.inr (Or.inl q))) (fun q => q.elim (fun q => Or.inl (Or.inr (Or.inr q))) (fun q => q.elim (fun q => Or.inr (Or.inl q)) (fun q => Or.inr (Or.inr q)))))) (fun i r q => q.elim (fun q => Or.inl (Or.inl (Or.inl q))) (fun q => q.elim (fun q => Or.inl (Or.inl (Or.inr q))) (fun q => q.elim (fun q => Or.inl (Or.inr q)) Or.inr))) (fun _ _ _ _ _ q => q)⟩, hS6.F ht⟩) hS6.2.2 dX10_wire_67 hlk)
