set_option maxHeartbeats 4000000 in
set_option maxRecDepth 100000 in
theorem k_X10_refuseUnlessStarted (l : Launch) (D : va_G) (yc : Nat → ClassId) (e0 : Nat) (A : Nat → Prop) (S : TS) (Z : Nat × Nat) (F : TF) (G : TG) (q : TQ)  (hst : ¬ F 7 0 0 2 = 0) : Met l yX10_refuseUnlessStarted (ws_ yX10_refuseUnlessStarted cX10_refuseUnlessStarted 1 none) ({ frames := 0, cells := 0, slots := 0, locals := 0 }) (PT D yc e0 A S Z F G q [.ref (zg S 7 0 0)]) (zQ (none)) 0 0 zno := by
  refine tk_M (by decide) (Nat.le_of_ble_eq_true rfl) ?_
  intro p e s m args below meth c ls hx hb hml hr hlk hown hts hW hS hA hC hl
  have hK := hC.1
  have hN := hC.2.1
  have hn12 := hW.n12
  have hl : lv_has ls 1 [(0, .ref (zg S 7 0 0))] := hl
  refine lv_aload_n hx hb dX10_refuseUnlessStarted_0 rfl (lv_at hl 0 rfl) ?_
  refine t_get (D := D) (ci := 9) (v := .int (F 7 0 0 2)) (C := RX10) (T := TX10) (N := 5) hx hb hts iX10 hown hK hW 7 0 0 dm7 rfl rfl 2 (by decide) (hts _ wq97) (fun _ h9 => h9) rfl dX10_refuseUnlessStarted_1 ?_
  refine lv_if_ne (tgt := 15) hx hb dX10_refuseUnlessStarted_4 (by decide) (fun _ => ?_) (fun h9 => absurd h9 hst)
  exact ze_v hx hb hr hlk dX10_refuseUnlessStarted_15
set_option maxHeartbeats 4000000 in
set_option maxRecDepth 100000 in
theorem k_X10_refuseUnlessOpen (l : Launch) (D : va_G) (yc : Nat → ClassId) (e0 : Nat) (A : Nat → Prop) (S : TS) (Z : Nat × Nat) (F : TF) (G : TG) (q : TQ) (k : Nat) (hk : k < zn S) (hst : ¬ F 7 0 0 2 = 0) (hop : F 2 0 k 10 = 0) : Met l yX10_refuseUnlessOpen (ws_ yX10_refuseUnlessOpen cX10_refuseUnlessOpen 2 none) ({ frames := 0, cells := 0, slots := 0, locals := 0 }) (PT D yc e0 A S Z F G q [.ref (zg S 7 0 0), .ref (zg S 2 0 k)]) (zQ (none)) 0 0 zno := by
  refine tk_M (by decide) (Nat.le_of_ble_eq_true rfl) ?_
  intro p e s m args below meth c ls hx hb hml hr hlk hown hts hW hS hA hC hl
  have hK := hC.1
  have hN := hC.2.1
  have hn12 := hW.n12
  have hl : lv_has ls 2 [(0, .ref (zg S 7 0 0)), (1, .ref (zg S 2 0 k))] := hl
  refine lv_aload_n hx hb dX10_refuseUnlessOpen_0 rfl (lv_at hl 0 rfl) ?_
  refine t_get (D := D) (ci := 9) (v := .int (F 7 0 0 2)) (C := RX10) (T := TX10) (N := 5) hx hb hts iX10 hown hK hW 7 0 0 dm7 rfl rfl 2 (by decide) (hts _ wq97) (fun _ h9 => h9) rfl dX10_refuseUnlessOpen_1 ?_
  refine lv_if_eq (tgt := 14) hx hb dX10_refuseUnlessOpen_4 (by decide) (fun h9 => absurd h9 hst) (fun _ => ?_)
  refine lv_aload_n hx hb dX10_refuseUnlessOpen_7 rfl (lv_at hl 1 rfl) ?_
  refine t_getN (D := D) (ci := 7) (v := .int (F 2 0 k 10)) (C := RX8) (T := TX8) (N := 12) hx hb hts iX8 hown hK hW 2 0 k (dm2 (by omega) (by omega)) rfl rfl 10 (by decide) (zk_tab rfl (hN _ wr1126 rfl)) (fun _ h9 => h9) rfl dX10_refuseUnlessOpen_8 ?_
  refine lv_if_eq (tgt := 22) hx hb dX10_refuseUnlessOpen_11 (by decide) (fun _ => ?_) (fun h9 => absurd hop h9)
  exact ze_v hx hb hr hlk dX10_refuseUnlessOpen_22
set_option maxHeartbeats 4000000 in
set_option maxRecDepth 100000 in
theorem k_X10_refuseMoreStages (l : Launch) (D : va_G) (yc : Nat → ClassId) (e0 : Nat) (A : Nat → Prop) (S : TS) (Z : Nat × Nat) (F : TF) (G : TG) (q : TQ)  (hst : F 7 0 0 2 = 0) (h12 : zn S < 12) : Met l yX10_refuseMoreStages (ws_ yX10_refuseMoreStages cX10_refuseMoreStages 1 none) ({ frames := 2, cells := 0, slots := 0, locals := 40 }) (PT D yc e0 A S Z F G q [.ref (zg S 7 0 0)]) (zQ (none)) 0 0 zno := by
  refine tk_M (by decide) (Nat.le_of_ble_eq_true rfl) ?_
  intro p e s m args below meth c ls hx hb hml hr hlk hown hts hW hS hA hC hl
  have hK := hC.1
  have hN := hC.2.1
  have hn12 := hW.n12
  have hl : lv_has ls 1 [(0, .ref (zg S 7 0 0))] := hl
  refine lv_aload_n hx hb dX10_refuseMoreStages_0 rfl (lv_at hl 0 rfl) ?_
  refine t_get (D := D) (ci := 9) (v := .int (F 7 0 0 2)) (C := RX10) (T := TX10) (N := 5) hx hb hts iX10 hown hK hW 7 0 0 dm7 rfl rfl 2 (by decide) (hts _ wq97) (fun _ h9 => h9) rfl dX10_refuseMoreStages_1 ?_
  refine lv_if_ne (tgt := 19) hx hb dX10_refuseMoreStages_4 (by decide) (fun h9 => absurd hst h9) (fun _ => ?_)
  refine lv_aload_n hx hb dX10_refuseMoreStages_7 rfl (lv_at hl 0 rfl) ?_
  refine t_get (D := D) (ci := 9) (v := .ref (zg S 6 0 0)) (C := RX10) (T := TX10) (N := 5) hx hb hts iX10 hown hK hW 7 0 0 dm7 rfl rfl 0 (by decide) (hts _ wq95) (fun _ h9 => h9) rfl dX10_refuseMoreStages_8 ?_
  refine zr_i (va_runV (As := []) (rest := []) ⟨hx, hb, hml, hown, hts⟩ (k_X2_size l D yc e0 A S Z F G q 0 (by first | assumption | omega | decide)) (cwV 0 hts (lw_V wq115 wq116 wq117 wq2 wq118) rfl rfl rfl (by decide +kernel) ⟨(Nat.le_of_ble_eq_true rfl), (Nat.le_of_ble_eq_true rfl)⟩) (tp_V hC hW hS hA 6 0 0 (dm6 (by omega)) rfl rfl) rfl rfl hl.1 rfl (lv_room (Nat.le_of_ble_eq_true rfl)) dX10_refuseMoreStages_11 ⟨(Nat.le_of_ble_eq_true rfl), (Nat.le_of_ble_eq_true rfl)⟩) ?_
  refine zk_ti (y := nI (zn S)) rfl ?_
  refine lv_bipush (v := 12) hx hb dX10_refuseMoreStages_14 (by decide) ?_
  refine lv_icmp_lt (tgt := 27) hx hb dX10_refuseMoreStages_16 (by decide) (fun _ => ?_) (fun h9 => absurd (nI_lt (b := 12) h12 (by decide)) h9)
  exact ze_v hx hb hr hlk dX10_refuseMoreStages_27
def w_X10_start (S : TS) (w : TW) : TW × Int32 := zlet (zset w 7 0 0 2 1) (fun w1 => (w1, nI (zn S)))
theorem m_X10_start (S : TS) (w : TW) : zle w ((w_X10_start S w).1) := by
  unfold w_X10_start
  exact (zP_let (P := (zle2 (w))) (zle (w)) (zle.to zle.rf rfl) (fun w1 h8_ => h8_))
theorem g_X10_start (S : TS) (w : TW) : ((w_X10_start S w).1).2.1 = w.2.1 := by
  unfold w_X10_start
  exact (zP_let (P := (fun (b : TW × Int32) => b.1.2.1 = w.2.1)) (fun (b : TW) => b.2.1 = w.2.1) rfl (fun w1 h8_ => h8_))
set_option maxHeartbeats 4000000 in
set_option maxRecDepth 100000 in
theorem k_X10_start (l : Launch) (D : va_G) (yc : Nat → ClassId) (e0 : Nat) (A : Nat → Prop) (S : TS) (Z : Nat × Nat) (Tc Ts : Nat) (w : TW) (cN zN : Nat)  (hst : w.1 7 0 0 2 = 0) (hpos : 0 < zn S) (hB : ZB Z Tc Ts ((w_X10_start S w).1)) : Met l yX10_start (ws_ yX10_start cX10_start 1 (some .int)) { frames := 2, cells := Tc - cN, slots := Ts - zN, locals := 40 } (PM D yc e0 A S Z w cN zN [.ref (zg S 7 0 0)]) (tQi D yc e0 A S Z (w_X10_start S w)) (Tc - cN) (Ts - zN) A := by
  have hB0 : ZB Z Tc Ts w := hB.mono (m_X10_start _ _)
  refine tk_W hB0 (by decide) (Nat.le_of_ble_eq_true rfl) ?_
  intro p e s m args below meth c ls H locs hx hb hml hr hlk hown hts hW hS hA hC hl
  have hK := hC.1
  have hN := hC.2.1
  have hn12 := hW.n12
  skip
  have hl : lv_has ls 1 [(0, .ref (zg S 7 0 0))] := hl
  refine lv_aload_n hx hb dX10_start_0 rfl (lv_at hl 0 rfl) ?_
  refine t_get (D := D) (ci := 9) (v := .int (w.1 7 0 0 2)) (C := RX10) (T := TX10) (N := 5) hx hb hts iX10 hown hK hW 7 0 0 dm7 rfl rfl 2 (by decide) (hts _ wq97) (fun _ h9 => h9) rfl dX10_start_1 ?_
  refine lv_if_ne (tgt := 17) hx hb dX10_start_4 (by decide) (fun h9 => absurd hst h9) (fun _ => ?_)
  refine lv_aload_n hx hb dX10_start_7 rfl (lv_at hl 0 rfl) ?_
  refine t_get (D := D) (ci := 9) (v := .ref (zg S 6 0 0)) (C := RX10) (T := TX10) (N := 5) hx hb hts iX10 hown hK hW 7 0 0 dm7 rfl rfl 0 (by decide) (hts _ wq95) (fun _ h9 => h9) rfl dX10_start_8 ?_
  refine zr_i (va_runV (As := []) (rest := []) ⟨hx, hb, hml, hown, hts⟩ (k_X2_size l D yc e0 A S Z w.1 w.2.1 w.2.2 0 (by first | assumption | omega | decide)) (cwV 0 hts (lw_V wq115 wq116 wq117 wq2 wq118) rfl rfl rfl (by decide +kernel) ⟨(Nat.le_of_ble_eq_true rfl), (Nat.le_of_ble_eq_true rfl)⟩) (tp_V hC hW hS hA 6 0 0 (dm6 (by omega)) rfl rfl) rfl rfl hl.1 rfl (lv_room (Nat.le_of_ble_eq_true rfl)) dX10_start_11 ⟨(Nat.le_refl _), (Nat.le_refl _)⟩) ?_
  refine zk_ti (y := nI (zn S)) rfl ?_
  refine lv_if_ne (tgt := 25) hx hb dX10_start_14 (by decide) (fun _ => ?_) (fun h9 => absurd h9 (nI_ne0 hpos (by omega)))
  refine lv_aload_n hx hb dX10_start_25 rfl (lv_at hl 0 rfl) ?_
  refine lv_iconst (v := 1) hx hb dX10_start_26 (by decide) ?_
  refine t_put (D := D) (ci := 9) (v := .int 1) (ty := .boolean) (C := RX10) (T := TX10) (N := 5) hx hb hts iX10 tyX10 tyX10_ok nmX10 hown hK hW hS 7 0 0 dm7 rfl rfl 2 (by decide) (hts _ wq97) (fun _ h9 => h9) rfl (by decide +kernel) rfl rfl (Nat.le_of_ble_eq_true rfl) (fun j9 => if j9 = 2 then 1 else w.1 7 0 0 j9) w.2.1 rfl (fun _ _ _ => rfl) (zbit (fun j9 h9 => hW.bit _ _ _ j9 h9) (fun _ => (by decide))) dX10_start_27 (fun H locs hW hS => ?_)
  obtain ⟨w1, hw1, hW, hB_w1⟩ : ∃ ww : TW, zset w 7 0 0 2 1 = ww ∧ WT D yc e0 A S Z ww.1 ww.2.1 ww.2.2 H ∧ ZB Z Tc Ts ww := ⟨_, rfl, hW, hB0⟩
  refine lv_aload_n hx hb dX10_start_30 rfl (lv_at hl 0 rfl) ?_
  refine t_get (D := D) (ci := 9) (v := .ref (zg S 6 0 0)) (C := RX10) (T := TX10) (N := 5) hx hb hts iX10 hown hK hW 7 0 0 dm7 rfl rfl 0 (by decide) (hts _ wq95) (fun _ h9 => h9) rfl dX10_start_31 ?_
  refine zr_i (va_runV (As := []) (rest := []) ⟨hx, hb, hml, hown, hts⟩ (k_X2_size l D yc e0 A S Z w1.1 w1.2.1 w1.2.2 0 (by first | assumption | omega | decide)) (cwV 0 hts (lw_V wq115 wq116 wq117 wq2 wq118) rfl rfl rfl (by decide +kernel) ⟨(Nat.le_of_ble_eq_true rfl), (Nat.le_of_ble_eq_true rfl)⟩) (tp_V hC hW hS hA 6 0 0 (dm6 (by omega)) rfl rfl) rfl rfl hl.1 rfl (lv_room (Nat.le_of_ble_eq_true rfl)) dX10_start_34 ⟨(Nat.le_refl _), (Nat.le_refl _)⟩) ?_
  refine zk_ti (y := nI (zn S)) rfl ?_
  exact tx_i hx hb hr hlk hS rfl hW (zlet_e hw1 rfl) dX10_start_37
def w_X10_setCapacity (S : TS) (w : TW) (mi : Nat) : TW × Int32 := zlet (zset w 6 0 0 2 (nI mi)) (fun w1 => (w1, w.1 6 0 0 2))
theorem m_X10_setCapacity (S : TS) (w : TW) (mi : Nat) : zle w ((w_X10_setCapacity S w mi).1) := by
  unfold w_X10_setCapacity
  exact (zP_let (P := (zle2 (w))) (zle (w)) (zle.to zle.rf rfl) (fun w1 h8_ => h8_))
theorem g_X10_setCapacity (S : TS) (w : TW) (mi : Nat) : ((w_X10_setCapacity S w mi).1).2.1 = w.2.1 := by
  unfold w_X10_setCapacity
  exact (zP_let (P := (fun (b : TW × Int32) => b.1.2.1 = w.2.1)) (fun (b : TW) => b.2.1 = w.2.1) rfl (fun w1 h8_ => h8_))
set_option maxHeartbeats 4000000 in
set_option maxRecDepth 100000 in
theorem k_X10_setCapacity (l : Launch) (D : va_G) (yc : Nat → ClassId) (e0 : Nat) (A : Nat → Prop) (S : TS) (Z : Nat × Nat) (Tc Ts : Nat) (w : TW) (cN zN : Nat) (mi : Nat) (hm1 : 1 ≤ mi) (hm2 : mi ≤ 20) (hB : ZB Z Tc Ts ((w_X10_setCapacity S w mi).1)) : Met l yX10_setCapacity (ws_ yX10_setCapacity cX10_setCapacity 3 (some .int)) { frames := 1, cells := Tc - cN, slots := Ts - zN, locals := 22 } (PM D yc e0 A S Z w cN zN [.ref (zg S 7 0 0), .int (nI mi)]) (tQi D yc e0 A S Z (w_X10_setCapacity S w mi)) (Tc - cN) (Ts - zN) A := by
  have hB0 : ZB Z Tc Ts w := hB.mono (m_X10_setCapacity _ _ _)
  refine tk_W hB0 (by decide) (Nat.le_of_ble_eq_true rfl) ?_
  intro p e s m args below meth c ls H locs hx hb hml hr hlk hown hts hW hS hA hC hl
  have hK := hC.1
  have hN := hC.2.1
  have hn12 := hW.n12
  skip
  have hl : lv_has ls 3 [(0, .ref (zg S 7 0 0)), (1, .int (nI mi))] := hl
  refine lv_iload_n hx hb dX10_setCapacity_0 rfl (lv_at hl 1 rfl) ?_
  refine lv_iconst (v := 1) hx hb dX10_setCapacity_1 (by decide) ?_
  refine lv_bipush (v := 20) hx hb dX10_setCapacity_2 (by decide) ?_
  refine zr_i (va_runS (As := [.int (nI mi), .int 1, .int 20]) (rest := []) ⟨hx, hb, hml, hown, hts⟩ (k_X10_isWithin l (nI mi) 1 20) (va_cwS 3 hts (lw_S wq190 wq191 wq1 wq192) rfl rfl rfl (by decide +kernel) ⟨(Nat.le_of_ble_eq_true rfl), (Nat.le_of_ble_eq_true rfl)⟩) tp_N rfl rfl hl.1 rfl (lv_room (Nat.le_of_ble_eq_true rfl)) dX10_setCapacity_4 ⟨(Nat.le_refl _), (Nat.le_refl _)⟩) ?_
  refine zr_v (va_runS (As := [.int (v_X10_isWithin (nI mi) 1 20)]) (rest := []) ⟨hx, hb, hml, hown, hts⟩ (k_X10_refuseUnless l (v_X10_isWithin (nI mi) 1 20) (zwithin (m := 20) hm1 hm2 (by decide))) (va_cwS 1 hts (lw_S wq193 wq194 wq1 wq195) rfl rfl rfl (by decide +kernel) ⟨(Nat.le_of_ble_eq_true rfl), (Nat.le_of_ble_eq_true rfl)⟩) tp_N rfl rfl hl.1 rfl (lv_room (Nat.le_of_ble_eq_true rfl)) dX10_setCapacity_7 ⟨(Nat.le_refl _), (Nat.le_refl _)⟩) ?_
  refine lv_aload_n hx hb dX10_setCapacity_10 rfl (lv_at hl 0 rfl) ?_
  refine t_get (D := D) (ci := 9) (v := .ref (zg S 6 0 0)) (C := RX10) (T := TX10) (N := 5) hx hb hts iX10 hown hK hW 7 0 0 dm7 rfl rfl 0 (by decide) (hts _ wq95) (fun _ h9 => h9) rfl dX10_setCapacity_11 ?_
  refine t_getN (D := D) (ci := 2) (v := .int (w.1 6 0 0 2)) (C := RX2) (T := TX2) (N := 8) hx hb hts iX2 hown hK hW 6 0 0 (dm6 (by omega)) rfl rfl 2 (by decide) (zk_tab rfl (hN _ wr70 rfl)) (fun _ h9 => h9) rfl dX10_setCapacity_14 ?_
  refine lv_istore_n (lv' := [(2, .int (w.1 6 0 0 2)), (0, .ref (zg S 7 0 0)), (1, .int (nI mi))]) hx hb dX10_setCapacity_17 rfl hl (by decide) rfl (fun ls hl => ?_)
  refine lv_aload_n hx hb dX10_setCapacity_18 rfl (lv_at hl 1 rfl) ?_
  refine t_get (D := D) (ci := 9) (v := .ref (zg S 6 0 0)) (C := RX10) (T := TX10) (N := 5) hx hb hts iX10 hown hK hW 7 0 0 dm7 rfl rfl 0 (by decide) (hts _ wq95) (fun _ h9 => h9) rfl dX10_setCapacity_19 ?_
  refine lv_iload_n hx hb dX10_setCapacity_22 rfl (lv_at hl 2 rfl) ?_
  refine t_putN (D := D) (ci := 2) (v := .int (nI mi)) (ty := .int) (C := RX2) (T := TX2) (N := 8) hx hb hts iX2 tyX2 tyX2_ok nmX2 hown hK hW hS 6 0 0 (dm6 (by omega)) rfl rfl 2 (by decide) (zk_tab rfl (hN _ wr70 rfl)) (fun _ h9 => h9) rfl (by decide +kernel) rfl rfl (Nat.le_of_ble_eq_true rfl) (fun j9 => if j9 = 2 then nI mi else w.1 6 0 0 j9) w.2.1 rfl (fun _ _ _ => rfl) (zbit (fun j9 h9 => hW.bit _ _ _ j9 h9) (fun h9 => absurd h9 (by decide))) dX10_setCapacity_23 (fun H locs hW hS => ?_)
  obtain ⟨w1, hw1, hW, hB_w1⟩ : ∃ ww : TW, zset w 6 0 0 2 (nI mi) = ww ∧ WT D yc e0 A S Z ww.1 ww.2.1 ww.2.2 H ∧ ZB Z Tc Ts ww := ⟨_, rfl, hW, hB0⟩
  refine lv_iload_n hx hb dX10_setCapacity_26 rfl (lv_at hl 0 rfl) ?_
  exact tx_i hx hb hr hlk hS rfl hW (zlet_e hw1 rfl) dX10_setCapacity_27
def w_X10_offer (S : TS) (w : TW) (k : Nat) (a : Nat) (v : Int32) (t : Nat) : TW × Int32 := zlet (zrw w (rl k) (qadd (w.2.2 (rl k)) (v_X3_event (nI a) v (nI t)))) (fun w1 => (w1, v_X6_length S w1.1 w1.2.1 w1.2.2 (rl k)))
theorem m_X10_offer (S : TS) (w : TW) (k : Nat) (a : Nat) (v : Int32) (t : Nat) : zle w ((w_X10_offer S w k a v t).1) := by
  unfold w_X10_offer
  exact (zP_let (P := (zle2 (w))) (zle (w)) (zle.tr zle.rf (zle.row (mq_add _ _))) (fun w1 h8_ => h8_))
theorem g_X10_offer (S : TS) (w : TW) (k : Nat) (a : Nat) (v : Int32) (t : Nat) : ((w_X10_offer S w k a v t).1).2.1 = w.2.1 := by
  unfold w_X10_offer
  exact (zP_let (P := (fun (b : TW × Int32) => b.1.2.1 = w.2.1)) (fun (b : TW) => b.2.1 = w.2.1) rfl (fun w1 h8_ => h8_))
set_option maxHeartbeats 4000000 in
set_option maxRecDepth 100000 in
theorem k_X10_offer (l : Launch) (D : va_G) (yc : Nat → ClassId) (e0 : Nat) (A : Nat → Prop) (S : TS) (Z : Nat × Nat) (Tc Ts : Nat) (w : TW) (cN zN : Nat) (k : Nat) (a : Nat) (v : Int32) (t : Nat) (hk : k < zn S) (hs : w.1 8 0 k 0 = 0) (hst : ¬ w.1 7 0 0 2 = 0) (hop : w.1 2 0 k 10 = 0) (ha : a ≤ 99) (ht : t ≤ 100000) (hlg : (w.2.2 (rl k)).2.length < 150) (hB : ZB Z Tc Ts ((w_X10_offer S w k a v t).1)) : Met l yX10_offer (ws_ yX10_offer cX10_offer 6 (some .int)) { frames := 6, cells := Tc - cN, slots := Ts - zN, locals := 129 } (PM D yc e0 A S Z w cN zN [.ref (zg S 7 0 0), .int (nI k), .int (nI a), .int v, .int (nI t)]) (tQi D yc e0 A S Z (w_X10_offer S w k a v t)) (Tc - cN) (Ts - zN) A := by
  have hB0 : ZB Z Tc Ts w := hB.mono (m_X10_offer _ _ _ _ _ _)
  refine tk_W hB0 (by decide) (Nat.le_of_ble_eq_true rfl) ?_
  intro p e s m args below meth c ls H locs hx hb hml hr hlk hown hts hW hS hA hC hl
  have hK := hC.1
  have hN := hC.2.1
  have hn12 := hW.n12
  skip
  have hl : lv_has ls 6 [(0, .ref (zg S 7 0 0)), (1, .int (nI k)), (2, .int (nI a)), (3, .int v), (4, .int (nI t))] := hl
  refine lv_aload_n hx hb dX10_offer_0 rfl (lv_at hl 0 rfl) ?_
  refine lv_iload_n hx hb dX10_offer_1 rfl (lv_at hl 1 rfl) ?_
  refine zr_q (va_runV (As := [.int (nI k)]) (rest := []) ⟨hx, hb, hml, hown, hts⟩ (k_X10_sourceOf l D yc e0 A S Z w.1 w.2.1 w.2.2 k (by first | assumption | omega | decide) (by first | assumption | omega | decide)) (cwV 1 hts (lw_V wq215 wq217 ws1 wq1 wq218) rfl rfl rfl (by decide +kernel) ⟨(Nat.le_of_ble_eq_true rfl), (Nat.le_of_ble_eq_true rfl)⟩) (tp_V hC hW hS hA 7 0 0 dm7 rfl rfl) rfl rfl hl.1 rfl (lv_room (Nat.le_of_ble_eq_true rfl)) dX10_offer_2 ⟨(Nat.le_refl _), (Nat.le_refl _)⟩) ?_
  refine lv_astore (lv' := [(5, .ref (zg S 2 0 k)), (0, .ref (zg S 7 0 0)), (1, .int (nI k)), (2, .int (nI a)), (3, .int v), (4, .int (nI t))]) hx hb dX10_offer_5 hl (by decide) rfl (fun ls hl => ?_)
  refine lv_iload_n hx hb dX10_offer_7 rfl (lv_at hl 3 rfl) ?_
  refine lv_iconst (v := 0) hx hb dX10_offer_8 (by decide) ?_
  refine lv_bipush (v := 99) hx hb dX10_offer_9 (by decide) ?_
  refine zr_i (va_runS (As := [.int (nI a), .int 0, .int 99]) (rest := []) ⟨hx, hb, hml, hown, hts⟩ (k_X10_isWithin l (nI a) 0 99) (va_cwS 3 hts (lw_S wq190 wq191 wq1 wq192) rfl rfl rfl (by decide +kernel) ⟨(Nat.le_of_ble_eq_true rfl), (Nat.le_of_ble_eq_true rfl)⟩) tp_N rfl rfl hl.1 rfl (lv_room (Nat.le_of_ble_eq_true rfl)) dX10_offer_11 ⟨(Nat.le_refl _), (Nat.le_refl _)⟩) ?_
  refine lv_if_eq (tgt := 32) hx hb dX10_offer_14 (by decide) (fun h9 => absurd h9 (zwithin0 (m := 99) ha (by decide))) (fun _ => ?_)
  refine lv_iload hx hb dX10_offer_17 (lv_at hl 5 rfl) ?_
  refine lv_iconst (v := 0) hx hb dX10_offer_19 (by decide) ?_
  refine lv_ldc hx hb hown (hts _ wq809) dX10_offer_20 ?_
  refine zr_i (va_runS (As := [.int (nI t), .int 0, .int 100000]) (rest := []) ⟨hx, hb, hml, hown, hts⟩ (k_X10_isWithin l (nI t) 0 100000) (va_cwS 3 hts (lw_S wq190 wq191 wq1 wq192) rfl rfl rfl (by decide +kernel) ⟨(Nat.le_of_ble_eq_true rfl), (Nat.le_of_ble_eq_true rfl)⟩) tp_N rfl rfl hl.1 rfl (lv_room (Nat.le_of_ble_eq_true rfl)) dX10_offer_22 ⟨(Nat.le_refl _), (Nat.le_refl _)⟩) ?_
  refine lv_if_eq (tgt := 32) hx hb dX10_offer_25 (by decide) (fun h9 => absurd h9 (zwithin0 (m := 100000) ht (by decide))) (fun _ => ?_)
  refine lv_iconst (v := 1) hx hb dX10_offer_28 (by decide) ?_
  refine lv_goto (tgt := 33) hx hb dX10_offer_29 (by decide) ?_
  refine zr_v (va_runS (As := [.int 1]) (rest := []) ⟨hx, hb, hml, hown, hts⟩ (k_X10_refuseUnless l 1 (by first | assumption | omega | decide)) (va_cwS 1 hts (lw_S wq193 wq194 wq1 wq195) rfl rfl rfl (by decide +kernel) ⟨(Nat.le_of_ble_eq_true rfl), (Nat.le_of_ble_eq_true rfl)⟩) tp_N rfl rfl hl.1 rfl (lv_room (Nat.le_of_ble_eq_true rfl)) dX10_offer_33 ⟨(Nat.le_refl _), (Nat.le_refl _)⟩) ?_
  refine lv_aload_n hx hb dX10_offer_36 rfl (lv_at hl 1 rfl) ?_
  refine lv_aload hx hb dX10_offer_37 (lv_at hl 0 rfl) ?_
  refine zr_v (va_runV (As := [.ref (zg S 2 0 k)]) (rest := []) ⟨hx, hb, hml, hown, hts⟩ (k_X10_refuseUnlessOpen l D yc e0 A S Z w.1 w.2.1 w.2.2 k (by first | assumption | omega | decide) (by first | assumption | omega | decide) (by first | assumption | omega | decide)) (cwV 1 hts (lw_V wq257 wq259 ws3 wq1 wq260) rfl rfl rfl (by decide +kernel) ⟨(Nat.le_of_ble_eq_true rfl), (Nat.le_of_ble_eq_true rfl)⟩) (tp_V hC hW hS hA 7 0 0 dm7 rfl rfl) rfl rfl hl.1 rfl (lv_room (Nat.le_of_ble_eq_true rfl)) dX10_offer_39 ⟨(Nat.le_refl _), (Nat.le_refl _)⟩) ?_
  refine lv_aload hx hb dX10_offer_42 (lv_at hl 0 rfl) ?_
  refine t_getN (D := D) (ci := 7) (v := .ref (zr S (rl k))) (C := RX8) (T := TX8) (N := 12) hx hb hts iX8 hown hK hW 2 0 k (dm2 (by omega) (by omega)) rfl rfl 1 (by decide) (zk_tab rfl (hN _ wr1107 rfl)) (fun _ h9 => h9) rfl dX10_offer_44 ?_
  refine zr_i (va_runV (As := []) (rest := []) ⟨hx, hb, hml, hown, hts⟩ (k_X6_length l D yc e0 A S Z w.1 w.2.1 w.2.2 (rl k) (dr_l hW.n12 (by omega))) (cwV 0 hts (lw_V wq810 wq266 wq267 wq15 wq268) rfl rfl rfl (by decide +kernel) ⟨(Nat.le_of_ble_eq_true rfl), (Nat.le_of_ble_eq_true rfl)⟩) (tp_R hC hW hS hA (rl k) (dr_l hW.n12 (by omega))) rfl rfl hl.1 rfl (lv_room (Nat.le_of_ble_eq_true rfl)) dX10_offer_47 ⟨(Nat.le_refl _), (Nat.le_refl _)⟩) ?_
  refine lv_sipush (v := 150) hx hb dX10_offer_50 (by decide) ?_
  refine lv_icmp_lt (tgt := 64) hx hb dX10_offer_53 (by decide) (fun _ => ?_) (fun h9 => absurd (nI_lt (b := 150) hlg (by decide)) h9)
  refine lv_aload hx hb dX10_offer_64 (lv_at hl 0 rfl) ?_
  refine t_getN (D := D) (ci := 7) (v := .ref (zr S (rl k))) (C := RX8) (T := TX8) (N := 12) hx hb hts iX8 hown hK hW 2 0 k (dm2 (by omega) (by omega)) rfl rfl 1 (by decide) (zk_tab rfl (hN _ wr1107 rfl)) (fun _ h9 => h9) rfl dX10_offer_66 ?_
  refine lv_iload_n hx hb dX10_offer_69 rfl (lv_at hl 3 rfl) ?_
  refine lv_iload_n hx hb dX10_offer_70 rfl (lv_at hl 4 rfl) ?_
  refine lv_iload hx hb dX10_offer_71 (lv_at hl 5 rfl) ?_
  refine zr_l (va_runS (As := [.int (nI a), .int v, .int (nI t)]) (rest := [.ref (zr S (rl k))]) ⟨hx, hb, hml, hown, hts⟩ (k_X3_event l (nI a) v (nI t)) (va_cwS 3 hts (lw_S wq811 wq445 wq25 wq446) rfl rfl rfl (by decide +kernel) ⟨(Nat.le_of_ble_eq_true rfl), (Nat.le_of_ble_eq_true rfl)⟩) tp_N rfl rfl hl.1 rfl (lv_room (Nat.le_of_ble_eq_true rfl)) dX10_offer_73 ⟨(Nat.le_refl _), (Nat.le_refl _)⟩) ?_
  have hB_w1 : ZB Z Tc Ts (zrw w (rl k) (qadd (w.2.2 (rl k)) (v_X3_event (nI a) v (nI t)))) := hB.mono (zP_let (P := (zle2 (zrw w (rl k) (qadd (w.2.2 (rl k)) (v_X3_event (nI a) v (nI t)))))) (zle (zrw w (rl k) (qadd (w.2.2 (rl k)) (v_X3_event (nI a) v (nI t))))) zle.rf (fun w1 h8 => h8))
  refine tw_v hB_w1 ⟨rfl, rfl⟩ (hB0.top hW) (fun hle9 => va_runV (As := [.long (v_X3_event (nI a) v (nI t))]) (rest := []) ⟨hx, hb, hml, hown, hts⟩ (k_X6_add l D yc e0 A S Z Tc Ts w H.size (zh H) (rl k) (v_X3_event (nI a) v (nI t)) (dr_l hW.n12 (by omega)) hB_w1) (cwV 1 hts (lw_V wq812 wq345 wq346 wq15 wq347) rfl rfl rfl (by decide +kernel) ⟨(Nat.le_of_ble_eq_true rfl), (Nat.le_of_ble_eq_true rfl)⟩) (tq_R hC hW hS hA (rl k) (dr_l hW.n12 (by omega))) rfl rfl hl.1 rfl (lv_room (Nat.le_of_ble_eq_true rfl)) dX10_offer_76 hle9) hS (fun H locs hW hS => ?_)
  obtain ⟨w1, hw1, hW, hB_w1⟩ : ∃ ww : TW, zrw w (rl k) (qadd (w.2.2 (rl k)) (v_X3_event (nI a) v (nI t))) = ww ∧ WT D yc e0 A S Z ww.1 ww.2.1 ww.2.2 H ∧ ZB Z Tc Ts ww := ⟨_, rfl, hW, hB_w1⟩
  refine lv_aload hx hb dX10_offer_79 (lv_at hl 0 rfl) ?_
  refine t_getN (D := D) (ci := 7) (v := .ref (zr S (rl k))) (C := RX8) (T := TX8) (N := 12) hx hb hts iX8 hown hK hW 2 0 k (dm2 (by omega) (by omega)) rfl rfl 1 (by decide) (zk_tab rfl (hN _ wr1107 rfl)) (fun _ h9 => h9) rfl dX10_offer_81 ?_
  refine zr_i (va_runV (As := []) (rest := []) ⟨hx, hb, hml, hown, hts⟩ (k_X6_length l D yc e0 A S Z w1.1 w1.2.1 w1.2.2 (rl k) (dr_l hW.n12 (by omega))) (cwV 0 hts (lw_V wq810 wq266 wq267 wq15 wq268) rfl rfl rfl (by decide +kernel) ⟨(Nat.le_of_ble_eq_true rfl), (Nat.le_of_ble_eq_true rfl)⟩) (tp_R hC hW hS hA (rl k) (dr_l hW.n12 (by omega))) rfl rfl hl.1 rfl (lv_room (Nat.le_of_ble_eq_true rfl)) dX10_offer_84 ⟨(Nat.le_refl _), (Nat.le_refl _)⟩) ?_
  exact tx_i hx hb hr hlk hS rfl hW (zlet_e hw1 rfl) dX10_offer_87
def w_X10_close (S : TS) (w : TW) (k : Nat) : TW × Int32 := zlet (zset w 2 0 k 10 1) (fun w1 => (w1, v_X8_unread S w1.1 w1.2.1 w1.2.2 0 k))
theorem m_X10_close (S : TS) (w : TW) (k : Nat) : zle w ((w_X10_close S w k).1) := by
  unfold w_X10_close
  exact (zP_let (P := (zle2 (w))) (zle (w)) (zle.to zle.rf rfl) (fun w1 h8_ => h8_))
theorem g_X10_close (S : TS) (w : TW) (k : Nat) : ((w_X10_close S w k).1).2.1 = w.2.1 := by
  unfold w_X10_close
  exact (zP_let (P := (fun (b : TW × Int32) => b.1.2.1 = w.2.1)) (fun (b : TW) => b.2.1 = w.2.1) rfl (fun w1 h8_ => h8_))
set_option maxHeartbeats 4000000 in
set_option maxRecDepth 100000 in
theorem k_X10_close (l : Launch) (D : va_G) (yc : Nat → ClassId) (e0 : Nat) (A : Nat → Prop) (S : TS) (Z : Nat × Nat) (Tc Ts : Nat) (w : TW) (cN zN : Nat) (k : Nat) (hk : k < zn S) (hs : w.1 8 0 k 0 = 0) (hst : ¬ w.1 7 0 0 2 = 0) (hop : w.1 2 0 k 10 = 0) (hB : ZB Z Tc Ts ((w_X10_close S w k).1)) : Met l yX10_close (ws_ yX10_close cX10_close 3 (some .int)) { frames := 6, cells := Tc - cN, slots := Ts - zN, locals := 129 } (PM D yc e0 A S Z w cN zN [.ref (zg S 7 0 0), .int (nI k)]) (tQi D yc e0 A S Z (w_X10_close S w k)) (Tc - cN) (Ts - zN) A := by
  have hB0 : ZB Z Tc Ts w := hB.mono (m_X10_close _ _ _)
  refine tk_W hB0 (by decide) (Nat.le_of_ble_eq_true rfl) ?_
  intro p e s m args below meth c ls H locs hx hb hml hr hlk hown hts hW hS hA hC hl
  have hK := hC.1
  have hN := hC.2.1
  have hn12 := hW.n12
  skip
  have hl : lv_has ls 3 [(0, .ref (zg S 7 0 0)), (1, .int (nI k))] := hl
  refine lv_aload_n hx hb dX10_close_0 rfl (lv_at hl 0 rfl) ?_
  refine lv_iload_n hx hb dX10_close_1 rfl (lv_at hl 1 rfl) ?_
  refine zr_q (va_runV (As := [.int (nI k)]) (rest := []) ⟨hx, hb, hml, hown, hts⟩ (k_X10_sourceOf l D yc e0 A S Z w.1 w.2.1 w.2.2 k (by first | assumption | omega | decide) (by first | assumption | omega | decide)) (cwV 1 hts (lw_V wq215 wq217 ws1 wq1 wq218) rfl rfl rfl (by decide +kernel) ⟨(Nat.le_of_ble_eq_true rfl), (Nat.le_of_ble_eq_true rfl)⟩) (tp_V hC hW hS hA 7 0 0 dm7 rfl rfl) rfl rfl hl.1 rfl (lv_room (Nat.le_of_ble_eq_true rfl)) dX10_close_2 ⟨(Nat.le_refl _), (Nat.le_refl _)⟩) ?_
  refine lv_astore_n (lv' := [(2, .ref (zg S 2 0 k)), (0, .ref (zg S 7 0 0)), (1, .int (nI k))]) hx hb dX10_close_5 rfl hl (by decide) rfl (fun ls hl => ?_)
  refine lv_aload_n hx hb dX10_close_6 rfl (lv_at hl 1 rfl) ?_
  refine lv_aload_n hx hb dX10_close_7 rfl (lv_at hl 0 rfl) ?_
  refine zr_v (va_runV (As := [.ref (zg S 2 0 k)]) (rest := []) ⟨hx, hb, hml, hown, hts⟩ (k_X10_refuseUnlessOpen l D yc e0 A S Z w.1 w.2.1 w.2.2 k (by first | assumption | omega | decide) (by first | assumption | omega | decide) (by first | assumption | omega | decide)) (cwV 1 hts (lw_V wq257 wq259 ws3 wq1 wq260) rfl rfl rfl (by decide +kernel) ⟨(Nat.le_of_ble_eq_true rfl), (Nat.le_of_ble_eq_true rfl)⟩) (tp_V hC hW hS hA 7 0 0 dm7 rfl rfl) rfl rfl hl.1 rfl (lv_room (Nat.le_of_ble_eq_true rfl)) dX10_close_8 ⟨(Nat.le_refl _), (Nat.le_refl _)⟩) ?_
  refine lv_aload_n hx hb dX10_close_11 rfl (lv_at hl 0 rfl) ?_
  refine lv_iconst (v := 1) hx hb dX10_close_12 (by decide) ?_
  refine t_putN (D := D) (ci := 7) (v := .int 1) (ty := .boolean) (C := RX8) (T := TX8) (N := 12) hx hb hts iX8 tyX8 tyX8_ok nmX8 hown hK hW hS 2 0 k (dm2 (by omega) (by omega)) rfl rfl 10 (by decide) (zk_tab rfl (hN _ wr1126 rfl)) (fun _ h9 => h9) rfl (by decide +kernel) rfl rfl (Nat.le_of_ble_eq_true rfl) (fun j9 => if j9 = 10 then 1 else w.1 2 0 k j9) w.2.1 rfl (fun _ _ _ => rfl) (zbit (fun j9 h9 => hW.bit _ _ _ j9 h9) (fun _ => (by decide))) dX10_close_13 (fun H locs hW hS => ?_)
  obtain ⟨w1, hw1, hW, hB_w1⟩ : ∃ ww : TW, zset w 2 0 k 10 1 = ww ∧ WT D yc e0 A S Z ww.1 ww.2.1 ww.2.2 H ∧ ZB Z Tc Ts ww := ⟨_, rfl, hW, hB0⟩
  refine lv_aload_n hx hb dX10_close_16 rfl (lv_at hl 0 rfl) ?_
  refine zr_i (va_runV (As := []) (rest := []) ⟨hx, hb, hml, hown, hts⟩ (k_X8_unread l D yc e0 A S Z w1.1 w1.2.1 w1.2.2 0 k (by first | assumption | omega | decide) (by first | assumption | omega | decide)) (cwV 0 hts (lw_V wq261 wq262 wq263 wq16 wq264) rfl rfl rfl (by decide +kernel) ⟨(Nat.le_of_ble_eq_true rfl), (Nat.le_of_ble_eq_true rfl)⟩) (tp_V hC hW hS hA 2 0 k (dm2 (by omega) (by omega)) rfl rfl) rfl rfl hl.1 rfl (lv_room (Nat.le_of_ble_eq_true rfl)) dX10_close_17 ⟨(Nat.le_refl _), (Nat.le_refl _)⟩) ?_
  exact tx_i hx hb hr hlk hS rfl hW (zlet_e hw1 rfl) dX10_close_20
def r_X10_work (S : TS) (mi : Nat) : Nat → Nat → TW → TW × Nat
  | 0, d, w => (w, d)
  | n + 1, d, w => if (v_X2_nextToWork S w.1 w.2.1 w.2.2 0 (zlast w 0)) = -1 then (w, d) else zlet (w_X2_step S w 0 ((v_X2_nextToWork S w.1 w.2.1 w.2.2 0 (zlast w 0)).toNatClampNeg)) (fun w2 => if w2.2 = 0 then (w2.1, d) else r_X10_work S mi n (d + 1) w2.1)
theorem er_X10_work (S : TS) (mi : Nat) (n : Nat) (d : Nat) (w : TW) : r_X10_work S mi (n + 1) d w = if (v_X2_nextToWork S w.1 w.2.1 w.2.2 0 (zlast w 0)) = -1 then (w, d) else zlet (w_X2_step S w 0 ((v_X2_nextToWork S w.1 w.2.1 w.2.2 0 (zlast w 0)).toNatClampNeg)) (fun w2 => if w2.2 = 0 then (w2.1, d) else r_X10_work S mi n (d + 1) w2.1) := rfl
theorem mr_X10_work (S : TS) (mi : Nat) : ∀ (n : Nat) (d : Nat) (w : TW), zle w ((r_X10_work S mi n d w).1) := by
  intro n
  induction n with
  | zero => intro d w; exact zle.rf
  | succ n ih =>
    intro d w
    rw [er_X10_work]
    exact (zP_if (P := (zle2 (w))) zle.rf (zP_let (P := (zle2 (w))) (zle2 (w)) (zle.tr zle.rf (m_X2_step _ _ _ _)) (fun w2 h8_ => (zP_if (P := (zle2 (w))) h8_ (zle.tr h8_ (ih _ _))))))
theorem gsr_X10_work (S : TS) (mi : Nat) : ∀ (n : Nat) (d : Nat) (w : TW) (hGS : GS w.2.1), GS ((r_X10_work S mi n d w).1).2.1 := by
  intro n
  induction n with
  | zero => intro d w hGS; exact hGS
  | succ n ih =>
    intro d w hGS
    rw [er_X10_work]
    exact (zP_ifd (P := (fun (b : TW × Nat) => GS b.1.2.1)) (fun hq0 => hGS) (fun hq0 => (zP_let (P := (fun (b : TW × Nat) => GS b.1.2.1)) (fun (b : TW × Int32) => GS b.1.2.1) (gs_X2_step _ _ _ _ hGS) (fun w2 h8_ => (zP_ifd (P := (fun (b : TW × Nat) => GS b.1.2.1)) (fun hq1 => h8_) (fun hq1 => (ih _ _ h8_)))))))
set_option maxHeartbeats 4000000 in
set_option maxRecDepth 100000 in
theorem lp_X10_work {p : Program} {e : Env} {s : State} {m : MethodId} {args : Array Value} {below : List Frame} {meth : Method} {c : Code} {l : Launch} {D : va_G} {yc : Nat → ClassId} {e0 : Nat} {A : Nat → Prop} {S : TS} {Z : Nat × Nat} {Tc Ts : Nat} (mi : Nat) (hm2 : mi ≤ 200) (hx : p.tables.exec = Jvm.exec) (hb : c.code = cX10_work) (hml : c.maxLocals = 3) (hr : meth.sig.returnType = (some .int)) (hlk : meth.locks = false) (hown : s.vm.findClass yX10_work.cls = some m.cls) (hts : ∀ w ∈ lw_all, w.before args s = true) (hA : ∀ a, s.heap.size ≤ a → A a) (hC : CX D yc e0 A s) {Q : State → Prop} : ∀ (n : Nat) (d : Nat) (w : TW) (H : Heap) (locs : List Loc) (ls : Array Slot), d + n = mi ∧ GS w.2.1 ∧ ZL S w 0 → ZB Z Tc Ts ((r_X10_work S mi n d w).1) → WT D yc e0 A S Z w.1 w.2.1 w.2.2 H → va_S A s.heap H locs → lv_has ls 3 [(2, .int (nI d)), (0, .ref (zg S 7 0 0)), (1, .int (nI mi))] → (∀ (wr : TW × Nat) (H : Heap) (locs : List Loc) (ls : Array Slot), r_X10_work S mi n d w = wr → WT D yc e0 A S Z wr.1.1 wr.1.2.1 wr.1.2.2 H → va_S A s.heap H locs → lv_has ls 3 [(2, .int (nI wr.2)), (0, .ref (zg S 7 0 0)), (1, .int (nI mi))] → W p l e { frames := 8, cells := Tc - s.heap.size, slots := Ts - zh s.heap, locals := 219 } s m args below meth c H locs (Tc - s.heap.size) (Ts - zh s.heap) Q (F0 m 45 ls [])) → W p l e { frames := 8, cells := Tc - s.heap.size, slots := Ts - zh s.heap, locals := 219 } s m args below meth c H locs (Tc - s.heap.size) (Ts - zh s.heap) Q (F0 m 17 ls []) := by
  have hK := hC.1
  have hN := hC.2.1
  intro n
  induction n with
  | zero =>
    intro d w H locs ls hinv hB hW hS hl kk
    have hB0 : ZB Z Tc Ts w := hB
    have hn12 := hW.n12
    obtain ⟨hinv, hGS, hZL⟩ := hinv
    refine lv_iload_n hx hb dX10_work_17 rfl (lv_at hl 0 rfl) ?_
    refine lv_iload_n hx hb dX10_work_18 rfl (lv_at hl 2 rfl) ?_
    refine lv_icmp_ge (tgt := 45) hx hb dX10_work_19 (by decide) (fun _ => ?_) (fun h9 => absurd (nI_le (by omega) (by omega)) h9)
    exact kk (w, d) H locs _ rfl hW hS (lv_sub hl [0, 1, 2] rfl)
  | succ n ih =>
    intro d w H locs ls hinv hB hW hS hl kk
    rw [er_X10_work] at hB
    have hB0 : ZB Z Tc Ts w := hB.mono (zP_if (P := (zle2 (w))) zle.rf (zP_let (P := (zle2 (w))) (zle2 (w)) (zle.tr zle.rf (m_X2_step _ _ _ _)) (fun w2 h8_ => (zP_if (P := (zle2 (w))) h8_ (zle.tr h8_ (mr_X10_work _ _ _ _ _))))))
    have hn12 := hW.n12
    obtain ⟨hinv, hGS, hZL⟩ := hinv
    refine lv_iload_n hx hb dX10_work_17 rfl (lv_at hl 0 rfl) ?_
    refine lv_iload_n hx hb dX10_work_18 rfl (lv_at hl 2 rfl) ?_
    refine lv_icmp_ge (tgt := 45) hx hb dX10_work_19 (by decide) (fun h9 => absurd h9 (nI_ge (by omega) (by omega))) (fun _ => ?_)
    refine lv_aload_n hx hb dX10_work_22 rfl (lv_at hl 1 rfl) ?_
    refine t_get (D := D) (ci := 9) (v := .ref (zg S 6 0 0)) (C := RX10) (T := TX10) (N := 5) hx hb hts iX10 hown hK hW 7 0 0 dm7 rfl rfl 0 (by decide) (hts _ wq95) (fun _ h9 => h9) rfl dX10_work_23 ?_
    refine lv_aload_n hx hb dX10_work_26 rfl (lv_at hl 1 rfl) ?_
    refine t_get (D := D) (ci := 9) (v := .ref (zg S 6 0 0)) (C := RX10) (T := TX10) (N := 5) hx hb hts iX10 hown hK hW 7 0 0 dm7 rfl rfl 0 (by decide) (hts _ wq95) (fun _ h9 => h9) rfl dX10_work_27 ?_
    refine zr_i (va_runV (As := []) (rest := [.ref (zg S 6 0 0)]) ⟨hx, hb, hml, hown, hts⟩ (k_X2_nextToWork l D yc e0 A S Z w.1 w.2.1 w.2.2 0 (zlast w 0) (by first | assumption | omega | decide) hZL.1 hZL.2) (cwV 0 hts (lw_V wq277 wq278 wq279 wq2 wq280) rfl rfl rfl (by decide +kernel) ⟨(Nat.le_of_ble_eq_true rfl), (Nat.le_of_ble_eq_true rfl)⟩) (tp_V hC hW hS hA 6 0 0 (dm6 (by omega)) rfl rfl) rfl rfl hl.1 rfl (lv_room (Nat.le_of_ble_eq_true rfl)) dX10_work_30 ⟨(Nat.le_refl _), (Nat.le_refl _)⟩) ?_
    by_cases hn1 : (v_X2_nextToWork S w.1 w.2.1 w.2.2 0 (zlast w 0)) = -1
    · refine zk_ti (y := (-1)) hn1 ?_
      refine zr_i (va_runV (As := [.int (-1)]) (rest := []) ⟨hx, hb, hml, hown, hts⟩ (k_X2_stepN l D yc e0 A S Z w.1 w.2.1 w.2.2 0 (by first | assumption | omega | decide)) (cwV 1 hts (lw_V wq313 wq314 wq315 wq2 wq316) rfl rfl rfl (by decide +kernel) ⟨(Nat.le_of_ble_eq_true rfl), (Nat.le_of_ble_eq_true rfl)⟩) (tp_V hC hW hS hA 6 0 0 (dm6 (by omega)) rfl rfl) rfl rfl hl.1 rfl (lv_room (Nat.le_of_ble_eq_true rfl)) dX10_work_33 ⟨(Nat.le_refl _), (Nat.le_refl _)⟩) ?_
      refine zk_ti (y := 0) rfl ?_
      refine lv_if_eq (tgt := 45) hx hb dX10_work_36 (by decide) (fun _ => ?_) (fun h9 => absurd (by decide) h9)
      exact kk (w, d) H locs _ ((er_X10_work _ _ _ _ _).trans (zif_p hn1 rfl)) hW hS (lv_sub hl [0, 1, 2] rfl)
    · obtain ⟨hn1e, hn1k⟩ := nw_ok hn12 hZL.2 hn1
      refine zk_ti (y := nI ((v_X2_nextToWork S w.1 w.2.1 w.2.2 0 (zlast w 0)).toNatClampNeg)) hn1e ?_
      have hB_w2 : ZB Z Tc Ts ((w_X2_step S w 0 ((v_X2_nextToWork S w.1 w.2.1 w.2.2 0 (zlast w 0)).toNatClampNeg)).1) := hB.mono (zP_n (P := (zle2 ((w_X2_step S w 0 ((v_X2_nextToWork S w.1 w.2.1 w.2.2 0 (zlast w 0)).toNatClampNeg)).1))) hn1 (zP_let (P := (zle2 ((w_X2_step S w 0 ((v_X2_nextToWork S w.1 w.2.1 w.2.2 0 (zlast w 0)).toNatClampNeg)).1))) (zle2 ((w_X2_step S w 0 ((v_X2_nextToWork S w.1 w.2.1 w.2.2 0 (zlast w 0)).toNatClampNeg)).1)) zle.rf (fun w2 h8 => (zP_if (P := (zle2 ((w_X2_step S w 0 ((v_X2_nextToWork S w.1 w.2.1 w.2.2 0 (zlast w 0)).toNatClampNeg)).1))) h8 (zle.tr h8 (mr_X10_work _ _ _ _ _))))))
      refine tw_i hB_w2 ⟨rfl, rfl⟩ (hB0.top hW) (fun hle9 => va_runV (As := [.int (nI ((v_X2_nextToWork S w.1 w.2.1 w.2.2 0 (zlast w 0)).toNatClampNeg))]) (rest := []) ⟨hx, hb, hml, hown, hts⟩ (k_X2_step l D yc e0 A S Z Tc Ts w H.size (zh H) 0 ((v_X2_nextToWork S w.1 w.2.1 w.2.2 0 (zlast w 0)).toNatClampNeg) (by first | assumption | omega | decide) (by first | assumption | omega | decide) (by first | assumption | omega | decide) hB_w2) (cwV 1 hts (lw_V wq313 wq314 wq315 wq2 wq316) rfl rfl rfl (by decide +kernel) ⟨(Nat.le_of_ble_eq_true rfl), (Nat.le_of_ble_eq_true rfl)⟩) (tq_V hC hW hS hA 6 0 0 (dm6 (by omega)) rfl rfl) rfl rfl hl.1 rfl (lv_room (Nat.le_of_ble_eq_true rfl)) dX10_work_33 hle9) hS (fun H locs hW hS => ?_)
      obtain ⟨w2, hw2, hW, hB_w2⟩ : ∃ ww : TW × Int32, w_X2_step S w 0 ((v_X2_nextToWork S w.1 w.2.1 w.2.2 0 (zlast w 0)).toNatClampNeg) = ww ∧ WT D yc e0 A S Z ww.1.1 ww.1.2.1 ww.1.2.2 H ∧ ZB Z Tc Ts ww.1 := ⟨_, rfl, hW, hB_w2⟩
      have hGS : GS w2.1.2.1 := by rw [← hw2]; exact gs_X2_step _ _ _ _ hGS
      have hZL : ZL S w2.1 0 := ZL.set hn12 (by assumption) (by rw [← hw2]; exact n6_step _ _ _ _)
      have hv9 := congrArg Prod.snd hw2
      refine zk_ti (y := w2.2) (by exact hv9) ?_
      refine lv_if_eq (tgt := 45) hx hb dX10_work_36 (by decide) (fun hb3 => ?_) (fun hb3 => ?_)
      · exact kk (w2.1, d) H locs _ ((er_X10_work _ _ _ _ _).trans (zif_n hn1 (zlet_e hw2 (zif_p hb3 rfl)))) hW hS (lv_sub hl [0, 1, 2] rfl)
      · refine lv_iinc (v := nI (d + 1)) (lv' := [(2, .int (nI (d + 1))), (0, .ref (zg S 7 0 0)), (1, .int (nI mi))]) hx hb dX10_work_39 hl (k := 0) rfl (nI_1 _) (by decide) rfl (fun ls hl => ?_)
        refine lv_goto (tgt := 17) hx hb dX10_work_42 (by decide) ?_
        have e9 : r_X10_work S mi (n + 1) d w = r_X10_work S mi n (d + 1) w2.1 := (er_X10_work _ _ _ _ _).trans (zif_n hn1 (zlet_e hw2 (zif_n hb3 rfl)))
        have e8 : ZB Z Tc Ts ((r_X10_work S mi n (d + 1) w2.1).1) := by rw [← e9, er_X10_work]; exact hB
        exact ih (d + 1) w2.1 H locs _ ⟨by omega, hGS, hZL⟩ e8 hW hS (lv_sub hl [0, 1, 2] rfl) (fun wr H locs ls he hW hS hl => kk wr H locs ls (e9.trans he) hW hS hl)
def w_X10_work (S : TS) (w : TW) (mi : Nat) : TW × Int32 := zlet (r_X10_work S mi mi 0 w) (fun w1 => zlet (zset w1.1 7 0 0 4 ((w1.1.1 7 0 0 4) + (nI w1.2))) (fun w2 => (w2, nI w1.2)))
theorem m_X10_work (S : TS) (w : TW) (mi : Nat) : zle w ((w_X10_work S w mi).1) := by
  unfold w_X10_work
  exact (zP_let (P := (zle2 (w))) (zle2 (w)) (zle.tr zle.rf (mr_X10_work _ _ _ _ _)) (fun w1 h8_ => (zP_let (P := (zle2 (w))) (zle (w)) (zle.to h8_ rfl) (fun w2 h8__ => h8__))))
theorem gs_X10_work (S : TS) (w : TW) (mi : Nat) (hGS : GS w.2.1) : GS ((w_X10_work S w mi).1).2.1 := by
  unfold w_X10_work
  exact (zP_let (P := (fun (b : TW × Int32) => GS b.1.2.1)) (fun (b : TW × Nat) => GS b.1.2.1) (gsr_X10_work _ _ _ _ _ hGS) (fun w1 h8_ => (zP_let (P := (fun (b : TW × Int32) => GS b.1.2.1)) (fun (b : TW) => GS b.2.1) h8_ (fun w2 h8__ => h8__))))
set_option maxHeartbeats 4000000 in
set_option maxRecDepth 100000 in
theorem k_X10_work (l : Launch) (D : va_G) (yc : Nat → ClassId) (e0 : Nat) (A : Nat → Prop) (S : TS) (Z : Nat × Nat) (Tc Ts : Nat) (w : TW) (cN zN : Nat) (mi : Nat) (hm1 : 1 ≤ mi) (hm2 : mi ≤ 200) (hst : ¬ w.1 7 0 0 2 = 0) (hGS : GS w.2.1) (hZL : ZL S w 0) (hB : ZB Z Tc Ts ((w_X10_work S w mi).1)) : Met l yX10_work (ws_ yX10_work cX10_work 3 (some .int)) { frames := 8, cells := Tc - cN, slots := Ts - zN, locals := 219 } (PM D yc e0 A S Z w cN zN [.ref (zg S 7 0 0), .int (nI mi)]) (tQi D yc e0 A S Z (w_X10_work S w mi)) (Tc - cN) (Ts - zN) A := by
  have hB0 : ZB Z Tc Ts w := hB.mono (m_X10_work _ _ _)
  refine tk_W hB0 (by decide) (Nat.le_of_ble_eq_true rfl) ?_
  intro p e s m args below meth c ls H locs hx hb hml hr hlk hown hts hW hS hA hC hl
  have hK := hC.1
  have hN := hC.2.1
  have hn12 := hW.n12
  skip
  have hl : lv_has ls 3 [(0, .ref (zg S 7 0 0)), (1, .int (nI mi))] := hl
  refine lv_iload_n hx hb dX10_work_0 rfl (lv_at hl 1 rfl) ?_
  refine lv_iconst (v := 1) hx hb dX10_work_1 (by decide) ?_
  refine lv_sipush (v := 200) hx hb dX10_work_2 (by decide) ?_
  refine zr_i (va_runS (As := [.int (nI mi), .int 1, .int 200]) (rest := []) ⟨hx, hb, hml, hown, hts⟩ (k_X10_isWithin l (nI mi) 1 200) (va_cwS 3 hts (lw_S wq190 wq191 wq1 wq192) rfl rfl rfl (by decide +kernel) ⟨(Nat.le_of_ble_eq_true rfl), (Nat.le_of_ble_eq_true rfl)⟩) tp_N rfl rfl hl.1 rfl (lv_room (Nat.le_of_ble_eq_true rfl)) dX10_work_5 ⟨(Nat.le_refl _), (Nat.le_refl _)⟩) ?_
  refine zr_v (va_runS (As := [.int (v_X10_isWithin (nI mi) 1 200)]) (rest := []) ⟨hx, hb, hml, hown, hts⟩ (k_X10_refuseUnless l (v_X10_isWithin (nI mi) 1 200) (zwithin (m := 200) hm1 hm2 (by decide))) (va_cwS 1 hts (lw_S wq193 wq194 wq1 wq195) rfl rfl rfl (by decide +kernel) ⟨(Nat.le_of_ble_eq_true rfl), (Nat.le_of_ble_eq_true rfl)⟩) tp_N rfl rfl hl.1 rfl (lv_room (Nat.le_of_ble_eq_true rfl)) dX10_work_8 ⟨(Nat.le_refl _), (Nat.le_refl _)⟩) ?_
  refine lv_aload_n hx hb dX10_work_11 rfl (lv_at hl 0 rfl) ?_
  refine zr_v (va_runV (As := []) (rest := []) ⟨hx, hb, hml, hown, hts⟩ (k_X10_refuseUnlessStarted l D yc e0 A S Z w.1 w.2.1 w.2.2 (by first | assumption | omega | decide)) (cwV 0 hts (lw_V wq273 wq275 ws4 wq1 wq276) rfl rfl rfl (by decide +kernel) ⟨(Nat.le_of_ble_eq_true rfl), (Nat.le_of_ble_eq_true rfl)⟩) (tp_V hC hW hS hA 7 0 0 dm7 rfl rfl) rfl rfl hl.1 rfl (lv_room (Nat.le_of_ble_eq_true rfl)) dX10_work_12 ⟨(Nat.le_refl _), (Nat.le_refl _)⟩) ?_
  refine lv_iconst (v := 0) hx hb dX10_work_15 (by decide) ?_
  refine lv_istore_n (lv' := [(2, .int 0), (0, .ref (zg S 7 0 0)), (1, .int (nI mi))]) hx hb dX10_work_16 rfl hl (by decide) rfl (fun ls hl => ?_)
  have hB_w1 : ZB Z Tc Ts ((r_X10_work S mi mi 0 w).1) := hB.mono (zP_let (P := (zle2 ((r_X10_work S mi mi 0 w).1))) (zle2 ((r_X10_work S mi mi 0 w).1)) zle.rf (fun w1 h8 => (zP_let (P := (zle2 ((r_X10_work S mi mi 0 w).1))) (zle ((r_X10_work S mi mi 0 w).1)) (zle.to h8 rfl) (fun w2 h8_ => h8_))))
  refine lp_X10_work mi hm2 hx hb hml hr hlk hown hts hA hC mi 0 w H locs _ ⟨Nat.zero_add _, hGS, hZL⟩ hB_w1 hW hS (lv_sub hl [0, 1, 2] rfl) (fun w1 H locs ls hw1 hW hS hl => ?_)
  have hB_w1 : ZB Z Tc Ts w1.1 := by rw [← hw1]; exact hB_w1
  refine lv_aload_n hx hb dX10_work_45 rfl (lv_at hl 1 rfl) ?_
  refine lv_dup hx hb dX10_work_46 rfl ?_
  refine t_get (D := D) (ci := 9) (v := .int (w1.1.1 7 0 0 4)) (C := RX10) (T := TX10) (N := 5) hx hb hts iX10 hown hK hW 7 0 0 dm7 rfl rfl 4 (by decide) (hts _ wq99) (fun _ h9 => h9) rfl dX10_work_47 ?_
  refine lv_iload_n hx hb dX10_work_50 rfl (lv_at hl 0 rfl) ?_
  refine lv_iadd hx hb dX10_work_51 ?_
  refine t_put (D := D) (ci := 9) (v := .int ((w1.1.1 7 0 0 4) + (nI w1.2))) (ty := .int) (C := RX10) (T := TX10) (N := 5) hx hb hts iX10 tyX10 tyX10_ok nmX10 hown hK hW hS 7 0 0 dm7 rfl rfl 4 (by decide) (hts _ wq99) (fun _ h9 => h9) rfl (by decide +kernel) rfl rfl (Nat.le_of_ble_eq_true rfl) (fun j9 => if j9 = 4 then (w1.1.1 7 0 0 4) + (nI w1.2) else w1.1.1 7 0 0 j9) w1.1.2.1 rfl (fun _ _ _ => rfl) (zbit (fun j9 h9 => hW.bit _ _ _ j9 h9) (fun h9 => absurd h9 (by decide))) dX10_work_52 (fun H locs hW hS => ?_)
  obtain ⟨w2, hw2, hW, hB_w2⟩ : ∃ ww : TW, zset w1.1 7 0 0 4 ((w1.1.1 7 0 0 4) + (nI w1.2)) = ww ∧ WT D yc e0 A S Z ww.1 ww.2.1 ww.2.2 H ∧ ZB Z Tc Ts ww := ⟨_, rfl, hW, hB_w1⟩
  refine lv_iload_n hx hb dX10_work_55 rfl (lv_at hl 0 rfl) ?_
  exact tx_i hx hb hr hlk hS rfl hW (zlet_e hw1 (zlet_e hw2 rfl)) dX10_work_56
def w_X10_workAt (S : TS) (w : TW) (k : Nat) : TW × Int32 := if (v_X8_canWork S w.1 w.2.1 w.2.2 0 k (w.1 6 0 0 2)) = 0 then (w, 0) else zlet (w_X2_step S w 0 k) (fun w2 => if w2.2 = 0 then (w2.1, 0) else zlet (zset w2.1 7 0 0 4 ((w2.1.1 7 0 0 4) + 1)) (fun w4 => (w4, 1)))
theorem m_X10_workAt (S : TS) (w : TW) (k : Nat) : zle w ((w_X10_workAt S w k).1) := by
  unfold w_X10_workAt
  exact (zP_if (P := (zle2 (w))) zle.rf (zP_let (P := (zle2 (w))) (zle2 (w)) (zle.tr zle.rf (m_X2_step _ _ _ _)) (fun w2 h8_ => (zP_if (P := (zle2 (w))) h8_ (zP_let (P := (zle2 (w))) (zle (w)) (zle.to h8_ rfl) (fun w4 h8__ => h8__))))))
theorem gs_X10_workAt (S : TS) (w : TW) (k : Nat) (hGS : GS w.2.1) : GS ((w_X10_workAt S w k).1).2.1 := by
  unfold w_X10_workAt
  exact (zP_ifd (P := (fun (b : TW × Int32) => GS b.1.2.1)) (fun hq0 => hGS) (fun hq0 => (zP_let (P := (fun (b : TW × Int32) => GS b.1.2.1)) (fun (b : TW × Int32) => GS b.1.2.1) (gs_X2_step _ _ _ _ hGS) (fun w2 h8_ => (zP_ifd (P := (fun (b : TW × Int32) => GS b.1.2.1)) (fun hq1 => h8_) (fun hq1 => (zP_let (P := (fun (b : TW × Int32) => GS b.1.2.1)) (fun (b : TW) => GS b.2.1) h8_ (fun w4 h8__ => h8__))))))))
set_option maxHeartbeats 4000000 in
set_option maxRecDepth 100000 in
theorem k_X10_workAt (l : Launch) (D : va_G) (yc : Nat → ClassId) (e0 : Nat) (A : Nat → Prop) (S : TS) (Z : Nat × Nat) (Tc Ts : Nat) (w : TW) (cN zN : Nat) (k : Nat) (hk : k < zn S) (hst : ¬ w.1 7 0 0 2 = 0) (hGS : GS w.2.1) (hB : ZB Z Tc Ts ((w_X10_workAt S w k).1)) : Met l yX10_workAt (ws_ yX10_workAt cX10_workAt 3 (some .boolean)) { frames := 8, cells := Tc - cN, slots := Ts - zN, locals := 219 } (PM D yc e0 A S Z w cN zN [.ref (zg S 7 0 0), .int (nI k)]) (tQi D yc e0 A S Z (w_X10_workAt S w k)) (Tc - cN) (Ts - zN) A := by
  have hB0 : ZB Z Tc Ts w := hB.mono (m_X10_workAt _ _ _)
  refine tk_W hB0 (by decide) (Nat.le_of_ble_eq_true rfl) ?_
  intro p e s m args below meth c ls H locs hx hb hml hr hlk hown hts hW hS hA hC hl
  have hK := hC.1
  have hN := hC.2.1
  have hn12 := hW.n12
  skip
  have hl : lv_has ls 3 [(0, .ref (zg S 7 0 0)), (1, .int (nI k))] := hl
  refine lv_aload_n hx hb dX10_workAt_0 rfl (lv_at hl 0 rfl) ?_
  refine lv_iload_n hx hb dX10_workAt_1 rfl (lv_at hl 1 rfl) ?_
  refine zr_q (va_runV (As := [.int (nI k)]) (rest := []) ⟨hx, hb, hml, hown, hts⟩ (k_X10_stageOf l D yc e0 A S Z w.1 w.2.1 w.2.2 k (by first | assumption | omega | decide)) (cwV 1 hts (lw_V wq219 wq221 ws2 wq1 wq222) rfl rfl rfl (by decide +kernel) ⟨(Nat.le_of_ble_eq_true rfl), (Nat.le_of_ble_eq_true rfl)⟩) (tp_V hC hW hS hA 7 0 0 dm7 rfl rfl) rfl rfl hl.1 rfl (lv_room (Nat.le_of_ble_eq_true rfl)) dX10_workAt_2 ⟨(Nat.le_refl _), (Nat.le_refl _)⟩) ?_
  refine lv_astore_n (lv' := [(2, .ref (zg S 2 0 k)), (0, .ref (zg S 7 0 0)), (1, .int (nI k))]) hx hb dX10_workAt_5 rfl hl (by decide) rfl (fun ls hl => ?_)
  refine lv_aload_n hx hb dX10_workAt_6 rfl (lv_at hl 1 rfl) ?_
  refine zr_v (va_runV (As := []) (rest := []) ⟨hx, hb, hml, hown, hts⟩ (k_X10_refuseUnlessStarted l D yc e0 A S Z w.1 w.2.1 w.2.2 (by first | assumption | omega | decide)) (cwV 0 hts (lw_V wq273 wq275 ws4 wq1 wq276) rfl rfl rfl (by decide +kernel) ⟨(Nat.le_of_ble_eq_true rfl), (Nat.le_of_ble_eq_true rfl)⟩) (tp_V hC hW hS hA 7 0 0 dm7 rfl rfl) rfl rfl hl.1 rfl (lv_room (Nat.le_of_ble_eq_true rfl)) dX10_workAt_7 ⟨(Nat.le_refl _), (Nat.le_refl _)⟩) ?_
  refine lv_aload_n hx hb dX10_workAt_10 rfl (lv_at hl 0 rfl) ?_
  refine lv_aload_n hx hb dX10_workAt_11 rfl (lv_at hl 1 rfl) ?_
  refine t_get (D := D) (ci := 9) (v := .ref (zg S 6 0 0)) (C := RX10) (T := TX10) (N := 5) hx hb hts iX10 hown hK hW 7 0 0 dm7 rfl rfl 0 (by decide) (hts _ wq95) (fun _ h9 => h9) rfl dX10_workAt_12 ?_
  refine t_getN (D := D) (ci := 2) (v := .int (w.1 6 0 0 2)) (C := RX2) (T := TX2) (N := 8) hx hb hts iX2 hown hK hW 6 0 0 (dm6 (by omega)) rfl rfl 2 (by decide) (zk_tab rfl (hN _ wr70 rfl)) (fun _ h9 => h9) rfl dX10_workAt_15 ?_
  refine zr_i (va_runV (As := [.int (w.1 6 0 0 2)]) (rest := []) ⟨hx, hb, hml, hown, hts⟩ (k_X8_canWork l D yc e0 A S Z w.1 w.2.1 w.2.2 0 k (w.1 6 0 0 2) (by first | assumption | omega | decide) (by first | assumption | omega | decide)) (cwV 1 hts (lw_V wq592 wq283 wq284 wq16 wq285) rfl rfl rfl (by decide +kernel) ⟨(Nat.le_of_ble_eq_true rfl), (Nat.le_of_ble_eq_true rfl)⟩) (tp_V hC hW hS hA 2 0 k (dm2 (by omega) (by omega)) rfl rfl) rfl rfl hl.1 rfl (lv_room (Nat.le_of_ble_eq_true rfl)) dX10_workAt_18 ⟨(Nat.le_refl _), (Nat.le_refl _)⟩) ?_
  refine lv_if_eq (tgt := 35) hx hb dX10_workAt_21 (by decide) (fun hb1 => ?_) (fun hb1 => ?_)
  · refine lv_iconst (v := 0) hx hb dX10_workAt_35 (by decide) ?_
    exact tx_i hx hb hr hlk hS rfl hW (zif_p hb1 rfl) dX10_workAt_36
  · refine lv_aload_n hx hb dX10_workAt_24 rfl (lv_at hl 1 rfl) ?_
    refine t_get (D := D) (ci := 9) (v := .ref (zg S 6 0 0)) (C := RX10) (T := TX10) (N := 5) hx hb hts iX10 hown hK hW 7 0 0 dm7 rfl rfl 0 (by decide) (hts _ wq95) (fun _ h9 => h9) rfl dX10_workAt_25 ?_
    refine lv_iload_n hx hb dX10_workAt_28 rfl (lv_at hl 2 rfl) ?_
    have hB_w2 : ZB Z Tc Ts ((w_X2_step S w 0 k).1) := hB.mono (zP_n (P := (zle2 ((w_X2_step S w 0 k).1))) hb1 (zP_let (P := (zle2 ((w_X2_step S w 0 k).1))) (zle2 ((w_X2_step S w 0 k).1)) zle.rf (fun w2 h8 => (zP_if (P := (zle2 ((w_X2_step S w 0 k).1))) h8 (zP_let (P := (zle2 ((w_X2_step S w 0 k).1))) (zle ((w_X2_step S w 0 k).1)) (zle.to h8 rfl) (fun w4 h8_ => h8_))))))
    refine tw_i hB_w2 ⟨rfl, rfl⟩ (hB0.top hW) (fun hle9 => va_runV (As := [.int (nI k)]) (rest := []) ⟨hx, hb, hml, hown, hts⟩ (k_X2_step l D yc e0 A S Z Tc Ts w H.size (zh H) 0 k (by first | assumption | omega | decide) (by first | assumption | omega | decide) (by first | assumption | omega | decide) hB_w2) (cwV 1 hts (lw_V wq313 wq314 wq315 wq2 wq316) rfl rfl rfl (by decide +kernel) ⟨(Nat.le_of_ble_eq_true rfl), (Nat.le_of_ble_eq_true rfl)⟩) (tq_V hC hW hS hA 6 0 0 (dm6 (by omega)) rfl rfl) rfl rfl hl.1 rfl (lv_room (Nat.le_of_ble_eq_true rfl)) dX10_workAt_29 hle9) hS (fun H locs hW hS => ?_)
    obtain ⟨w2, hw2, hW, hB_w2⟩ : ∃ ww : TW × Int32, w_X2_step S w 0 k = ww ∧ WT D yc e0 A S Z ww.1.1 ww.1.2.1 ww.1.2.2 H ∧ ZB Z Tc Ts ww.1 := ⟨_, rfl, hW, hB_w2⟩
    have hv9 := congrArg Prod.snd hw2
    refine zk_ti (y := w2.2) (by exact hv9) ?_
    refine lv_if_ne (tgt := 37) hx hb dX10_workAt_32 (by decide) (fun hb3 => ?_) (fun hb3 => ?_)
    · refine lv_aload_n hx hb dX10_workAt_37 rfl (lv_at hl 1 rfl) ?_
      refine lv_dup hx hb dX10_workAt_38 rfl ?_
      refine t_get (D := D) (ci := 9) (v := .int (w2.1.1 7 0 0 4)) (C := RX10) (T := TX10) (N := 5) hx hb hts iX10 hown hK hW 7 0 0 dm7 rfl rfl 4 (by decide) (hts _ wq99) (fun _ h9 => h9) rfl dX10_workAt_39 ?_
      refine lv_iconst (v := 1) hx hb dX10_workAt_42 (by decide) ?_
      refine lv_iadd hx hb dX10_workAt_43 ?_
      refine t_put (D := D) (ci := 9) (v := .int ((w2.1.1 7 0 0 4) + 1)) (ty := .int) (C := RX10) (T := TX10) (N := 5) hx hb hts iX10 tyX10 tyX10_ok nmX10 hown hK hW hS 7 0 0 dm7 rfl rfl 4 (by decide) (hts _ wq99) (fun _ h9 => h9) rfl (by decide +kernel) rfl rfl (Nat.le_of_ble_eq_true rfl) (fun j9 => if j9 = 4 then (w2.1.1 7 0 0 4) + 1 else w2.1.1 7 0 0 j9) w2.1.2.1 rfl (fun _ _ _ => rfl) (zbit (fun j9 h9 => hW.bit _ _ _ j9 h9) (fun h9 => absurd h9 (by decide))) dX10_workAt_44 (fun H locs hW hS => ?_)
      obtain ⟨w4, hw4, hW, hB_w4⟩ : ∃ ww : TW, zset w2.1 7 0 0 4 ((w2.1.1 7 0 0 4) + 1) = ww ∧ WT D yc e0 A S Z ww.1 ww.2.1 ww.2.2 H ∧ ZB Z Tc Ts ww := ⟨_, rfl, hW, hB_w2⟩
      refine lv_iconst (v := 1) hx hb dX10_workAt_47 (by decide) ?_
      exact tx_i hx hb hr hlk hS rfl hW (zif_n hb1 (zlet_e hw2 (zif_n hb3 (zlet_e hw4 rfl)))) dX10_workAt_48
    · refine lv_iconst (v := 0) hx hb dX10_workAt_35 (by decide) ?_
      exact tx_i hx hb hr hlk hS rfl hW (zif_n hb1 (zlet_e hw2 (zif_p hb3 rfl))) dX10_workAt_36
def w_X10_checkpoint (S : TS) (w : TW) : TW × Int32 := zlet (w_X2_beginCheckpoint S w 0) (fun w1 => (w1.1, w1.2))
theorem m_X10_checkpoint (S : TS) (w : TW) : zle w ((w_X10_checkpoint S w).1) := by
  unfold w_X10_checkpoint
  exact (zP_let (P := (zle2 (w))) (zle2 (w)) (zle.tr zle.rf (m_X2_beginCheckpoint _ _ _)) (fun w1 h8_ => h8_))
theorem g_X10_checkpoint (S : TS) (w : TW) : ((w_X10_checkpoint S w).1).2.1 = w.2.1 := by
  unfold w_X10_checkpoint
  exact (zP_let (P := (fun (b : TW × Int32) => b.1.2.1 = w.2.1)) (fun (b : TW × Int32) => b.1.2.1 = w.2.1) ((g_X2_beginCheckpoint _ _ _).trans rfl) (fun w1 h8_ => h8_))
set_option maxHeartbeats 4000000 in
set_option maxRecDepth 100000 in
theorem k_X10_checkpoint (l : Launch) (D : va_G) (yc : Nat → ClassId) (e0 : Nat) (A : Nat → Prop) (S : TS) (Z : Nat × Nat) (Tc Ts : Nat) (w : TW) (cN zN : Nat)  (hst : ¬ w.1 7 0 0 2 = 0) (hb0 : w.1 6 0 0 5 = 0) (hB : ZB Z Tc Ts ((w_X10_checkpoint S w).1)) : Met l yX10_checkpoint (ws_ yX10_checkpoint cX10_checkpoint 1 (some .int)) { frames := 4, cells := Tc - cN, slots := Ts - zN, locals := 86 } (PM D yc e0 A S Z w cN zN [.ref (zg S 7 0 0)]) (tQi D yc e0 A S Z (w_X10_checkpoint S w)) (Tc - cN) (Ts - zN) A := by
  have hB0 : ZB Z Tc Ts w := hB.mono (m_X10_checkpoint _ _)
  refine tk_W hB0 (by decide) (Nat.le_of_ble_eq_true rfl) ?_
  intro p e s m args below meth c ls H locs hx hb hml hr hlk hown hts hW hS hA hC hl
  have hK := hC.1
  have hN := hC.2.1
  have hn12 := hW.n12
  skip
  have hl : lv_has ls 1 [(0, .ref (zg S 7 0 0))] := hl
  refine lv_aload_n hx hb dX10_checkpoint_0 rfl (lv_at hl 0 rfl) ?_
  refine zr_v (va_runV (As := []) (rest := []) ⟨hx, hb, hml, hown, hts⟩ (k_X10_refuseUnlessStarted l D yc e0 A S Z w.1 w.2.1 w.2.2 (by first | assumption | omega | decide)) (cwV 0 hts (lw_V wq273 wq275 ws4 wq1 wq276) rfl rfl rfl (by decide +kernel) ⟨(Nat.le_of_ble_eq_true rfl), (Nat.le_of_ble_eq_true rfl)⟩) (tp_V hC hW hS hA 7 0 0 dm7 rfl rfl) rfl rfl hl.1 rfl (lv_room (Nat.le_of_ble_eq_true rfl)) dX10_checkpoint_1 ⟨(Nat.le_refl _), (Nat.le_refl _)⟩) ?_
  refine lv_aload_n hx hb dX10_checkpoint_4 rfl (lv_at hl 0 rfl) ?_
  refine t_get (D := D) (ci := 9) (v := .ref (zg S 6 0 0)) (C := RX10) (T := TX10) (N := 5) hx hb hts iX10 hown hK hW 7 0 0 dm7 rfl rfl 0 (by decide) (hts _ wq95) (fun _ h9 => h9) rfl dX10_checkpoint_5 ?_
  refine t_getN (D := D) (ci := 2) (v := .int (w.1 6 0 0 5)) (C := RX2) (T := TX2) (N := 8) hx hb hts iX2 hown hK hW 6 0 0 (dm6 (by omega)) rfl rfl 5 (by decide) (zk_tab rfl (hN _ wr74 rfl)) (fun _ h9 => h9) rfl dX10_checkpoint_8 ?_
  refine lv_if_eq (tgt := 22) hx hb dX10_checkpoint_11 (by decide) (fun _ => ?_) (fun h9 => absurd hb0 h9)
  refine lv_aload_n hx hb dX10_checkpoint_22 rfl (lv_at hl 0 rfl) ?_
  refine t_get (D := D) (ci := 9) (v := .ref (zg S 6 0 0)) (C := RX10) (T := TX10) (N := 5) hx hb hts iX10 hown hK hW 7 0 0 dm7 rfl rfl 0 (by decide) (hts _ wq95) (fun _ h9 => h9) rfl dX10_checkpoint_23 ?_
  have hB_w1 : ZB Z Tc Ts ((w_X2_beginCheckpoint S w 0).1) := hB.mono (zP_let (P := (zle2 ((w_X2_beginCheckpoint S w 0).1))) (zle2 ((w_X2_beginCheckpoint S w 0).1)) zle.rf (fun w1 h8 => h8))
  refine tw_i hB_w1 ⟨rfl, rfl⟩ (hB0.top hW) (fun hle9 => va_runV (As := []) (rest := []) ⟨hx, hb, hml, hown, hts⟩ (k_X2_beginCheckpoint l D yc e0 A S Z Tc Ts w H.size (zh H) 0 (by first | assumption | omega | decide) hB_w1) (cwV 0 hts (lw_V wq597 wq598 wq599 wq2 wq600) rfl rfl rfl (by decide +kernel) ⟨(Nat.le_of_ble_eq_true rfl), (Nat.le_of_ble_eq_true rfl)⟩) (tq_V hC hW hS hA 6 0 0 (dm6 (by omega)) rfl rfl) rfl rfl hl.1 rfl (lv_room (Nat.le_of_ble_eq_true rfl)) dX10_checkpoint_26 hle9) hS (fun H locs hW hS => ?_)
  obtain ⟨w1, hw1, hW, hB_w1⟩ : ∃ ww : TW × Int32, w_X2_beginCheckpoint S w 0 = ww ∧ WT D yc e0 A S Z ww.1.1 ww.1.2.1 ww.1.2.2 H ∧ ZB Z Tc Ts ww.1 := ⟨_, rfl, hW, hB_w1⟩
  have hv9 := congrArg Prod.snd hw1
  refine zk_ti (y := w1.2) (by exact hv9) ?_
  exact tx_i hx hb hr hlk hS rfl hW (zlet_e hw1 rfl) dX10_checkpoint_29
def w_X10_crash (S : TS) (w : TW) : TW × Int32 := zlet (zset w 7 0 0 3 ((w.1 7 0 0 3) + 1)) (fun w1 => zlet (w_X2_goBack S w1 0) (fun w2 => (w2.1, w2.2)))
theorem m_X10_crash (S : TS) (w : TW) : zle w ((w_X10_crash S w).1) := by
  unfold w_X10_crash
  exact (zP_let (P := (zle2 (w))) (zle (w)) (zle.to zle.rf rfl) (fun w1 h8_ => (zP_let (P := (zle2 (w))) (zle2 (w)) (zle.tr h8_ (m_X2_goBack _ _ _)) (fun w2 h8__ => h8__))))
theorem g_X10_crash (S : TS) (w : TW) : ((w_X10_crash S w).1).2.1 = w.2.1 := by
  unfold w_X10_crash
  exact (zP_let (P := (fun (b : TW × Int32) => b.1.2.1 = w.2.1)) (fun (b : TW) => b.2.1 = w.2.1) rfl (fun w1 h8_ => (zP_let (P := (fun (b : TW × Int32) => b.1.2.1 = w.2.1)) (fun (b : TW × Int32) => b.1.2.1 = w.2.1) ((g_X2_goBack _ _ _).trans h8_) (fun w2 h8__ => h8__))))
set_option maxHeartbeats 4000000 in
set_option maxRecDepth 100000 in
theorem k_X10_crash (l : Launch) (D : va_G) (yc : Nat → ClassId) (e0 : Nat) (A : Nat → Prop) (S : TS) (Z : Nat × Nat) (Tc Ts : Nat) (w : TW) (cN zN : Nat)  (hst : ¬ w.1 7 0 0 2 = 0) (hGS : GS w.2.1) (hB : ZB Z Tc Ts ((w_X10_crash S w).1)) : Met l yX10_crash (ws_ yX10_crash cX10_crash 1 (some .int)) { frames := 6, cells := Tc - cN, slots := Ts - zN, locals := 149 } (PM D yc e0 A S Z w cN zN [.ref (zg S 7 0 0)]) (tQi D yc e0 A S Z (w_X10_crash S w)) (Tc - cN) (Ts - zN) A := by
  have hB0 : ZB Z Tc Ts w := hB.mono (m_X10_crash _ _)
  refine tk_W hB0 (by decide) (Nat.le_of_ble_eq_true rfl) ?_
  intro p e s m args below meth c ls H locs hx hb hml hr hlk hown hts hW hS hA hC hl
  have hK := hC.1
  have hN := hC.2.1
  have hn12 := hW.n12
  skip
  have hl : lv_has ls 1 [(0, .ref (zg S 7 0 0))] := hl
  refine lv_aload_n hx hb dX10_crash_0 rfl (lv_at hl 0 rfl) ?_
  refine zr_v (va_runV (As := []) (rest := []) ⟨hx, hb, hml, hown, hts⟩ (k_X10_refuseUnlessStarted l D yc e0 A S Z w.1 w.2.1 w.2.2 (by first | assumption | omega | decide)) (cwV 0 hts (lw_V wq273 wq275 ws4 wq1 wq276) rfl rfl rfl (by decide +kernel) ⟨(Nat.le_of_ble_eq_true rfl), (Nat.le_of_ble_eq_true rfl)⟩) (tp_V hC hW hS hA 7 0 0 dm7 rfl rfl) rfl rfl hl.1 rfl (lv_room (Nat.le_of_ble_eq_true rfl)) dX10_crash_1 ⟨(Nat.le_refl _), (Nat.le_refl _)⟩) ?_
  refine lv_aload_n hx hb dX10_crash_4 rfl (lv_at hl 0 rfl) ?_
  refine lv_dup hx hb dX10_crash_5 rfl ?_
  refine t_get (D := D) (ci := 9) (v := .int (w.1 7 0 0 3)) (C := RX10) (T := TX10) (N := 5) hx hb hts iX10 hown hK hW 7 0 0 dm7 rfl rfl 3 (by decide) (hts _ wq98) (fun _ h9 => h9) rfl dX10_crash_6 ?_
  refine lv_iconst (v := 1) hx hb dX10_crash_9 (by decide) ?_
  refine lv_iadd hx hb dX10_crash_10 ?_
  refine t_put (D := D) (ci := 9) (v := .int ((w.1 7 0 0 3) + 1)) (ty := .int) (C := RX10) (T := TX10) (N := 5) hx hb hts iX10 tyX10 tyX10_ok nmX10 hown hK hW hS 7 0 0 dm7 rfl rfl 3 (by decide) (hts _ wq98) (fun _ h9 => h9) rfl (by decide +kernel) rfl rfl (Nat.le_of_ble_eq_true rfl) (fun j9 => if j9 = 3 then (w.1 7 0 0 3) + 1 else w.1 7 0 0 j9) w.2.1 rfl (fun _ _ _ => rfl) (zbit (fun j9 h9 => hW.bit _ _ _ j9 h9) (fun h9 => absurd h9 (by decide))) dX10_crash_11 (fun H locs hW hS => ?_)
  obtain ⟨w1, hw1, hW, hB_w1⟩ : ∃ ww : TW, zset w 7 0 0 3 ((w.1 7 0 0 3) + 1) = ww ∧ WT D yc e0 A S Z ww.1 ww.2.1 ww.2.2 H ∧ ZB Z Tc Ts ww := ⟨_, rfl, hW, hB0⟩
  have hGS : GS w1.2.1 := by rw [← hw1]; exact hGS
  refine lv_aload_n hx hb dX10_crash_14 rfl (lv_at hl 0 rfl) ?_
  refine t_get (D := D) (ci := 9) (v := .ref (zg S 6 0 0)) (C := RX10) (T := TX10) (N := 5) hx hb hts iX10 hown hK hW 7 0 0 dm7 rfl rfl 0 (by decide) (hts _ wq95) (fun _ h9 => h9) rfl dX10_crash_15 ?_
  have hB_w2 : ZB Z Tc Ts ((w_X2_goBack S w1 0).1) := hB.mono (zP_l (P := (zle2 ((w_X2_goBack S w1 0).1))) hw1 (zP_let (P := (zle2 ((w_X2_goBack S w1 0).1))) (zle2 ((w_X2_goBack S w1 0).1)) zle.rf (fun w2 h8 => h8)))
  refine tw_i hB_w2 ⟨rfl, rfl⟩ (hB_w1.top hW) (fun hle9 => va_runV (As := []) (rest := []) ⟨hx, hb, hml, hown, hts⟩ (k_X2_goBack l D yc e0 A S Z Tc Ts w1 H.size (zh H) 0 (by first | assumption | omega | decide) (by first | assumption | omega | decide) hB_w2) (cwV 0 hts (lw_V wq605 wq606 wq607 wq2 wq608) rfl rfl rfl (by decide +kernel) ⟨(Nat.le_of_ble_eq_true rfl), (Nat.le_of_ble_eq_true rfl)⟩) (tq_V hC hW hS hA 6 0 0 (dm6 (by omega)) rfl rfl) rfl rfl hl.1 rfl (lv_room (Nat.le_of_ble_eq_true rfl)) dX10_crash_18 hle9) hS (fun H locs hW hS => ?_)
  obtain ⟨w2, hw2, hW, hB_w2⟩ : ∃ ww : TW × Int32, w_X2_goBack S w1 0 = ww ∧ WT D yc e0 A S Z ww.1.1 ww.1.2.1 ww.1.2.2 H ∧ ZB Z Tc Ts ww.1 := ⟨_, rfl, hW, hB_w2⟩
  have hv9 := congrArg Prod.snd hw2
  refine zk_ti (y := w2.2) (by exact hv9) ?_
  exact tx_i hx hb hr hlk hS rfl hW (zlet_e hw1 (zlet_e hw2 rfl)) dX10_crash_21
def r_X10_itemsToRest (S : TS) (mi : Nat) : Nat → Nat → TW → TW × Nat
  | 0, d, w => (w, d)
  | n + 1, d, w => if (v_X2_nextToWork S w.1 w.2.1 w.2.2 1 (zlast w 1)) = -1 then (w, d) else zlet (w_X2_step S w 1 ((v_X2_nextToWork S w.1 w.2.1 w.2.2 1 (zlast w 1)).toNatClampNeg)) (fun w2 => if w2.2 = 0 then (w2.1, d) else r_X10_itemsToRest S mi n (d + 1) w2.1)
theorem er_X10_itemsToRest (S : TS) (mi : Nat) (n : Nat) (d : Nat) (w : TW) : r_X10_itemsToRest S mi (n + 1) d w = if (v_X2_nextToWork S w.1 w.2.1 w.2.2 1 (zlast w 1)) = -1 then (w, d) else zlet (w_X2_step S w 1 ((v_X2_nextToWork S w.1 w.2.1 w.2.2 1 (zlast w 1)).toNatClampNeg)) (fun w2 => if w2.2 = 0 then (w2.1, d) else r_X10_itemsToRest S mi n (d + 1) w2.1) := rfl
theorem mr_X10_itemsToRest (S : TS) (mi : Nat) : ∀ (n : Nat) (d : Nat) (w : TW), zle w ((r_X10_itemsToRest S mi n d w).1) := by
  intro n
  induction n with
  | zero => intro d w; exact zle.rf
  | succ n ih =>
    intro d w
    rw [er_X10_itemsToRest]
    exact (zP_if (P := (zle2 (w))) zle.rf (zP_let (P := (zle2 (w))) (zle2 (w)) (zle.tr zle.rf (m_X2_step _ _ _ _)) (fun w2 h8_ => (zP_if (P := (zle2 (w))) h8_ (zle.tr h8_ (ih _ _))))))
theorem gsr_X10_itemsToRest (S : TS) (mi : Nat) : ∀ (n : Nat) (d : Nat) (w : TW) (hGS : GS w.2.1), GS ((r_X10_itemsToRest S mi n d w).1).2.1 := by
  intro n
  induction n with
  | zero => intro d w hGS; exact hGS
  | succ n ih =>
    intro d w hGS
    rw [er_X10_itemsToRest]
    exact (zP_ifd (P := (fun (b : TW × Nat) => GS b.1.2.1)) (fun hq0 => hGS) (fun hq0 => (zP_let (P := (fun (b : TW × Nat) => GS b.1.2.1)) (fun (b : TW × Int32) => GS b.1.2.1) (gs_X2_step _ _ _ _ hGS) (fun w2 h8_ => (zP_ifd (P := (fun (b : TW × Nat) => GS b.1.2.1)) (fun hq1 => h8_) (fun hq1 => (ih _ _ h8_)))))))
theorem zl_itemsToRest (S : TS) (m : Nat) : ∀ (n : Nat) (d : Nat) (hn12 : zn S ≤ 12) (w : TW) (hd : n < 2 ^ 31) (hGS : GS w.2.1) (hZL : ZL S w 1), ZL S (r_X10_itemsToRest S m n d w).1 1 := by
  intro n
  induction n with
  | zero => intro d hn12 w hd hGS hZL; exact hZL
  | succ n ih =>
    intro d hn12 w hd hGS hZL
    rw [er_X10_itemsToRest]
    by_cases h : v_X2_nextToWork S w.1 w.2.1 w.2.2 1 (zlast w 1) = -1
    · rw [if_pos h]; exact hZL
    · rw [if_neg h]
      obtain ⟨h1, h2⟩ := nw_ok hn12 hZL.2 h
      have hz : ZL S (w_X2_step S w 1 (v_X2_nextToWork S w.1 w.2.1 w.2.2 1 (zlast w 1)).toNatClampNeg).1 1 := ZL.set hn12 h2 (n6_step _ _ _ _)
      have hg := gs_X2_step S w 1 (v_X2_nextToWork S w.1 w.2.1 w.2.2 1 (zlast w 1)).toNatClampNeg hGS
      simp only [zlet]
      split
      · exact hz
      · exact ih _ hn12 _ (by omega) hg hz
set_option maxHeartbeats 4000000 in
set_option maxRecDepth 100000 in
theorem lp_X10_itemsToRest {p : Program} {e : Env} {s : State} {m : MethodId} {args : Array Value} {below : List Frame} {meth : Method} {c : Code} {l : Launch} {D : va_G} {yc : Nat → ClassId} {e0 : Nat} {A : Nat → Prop} {S : TS} {Z : Nat × Nat} {Tc Ts : Nat} (mi : Nat) (hm2 : mi ≤ 200) (hx : p.tables.exec = Jvm.exec) (hb : c.code = cX10_itemsToRest) (hml : c.maxLocals = 3) (hr : meth.sig.returnType = (some .int)) (hlk : meth.locks = false) (hown : s.vm.findClass yX10_itemsToRest.cls = some m.cls) (hts : ∀ w ∈ lw_all, w.before args s = true) (hA : ∀ a, s.heap.size ≤ a → A a) (hC : CX D yc e0 A s) {Q : State → Prop} : ∀ (n : Nat) (d : Nat) (w : TW) (H : Heap) (locs : List Loc) (ls : Array Slot), d + n = mi ∧ GS w.2.1 ∧ ZL S w 1 → ZB Z Tc Ts ((r_X10_itemsToRest S mi n d w).1) → WT D yc e0 A S Z w.1 w.2.1 w.2.2 H → va_S A s.heap H locs → lv_has ls 3 [(2, .int (nI d)), (0, .ref (zg S 7 0 0)), (1, .int (nI mi))] → (∀ (wr : TW × Nat) (H : Heap) (locs : List Loc) (ls : Array Slot), r_X10_itemsToRest S mi n d w = wr → WT D yc e0 A S Z wr.1.1 wr.1.2.1 wr.1.2.2 H → va_S A s.heap H locs → lv_has ls 3 [(2, .int (nI wr.2)), (0, .ref (zg S 7 0 0)), (1, .int (nI mi))] → W p l e { frames := 8, cells := Tc - s.heap.size, slots := Ts - zh s.heap, locals := 219 } s m args below meth c H locs (Tc - s.heap.size) (Ts - zh s.heap) Q (F0 m 52 ls [])) → W p l e { frames := 8, cells := Tc - s.heap.size, slots := Ts - zh s.heap, locals := 219 } s m args below meth c H locs (Tc - s.heap.size) (Ts - zh s.heap) Q (F0 m 24 ls []) := by
  have hK := hC.1
  have hN := hC.2.1
  intro n
  induction n with
  | zero =>
    intro d w H locs ls hinv hB hW hS hl kk
    have hB0 : ZB Z Tc Ts w := hB
    have hn12 := hW.n12
    obtain ⟨hinv, hGS, hZL⟩ := hinv
    refine lv_iload_n hx hb dX10_itemsToRest_24 rfl (lv_at hl 0 rfl) ?_
    refine lv_iload_n hx hb dX10_itemsToRest_25 rfl (lv_at hl 2 rfl) ?_
    refine lv_icmp_ge (tgt := 52) hx hb dX10_itemsToRest_26 (by decide) (fun _ => ?_) (fun h9 => absurd (nI_le (by omega) (by omega)) h9)
    exact kk (w, d) H locs _ rfl hW hS (lv_sub hl [0, 1, 2] rfl)
  | succ n ih =>
    intro d w H locs ls hinv hB hW hS hl kk
    rw [er_X10_itemsToRest] at hB
    have hB0 : ZB Z Tc Ts w := hB.mono (zP_if (P := (zle2 (w))) zle.rf (zP_let (P := (zle2 (w))) (zle2 (w)) (zle.tr zle.rf (m_X2_step _ _ _ _)) (fun w2 h8_ => (zP_if (P := (zle2 (w))) h8_ (zle.tr h8_ (mr_X10_itemsToRest _ _ _ _ _))))))
    have hn12 := hW.n12
    obtain ⟨hinv, hGS, hZL⟩ := hinv
    refine lv_iload_n hx hb dX10_itemsToRest_24 rfl (lv_at hl 0 rfl) ?_
    refine lv_iload_n hx hb dX10_itemsToRest_25 rfl (lv_at hl 2 rfl) ?_
    refine lv_icmp_ge (tgt := 52) hx hb dX10_itemsToRest_26 (by decide) (fun h9 => absurd h9 (nI_ge (by omega) (by omega))) (fun _ => ?_)
    refine lv_aload_n hx hb dX10_itemsToRest_29 rfl (lv_at hl 1 rfl) ?_
    refine t_get (D := D) (ci := 9) (v := .ref (zg S 6 1 0)) (C := RX10) (T := TX10) (N := 5) hx hb hts iX10 hown hK hW 7 0 0 dm7 rfl rfl 1 (by decide) (hts _ wq96) (fun _ h9 => h9) rfl dX10_itemsToRest_30 ?_
    refine lv_aload_n hx hb dX10_itemsToRest_33 rfl (lv_at hl 1 rfl) ?_
    refine t_get (D := D) (ci := 9) (v := .ref (zg S 6 1 0)) (C := RX10) (T := TX10) (N := 5) hx hb hts iX10 hown hK hW 7 0 0 dm7 rfl rfl 1 (by decide) (hts _ wq96) (fun _ h9 => h9) rfl dX10_itemsToRest_34 ?_
    refine zr_i (va_runV (As := []) (rest := [.ref (zg S 6 1 0)]) ⟨hx, hb, hml, hown, hts⟩ (k_X2_nextToWork l D yc e0 A S Z w.1 w.2.1 w.2.2 1 (zlast w 1) (by first | assumption | omega | decide) hZL.1 hZL.2) (cwV 0 hts (lw_V wq277 wq278 wq279 wq2 wq280) rfl rfl rfl (by decide +kernel) ⟨(Nat.le_of_ble_eq_true rfl), (Nat.le_of_ble_eq_true rfl)⟩) (tp_V hC hW hS hA 6 1 0 (dm6 (by omega)) rfl rfl) rfl rfl hl.1 rfl (lv_room (Nat.le_of_ble_eq_true rfl)) dX10_itemsToRest_37 ⟨(Nat.le_refl _), (Nat.le_refl _)⟩) ?_
    by_cases hn1 : (v_X2_nextToWork S w.1 w.2.1 w.2.2 1 (zlast w 1)) = -1
    · refine zk_ti (y := (-1)) hn1 ?_
      refine zr_i (va_runV (As := [.int (-1)]) (rest := []) ⟨hx, hb, hml, hown, hts⟩ (k_X2_stepN l D yc e0 A S Z w.1 w.2.1 w.2.2 1 (by first | assumption | omega | decide)) (cwV 1 hts (lw_V wq313 wq314 wq315 wq2 wq316) rfl rfl rfl (by decide +kernel) ⟨(Nat.le_of_ble_eq_true rfl), (Nat.le_of_ble_eq_true rfl)⟩) (tp_V hC hW hS hA 6 1 0 (dm6 (by omega)) rfl rfl) rfl rfl hl.1 rfl (lv_room (Nat.le_of_ble_eq_true rfl)) dX10_itemsToRest_40 ⟨(Nat.le_refl _), (Nat.le_refl _)⟩) ?_
      refine zk_ti (y := 0) rfl ?_
      refine lv_if_eq (tgt := 52) hx hb dX10_itemsToRest_43 (by decide) (fun _ => ?_) (fun h9 => absurd (by decide) h9)
      exact kk (w, d) H locs _ ((er_X10_itemsToRest _ _ _ _ _).trans (zif_p hn1 rfl)) hW hS (lv_sub hl [0, 1, 2] rfl)
    · obtain ⟨hn1e, hn1k⟩ := nw_ok hn12 hZL.2 hn1
      refine zk_ti (y := nI ((v_X2_nextToWork S w.1 w.2.1 w.2.2 1 (zlast w 1)).toNatClampNeg)) hn1e ?_
      have hB_w2 : ZB Z Tc Ts ((w_X2_step S w 1 ((v_X2_nextToWork S w.1 w.2.1 w.2.2 1 (zlast w 1)).toNatClampNeg)).1) := hB.mono (zP_n (P := (zle2 ((w_X2_step S w 1 ((v_X2_nextToWork S w.1 w.2.1 w.2.2 1 (zlast w 1)).toNatClampNeg)).1))) hn1 (zP_let (P := (zle2 ((w_X2_step S w 1 ((v_X2_nextToWork S w.1 w.2.1 w.2.2 1 (zlast w 1)).toNatClampNeg)).1))) (zle2 ((w_X2_step S w 1 ((v_X2_nextToWork S w.1 w.2.1 w.2.2 1 (zlast w 1)).toNatClampNeg)).1)) zle.rf (fun w2 h8 => (zP_if (P := (zle2 ((w_X2_step S w 1 ((v_X2_nextToWork S w.1 w.2.1 w.2.2 1 (zlast w 1)).toNatClampNeg)).1))) h8 (zle.tr h8 (mr_X10_itemsToRest _ _ _ _ _))))))
      refine tw_i hB_w2 ⟨rfl, rfl⟩ (hB0.top hW) (fun hle9 => va_runV (As := [.int (nI ((v_X2_nextToWork S w.1 w.2.1 w.2.2 1 (zlast w 1)).toNatClampNeg))]) (rest := []) ⟨hx, hb, hml, hown, hts⟩ (k_X2_step l D yc e0 A S Z Tc Ts w H.size (zh H) 1 ((v_X2_nextToWork S w.1 w.2.1 w.2.2 1 (zlast w 1)).toNatClampNeg) (by first | assumption | omega | decide) (by first | assumption | omega | decide) (by first | assumption | omega | decide) hB_w2) (cwV 1 hts (lw_V wq313 wq314 wq315 wq2 wq316) rfl rfl rfl (by decide +kernel) ⟨(Nat.le_of_ble_eq_true rfl), (Nat.le_of_ble_eq_true rfl)⟩) (tq_V hC hW hS hA 6 1 0 (dm6 (by omega)) rfl rfl) rfl rfl hl.1 rfl (lv_room (Nat.le_of_ble_eq_true rfl)) dX10_itemsToRest_40 hle9) hS (fun H locs hW hS => ?_)
      obtain ⟨w2, hw2, hW, hB_w2⟩ : ∃ ww : TW × Int32, w_X2_step S w 1 ((v_X2_nextToWork S w.1 w.2.1 w.2.2 1 (zlast w 1)).toNatClampNeg) = ww ∧ WT D yc e0 A S Z ww.1.1 ww.1.2.1 ww.1.2.2 H ∧ ZB Z Tc Ts ww.1 := ⟨_, rfl, hW, hB_w2⟩
      have hGS : GS w2.1.2.1 := by rw [← hw2]; exact gs_X2_step _ _ _ _ hGS
      have hZL : ZL S w2.1 1 := ZL.set hn12 (by assumption) (by rw [← hw2]; exact n6_step _ _ _ _)
      have hv9 := congrArg Prod.snd hw2
      refine zk_ti (y := w2.2) (by exact hv9) ?_
      refine lv_if_eq (tgt := 52) hx hb dX10_itemsToRest_43 (by decide) (fun hb3 => ?_) (fun hb3 => ?_)
      · exact kk (w2.1, d) H locs _ ((er_X10_itemsToRest _ _ _ _ _).trans (zif_n hn1 (zlet_e hw2 (zif_p hb3 rfl)))) hW hS (lv_sub hl [0, 1, 2] rfl)
      · refine lv_iinc (v := nI (d + 1)) (lv' := [(2, .int (nI (d + 1))), (0, .ref (zg S 7 0 0)), (1, .int (nI mi))]) hx hb dX10_itemsToRest_46 hl (k := 0) rfl (nI_1 _) (by decide) rfl (fun ls hl => ?_)
        refine lv_goto (tgt := 24) hx hb dX10_itemsToRest_49 (by decide) ?_
        have e9 : r_X10_itemsToRest S mi (n + 1) d w = r_X10_itemsToRest S mi n (d + 1) w2.1 := (er_X10_itemsToRest _ _ _ _ _).trans (zif_n hn1 (zlet_e hw2 (zif_n hb3 rfl)))
        have e8 : ZB Z Tc Ts ((r_X10_itemsToRest S mi n (d + 1) w2.1).1) := by rw [← e9, er_X10_itemsToRest]; exact hB
        exact ih (d + 1) w2.1 H locs _ ⟨by omega, hGS, hZL⟩ e8 hW hS (lv_sub hl [0, 1, 2] rfl) (fun wr H locs ls he hW hS hl => kk wr H locs ls (e9.trans he) hW hS hl)
def w_X10_itemsToRest (S : TS) (w : TW) (mi : Nat) : TW × Int32 := zlet (w_X2_become S w 1 0) (fun w1 => zlet (r_X10_itemsToRest S mi mi 0 w1) (fun w2 => if (v_X2_nextToWork S w2.1.1 w2.1.2.1 w2.1.2.2 1 (zlast w2.1 1)) = (-1) then (w2.1, nI w2.2) else (w2.1, (-1))))
theorem m_X10_itemsToRest (S : TS) (w : TW) (mi : Nat) : zle w ((w_X10_itemsToRest S w mi).1) := by
  unfold w_X10_itemsToRest
  exact (zP_let (P := (zle2 (w))) (zle (w)) (zle.tr zle.rf (m_X2_become _ _ _ _)) (fun w1 h8_ => (zP_let (P := (zle2 (w))) (zle2 (w)) (zle.tr h8_ (mr_X10_itemsToRest _ _ _ _ _)) (fun w2 h8__ => (zP_if (P := (zle2 (w))) h8__ h8__)))))
theorem gs_X10_itemsToRest (S : TS) (w : TW) (mi : Nat) (hGS : GS w.2.1) : GS ((w_X10_itemsToRest S w mi).1).2.1 := by
  unfold w_X10_itemsToRest
  exact (zP_let (P := (fun (b : TW × Int32) => GS b.1.2.1)) (fun (b : TW) => GS b.2.1) (GS.of (g_X2_become _ _ _ _) hGS) (fun w1 h8_ => (zP_let (P := (fun (b : TW × Int32) => GS b.1.2.1)) (fun (b : TW × Nat) => GS b.1.2.1) (gsr_X10_itemsToRest _ _ _ _ _ h8_) (fun w2 h8__ => (zP_ifd (P := (fun (b : TW × Int32) => GS b.1.2.1)) (fun hq0 => h8__) (fun hq0 => h8__))))))
set_option maxHeartbeats 4000000 in
set_option maxRecDepth 100000 in
theorem k_X10_itemsToRest (l : Launch) (D : va_G) (yc : Nat → ClassId) (e0 : Nat) (A : Nat → Prop) (S : TS) (Z : Nat × Nat) (Tc Ts : Nat) (w : TW) (cN zN : Nat) (mi : Nat) (hm1 : 1 ≤ mi) (hm2 : mi ≤ 200) (hGS : GS w.2.1) (hZL : ZL S w 0) (hB : ZB Z Tc Ts ((w_X10_itemsToRest S w mi).1)) : Met l yX10_itemsToRest (ws_ yX10_itemsToRest cX10_itemsToRest 3 (some .int)) { frames := 8, cells := Tc - cN, slots := Ts - zN, locals := 219 } (PM D yc e0 A S Z w cN zN [.ref (zg S 7 0 0), .int (nI mi)]) (tQi D yc e0 A S Z (w_X10_itemsToRest S w mi)) (Tc - cN) (Ts - zN) A := by
  have hB0 : ZB Z Tc Ts w := hB.mono (m_X10_itemsToRest _ _ _)
  refine tk_W hB0 (by decide) (Nat.le_of_ble_eq_true rfl) ?_
  intro p e s m args below meth c ls H locs hx hb hml hr hlk hown hts hW hS hA hC hl
  have hK := hC.1
  have hN := hC.2.1
  have hn12 := hW.n12
  skip
  have hl : lv_has ls 3 [(0, .ref (zg S 7 0 0)), (1, .int (nI mi))] := hl
  refine lv_iload_n hx hb dX10_itemsToRest_0 rfl (lv_at hl 1 rfl) ?_
  refine lv_iconst (v := 1) hx hb dX10_itemsToRest_1 (by decide) ?_
  refine lv_sipush (v := 200) hx hb dX10_itemsToRest_2 (by decide) ?_
  refine zr_i (va_runS (As := [.int (nI mi), .int 1, .int 200]) (rest := []) ⟨hx, hb, hml, hown, hts⟩ (k_X10_isWithin l (nI mi) 1 200) (va_cwS 3 hts (lw_S wq190 wq191 wq1 wq192) rfl rfl rfl (by decide +kernel) ⟨(Nat.le_of_ble_eq_true rfl), (Nat.le_of_ble_eq_true rfl)⟩) tp_N rfl rfl hl.1 rfl (lv_room (Nat.le_of_ble_eq_true rfl)) dX10_itemsToRest_5 ⟨(Nat.le_refl _), (Nat.le_refl _)⟩) ?_
  refine zr_v (va_runS (As := [.int (v_X10_isWithin (nI mi) 1 200)]) (rest := []) ⟨hx, hb, hml, hown, hts⟩ (k_X10_refuseUnless l (v_X10_isWithin (nI mi) 1 200) (zwithin (m := 200) hm1 hm2 (by decide))) (va_cwS 1 hts (lw_S wq193 wq194 wq1 wq195) rfl rfl rfl (by decide +kernel) ⟨(Nat.le_of_ble_eq_true rfl), (Nat.le_of_ble_eq_true rfl)⟩) tp_N rfl rfl hl.1 rfl (lv_room (Nat.le_of_ble_eq_true rfl)) dX10_itemsToRest_8 ⟨(Nat.le_refl _), (Nat.le_refl _)⟩) ?_
  refine lv_aload_n hx hb dX10_itemsToRest_11 rfl (lv_at hl 0 rfl) ?_
  refine t_get (D := D) (ci := 9) (v := .ref (zg S 6 1 0)) (C := RX10) (T := TX10) (N := 5) hx hb hts iX10 hown hK hW 7 0 0 dm7 rfl rfl 1 (by decide) (hts _ wq96) (fun _ h9 => h9) rfl dX10_itemsToRest_12 ?_
  refine lv_aload_n hx hb dX10_itemsToRest_15 rfl (lv_at hl 0 rfl) ?_
  refine t_get (D := D) (ci := 9) (v := .ref (zg S 6 0 0)) (C := RX10) (T := TX10) (N := 5) hx hb hts iX10 hown hK hW 7 0 0 dm7 rfl rfl 0 (by decide) (hts _ wq95) (fun _ h9 => h9) rfl dX10_itemsToRest_16 ?_
  have hB_w1 : ZB Z Tc Ts (w_X2_become S w 1 0) := hB.mono (zP_let (P := (zle2 (w_X2_become S w 1 0))) (zle (w_X2_become S w 1 0)) zle.rf (fun w1 h8 => (zP_let (P := (zle2 (w_X2_become S w 1 0))) (zle2 (w_X2_become S w 1 0)) (zle.tr h8 (mr_X10_itemsToRest _ _ _ _ _)) (fun w2 h8_ => (zP_if (P := (zle2 (w_X2_become S w 1 0))) h8_ h8_)))))
  refine tw_v hB_w1 ⟨rfl, rfl⟩ (hB0.top hW) (fun hle9 => va_runV (As := [.ref (zg S 6 0 0)]) (rest := []) ⟨hx, hb, hml, hown, hts⟩ (k_X2_become l D yc e0 A S Z Tc Ts w H.size (zh H) 1 0 (by first | assumption | omega | decide) (by first | assumption | omega | decide) (by first | assumption | omega | decide) hB_w1) (cwV 1 hts (lw_V wq691 wq692 wq693 wq2 wq694) rfl rfl rfl (by decide +kernel) ⟨(Nat.le_of_ble_eq_true rfl), (Nat.le_of_ble_eq_true rfl)⟩) (tq_V hC hW hS hA 6 1 0 (dm6 (by omega)) rfl rfl) rfl rfl hl.1 rfl (lv_room (Nat.le_of_ble_eq_true rfl)) dX10_itemsToRest_19 hle9) hS (fun H locs hW hS => ?_)
  obtain ⟨w1, hw1, hW, hB_w1⟩ : ∃ ww : TW, w_X2_become S w 1 0 = ww ∧ WT D yc e0 A S Z ww.1 ww.2.1 ww.2.2 H ∧ ZB Z Tc Ts ww := ⟨_, rfl, hW, hB_w1⟩
  have hGS : GS w1.2.1 := by rw [← hw1]; exact GS.of (g_X2_become _ _ _ _) hGS
  have hZL : ZL S w1 1 := by rw [← hw1]; exact hZL.become
  refine lv_iconst (v := 0) hx hb dX10_itemsToRest_22 (by decide) ?_
  refine lv_istore_n (lv' := [(2, .int 0), (0, .ref (zg S 7 0 0)), (1, .int (nI mi))]) hx hb dX10_itemsToRest_23 rfl hl (by decide) rfl (fun ls hl => ?_)
  have hB_w2 : ZB Z Tc Ts ((r_X10_itemsToRest S mi mi 0 w1).1) := hB.mono (zP_l (P := (zle2 ((r_X10_itemsToRest S mi mi 0 w1).1))) hw1 (zP_let (P := (zle2 ((r_X10_itemsToRest S mi mi 0 w1).1))) (zle2 ((r_X10_itemsToRest S mi mi 0 w1).1)) zle.rf (fun w2 h8 => (zP_if (P := (zle2 ((r_X10_itemsToRest S mi mi 0 w1).1))) h8 h8))))
  refine lp_X10_itemsToRest mi hm2 hx hb hml hr hlk hown hts hA hC mi 0 w1 H locs _ ⟨Nat.zero_add _, hGS, hZL⟩ hB_w2 hW hS (lv_sub hl [0, 1, 2] rfl) (fun w2 H locs ls hw2 hW hS hl => ?_)
  have hB_w2 : ZB Z Tc Ts w2.1 := by rw [← hw2]; exact hB_w2
  have hZL : ZL S w2.1 1 := by rw [← hw2]; exact zl_itemsToRest _ _ _ _ hn12 _ (by omega) hGS hZL
  refine lv_aload_n hx hb dX10_itemsToRest_52 rfl (lv_at hl 1 rfl) ?_
  refine t_get (D := D) (ci := 9) (v := .ref (zg S 6 1 0)) (C := RX10) (T := TX10) (N := 5) hx hb hts iX10 hown hK hW 7 0 0 dm7 rfl rfl 1 (by decide) (hts _ wq96) (fun _ h9 => h9) rfl dX10_itemsToRest_53 ?_
  refine zr_i (va_runV (As := []) (rest := []) ⟨hx, hb, hml, hown, hts⟩ (k_X2_nextToWork l D yc e0 A S Z w2.1.1 w2.1.2.1 w2.1.2.2 1 (zlast w2.1 1) (by first | assumption | omega | decide) hZL.1 hZL.2) (cwV 0 hts (lw_V wq277 wq278 wq279 wq2 wq280) rfl rfl rfl (by decide +kernel) ⟨(Nat.le_of_ble_eq_true rfl), (Nat.le_of_ble_eq_true rfl)⟩) (tp_V hC hW hS hA 6 1 0 (dm6 (by omega)) rfl rfl) rfl rfl hl.1 rfl (lv_room (Nat.le_of_ble_eq_true rfl)) dX10_itemsToRest_56 ⟨(Nat.le_refl _), (Nat.le_refl _)⟩) ?_
  refine lv_iconst (v := (-1)) hx hb dX10_itemsToRest_59 (by decide) ?_
  refine lv_icmp_ne (tgt := 67) hx hb dX10_itemsToRest_60 (by decide) (fun hb3 => ?_) (fun hb3 => ?_)
  · refine lv_iconst (v := (-1)) hx hb dX10_itemsToRest_67 (by decide) ?_
    exact tx_i hx hb hr hlk hS rfl hW (zlet_e hw1 (zlet_e hw2 (zif_n hb3 rfl))) dX10_itemsToRest_68
  · refine lv_iload_n hx hb dX10_itemsToRest_63 rfl (lv_at hl 0 rfl) ?_
    refine lv_goto (tgt := 68) hx hb dX10_itemsToRest_64 (by decide) ?_
    exact tx_i hx hb hr hlk hS rfl hW (zlet_e hw1 (zlet_e hw2 (zif_p hb3 rfl))) dX10_itemsToRest_68
