def w_X1_give (S : TS) (w : TW) (kd : Nat) (fl : Nat) (k : Nat) : TW × Int64 := zlet (zset w kd fl k 1 ((w.1 kd fl k 1) + 1)) (fun w1 => (w1, v_X6_at S w.1 w.2.1 w.2.2 (ri fl (zsrc S (kd - 4) k)) (w.1 kd fl k 1)))
theorem m_X1_give (S : TS) (w : TW) (kd : Nat) (fl : Nat) (k : Nat) : zle w ((w_X1_give S w kd fl k).1) := by
  unfold w_X1_give
  exact (zP_let (P := (zle2 (w))) (zle (w)) (zle.to zle.rf rfl) (fun w1 h8_ => h8_))
theorem g_X1_give (S : TS) (w : TW) (kd : Nat) (fl : Nat) (k : Nat) : ((w_X1_give S w kd fl k).1).2.1 = w.2.1 := by
  unfold w_X1_give
  exact (zP_let (P := (fun (b : TW × Int64) => b.1.2.1 = w.2.1)) (fun (b : TW) => b.2.1 = w.2.1) rfl (fun w1 h8_ => h8_))
set_option maxHeartbeats 4000000 in
set_option maxRecDepth 100000 in
theorem k_X1_give (l : Launch) (D : va_G) (yc : Nat → ClassId) (e0 : Nat) (A : Nat → Prop) (S : TS) (Z : Nat × Nat) (Tc Ts : Nat) (w : TW) (cN zN : Nat) (kd : Nat) (fl : Nat) (k : Nat) (hkd : kd = 4 ∨ kd = 5) (hd : dm S kd fl k) (hB : ZB Z Tc Ts ((w_X1_give S w kd fl k).1)) : Met l yX1_give (ws_ yX1_give cX1_give 3 (some .long)) { frames := 1, cells := Tc - cN, slots := Ts - zN, locals := 21 } (PM D yc e0 A S Z w cN zN [.ref (zg S kd fl k)]) (tQl D yc e0 A S Z (w_X1_give S w kd fl k)) (Tc - cN) (Ts - zN) A := by
  have hB0 : ZB Z Tc Ts w := hB.mono (m_X1_give _ _ _ _ _)
  refine tk_W hB0 (by decide) (Nat.le_of_ble_eq_true rfl) ?_
  intro p e s m args below meth c ls H locs hx hb hml hr hlk hown hts hW hS hA hC hl
  have hK := hC.1
  have hN := hC.2.1
  have hn12 := hW.n12
  skip
  obtain ⟨hcf, hck, hcs⟩ := hW.csrc hkd hd
  have hl : lv_has ls 3 [(0, .ref (zg S kd fl k))] := hl
  refine lv_aload_n hx hb dX1_give_0 rfl (lv_at hl 0 rfl) ?_
  refine t_get (D := D) (ci := 1) (v := .ref (zr S (ri fl (zsrc S (kd - 4) k)))) (C := RX1) (T := TX1) (N := 3) hx hb hts iX1 hown hK hW kd fl k hd (cel_ch hkd) rfl 0 (by decide) (hts _ wq937) (fun _ h9 => h9) rfl dX1_give_1 ?_
  refine lv_aload_n hx hb dX1_give_4 rfl (lv_at hl 0 rfl) ?_
  refine t_get (D := D) (ci := 1) (v := .int (w.1 kd fl k 1)) (C := RX1) (T := TX1) (N := 3) hx hb hts iX1 hown hK hW kd fl k hd (cel_ch hkd) rfl 1 (by decide) (hts _ wq938) (fun _ h9 => h9) rfl dX1_give_5 ?_
  refine zr_l (va_runV (As := [.int (w.1 kd fl k 1)]) (rest := []) ⟨hx, hb, hml, hown, hts⟩ (k_X6_at l D yc e0 A S Z w.1 w.2.1 w.2.2 (ri fl (zsrc S (kd - 4) k)) (w.1 kd fl k 1) (dr_i hW.n12 (by assumption) (by assumption))) (cwV 1 hts (lw_V wq474 wq391 wq392 wq15 wq393) rfl rfl rfl (by decide +kernel) ⟨(Nat.le_of_ble_eq_true rfl), (Nat.le_of_ble_eq_true rfl)⟩) (tp_R hC hW hS hA (ri fl (zsrc S (kd - 4) k)) (dr_i hW.n12 (by assumption) (by assumption))) rfl rfl hl.1 rfl (lv_room (Nat.le_of_ble_eq_true rfl)) dX1_give_8 ⟨(Nat.le_refl _), (Nat.le_refl _)⟩) ?_
  refine lv_lstore_n (lv' := [(1, .long (v_X6_at S w.1 w.2.1 w.2.2 (ri fl (zsrc S (kd - 4) k)) (w.1 kd fl k 1))), (0, .ref (zg S kd fl k))]) hx hb dX1_give_11 rfl hl (by decide) rfl (fun ls hl => ?_)
  refine lv_aload_n hx hb dX1_give_12 rfl (lv_at hl 1 rfl) ?_
  refine lv_dup hx hb dX1_give_13 rfl ?_
  refine t_get (D := D) (ci := 1) (v := .int (w.1 kd fl k 1)) (C := RX1) (T := TX1) (N := 3) hx hb hts iX1 hown hK hW kd fl k hd (cel_ch hkd) rfl 1 (by decide) (hts _ wq938) (fun _ h9 => h9) rfl dX1_give_14 ?_
  refine lv_iconst (v := 1) hx hb dX1_give_17 (by decide) ?_
  refine lv_iadd hx hb dX1_give_18 ?_
  refine t_put (D := D) (ci := 1) (v := .int ((w.1 kd fl k 1) + 1)) (ty := .int) (C := RX1) (T := TX1) (N := 3) hx hb hts iX1 tyX1 tyX1_ok nmX1 hown hK hW hS kd fl k hd (cel_ch hkd) rfl 1 (by decide) (hts _ wq938) (fun _ h9 => h9) rfl (by decide +kernel) rfl rfl (Nat.le_of_ble_eq_true rfl) (fun j9 => if j9 = 1 then (w.1 kd fl k 1) + 1 else w.1 kd fl k j9) w.2.1 ((cel_ch hkd).trans rfl) (fun _ _ _ => rfl) (zbit (fun j9 h9 => hW.bit _ _ _ j9 h9) (fun h9 => absurd h9 (zib_c1 hkd))) dX1_give_19 (fun H locs hW hS => ?_)
  obtain ⟨w1, hw1, hW, hB_w1⟩ : ∃ ww : TW, zset w kd fl k 1 ((w.1 kd fl k 1) + 1) = ww ∧ WT D yc e0 A S Z ww.1 ww.2.1 ww.2.2 H ∧ ZB Z Tc Ts ww := ⟨_, rfl, hW, hB0⟩
  refine lv_lload_n hx hb dX1_give_22 rfl (lv_at hl 0 rfl) ?_
  exact tx_l hx hb hr hlk hS hW (zlet_e hw1 rfl) dX1_give_23
def w_X7_insert (S : TS) (w : TW) (fl : Nat) (k : Nat) (j : Nat) (l1 : Int64) (l2 : Int64) : TW := zlet (zrw w (rs 0 fl k) (qins (w.2.2 (rs 0 fl k)) j l1)) (fun w1 => zlet (zrw w1 (rs 1 fl k) (qins (w1.2.2 (rs 1 fl k)) j l2)) (fun w2 => w2))
theorem m_X7_insert (S : TS) (w : TW) (fl : Nat) (k : Nat) (j : Nat) (l1 : Int64) (l2 : Int64) : zle w (w_X7_insert S w fl k j l1 l2) := by
  unfold w_X7_insert
  exact (zP_let (P := (zle (w))) (zle (w)) (zle.tr zle.rf (zle.row (mq_insert _ _ _))) (fun w1 h8_ => (zP_let (P := (zle (w))) (zle (w)) (zle.tr h8_ (zle.row (mq_insert _ _ _))) (fun w2 h8__ => h8__))))
theorem g_X7_insert (S : TS) (w : TW) (fl : Nat) (k : Nat) (j : Nat) (l1 : Int64) (l2 : Int64) : (w_X7_insert S w fl k j l1 l2).2.1 = w.2.1 := by
  unfold w_X7_insert
  exact (zP_let (P := (fun (b : TW) => b.2.1 = w.2.1)) (fun (b : TW) => b.2.1 = w.2.1) rfl (fun w1 h8_ => (zP_let (P := (fun (b : TW) => b.2.1 = w.2.1)) (fun (b : TW) => b.2.1 = w.2.1) h8_ (fun w2 h8__ => h8__))))
set_option maxHeartbeats 4000000 in
set_option maxRecDepth 100000 in
theorem k_X7_insert (l : Launch) (D : va_G) (yc : Nat → ClassId) (e0 : Nat) (A : Nat → Prop) (S : TS) (Z : Nat × Nat) (Tc Ts : Nat) (w : TW) (cN zN : Nat) (fl : Nat) (k : Nat) (j : Nat) (l1 : Int64) (l2 : Int64) (hf : fl < 2) (hk : k < 3 * zn S) (hj2 : j < 2 ^ 31) (hB : ZB Z Tc Ts (w_X7_insert S w fl k j l1 l2)) : Met l yX7_insert (ws_ yX7_insert cX7_insert 6 none) { frames := 3, cells := Tc - cN, slots := Ts - zN, locals := 85 } (PM D yc e0 A S Z w cN zN [.ref (zg S 1 fl k), .int (nI j), .long l1, .long l2]) (tQv D yc e0 A S Z (w_X7_insert S w fl k j l1 l2)) (Tc - cN) (Ts - zN) A := by
  have hB0 : ZB Z Tc Ts w := hB.mono (m_X7_insert _ _ _ _ _ _ _)
  refine tk_W hB0 (by decide) (Nat.le_of_ble_eq_true rfl) ?_
  intro p e s m args below meth c ls H locs hx hb hml hr hlk hown hts hW hS hA hC hl
  have hK := hC.1
  have hN := hC.2.1
  have hn12 := hW.n12
  skip
  have hl : lv_has ls 6 [(0, .ref (zg S 1 fl k)), (1, .int (nI j)), (2, .long l1), (4, .long l2)] := hl
  refine lv_aload_n hx hb dX7_insert_0 rfl (lv_at hl 0 rfl) ?_
  refine t_get (D := D) (ci := 6) (v := .ref (zr S (rs 0 fl k))) (C := RX7) (T := TX7) (N := 2) hx hb hts iX7 hown hK hW 1 fl k (dm1 (by omega) (by omega)) rfl rfl 0 (by decide) (hts _ wq1042) (fun _ h9 => h9) rfl dX7_insert_1 ?_
  refine lv_iload_n hx hb dX7_insert_4 rfl (lv_at hl 1 rfl) ?_
  refine lv_lload_n hx hb dX7_insert_5 rfl (lv_at hl 2 rfl) ?_
  have hB_w1 : ZB Z Tc Ts (zrw w (rs 0 fl k) (qins (w.2.2 (rs 0 fl k)) j l1)) := hB.mono (zP_let (P := (zle (zrw w (rs 0 fl k) (qins (w.2.2 (rs 0 fl k)) j l1)))) (zle (zrw w (rs 0 fl k) (qins (w.2.2 (rs 0 fl k)) j l1))) zle.rf (fun w1 h8 => (zP_let (P := (zle (zrw w (rs 0 fl k) (qins (w.2.2 (rs 0 fl k)) j l1)))) (zle (zrw w (rs 0 fl k) (qins (w.2.2 (rs 0 fl k)) j l1))) (zle.tr h8 (zle.row (mq_insert _ _ _))) (fun w2 h8_ => h8_))))
  refine tw_v hB_w1 ⟨rfl, rfl⟩ (hB0.top hW) (fun hle9 => va_runV (As := [.int (nI j), .long l1]) (rest := []) ⟨hx, hb, hml, hown, hts⟩ (k_X6_insert l D yc e0 A S Z Tc Ts w H.size (zh H) (rs 0 fl k) j l1 (dr_s hW.n12 (by omega) (by omega) (by omega)) (by first | assumption | omega | decide) hB_w1) (cwV 2 hts (lw_V wq543 wq544 wq545 wq15 wq546) rfl rfl rfl (by decide +kernel) ⟨(Nat.le_of_ble_eq_true rfl), (Nat.le_of_ble_eq_true rfl)⟩) (tq_R hC hW hS hA (rs 0 fl k) (dr_s hW.n12 (by omega) (by omega) (by omega))) rfl rfl hl.1 rfl (lv_room (Nat.le_of_ble_eq_true rfl)) dX7_insert_6 hle9) hS (fun H locs hW hS => ?_)
  obtain ⟨w1, hw1, hW, hB_w1⟩ : ∃ ww : TW, zrw w (rs 0 fl k) (qins (w.2.2 (rs 0 fl k)) j l1) = ww ∧ WT D yc e0 A S Z ww.1 ww.2.1 ww.2.2 H ∧ ZB Z Tc Ts ww := ⟨_, rfl, hW, hB_w1⟩
  refine lv_aload_n hx hb dX7_insert_9 rfl (lv_at hl 0 rfl) ?_
  refine t_get (D := D) (ci := 6) (v := .ref (zr S (rs 1 fl k))) (C := RX7) (T := TX7) (N := 2) hx hb hts iX7 hown hK hW 1 fl k (dm1 (by omega) (by omega)) rfl rfl 1 (by decide) (hts _ wq1043) (fun _ h9 => h9) rfl dX7_insert_10 ?_
  refine lv_iload_n hx hb dX7_insert_13 rfl (lv_at hl 1 rfl) ?_
  refine lv_lload hx hb dX7_insert_14 (lv_at hl 3 rfl) ?_
  have hB_w2 : ZB Z Tc Ts (zrw w1 (rs 1 fl k) (qins (w1.2.2 (rs 1 fl k)) j l2)) := hB.mono (zP_l (P := (zle (zrw w1 (rs 1 fl k) (qins (w1.2.2 (rs 1 fl k)) j l2)))) hw1 (zP_let (P := (zle (zrw w1 (rs 1 fl k) (qins (w1.2.2 (rs 1 fl k)) j l2)))) (zle (zrw w1 (rs 1 fl k) (qins (w1.2.2 (rs 1 fl k)) j l2))) zle.rf (fun w2 h8 => h8)))
  refine tw_v hB_w2 ⟨rfl, rfl⟩ (hB_w1.top hW) (fun hle9 => va_runV (As := [.int (nI j), .long l2]) (rest := []) ⟨hx, hb, hml, hown, hts⟩ (k_X6_insert l D yc e0 A S Z Tc Ts w1 H.size (zh H) (rs 1 fl k) j l2 (dr_s hW.n12 (by omega) (by omega) (by omega)) (by first | assumption | omega | decide) hB_w2) (cwV 2 hts (lw_V wq543 wq544 wq545 wq15 wq546) rfl rfl rfl (by decide +kernel) ⟨(Nat.le_of_ble_eq_true rfl), (Nat.le_of_ble_eq_true rfl)⟩) (tq_R hC hW hS hA (rs 1 fl k) (dr_s hW.n12 (by omega) (by omega) (by omega))) rfl rfl hl.1 rfl (lv_room (Nat.le_of_ble_eq_true rfl)) dX7_insert_16 hle9) hS (fun H locs hW hS => ?_)
  obtain ⟨w2, hw2, hW, hB_w2⟩ : ∃ ww : TW, zrw w1 (rs 1 fl k) (qins (w1.2.2 (rs 1 fl k)) j l2) = ww ∧ WT D yc e0 A S Z ww.1 ww.2.1 ww.2.2 H ∧ ZB Z Tc Ts ww := ⟨_, rfl, hW, hB_w2⟩
  exact tx_v hx hb hr hlk hS hW (zlet_e hw1 (zlet_e hw2 rfl)) dX7_insert_19
def w_X7_setAccount (S : TS) (w : TW) (fl : Nat) (k : Nat) (j : Nat) (l1 : Int64) : TW := zlet (zrw w (rs 1 fl k) (qput (w.2.2 (rs 1 fl k)) j l1)) (fun w1 => w1)
theorem m_X7_setAccount (S : TS) (w : TW) (fl : Nat) (k : Nat) (j : Nat) (l1 : Int64) : zle w (w_X7_setAccount S w fl k j l1) := by
  unfold w_X7_setAccount
  exact (zP_let (P := (zle (w))) (zle (w)) (zle.tr zle.rf (zle.row (mq_put _ _ _))) (fun w1 h8_ => h8_))
theorem g_X7_setAccount (S : TS) (w : TW) (fl : Nat) (k : Nat) (j : Nat) (l1 : Int64) : (w_X7_setAccount S w fl k j l1).2.1 = w.2.1 := by
  unfold w_X7_setAccount
  exact (zP_let (P := (fun (b : TW) => b.2.1 = w.2.1)) (fun (b : TW) => b.2.1 = w.2.1) rfl (fun w1 h8_ => h8_))
set_option maxHeartbeats 4000000 in
set_option maxRecDepth 100000 in
theorem k_X7_setAccount (l : Launch) (D : va_G) (yc : Nat → ClassId) (e0 : Nat) (A : Nat → Prop) (S : TS) (Z : Nat × Nat) (Tc Ts : Nat) (w : TW) (cN zN : Nat) (fl : Nat) (k : Nat) (j : Nat) (l1 : Int64) (hf : fl < 2) (hk : k < 3 * zn S) (hj2 : j < 2 ^ 31) (hB : ZB Z Tc Ts (w_X7_setAccount S w fl k j l1)) : Met l yX7_setAccount (ws_ yX7_setAccount cX7_setAccount 4 none) { frames := 1, cells := Tc - cN, slots := Ts - zN, locals := 23 } (PM D yc e0 A S Z w cN zN [.ref (zg S 1 fl k), .int (nI j), .long l1]) (tQv D yc e0 A S Z (w_X7_setAccount S w fl k j l1)) (Tc - cN) (Ts - zN) A := by
  have hB0 : ZB Z Tc Ts w := hB.mono (m_X7_setAccount _ _ _ _ _ _)
  refine tk_W hB0 (by decide) (Nat.le_of_ble_eq_true rfl) ?_
  intro p e s m args below meth c ls H locs hx hb hml hr hlk hown hts hW hS hA hC hl
  have hK := hC.1
  have hN := hC.2.1
  have hn12 := hW.n12
  skip
  have hl : lv_has ls 4 [(0, .ref (zg S 1 fl k)), (1, .int (nI j)), (2, .long l1)] := hl
  refine lv_aload_n hx hb dX7_setAccount_0 rfl (lv_at hl 0 rfl) ?_
  refine t_get (D := D) (ci := 6) (v := .ref (zr S (rs 1 fl k))) (C := RX7) (T := TX7) (N := 2) hx hb hts iX7 hown hK hW 1 fl k (dm1 (by omega) (by omega)) rfl rfl 1 (by decide) (hts _ wq1043) (fun _ h9 => h9) rfl dX7_setAccount_1 ?_
  refine lv_iload_n hx hb dX7_setAccount_4 rfl (lv_at hl 1 rfl) ?_
  refine lv_lload_n hx hb dX7_setAccount_5 rfl (lv_at hl 2 rfl) ?_
  have hB_w1 : ZB Z Tc Ts (zrw w (rs 1 fl k) (qput (w.2.2 (rs 1 fl k)) j l1)) := hB.mono (zP_let (P := (zle (zrw w (rs 1 fl k) (qput (w.2.2 (rs 1 fl k)) j l1)))) (zle (zrw w (rs 1 fl k) (qput (w.2.2 (rs 1 fl k)) j l1))) zle.rf (fun w1 h8 => h8))
  refine tw_v hB_w1 ⟨rfl, rfl⟩ (hB0.top hW) (fun hle9 => va_runV (As := [.int (nI j), .long l1]) (rest := []) ⟨hx, hb, hml, hown, hts⟩ (k_X6_put l D yc e0 A S Z Tc Ts w H.size (zh H) (rs 1 fl k) j l1 (dr_s hW.n12 (by omega) (by omega) (by omega)) (by first | assumption | omega | decide) hB_w1) (cwV 2 hts (lw_V wq535 wq536 wq537 wq15 wq538) rfl rfl rfl (by decide +kernel) ⟨(Nat.le_of_ble_eq_true rfl), (Nat.le_of_ble_eq_true rfl)⟩) (tq_R hC hW hS hA (rs 1 fl k) (dr_s hW.n12 (by omega) (by omega) (by omega))) rfl rfl hl.1 rfl (lv_room (Nat.le_of_ble_eq_true rfl)) dX7_setAccount_6 hle9) hS (fun H locs hW hS => ?_)
  obtain ⟨w1, hw1, hW, hB_w1⟩ : ∃ ww : TW, zrw w (rs 1 fl k) (qput (w.2.2 (rs 1 fl k)) j l1) = ww ∧ WT D yc e0 A S Z ww.1 ww.2.1 ww.2.2 H ∧ ZB Z Tc Ts ww := ⟨_, rfl, hW, hB_w1⟩
  exact tx_v hx hb hr hlk hS hW (zlet_e hw1 rfl) dX7_setAccount_9
def w_X7_remove (S : TS) (w : TW) (fl : Nat) (k : Nat) (a : Nat) (b : Nat) : TW := zlet (zrw w (rs 0 fl k) (qrem (w.2.2 (rs 0 fl k)) a b)) (fun w1 => zlet (zrw w1 (rs 1 fl k) (qrem (w1.2.2 (rs 1 fl k)) a b)) (fun w2 => w2))
theorem m_X7_remove (S : TS) (w : TW) (fl : Nat) (k : Nat) (a : Nat) (b : Nat) : zle w (w_X7_remove S w fl k a b) := by
  unfold w_X7_remove
  exact (zP_let (P := (zle (w))) (zle (w)) (zle.tr zle.rf (zle.row (mq_remove _ _ _))) (fun w1 h8_ => (zP_let (P := (zle (w))) (zle (w)) (zle.tr h8_ (zle.row (mq_remove _ _ _))) (fun w2 h8__ => h8__))))
theorem g_X7_remove (S : TS) (w : TW) (fl : Nat) (k : Nat) (a : Nat) (b : Nat) : (w_X7_remove S w fl k a b).2.1 = w.2.1 := by
  unfold w_X7_remove
  exact (zP_let (P := (fun (b : TW) => b.2.1 = w.2.1)) (fun (b : TW) => b.2.1 = w.2.1) rfl (fun w1 h8_ => (zP_let (P := (fun (b : TW) => b.2.1 = w.2.1)) (fun (b : TW) => b.2.1 = w.2.1) h8_ (fun w2 h8__ => h8__))))
set_option maxHeartbeats 4000000 in
set_option maxRecDepth 100000 in
theorem k_X7_remove (l : Launch) (D : va_G) (yc : Nat → ClassId) (e0 : Nat) (A : Nat → Prop) (S : TS) (Z : Nat × Nat) (Tc Ts : Nat) (w : TW) (cN zN : Nat) (fl : Nat) (k : Nat) (a : Nat) (b : Nat) (hf : fl < 2) (hk : k < 3 * zn S) (ha : a < 2 ^ 31) (hb9 : b < 2 ^ 31) (hB : ZB Z Tc Ts (w_X7_remove S w fl k a b)) : Met l yX7_remove (ws_ yX7_remove cX7_remove 3 none) { frames := 2, cells := Tc - cN, slots := Ts - zN, locals := 62 } (PM D yc e0 A S Z w cN zN [.ref (zg S 1 fl k), .int (nI a), .int (nI b)]) (tQv D yc e0 A S Z (w_X7_remove S w fl k a b)) (Tc - cN) (Ts - zN) A := by
  have hB0 : ZB Z Tc Ts w := hB.mono (m_X7_remove _ _ _ _ _ _)
  refine tk_W hB0 (by decide) (Nat.le_of_ble_eq_true rfl) ?_
  intro p e s m args below meth c ls H locs hx hb hml hr hlk hown hts hW hS hA hC hl
  have hK := hC.1
  have hN := hC.2.1
  have hn12 := hW.n12
  skip
  have hl : lv_has ls 3 [(0, .ref (zg S 1 fl k)), (1, .int (nI a)), (2, .int (nI b))] := hl
  refine lv_aload_n hx hb dX7_remove_0 rfl (lv_at hl 0 rfl) ?_
  refine t_get (D := D) (ci := 6) (v := .ref (zr S (rs 0 fl k))) (C := RX7) (T := TX7) (N := 2) hx hb hts iX7 hown hK hW 1 fl k (dm1 (by omega) (by omega)) rfl rfl 0 (by decide) (hts _ wq1042) (fun _ h9 => h9) rfl dX7_remove_1 ?_
  refine lv_iload_n hx hb dX7_remove_4 rfl (lv_at hl 1 rfl) ?_
  refine lv_iload_n hx hb dX7_remove_5 rfl (lv_at hl 2 rfl) ?_
  have hB_w1 : ZB Z Tc Ts (zrw w (rs 0 fl k) (qrem (w.2.2 (rs 0 fl k)) a b)) := hB.mono (zP_let (P := (zle (zrw w (rs 0 fl k) (qrem (w.2.2 (rs 0 fl k)) a b)))) (zle (zrw w (rs 0 fl k) (qrem (w.2.2 (rs 0 fl k)) a b))) zle.rf (fun w1 h8 => (zP_let (P := (zle (zrw w (rs 0 fl k) (qrem (w.2.2 (rs 0 fl k)) a b)))) (zle (zrw w (rs 0 fl k) (qrem (w.2.2 (rs 0 fl k)) a b))) (zle.tr h8 (zle.row (mq_remove _ _ _))) (fun w2 h8_ => h8_))))
  refine tw_v hB_w1 ⟨rfl, rfl⟩ (hB0.top hW) (fun hle9 => va_runV (As := [.int (nI a), .int (nI b)]) (rest := []) ⟨hx, hb, hml, hown, hts⟩ (k_X6_remove l D yc e0 A S Z Tc Ts w H.size (zh H) (rs 0 fl k) a b (dr_s hW.n12 (by omega) (by omega) (by omega)) (by first | assumption | omega | decide) (by first | assumption | omega | decide) hB_w1) (cwV 2 hts (lw_V wq452 wq322 wq323 wq15 wq324) rfl rfl rfl (by decide +kernel) ⟨(Nat.le_of_ble_eq_true rfl), (Nat.le_of_ble_eq_true rfl)⟩) (tq_R hC hW hS hA (rs 0 fl k) (dr_s hW.n12 (by omega) (by omega) (by omega))) rfl rfl hl.1 rfl (lv_room (Nat.le_of_ble_eq_true rfl)) dX7_remove_6 hle9) hS (fun H locs hW hS => ?_)
  obtain ⟨w1, hw1, hW, hB_w1⟩ : ∃ ww : TW, zrw w (rs 0 fl k) (qrem (w.2.2 (rs 0 fl k)) a b) = ww ∧ WT D yc e0 A S Z ww.1 ww.2.1 ww.2.2 H ∧ ZB Z Tc Ts ww := ⟨_, rfl, hW, hB_w1⟩
  refine lv_aload_n hx hb dX7_remove_9 rfl (lv_at hl 0 rfl) ?_
  refine t_get (D := D) (ci := 6) (v := .ref (zr S (rs 1 fl k))) (C := RX7) (T := TX7) (N := 2) hx hb hts iX7 hown hK hW 1 fl k (dm1 (by omega) (by omega)) rfl rfl 1 (by decide) (hts _ wq1043) (fun _ h9 => h9) rfl dX7_remove_10 ?_
  refine lv_iload_n hx hb dX7_remove_13 rfl (lv_at hl 1 rfl) ?_
  refine lv_iload_n hx hb dX7_remove_14 rfl (lv_at hl 2 rfl) ?_
  have hB_w2 : ZB Z Tc Ts (zrw w1 (rs 1 fl k) (qrem (w1.2.2 (rs 1 fl k)) a b)) := hB.mono (zP_l (P := (zle (zrw w1 (rs 1 fl k) (qrem (w1.2.2 (rs 1 fl k)) a b)))) hw1 (zP_let (P := (zle (zrw w1 (rs 1 fl k) (qrem (w1.2.2 (rs 1 fl k)) a b)))) (zle (zrw w1 (rs 1 fl k) (qrem (w1.2.2 (rs 1 fl k)) a b))) zle.rf (fun w2 h8 => h8)))
  refine tw_v hB_w2 ⟨rfl, rfl⟩ (hB_w1.top hW) (fun hle9 => va_runV (As := [.int (nI a), .int (nI b)]) (rest := []) ⟨hx, hb, hml, hown, hts⟩ (k_X6_remove l D yc e0 A S Z Tc Ts w1 H.size (zh H) (rs 1 fl k) a b (dr_s hW.n12 (by omega) (by omega) (by omega)) (by first | assumption | omega | decide) (by first | assumption | omega | decide) hB_w2) (cwV 2 hts (lw_V wq452 wq322 wq323 wq15 wq324) rfl rfl rfl (by decide +kernel) ⟨(Nat.le_of_ble_eq_true rfl), (Nat.le_of_ble_eq_true rfl)⟩) (tq_R hC hW hS hA (rs 1 fl k) (dr_s hW.n12 (by omega) (by omega) (by omega))) rfl rfl hl.1 rfl (lv_room (Nat.le_of_ble_eq_true rfl)) dX7_remove_15 hle9) hS (fun H locs hW hS => ?_)
  obtain ⟨w2, hw2, hW, hB_w2⟩ : ∃ ww : TW, zrw w1 (rs 1 fl k) (qrem (w1.2.2 (rs 1 fl k)) a b) = ww ∧ WT D yc e0 A S Z ww.1 ww.2.1 ww.2.2 H ∧ ZB Z Tc Ts ww := ⟨_, rfl, hW, hB_w2⟩
  exact tx_v hx hb hr hlk hS hW (zlet_e hw1 (zlet_e hw2 rfl)) dX7_remove_18
def w_X7_become (S : TS) (w : TW) (fl : Nat) (k : Nat) (fl2 : Nat) (k2 : Nat) : TW := zlet (zrw w (rs 0 fl k) (qbec (w.2.2 (rs 0 fl k)) (w.2.2 (rs 0 fl2 k2)) (zfrom 0 (w.2.2 (rs 0 fl2 k2)).2.length))) (fun w1 => zlet (zrw w1 (rs 1 fl k) (qbec (w1.2.2 (rs 1 fl k)) (w1.2.2 (rs 1 fl2 k2)) (zfrom 0 (w1.2.2 (rs 1 fl2 k2)).2.length))) (fun w2 => w2))
theorem m_X7_become (S : TS) (w : TW) (fl : Nat) (k : Nat) (fl2 : Nat) (k2 : Nat) : zle w (w_X7_become S w fl k fl2 k2) := by
  unfold w_X7_become
  exact (zP_let (P := (zle (w))) (zle (w)) (zle.tr zle.rf (zle.row (mq_become _ _ _))) (fun w1 h8_ => (zP_let (P := (zle (w))) (zle (w)) (zle.tr h8_ (zle.row (mq_become _ _ _))) (fun w2 h8__ => h8__))))
theorem g_X7_become (S : TS) (w : TW) (fl : Nat) (k : Nat) (fl2 : Nat) (k2 : Nat) : (w_X7_become S w fl k fl2 k2).2.1 = w.2.1 := by
  unfold w_X7_become
  exact (zP_let (P := (fun (b : TW) => b.2.1 = w.2.1)) (fun (b : TW) => b.2.1 = w.2.1) rfl (fun w1 h8_ => (zP_let (P := (fun (b : TW) => b.2.1 = w.2.1)) (fun (b : TW) => b.2.1 = w.2.1) h8_ (fun w2 h8__ => h8__))))
set_option maxHeartbeats 4000000 in
set_option maxRecDepth 100000 in
theorem k_X7_become (l : Launch) (D : va_G) (yc : Nat → ClassId) (e0 : Nat) (A : Nat → Prop) (S : TS) (Z : Nat × Nat) (Tc Ts : Nat) (w : TW) (cN zN : Nat) (fl : Nat) (k : Nat) (fl2 : Nat) (k2 : Nat) (hf : fl < 2) (hk : k < 3 * zn S) (hf2 : fl2 < 2) (hk2 : k2 < 3 * zn S) (hne2 : ¬ (fl2 = fl ∧ k2 = k)) (hB : ZB Z Tc Ts (w_X7_become S w fl k fl2 k2)) : Met l yX7_become (ws_ yX7_become cX7_become 2 none) { frames := 2, cells := Tc - cN, slots := Ts - zN, locals := 66 } (PM D yc e0 A S Z w cN zN [.ref (zg S 1 fl k), .ref (zg S 1 fl2 k2)]) (tQv D yc e0 A S Z (w_X7_become S w fl k fl2 k2)) (Tc - cN) (Ts - zN) A := by
  have hB0 : ZB Z Tc Ts w := hB.mono (m_X7_become _ _ _ _ _ _)
  refine tk_W hB0 (by decide) (Nat.le_of_ble_eq_true rfl) ?_
  intro p e s m args below meth c ls H locs hx hb hml hr hlk hown hts hW hS hA hC hl
  have hK := hC.1
  have hN := hC.2.1
  have hn12 := hW.n12
  skip
  have hl : lv_has ls 2 [(0, .ref (zg S 1 fl k)), (1, .ref (zg S 1 fl2 k2))] := hl
  refine lv_aload_n hx hb dX7_become_0 rfl (lv_at hl 0 rfl) ?_
  refine t_get (D := D) (ci := 6) (v := .ref (zr S (rs 0 fl k))) (C := RX7) (T := TX7) (N := 2) hx hb hts iX7 hown hK hW 1 fl k (dm1 (by omega) (by omega)) rfl rfl 0 (by decide) (hts _ wq1042) (fun _ h9 => h9) rfl dX7_become_1 ?_
  refine lv_aload_n hx hb dX7_become_4 rfl (lv_at hl 1 rfl) ?_
  refine t_get (D := D) (ci := 6) (v := .ref (zr S (rs 0 fl2 k2))) (C := RX7) (T := TX7) (N := 2) hx hb hts iX7 hown hK hW 1 fl2 k2 (dm1 (by omega) (by omega)) rfl rfl 0 (by decide) (hts _ wq1042) (fun _ h9 => h9) rfl dX7_become_5 ?_
  refine lv_iconst (v := 0) hx hb dX7_become_8 (by decide) ?_
  have hB_w1 : ZB Z Tc Ts (zrw w (rs 0 fl k) (qbec (w.2.2 (rs 0 fl k)) (w.2.2 (rs 0 fl2 k2)) (zfrom 0 (w.2.2 (rs 0 fl2 k2)).2.length))) := hB.mono (zP_let (P := (zle (zrw w (rs 0 fl k) (qbec (w.2.2 (rs 0 fl k)) (w.2.2 (rs 0 fl2 k2)) (zfrom 0 (w.2.2 (rs 0 fl2 k2)).2.length))))) (zle (zrw w (rs 0 fl k) (qbec (w.2.2 (rs 0 fl k)) (w.2.2 (rs 0 fl2 k2)) (zfrom 0 (w.2.2 (rs 0 fl2 k2)).2.length)))) zle.rf (fun w1 h8 => (zP_let (P := (zle (zrw w (rs 0 fl k) (qbec (w.2.2 (rs 0 fl k)) (w.2.2 (rs 0 fl2 k2)) (zfrom 0 (w.2.2 (rs 0 fl2 k2)).2.length))))) (zle (zrw w (rs 0 fl k) (qbec (w.2.2 (rs 0 fl k)) (w.2.2 (rs 0 fl2 k2)) (zfrom 0 (w.2.2 (rs 0 fl2 k2)).2.length)))) (zle.tr h8 (zle.row (mq_become _ _ _))) (fun w2 h8_ => h8_))))
  refine tw_v hB_w1 ⟨rfl, rfl⟩ (hB0.top hW) (fun hle9 => va_runV (As := [.ref (zr S (rs 0 fl2 k2)), .int 0]) (rest := []) ⟨hx, hb, hml, hown, hts⟩ (k_X6_become l D yc e0 A S Z Tc Ts w H.size (zh H) (rs 0 fl k) (rs 0 fl2 k2) 0 (dr_s hW.n12 (by omega) (by omega) (by omega)) (dr_s hW.n12 (by omega) (by omega) (by omega)) (by first | (unfold rs; omega) | (unfold ri; omega)) hB_w1) (cwV 2 hts (lw_V wq369 wq370 wq371 wq15 wq372) rfl rfl rfl (by decide +kernel) ⟨(Nat.le_of_ble_eq_true rfl), (Nat.le_of_ble_eq_true rfl)⟩) (tq_R hC hW hS hA (rs 0 fl k) (dr_s hW.n12 (by omega) (by omega) (by omega))) rfl rfl hl.1 rfl (lv_room (Nat.le_of_ble_eq_true rfl)) dX7_become_9 hle9) hS (fun H locs hW hS => ?_)
  obtain ⟨w1, hw1, hW, hB_w1⟩ : ∃ ww : TW, zrw w (rs 0 fl k) (qbec (w.2.2 (rs 0 fl k)) (w.2.2 (rs 0 fl2 k2)) (zfrom 0 (w.2.2 (rs 0 fl2 k2)).2.length)) = ww ∧ WT D yc e0 A S Z ww.1 ww.2.1 ww.2.2 H ∧ ZB Z Tc Ts ww := ⟨_, rfl, hW, hB_w1⟩
  refine lv_aload_n hx hb dX7_become_12 rfl (lv_at hl 0 rfl) ?_
  refine t_get (D := D) (ci := 6) (v := .ref (zr S (rs 1 fl k))) (C := RX7) (T := TX7) (N := 2) hx hb hts iX7 hown hK hW 1 fl k (dm1 (by omega) (by omega)) rfl rfl 1 (by decide) (hts _ wq1043) (fun _ h9 => h9) rfl dX7_become_13 ?_
  refine lv_aload_n hx hb dX7_become_16 rfl (lv_at hl 1 rfl) ?_
  refine t_get (D := D) (ci := 6) (v := .ref (zr S (rs 1 fl2 k2))) (C := RX7) (T := TX7) (N := 2) hx hb hts iX7 hown hK hW 1 fl2 k2 (dm1 (by omega) (by omega)) rfl rfl 1 (by decide) (hts _ wq1043) (fun _ h9 => h9) rfl dX7_become_17 ?_
  refine lv_iconst (v := 0) hx hb dX7_become_20 (by decide) ?_
  have hB_w2 : ZB Z Tc Ts (zrw w1 (rs 1 fl k) (qbec (w1.2.2 (rs 1 fl k)) (w1.2.2 (rs 1 fl2 k2)) (zfrom 0 (w1.2.2 (rs 1 fl2 k2)).2.length))) := hB.mono (zP_l (P := (zle (zrw w1 (rs 1 fl k) (qbec (w1.2.2 (rs 1 fl k)) (w1.2.2 (rs 1 fl2 k2)) (zfrom 0 (w1.2.2 (rs 1 fl2 k2)).2.length))))) hw1 (zP_let (P := (zle (zrw w1 (rs 1 fl k) (qbec (w1.2.2 (rs 1 fl k)) (w1.2.2 (rs 1 fl2 k2)) (zfrom 0 (w1.2.2 (rs 1 fl2 k2)).2.length))))) (zle (zrw w1 (rs 1 fl k) (qbec (w1.2.2 (rs 1 fl k)) (w1.2.2 (rs 1 fl2 k2)) (zfrom 0 (w1.2.2 (rs 1 fl2 k2)).2.length)))) zle.rf (fun w2 h8 => h8)))
  refine tw_v hB_w2 ⟨rfl, rfl⟩ (hB_w1.top hW) (fun hle9 => va_runV (As := [.ref (zr S (rs 1 fl2 k2)), .int 0]) (rest := []) ⟨hx, hb, hml, hown, hts⟩ (k_X6_become l D yc e0 A S Z Tc Ts w1 H.size (zh H) (rs 1 fl k) (rs 1 fl2 k2) 0 (dr_s hW.n12 (by omega) (by omega) (by omega)) (dr_s hW.n12 (by omega) (by omega) (by omega)) (by first | (unfold rs; omega) | (unfold ri; omega)) hB_w2) (cwV 2 hts (lw_V wq369 wq370 wq371 wq15 wq372) rfl rfl rfl (by decide +kernel) ⟨(Nat.le_of_ble_eq_true rfl), (Nat.le_of_ble_eq_true rfl)⟩) (tq_R hC hW hS hA (rs 1 fl k) (dr_s hW.n12 (by omega) (by omega) (by omega))) rfl rfl hl.1 rfl (lv_room (Nat.le_of_ble_eq_true rfl)) dX7_become_21 hle9) hS (fun H locs hW hS => ?_)
  obtain ⟨w2, hw2, hW, hB_w2⟩ : ∃ ww : TW, zrw w1 (rs 1 fl k) (qbec (w1.2.2 (rs 1 fl k)) (w1.2.2 (rs 1 fl2 k2)) (zfrom 0 (w1.2.2 (rs 1 fl2 k2)).2.length)) = ww ∧ WT D yc e0 A S Z ww.1 ww.2.1 ww.2.2 H ∧ ZB Z Tc Ts ww := ⟨_, rfl, hW, hB_w2⟩
  exact tx_v hx hb hr hlk hS hW (zlet_e hw1 (zlet_e hw2 rfl)) dX7_become_24
def w_X9_become (S : TS) (w : TW) (fl : Nat) (k : Nat) (fl2 : Nat) (k2 : Nat) : TW := zlet (zset w 0 fl k 0 (w.1 0 fl2 k2 0)) (fun w1 => zlet (zset w1 0 fl k 1 (w1.1 0 fl2 k2 1)) (fun w2 => zlet (zset w2 0 fl k 2 (w2.1 0 fl2 k2 2)) (fun w3 => zlet (zset w3 0 fl k 3 (w3.1 0 fl2 k2 3)) (fun w4 => zlet (zset w4 0 fl k 4 (w4.1 0 fl2 k2 4)) (fun w5 => zlet (zset w5 0 fl k 5 (w5.1 0 fl2 k2 5)) (fun w6 => zlet (zset w6 0 fl k 6 (w6.1 0 fl2 k2 6)) (fun w7 => zlet (zset w7 0 fl k 7 (w7.1 0 fl2 k2 7)) (fun w8 => zlet (w_X7_become S w8 fl k fl2 k2) (fun w9 => zlet (zrw w9 (rs 2 fl k) (qbec (w9.2.2 (rs 2 fl k)) (w9.2.2 (rs 2 fl2 k2)) (zfrom 0 (w9.2.2 (rs 2 fl2 k2)).2.length))) (fun w10 => zlet (zrw w10 (rs 3 fl k) (qbec (w10.2.2 (rs 3 fl k)) (w10.2.2 (rs 3 fl2 k2)) (zfrom 0 (w10.2.2 (rs 3 fl2 k2)).2.length))) (fun w11 => w11)))))))))))
theorem m_X9_become (S : TS) (w : TW) (fl : Nat) (k : Nat) (fl2 : Nat) (k2 : Nat) : zle w (w_X9_become S w fl k fl2 k2) := by
  unfold w_X9_become
  exact (zP_let (P := (zle (w))) (zle (w)) (zle.to zle.rf rfl) (fun w1 h8_ => (zP_let (P := (zle (w))) (zle (w)) (zle.to h8_ rfl) (fun w2 h8__ => (zP_let (P := (zle (w))) (zle (w)) (zle.to h8__ rfl) (fun w3 h8___ => (zP_let (P := (zle (w))) (zle (w)) (zle.to h8___ rfl) (fun w4 h8____ => (zP_let (P := (zle (w))) (zle (w)) (zle.to h8____ rfl) (fun w5 h8_____ => (zP_let (P := (zle (w))) (zle (w)) (zle.to h8_____ rfl) (fun w6 h8______ => (zP_let (P := (zle (w))) (zle (w)) (zle.to h8______ rfl) (fun w7 h8_______ => (zP_let (P := (zle (w))) (zle (w)) (zle.to h8_______ rfl) (fun w8 h8________ => (zP_let (P := (zle (w))) (zle (w)) (zle.tr h8________ (m_X7_become _ _ _ _ _ _)) (fun w9 h8_________ => (zP_let (P := (zle (w))) (zle (w)) (zle.tr h8_________ (zle.row (mq_become _ _ _))) (fun w10 h8__________ => (zP_let (P := (zle (w))) (zle (w)) (zle.tr h8__________ (zle.row (mq_become _ _ _))) (fun w11 h8___________ => h8___________))))))))))))))))))))))
theorem g_X9_become (S : TS) (w : TW) (fl : Nat) (k : Nat) (fl2 : Nat) (k2 : Nat) : (w_X9_become S w fl k fl2 k2).2.1 = w.2.1 := by
  unfold w_X9_become
  exact (zP_let (P := (fun (b : TW) => b.2.1 = w.2.1)) (fun (b : TW) => b.2.1 = w.2.1) rfl (fun w1 h8_ => (zP_let (P := (fun (b : TW) => b.2.1 = w.2.1)) (fun (b : TW) => b.2.1 = w.2.1) h8_ (fun w2 h8__ => (zP_let (P := (fun (b : TW) => b.2.1 = w.2.1)) (fun (b : TW) => b.2.1 = w.2.1) h8__ (fun w3 h8___ => (zP_let (P := (fun (b : TW) => b.2.1 = w.2.1)) (fun (b : TW) => b.2.1 = w.2.1) h8___ (fun w4 h8____ => (zP_let (P := (fun (b : TW) => b.2.1 = w.2.1)) (fun (b : TW) => b.2.1 = w.2.1) h8____ (fun w5 h8_____ => (zP_let (P := (fun (b : TW) => b.2.1 = w.2.1)) (fun (b : TW) => b.2.1 = w.2.1) h8_____ (fun w6 h8______ => (zP_let (P := (fun (b : TW) => b.2.1 = w.2.1)) (fun (b : TW) => b.2.1 = w.2.1) h8______ (fun w7 h8_______ => (zP_let (P := (fun (b : TW) => b.2.1 = w.2.1)) (fun (b : TW) => b.2.1 = w.2.1) h8_______ (fun w8 h8________ => (zP_let (P := (fun (b : TW) => b.2.1 = w.2.1)) (fun (b : TW) => b.2.1 = w.2.1) ((g_X7_become _ _ _ _ _ _).trans h8________) (fun w9 h8_________ => (zP_let (P := (fun (b : TW) => b.2.1 = w.2.1)) (fun (b : TW) => b.2.1 = w.2.1) h8_________ (fun w10 h8__________ => (zP_let (P := (fun (b : TW) => b.2.1 = w.2.1)) (fun (b : TW) => b.2.1 = w.2.1) h8__________ (fun w11 h8___________ => h8___________))))))))))))))))))))))
set_option maxHeartbeats 4000000 in
set_option maxRecDepth 100000 in
theorem k_X9_become (l : Launch) (D : va_G) (yc : Nat → ClassId) (e0 : Nat) (A : Nat → Prop) (S : TS) (Z : Nat × Nat) (Tc Ts : Nat) (w : TW) (cN zN : Nat) (fl : Nat) (k : Nat) (fl2 : Nat) (k2 : Nat) (hf : fl < 2) (hk : k < 3 * zn S) (hf2 : fl2 < 2) (hk2 : k2 < 3 * zn S) (hne2 : ¬ (fl2 = fl ∧ k2 = k)) (hB : ZB Z Tc Ts (w_X9_become S w fl k fl2 k2)) : Met l yX9_become (ws_ yX9_become cX9_become 2 none) { frames := 3, cells := Tc - cN, slots := Ts - zN, locals := 87 } (PM D yc e0 A S Z w cN zN [.ref (zg S 0 fl k), .ref (zg S 0 fl2 k2)]) (tQv D yc e0 A S Z (w_X9_become S w fl k fl2 k2)) (Tc - cN) (Ts - zN) A := by
  have hB0 : ZB Z Tc Ts w := hB.mono (m_X9_become _ _ _ _ _ _)
  refine tk_W hB0 (by decide) (Nat.le_of_ble_eq_true rfl) ?_
  intro p e s m args below meth c ls H locs hx hb hml hr hlk hown hts hW hS hA hC hl
  have hK := hC.1
  have hN := hC.2.1
  have hn12 := hW.n12
  skip
  have hl : lv_has ls 2 [(0, .ref (zg S 0 fl k)), (1, .ref (zg S 0 fl2 k2))] := hl
  refine lv_aload_n hx hb dX9_become_0 rfl (lv_at hl 0 rfl) ?_
  refine lv_aload_n hx hb dX9_become_1 rfl (lv_at hl 1 rfl) ?_
  refine t_get (D := D) (ci := 8) (v := .int (w.1 0 fl2 k2 0)) (C := RX9) (T := TX9) (N := 11) hx hb hts iX9 hown hK hW 0 fl2 k2 (dm0 (by omega) (by omega)) rfl rfl 0 (by decide) (hts _ wq1051) (fun _ h9 => h9) rfl dX9_become_2 ?_
  refine t_put (D := D) (ci := 8) (v := .int (w.1 0 fl2 k2 0)) (ty := .int) (C := RX9) (T := TX9) (N := 11) hx hb hts iX9 tyX9 tyX9_ok nmX9 hown hK hW hS 0 fl k (dm0 (by omega) (by omega)) rfl rfl 0 (by decide) (hts _ wq1051) (fun _ h9 => h9) rfl (by decide +kernel) rfl rfl (Nat.le_of_ble_eq_true rfl) (fun j9 => if j9 = 0 then w.1 0 fl2 k2 0 else w.1 0 fl k j9) w.2.1 rfl (fun _ _ _ => rfl) (zbit (fun j9 h9 => hW.bit _ _ _ j9 h9) (fun h9 => absurd h9 (by decide))) dX9_become_5 (fun H locs hW hS => ?_)
  obtain ⟨w1, hw1, hW, hB_w1⟩ : ∃ ww : TW, zset w 0 fl k 0 (w.1 0 fl2 k2 0) = ww ∧ WT D yc e0 A S Z ww.1 ww.2.1 ww.2.2 H ∧ ZB Z Tc Ts ww := ⟨_, rfl, hW, hB0⟩
  refine lv_aload_n hx hb dX9_become_8 rfl (lv_at hl 0 rfl) ?_
  refine lv_aload_n hx hb dX9_become_9 rfl (lv_at hl 1 rfl) ?_
  refine t_get (D := D) (ci := 8) (v := .int (w1.1 0 fl2 k2 1)) (C := RX9) (T := TX9) (N := 11) hx hb hts iX9 hown hK hW 0 fl2 k2 (dm0 (by omega) (by omega)) rfl rfl 1 (by decide) (hts _ wq1054) (fun _ h9 => h9) rfl dX9_become_10 ?_
  refine t_put (D := D) (ci := 8) (v := .int (w1.1 0 fl2 k2 1)) (ty := .int) (C := RX9) (T := TX9) (N := 11) hx hb hts iX9 tyX9 tyX9_ok nmX9 hown hK hW hS 0 fl k (dm0 (by omega) (by omega)) rfl rfl 1 (by decide) (hts _ wq1054) (fun _ h9 => h9) rfl (by decide +kernel) rfl rfl (Nat.le_of_ble_eq_true rfl) (fun j9 => if j9 = 1 then w1.1 0 fl2 k2 1 else w1.1 0 fl k j9) w1.2.1 rfl (fun _ _ _ => rfl) (zbit (fun j9 h9 => hW.bit _ _ _ j9 h9) (fun h9 => absurd h9 (by decide))) dX9_become_13 (fun H locs hW hS => ?_)
  obtain ⟨w2, hw2, hW, hB_w2⟩ : ∃ ww : TW, zset w1 0 fl k 1 (w1.1 0 fl2 k2 1) = ww ∧ WT D yc e0 A S Z ww.1 ww.2.1 ww.2.2 H ∧ ZB Z Tc Ts ww := ⟨_, rfl, hW, hB_w1⟩
  refine lv_aload_n hx hb dX9_become_16 rfl (lv_at hl 0 rfl) ?_
  refine lv_aload_n hx hb dX9_become_17 rfl (lv_at hl 1 rfl) ?_
  refine t_get (D := D) (ci := 8) (v := .int (w2.1 0 fl2 k2 2)) (C := RX9) (T := TX9) (N := 11) hx hb hts iX9 hown hK hW 0 fl2 k2 (dm0 (by omega) (by omega)) rfl rfl 2 (by decide) (hts _ wq1056) (fun _ h9 => h9) rfl dX9_become_18 ?_
  refine t_put (D := D) (ci := 8) (v := .int (w2.1 0 fl2 k2 2)) (ty := .int) (C := RX9) (T := TX9) (N := 11) hx hb hts iX9 tyX9 tyX9_ok nmX9 hown hK hW hS 0 fl k (dm0 (by omega) (by omega)) rfl rfl 2 (by decide) (hts _ wq1056) (fun _ h9 => h9) rfl (by decide +kernel) rfl rfl (Nat.le_of_ble_eq_true rfl) (fun j9 => if j9 = 2 then w2.1 0 fl2 k2 2 else w2.1 0 fl k j9) w2.2.1 rfl (fun _ _ _ => rfl) (zbit (fun j9 h9 => hW.bit _ _ _ j9 h9) (fun h9 => absurd h9 (by decide))) dX9_become_21 (fun H locs hW hS => ?_)
  obtain ⟨w3, hw3, hW, hB_w3⟩ : ∃ ww : TW, zset w2 0 fl k 2 (w2.1 0 fl2 k2 2) = ww ∧ WT D yc e0 A S Z ww.1 ww.2.1 ww.2.2 H ∧ ZB Z Tc Ts ww := ⟨_, rfl, hW, hB_w2⟩
  refine lv_aload_n hx hb dX9_become_24 rfl (lv_at hl 0 rfl) ?_
  refine lv_aload_n hx hb dX9_become_25 rfl (lv_at hl 1 rfl) ?_
  refine t_get (D := D) (ci := 8) (v := .int (w3.1 0 fl2 k2 3)) (C := RX9) (T := TX9) (N := 11) hx hb hts iX9 hown hK hW 0 fl2 k2 (dm0 (by omega) (by omega)) rfl rfl 3 (by decide) (hts _ wq1058) (fun _ h9 => h9) rfl dX9_become_26 ?_
  refine t_put (D := D) (ci := 8) (v := .int (w3.1 0 fl2 k2 3)) (ty := .boolean) (C := RX9) (T := TX9) (N := 11) hx hb hts iX9 tyX9 tyX9_ok nmX9 hown hK hW hS 0 fl k (dm0 (by omega) (by omega)) rfl rfl 3 (by decide) (hts _ wq1058) (fun _ h9 => h9) rfl (by decide +kernel) (zk_nb (hW.bit _ _ _ _ rfl)) (zk_fb (hW.bit _ _ _ _ rfl)) (Nat.le_of_ble_eq_true rfl) (fun j9 => if j9 = 3 then w3.1 0 fl2 k2 3 else w3.1 0 fl k j9) w3.2.1 rfl (fun _ _ _ => rfl) (zbit (fun j9 h9 => hW.bit _ _ _ j9 h9) (fun _ => (hW.bit _ _ _ _ rfl))) dX9_become_29 (fun H locs hW hS => ?_)
  obtain ⟨w4, hw4, hW, hB_w4⟩ : ∃ ww : TW, zset w3 0 fl k 3 (w3.1 0 fl2 k2 3) = ww ∧ WT D yc e0 A S Z ww.1 ww.2.1 ww.2.2 H ∧ ZB Z Tc Ts ww := ⟨_, rfl, hW, hB_w3⟩
  refine lv_aload_n hx hb dX9_become_32 rfl (lv_at hl 0 rfl) ?_
  refine lv_aload_n hx hb dX9_become_33 rfl (lv_at hl 1 rfl) ?_
  refine t_get (D := D) (ci := 8) (v := .int (w4.1 0 fl2 k2 4)) (C := RX9) (T := TX9) (N := 11) hx hb hts iX9 hown hK hW 0 fl2 k2 (dm0 (by omega) (by omega)) rfl rfl 4 (by decide) (hts _ wq1062) (fun _ h9 => h9) rfl dX9_become_34 ?_
  refine t_put (D := D) (ci := 8) (v := .int (w4.1 0 fl2 k2 4)) (ty := .int) (C := RX9) (T := TX9) (N := 11) hx hb hts iX9 tyX9 tyX9_ok nmX9 hown hK hW hS 0 fl k (dm0 (by omega) (by omega)) rfl rfl 4 (by decide) (hts _ wq1062) (fun _ h9 => h9) rfl (by decide +kernel) rfl rfl (Nat.le_of_ble_eq_true rfl) (fun j9 => if j9 = 4 then w4.1 0 fl2 k2 4 else w4.1 0 fl k j9) w4.2.1 rfl (fun _ _ _ => rfl) (zbit (fun j9 h9 => hW.bit _ _ _ j9 h9) (fun h9 => absurd h9 (by decide))) dX9_become_37 (fun H locs hW hS => ?_)
  obtain ⟨w5, hw5, hW, hB_w5⟩ : ∃ ww : TW, zset w4 0 fl k 4 (w4.1 0 fl2 k2 4) = ww ∧ WT D yc e0 A S Z ww.1 ww.2.1 ww.2.2 H ∧ ZB Z Tc Ts ww := ⟨_, rfl, hW, hB_w4⟩
  refine lv_aload_n hx hb dX9_become_40 rfl (lv_at hl 0 rfl) ?_
  refine lv_aload_n hx hb dX9_become_41 rfl (lv_at hl 1 rfl) ?_
  refine t_get (D := D) (ci := 8) (v := .int (w5.1 0 fl2 k2 5)) (C := RX9) (T := TX9) (N := 11) hx hb hts iX9 hown hK hW 0 fl2 k2 (dm0 (by omega) (by omega)) rfl rfl 5 (by decide) (hts _ wq1064) (fun _ h9 => h9) rfl dX9_become_42 ?_
  refine t_put (D := D) (ci := 8) (v := .int (w5.1 0 fl2 k2 5)) (ty := .int) (C := RX9) (T := TX9) (N := 11) hx hb hts iX9 tyX9 tyX9_ok nmX9 hown hK hW hS 0 fl k (dm0 (by omega) (by omega)) rfl rfl 5 (by decide) (hts _ wq1064) (fun _ h9 => h9) rfl (by decide +kernel) rfl rfl (Nat.le_of_ble_eq_true rfl) (fun j9 => if j9 = 5 then w5.1 0 fl2 k2 5 else w5.1 0 fl k j9) w5.2.1 rfl (fun _ _ _ => rfl) (zbit (fun j9 h9 => hW.bit _ _ _ j9 h9) (fun h9 => absurd h9 (by decide))) dX9_become_45 (fun H locs hW hS => ?_)
  obtain ⟨w6, hw6, hW, hB_w6⟩ : ∃ ww : TW, zset w5 0 fl k 5 (w5.1 0 fl2 k2 5) = ww ∧ WT D yc e0 A S Z ww.1 ww.2.1 ww.2.2 H ∧ ZB Z Tc Ts ww := ⟨_, rfl, hW, hB_w5⟩
  refine lv_aload_n hx hb dX9_become_48 rfl (lv_at hl 0 rfl) ?_
  refine lv_aload_n hx hb dX9_become_49 rfl (lv_at hl 1 rfl) ?_
  refine t_get (D := D) (ci := 8) (v := .int (w6.1 0 fl2 k2 6)) (C := RX9) (T := TX9) (N := 11) hx hb hts iX9 hown hK hW 0 fl2 k2 (dm0 (by omega) (by omega)) rfl rfl 6 (by decide) (hts _ wq1067) (fun _ h9 => h9) rfl dX9_become_50 ?_
  refine t_put (D := D) (ci := 8) (v := .int (w6.1 0 fl2 k2 6)) (ty := .int) (C := RX9) (T := TX9) (N := 11) hx hb hts iX9 tyX9 tyX9_ok nmX9 hown hK hW hS 0 fl k (dm0 (by omega) (by omega)) rfl rfl 6 (by decide) (hts _ wq1067) (fun _ h9 => h9) rfl (by decide +kernel) rfl rfl (Nat.le_of_ble_eq_true rfl) (fun j9 => if j9 = 6 then w6.1 0 fl2 k2 6 else w6.1 0 fl k j9) w6.2.1 rfl (fun _ _ _ => rfl) (zbit (fun j9 h9 => hW.bit _ _ _ j9 h9) (fun h9 => absurd h9 (by decide))) dX9_become_53 (fun H locs hW hS => ?_)
  obtain ⟨w7, hw7, hW, hB_w7⟩ : ∃ ww : TW, zset w6 0 fl k 6 (w6.1 0 fl2 k2 6) = ww ∧ WT D yc e0 A S Z ww.1 ww.2.1 ww.2.2 H ∧ ZB Z Tc Ts ww := ⟨_, rfl, hW, hB_w6⟩
  refine lv_aload_n hx hb dX9_become_56 rfl (lv_at hl 0 rfl) ?_
  refine lv_aload_n hx hb dX9_become_57 rfl (lv_at hl 1 rfl) ?_
  refine t_get (D := D) (ci := 8) (v := .int (w7.1 0 fl2 k2 7)) (C := RX9) (T := TX9) (N := 11) hx hb hts iX9 hown hK hW 0 fl2 k2 (dm0 (by omega) (by omega)) rfl rfl 7 (by decide) (hts _ wq1070) (fun _ h9 => h9) rfl dX9_become_58 ?_
  refine t_put (D := D) (ci := 8) (v := .int (w7.1 0 fl2 k2 7)) (ty := .int) (C := RX9) (T := TX9) (N := 11) hx hb hts iX9 tyX9 tyX9_ok nmX9 hown hK hW hS 0 fl k (dm0 (by omega) (by omega)) rfl rfl 7 (by decide) (hts _ wq1070) (fun _ h9 => h9) rfl (by decide +kernel) rfl rfl (Nat.le_of_ble_eq_true rfl) (fun j9 => if j9 = 7 then w7.1 0 fl2 k2 7 else w7.1 0 fl k j9) w7.2.1 rfl (fun _ _ _ => rfl) (zbit (fun j9 h9 => hW.bit _ _ _ j9 h9) (fun h9 => absurd h9 (by decide))) dX9_become_61 (fun H locs hW hS => ?_)
  obtain ⟨w8, hw8, hW, hB_w8⟩ : ∃ ww : TW, zset w7 0 fl k 7 (w7.1 0 fl2 k2 7) = ww ∧ WT D yc e0 A S Z ww.1 ww.2.1 ww.2.2 H ∧ ZB Z Tc Ts ww := ⟨_, rfl, hW, hB_w7⟩
  refine lv_aload_n hx hb dX9_become_64 rfl (lv_at hl 0 rfl) ?_
  refine t_get (D := D) (ci := 8) (v := .ref (zg S 1 fl k)) (C := RX9) (T := TX9) (N := 11) hx hb hts iX9 hown hK hW 0 fl k (dm0 (by omega) (by omega)) rfl rfl 8 (by decide) (hts _ wq1073) (fun _ h9 => h9) rfl dX9_become_65 ?_
  refine lv_aload_n hx hb dX9_become_68 rfl (lv_at hl 1 rfl) ?_
  refine t_get (D := D) (ci := 8) (v := .ref (zg S 1 fl2 k2)) (C := RX9) (T := TX9) (N := 11) hx hb hts iX9 hown hK hW 0 fl2 k2 (dm0 (by omega) (by omega)) rfl rfl 8 (by decide) (hts _ wq1073) (fun _ h9 => h9) rfl dX9_become_69 ?_
  have hB_w9 : ZB Z Tc Ts (w_X7_become S w8 fl k fl2 k2) := hB.mono (zP_l (P := (zle (w_X7_become S w8 fl k fl2 k2))) hw1 (zP_l (P := (zle (w_X7_become S w8 fl k fl2 k2))) hw2 (zP_l (P := (zle (w_X7_become S w8 fl k fl2 k2))) hw3 (zP_l (P := (zle (w_X7_become S w8 fl k fl2 k2))) hw4 (zP_l (P := (zle (w_X7_become S w8 fl k fl2 k2))) hw5 (zP_l (P := (zle (w_X7_become S w8 fl k fl2 k2))) hw6 (zP_l (P := (zle (w_X7_become S w8 fl k fl2 k2))) hw7 (zP_l (P := (zle (w_X7_become S w8 fl k fl2 k2))) hw8 (zP_let (P := (zle (w_X7_become S w8 fl k fl2 k2))) (zle (w_X7_become S w8 fl k fl2 k2)) zle.rf (fun w9 h8 => (zP_let (P := (zle (w_X7_become S w8 fl k fl2 k2))) (zle (w_X7_become S w8 fl k fl2 k2)) (zle.tr h8 (zle.row (mq_become _ _ _))) (fun w10 h8_ => (zP_let (P := (zle (w_X7_become S w8 fl k fl2 k2))) (zle (w_X7_become S w8 fl k fl2 k2)) (zle.tr h8_ (zle.row (mq_become _ _ _))) (fun w11 h8__ => h8__))))))))))))))
  refine tw_v hB_w9 ⟨rfl, rfl⟩ (hB_w8.top hW) (fun hle9 => va_runV (As := [.ref (zg S 1 fl2 k2)]) (rest := []) ⟨hx, hb, hml, hown, hts⟩ (k_X7_become l D yc e0 A S Z Tc Ts w8 H.size (zh H) fl k fl2 k2 (by first | assumption | omega | decide) (by first | assumption | omega | decide) (by first | assumption | omega | decide) (by first | assumption | omega | decide) (by first | assumption | omega | decide) hB_w9) (cwV 1 hts (lw_V wq365 wq366 wq367 wq23 wq368) rfl rfl rfl (by decide +kernel) ⟨(Nat.le_of_ble_eq_true rfl), (Nat.le_of_ble_eq_true rfl)⟩) (tq_V hC hW hS hA 1 fl k (dm1 (by omega) (by omega)) rfl rfl) rfl rfl hl.1 rfl (lv_room (Nat.le_of_ble_eq_true rfl)) dX9_become_72 hle9) hS (fun H locs hW hS => ?_)
  obtain ⟨w9, hw9, hW, hB_w9⟩ : ∃ ww : TW, w_X7_become S w8 fl k fl2 k2 = ww ∧ WT D yc e0 A S Z ww.1 ww.2.1 ww.2.2 H ∧ ZB Z Tc Ts ww := ⟨_, rfl, hW, hB_w9⟩
  refine lv_aload_n hx hb dX9_become_75 rfl (lv_at hl 0 rfl) ?_
  refine t_get (D := D) (ci := 8) (v := .ref (zr S (rs 2 fl k))) (C := RX9) (T := TX9) (N := 11) hx hb hts iX9 hown hK hW 0 fl k (dm0 (by omega) (by omega)) rfl rfl 9 (by decide) (hts _ wq1076) (fun _ h9 => h9) rfl dX9_become_76 ?_
  refine lv_aload_n hx hb dX9_become_79 rfl (lv_at hl 1 rfl) ?_
  refine t_get (D := D) (ci := 8) (v := .ref (zr S (rs 2 fl2 k2))) (C := RX9) (T := TX9) (N := 11) hx hb hts iX9 hown hK hW 0 fl2 k2 (dm0 (by omega) (by omega)) rfl rfl 9 (by decide) (hts _ wq1076) (fun _ h9 => h9) rfl dX9_become_80 ?_
  refine lv_iconst (v := 0) hx hb dX9_become_83 (by decide) ?_
  have hB_w10 : ZB Z Tc Ts (zrw w9 (rs 2 fl k) (qbec (w9.2.2 (rs 2 fl k)) (w9.2.2 (rs 2 fl2 k2)) (zfrom 0 (w9.2.2 (rs 2 fl2 k2)).2.length))) := hB.mono (zP_l (P := (zle (zrw w9 (rs 2 fl k) (qbec (w9.2.2 (rs 2 fl k)) (w9.2.2 (rs 2 fl2 k2)) (zfrom 0 (w9.2.2 (rs 2 fl2 k2)).2.length))))) hw1 (zP_l (P := (zle (zrw w9 (rs 2 fl k) (qbec (w9.2.2 (rs 2 fl k)) (w9.2.2 (rs 2 fl2 k2)) (zfrom 0 (w9.2.2 (rs 2 fl2 k2)).2.length))))) hw2 (zP_l (P := (zle (zrw w9 (rs 2 fl k) (qbec (w9.2.2 (rs 2 fl k)) (w9.2.2 (rs 2 fl2 k2)) (zfrom 0 (w9.2.2 (rs 2 fl2 k2)).2.length))))) hw3 (zP_l (P := (zle (zrw w9 (rs 2 fl k) (qbec (w9.2.2 (rs 2 fl k)) (w9.2.2 (rs 2 fl2 k2)) (zfrom 0 (w9.2.2 (rs 2 fl2 k2)).2.length))))) hw4 (zP_l (P := (zle (zrw w9 (rs 2 fl k) (qbec (w9.2.2 (rs 2 fl k)) (w9.2.2 (rs 2 fl2 k2)) (zfrom 0 (w9.2.2 (rs 2 fl2 k2)).2.length))))) hw5 (zP_l (P := (zle (zrw w9 (rs 2 fl k) (qbec (w9.2.2 (rs 2 fl k)) (w9.2.2 (rs 2 fl2 k2)) (zfrom 0 (w9.2.2 (rs 2 fl2 k2)).2.length))))) hw6 (zP_l (P := (zle (zrw w9 (rs 2 fl k) (qbec (w9.2.2 (rs 2 fl k)) (w9.2.2 (rs 2 fl2 k2)) (zfrom 0 (w9.2.2 (rs 2 fl2 k2)).2.length))))) hw7 (zP_l (P := (zle (zrw w9 (rs 2 fl k) (qbec (w9.2.2 (rs 2 fl k)) (w9.2.2 (rs 2 fl2 k2)) (zfrom 0 (w9.2.2 (rs 2 fl2 k2)).2.length))))) hw8 (zP_l (P := (zle (zrw w9 (rs 2 fl k) (qbec (w9.2.2 (rs 2 fl k)) (w9.2.2 (rs 2 fl2 k2)) (zfrom 0 (w9.2.2 (rs 2 fl2 k2)).2.length))))) hw9 (zP_let (P := (zle (zrw w9 (rs 2 fl k) (qbec (w9.2.2 (rs 2 fl k)) (w9.2.2 (rs 2 fl2 k2)) (zfrom 0 (w9.2.2 (rs 2 fl2 k2)).2.length))))) (zle (zrw w9 (rs 2 fl k) (qbec (w9.2.2 (rs 2 fl k)) (w9.2.2 (rs 2 fl2 k2)) (zfrom 0 (w9.2.2 (rs 2 fl2 k2)).2.length)))) zle.rf (fun w10 h8 => (zP_let (P := (zle (zrw w9 (rs 2 fl k) (qbec (w9.2.2 (rs 2 fl k)) (w9.2.2 (rs 2 fl2 k2)) (zfrom 0 (w9.2.2 (rs 2 fl2 k2)).2.length))))) (zle (zrw w9 (rs 2 fl k) (qbec (w9.2.2 (rs 2 fl k)) (w9.2.2 (rs 2 fl2 k2)) (zfrom 0 (w9.2.2 (rs 2 fl2 k2)).2.length)))) (zle.tr h8 (zle.row (mq_become _ _ _))) (fun w11 h8_ => h8_)))))))))))))
  refine tw_v hB_w10 ⟨rfl, rfl⟩ (hB_w9.top hW) (fun hle9 => va_runV (As := [.ref (zr S (rs 2 fl2 k2)), .int 0]) (rest := []) ⟨hx, hb, hml, hown, hts⟩ (k_X6_become l D yc e0 A S Z Tc Ts w9 H.size (zh H) (rs 2 fl k) (rs 2 fl2 k2) 0 (dr_s hW.n12 (by omega) (by omega) (by omega)) (dr_s hW.n12 (by omega) (by omega) (by omega)) (by first | (unfold rs; omega) | (unfold ri; omega)) hB_w10) (cwV 2 hts (lw_V wq377 wq370 wq371 wq15 wq372) rfl rfl rfl (by decide +kernel) ⟨(Nat.le_of_ble_eq_true rfl), (Nat.le_of_ble_eq_true rfl)⟩) (tq_R hC hW hS hA (rs 2 fl k) (dr_s hW.n12 (by omega) (by omega) (by omega))) rfl rfl hl.1 rfl (lv_room (Nat.le_of_ble_eq_true rfl)) dX9_become_84 hle9) hS (fun H locs hW hS => ?_)
  obtain ⟨w10, hw10, hW, hB_w10⟩ : ∃ ww : TW, zrw w9 (rs 2 fl k) (qbec (w9.2.2 (rs 2 fl k)) (w9.2.2 (rs 2 fl2 k2)) (zfrom 0 (w9.2.2 (rs 2 fl2 k2)).2.length)) = ww ∧ WT D yc e0 A S Z ww.1 ww.2.1 ww.2.2 H ∧ ZB Z Tc Ts ww := ⟨_, rfl, hW, hB_w10⟩
  refine lv_aload_n hx hb dX9_become_87 rfl (lv_at hl 0 rfl) ?_
  refine t_get (D := D) (ci := 8) (v := .ref (zr S (rs 3 fl k))) (C := RX9) (T := TX9) (N := 11) hx hb hts iX9 hown hK hW 0 fl k (dm0 (by omega) (by omega)) rfl rfl 10 (by decide) (hts _ wq1078) (fun _ h9 => h9) rfl dX9_become_88 ?_
  refine lv_aload_n hx hb dX9_become_91 rfl (lv_at hl 1 rfl) ?_
  refine t_get (D := D) (ci := 8) (v := .ref (zr S (rs 3 fl2 k2))) (C := RX9) (T := TX9) (N := 11) hx hb hts iX9 hown hK hW 0 fl2 k2 (dm0 (by omega) (by omega)) rfl rfl 10 (by decide) (hts _ wq1078) (fun _ h9 => h9) rfl dX9_become_92 ?_
  refine lv_iconst (v := 0) hx hb dX9_become_95 (by decide) ?_
  have hB_w11 : ZB Z Tc Ts (zrw w10 (rs 3 fl k) (qbec (w10.2.2 (rs 3 fl k)) (w10.2.2 (rs 3 fl2 k2)) (zfrom 0 (w10.2.2 (rs 3 fl2 k2)).2.length))) := hB.mono (zP_l (P := (zle (zrw w10 (rs 3 fl k) (qbec (w10.2.2 (rs 3 fl k)) (w10.2.2 (rs 3 fl2 k2)) (zfrom 0 (w10.2.2 (rs 3 fl2 k2)).2.length))))) hw1 (zP_l (P := (zle (zrw w10 (rs 3 fl k) (qbec (w10.2.2 (rs 3 fl k)) (w10.2.2 (rs 3 fl2 k2)) (zfrom 0 (w10.2.2 (rs 3 fl2 k2)).2.length))))) hw2 (zP_l (P := (zle (zrw w10 (rs 3 fl k) (qbec (w10.2.2 (rs 3 fl k)) (w10.2.2 (rs 3 fl2 k2)) (zfrom 0 (w10.2.2 (rs 3 fl2 k2)).2.length))))) hw3 (zP_l (P := (zle (zrw w10 (rs 3 fl k) (qbec (w10.2.2 (rs 3 fl k)) (w10.2.2 (rs 3 fl2 k2)) (zfrom 0 (w10.2.2 (rs 3 fl2 k2)).2.length))))) hw4 (zP_l (P := (zle (zrw w10 (rs 3 fl k) (qbec (w10.2.2 (rs 3 fl k)) (w10.2.2 (rs 3 fl2 k2)) (zfrom 0 (w10.2.2 (rs 3 fl2 k2)).2.length))))) hw5 (zP_l (P := (zle (zrw w10 (rs 3 fl k) (qbec (w10.2.2 (rs 3 fl k)) (w10.2.2 (rs 3 fl2 k2)) (zfrom 0 (w10.2.2 (rs 3 fl2 k2)).2.length))))) hw6 (zP_l (P := (zle (zrw w10 (rs 3 fl k) (qbec (w10.2.2 (rs 3 fl k)) (w10.2.2 (rs 3 fl2 k2)) (zfrom 0 (w10.2.2 (rs 3 fl2 k2)).2.length))))) hw7 (zP_l (P := (zle (zrw w10 (rs 3 fl k) (qbec (w10.2.2 (rs 3 fl k)) (w10.2.2 (rs 3 fl2 k2)) (zfrom 0 (w10.2.2 (rs 3 fl2 k2)).2.length))))) hw8 (zP_l (P := (zle (zrw w10 (rs 3 fl k) (qbec (w10.2.2 (rs 3 fl k)) (w10.2.2 (rs 3 fl2 k2)) (zfrom 0 (w10.2.2 (rs 3 fl2 k2)).2.length))))) hw9 (zP_l (P := (zle (zrw w10 (rs 3 fl k) (qbec (w10.2.2 (rs 3 fl k)) (w10.2.2 (rs 3 fl2 k2)) (zfrom 0 (w10.2.2 (rs 3 fl2 k2)).2.length))))) hw10 (zP_let (P := (zle (zrw w10 (rs 3 fl k) (qbec (w10.2.2 (rs 3 fl k)) (w10.2.2 (rs 3 fl2 k2)) (zfrom 0 (w10.2.2 (rs 3 fl2 k2)).2.length))))) (zle (zrw w10 (rs 3 fl k) (qbec (w10.2.2 (rs 3 fl k)) (w10.2.2 (rs 3 fl2 k2)) (zfrom 0 (w10.2.2 (rs 3 fl2 k2)).2.length)))) zle.rf (fun w11 h8 => h8))))))))))))
  refine tw_v hB_w11 ⟨rfl, rfl⟩ (hB_w10.top hW) (fun hle9 => va_runV (As := [.ref (zr S (rs 3 fl2 k2)), .int 0]) (rest := []) ⟨hx, hb, hml, hown, hts⟩ (k_X6_become l D yc e0 A S Z Tc Ts w10 H.size (zh H) (rs 3 fl k) (rs 3 fl2 k2) 0 (dr_s hW.n12 (by omega) (by omega) (by omega)) (dr_s hW.n12 (by omega) (by omega) (by omega)) (by first | (unfold rs; omega) | (unfold ri; omega)) hB_w11) (cwV 2 hts (lw_V wq377 wq370 wq371 wq15 wq372) rfl rfl rfl (by decide +kernel) ⟨(Nat.le_of_ble_eq_true rfl), (Nat.le_of_ble_eq_true rfl)⟩) (tq_R hC hW hS hA (rs 3 fl k) (dr_s hW.n12 (by omega) (by omega) (by omega))) rfl rfl hl.1 rfl (lv_room (Nat.le_of_ble_eq_true rfl)) dX9_become_96 hle9) hS (fun H locs hW hS => ?_)
  obtain ⟨w11, hw11, hW, hB_w11⟩ : ∃ ww : TW, zrw w10 (rs 3 fl k) (qbec (w10.2.2 (rs 3 fl k)) (w10.2.2 (rs 3 fl2 k2)) (zfrom 0 (w10.2.2 (rs 3 fl2 k2)).2.length)) = ww ∧ WT D yc e0 A S Z ww.1 ww.2.1 ww.2.2 H ∧ ZB Z Tc Ts ww := ⟨_, rfl, hW, hB_w11⟩
  exact tx_v hx hb hr hlk hS hW (zlet_e hw1 (zlet_e hw2 (zlet_e hw3 (zlet_e hw4 (zlet_e hw5 (zlet_e hw6 (zlet_e hw7 (zlet_e hw8 (zlet_e hw9 (zlet_e hw10 (zlet_e hw11 rfl))))))))))) dX9_become_99
