def w_X8_adoptSaved (S : TS) (w : TW) (fl : Nat) (k : Nat) : TW := zlet (zsav w fl k ((w.2.1 fl k).2, (w.2.1 fl k).2)) (fun w1 => zlet (zsav w1 fl k ((w1.2.1 fl k).1, (w.2.1 fl k).1)) (fun w2 => w2))
theorem m_X8_adoptSaved (S : TS) (w : TW) (fl : Nat) (k : Nat) : zle w (w_X8_adoptSaved S w fl k) := by
  unfold w_X8_adoptSaved
  exact (zP_let (P := (zle (w))) (zle (w)) (zle.to zle.rf rfl) (fun w1 h8_ => (zP_let (P := (zle (w))) (zle (w)) (zle.to h8_ rfl) (fun w2 h8__ => h8__))))
theorem gs_X8_adoptSaved (S : TS) (w : TW) (fl : Nat) (k : Nat) (hGS : GS w.2.1) : GS (w_X8_adoptSaved S w fl k).2.1 := fun a b => by
  have h := hGS a b
  by_cases e : a = fl ∧ b = k
  · obtain ⟨rfl, rfl⟩ := e
    simp only [w_X8_adoptSaved, zlet, zsav_s]
    omega
  · have e1 : (w_X8_adoptSaved S w fl k).2.1 a b = w.2.1 a b := by
      simp only [w_X8_adoptSaved, zlet, zsav]
      rw [if_neg e, if_neg e]
    rw [e1]
    exact h
set_option maxHeartbeats 4000000 in
set_option maxRecDepth 100000 in
theorem k_X8_adoptSaved (l : Launch) (D : va_G) (yc : Nat → ClassId) (e0 : Nat) (A : Nat → Prop) (S : TS) (Z : Nat × Nat) (Tc Ts : Nat) (w : TW) (cN zN : Nat) (fl : Nat) (k : Nat) (hf : fl < 2) (hk : k < zn S) (hB : ZB Z Tc Ts (w_X8_adoptSaved S w fl k)) : Met l yX8_adoptSaved (ws_ yX8_adoptSaved cX8_adoptSaved 2 none) { frames := 0, cells := Tc - cN, slots := Ts - zN, locals := 0 } (PM D yc e0 A S Z w cN zN [.ref (zg S 2 fl k)]) (tQv D yc e0 A S Z (w_X8_adoptSaved S w fl k)) (Tc - cN) (Ts - zN) A := by
  have hB0 : ZB Z Tc Ts w := hB.mono (m_X8_adoptSaved _ _ _ _)
  refine tk_W hB0 (by decide) (Nat.le_of_ble_eq_true rfl) ?_
  intro p e s m args below meth c ls H locs hx hb hml hr hlk hown hts hW hS hA hC hl
  have hK := hC.1
  have hN := hC.2.1
  have hn12 := hW.n12
  skip
  have hl : lv_has ls 2 [(0, .ref (zg S 2 fl k))] := hl
  refine lv_aload_n hx hb dX8_adoptSaved_0 rfl (lv_at hl 0 rfl) ?_
  refine t_get (D := D) (ci := 7) (v := .ref (zg S 0 fl (3 * k + (w.2.1 fl k).1))) (C := RX8) (T := TX8) (N := 12) hx hb hts iX8 hown hK hW 2 fl k (dm2 (by omega) (by omega)) rfl rfl 8 (by decide) (hts _ wq1121) (fun _ h9 => h9) rfl dX8_adoptSaved_1 ?_
  refine lv_astore_n (lv' := [(1, .ref (zg S 0 fl (3 * k + (w.2.1 fl k).1))), (0, .ref (zg S 2 fl k))]) hx hb dX8_adoptSaved_4 rfl hl (by decide) rfl (fun ls hl => ?_)
  refine lv_aload_n hx hb dX8_adoptSaved_5 rfl (lv_at hl 1 rfl) ?_
  refine lv_aload_n hx hb dX8_adoptSaved_6 rfl (lv_at hl 1 rfl) ?_
  refine t_get (D := D) (ci := 7) (v := .ref (zg S 0 fl (3 * k + (w.2.1 fl k).2))) (C := RX8) (T := TX8) (N := 12) hx hb hts iX8 hown hK hW 2 fl k (dm2 (by omega) (by omega)) rfl rfl 9 (by decide) (hts _ wq1123) (fun _ h9 => h9) rfl dX8_adoptSaved_7 ?_
  refine t_put (D := D) (ci := 7) (v := .ref (zg S 0 fl (3 * k + (w.2.1 fl k).2))) (ty := (.object "WeirStream$State")) (C := RX8) (T := TX8) (N := 12) hx hb hts iX8 tyX8 tyX8_ok nmX8 hown hK hW hS 2 fl k (dm2 (by omega) (by omega)) rfl rfl 8 (by decide) (hts _ wq1121) (fun _ h9 => h9) rfl (by decide +kernel) rfl rfl (Nat.le_of_ble_eq_true rfl) (w.1 2 fl k) (zsav w fl k ((w.2.1 fl k).2, (w.2.1 fl k).2)).2.1 (by simp only [cel, zsav_s]; rfl) (fun _ _ h9 => zsav_n h9) (fun j9 h9 => hW.bit _ _ _ j9 h9) dX8_adoptSaved_10 (fun H locs hW hS => ?_)
  rw [zF_id] at hW
  obtain ⟨w1, hw1, hW, hB_w1⟩ : ∃ ww : TW, zsav w fl k ((w.2.1 fl k).2, (w.2.1 fl k).2) = ww ∧ WT D yc e0 A S Z ww.1 ww.2.1 ww.2.2 H ∧ ZB Z Tc Ts ww := ⟨_, rfl, hW, hB0⟩
  refine lv_aload_n hx hb dX8_adoptSaved_13 rfl (lv_at hl 1 rfl) ?_
  refine lv_aload_n hx hb dX8_adoptSaved_14 rfl (lv_at hl 0 rfl) ?_
  refine t_put (D := D) (ci := 7) (v := .ref (zg S 0 fl (3 * k + (w.2.1 fl k).1))) (ty := (.object "WeirStream$State")) (C := RX8) (T := TX8) (N := 12) hx hb hts iX8 tyX8 tyX8_ok nmX8 hown hK hW hS 2 fl k (dm2 (by omega) (by omega)) rfl rfl 9 (by decide) (hts _ wq1123) (fun _ h9 => h9) rfl (by decide +kernel) rfl rfl (Nat.le_of_ble_eq_true rfl) (w1.1 2 fl k) (zsav w1 fl k ((w1.2.1 fl k).1, (w.2.1 fl k).1)).2.1 (by simp only [cel, zsav_s]; rfl) (fun _ _ h9 => zsav_n h9) (fun j9 h9 => hW.bit _ _ _ j9 h9) dX8_adoptSaved_15 (fun H locs hW hS => ?_)
  rw [zF_id] at hW
  obtain ⟨w2, hw2, hW, hB_w2⟩ : ∃ ww : TW, zsav w1 fl k ((w1.2.1 fl k).1, (w.2.1 fl k).1) = ww ∧ WT D yc e0 A S Z ww.1 ww.2.1 ww.2.2 H ∧ ZB Z Tc Ts ww := ⟨_, rfl, hW, hB_w1⟩
  exact tx_v hx hb hr hlk hS hW (zlet_e hw1 (zlet_e hw2 rfl)) dX8_adoptSaved_18
def w_X8_goBack (S : TS) (w : TW) (fl : Nat) (k : Nat) : TW := zlet (w_X9_become S w fl (3 * k) fl (3 * k + (w.2.1 fl k).1)) (fun w1 => zlet (zrw w1 (ro fl k) (qsho (w1.2.2 (ro fl k)) (w1.1 0 fl (3 * k + (w1.2.1 fl k).1) 7))) (fun w2 => zlet (w_X4_empty S w2 fl k) (fun w3 => zlet (zset w3 2 fl k 11 0) (fun w4 => w4))))
theorem m_X8_goBack (S : TS) (w : TW) (fl : Nat) (k : Nat) : zle w (w_X8_goBack S w fl k) := by
  unfold w_X8_goBack
  exact (zP_let (P := (zle (w))) (zle (w)) (zle.tr zle.rf (m_X9_become _ _ _ _ _ _)) (fun w1 h8_ => (zP_let (P := (zle (w))) (zle (w)) (zle.tr h8_ (zle.row (mq_shorten _ _))) (fun w2 h8__ => (zP_let (P := (zle (w))) (zle (w)) (zle.tr h8__ (m_X4_empty _ _ _ _)) (fun w3 h8___ => (zP_let (P := (zle (w))) (zle (w)) (zle.to h8___ rfl) (fun w4 h8____ => h8____))))))))
theorem g_X8_goBack (S : TS) (w : TW) (fl : Nat) (k : Nat) : (w_X8_goBack S w fl k).2.1 = w.2.1 := by
  unfold w_X8_goBack
  exact (zP_let (P := (fun (b : TW) => b.2.1 = w.2.1)) (fun (b : TW) => b.2.1 = w.2.1) ((g_X9_become _ _ _ _ _ _).trans rfl) (fun w1 h8_ => (zP_let (P := (fun (b : TW) => b.2.1 = w.2.1)) (fun (b : TW) => b.2.1 = w.2.1) h8_ (fun w2 h8__ => (zP_let (P := (fun (b : TW) => b.2.1 = w.2.1)) (fun (b : TW) => b.2.1 = w.2.1) ((g_X4_empty _ _ _ _).trans h8__) (fun w3 h8___ => (zP_let (P := (fun (b : TW) => b.2.1 = w.2.1)) (fun (b : TW) => b.2.1 = w.2.1) h8___ (fun w4 h8____ => h8____))))))))
set_option maxHeartbeats 4000000 in
set_option maxRecDepth 100000 in
theorem k_X8_goBack (l : Launch) (D : va_G) (yc : Nat → ClassId) (e0 : Nat) (A : Nat → Prop) (S : TS) (Z : Nat × Nat) (Tc Ts : Nat) (w : TW) (cN zN : Nat) (fl : Nat) (k : Nat) (hf : fl < 2) (hk : k < zn S) (hGS : GS w.2.1) (hB : ZB Z Tc Ts (w_X8_goBack S w fl k)) : Met l yX8_goBack (ws_ yX8_goBack cX8_goBack 1 none) { frames := 4, cells := Tc - cN, slots := Ts - zN, locals := 108 } (PM D yc e0 A S Z w cN zN [.ref (zg S 2 fl k)]) (tQv D yc e0 A S Z (w_X8_goBack S w fl k)) (Tc - cN) (Ts - zN) A := by
  have hB0 : ZB Z Tc Ts w := hB.mono (m_X8_goBack _ _ _ _)
  refine tk_W hB0 (by decide) (Nat.le_of_ble_eq_true rfl) ?_
  intro p e s m args below meth c ls H locs hx hb hml hr hlk hown hts hW hS hA hC hl
  have hK := hC.1
  have hN := hC.2.1
  have hn12 := hW.n12
  skip
  have hg9 := hGS fl k
  have hl : lv_has ls 1 [(0, .ref (zg S 2 fl k))] := hl
  refine lv_aload_n hx hb dX8_goBack_0 rfl (lv_at hl 0 rfl) ?_
  refine t_get (D := D) (ci := 7) (v := .ref (zg S 0 fl (3 * k))) (C := RX8) (T := TX8) (N := 12) hx hb hts iX8 hown hK hW 2 fl k (dm2 (by omega) (by omega)) rfl rfl 7 (by decide) (hts _ wq1118) (fun _ h9 => h9) rfl dX8_goBack_1 ?_
  refine lv_aload_n hx hb dX8_goBack_4 rfl (lv_at hl 0 rfl) ?_
  refine t_get (D := D) (ci := 7) (v := .ref (zg S 0 fl (3 * k + (w.2.1 fl k).1))) (C := RX8) (T := TX8) (N := 12) hx hb hts iX8 hown hK hW 2 fl k (dm2 (by omega) (by omega)) rfl rfl 8 (by decide) (hts _ wq1121) (fun _ h9 => h9) rfl dX8_goBack_5 ?_
  have hB_w1 : ZB Z Tc Ts (w_X9_become S w fl (3 * k) fl (3 * k + (w.2.1 fl k).1)) := hB.mono (zP_let (P := (zle (w_X9_become S w fl (3 * k) fl (3 * k + (w.2.1 fl k).1)))) (zle (w_X9_become S w fl (3 * k) fl (3 * k + (w.2.1 fl k).1))) zle.rf (fun w1 h8 => (zP_let (P := (zle (w_X9_become S w fl (3 * k) fl (3 * k + (w.2.1 fl k).1)))) (zle (w_X9_become S w fl (3 * k) fl (3 * k + (w.2.1 fl k).1))) (zle.tr h8 (zle.row (mq_shorten _ _))) (fun w2 h8_ => (zP_let (P := (zle (w_X9_become S w fl (3 * k) fl (3 * k + (w.2.1 fl k).1)))) (zle (w_X9_become S w fl (3 * k) fl (3 * k + (w.2.1 fl k).1))) (zle.tr h8_ (m_X4_empty _ _ _ _)) (fun w3 h8__ => (zP_let (P := (zle (w_X9_become S w fl (3 * k) fl (3 * k + (w.2.1 fl k).1)))) (zle (w_X9_become S w fl (3 * k) fl (3 * k + (w.2.1 fl k).1))) (zle.to h8__ rfl) (fun w4 h8___ => h8___))))))))
  refine tw_v hB_w1 ⟨rfl, rfl⟩ (hB0.top hW) (fun hle9 => va_runV (As := [.ref (zg S 0 fl (3 * k + (w.2.1 fl k).1))]) (rest := []) ⟨hx, hb, hml, hown, hts⟩ (k_X9_become l D yc e0 A S Z Tc Ts w H.size (zh H) fl (3 * k) fl (3 * k + (w.2.1 fl k).1) (by first | assumption | omega | decide) (by first | assumption | omega | decide) (by first | assumption | omega | decide) (by first | assumption | omega | decide) (by first | assumption | omega | decide) hB_w1) (cwV 1 hts (lw_V wq613 wq362 wq363 wq22 wq364) rfl rfl rfl (by decide +kernel) ⟨(Nat.le_of_ble_eq_true rfl), (Nat.le_of_ble_eq_true rfl)⟩) (tq_V hC hW hS hA 0 fl (3 * k) (dm0 (by omega) (by omega)) rfl rfl) rfl rfl hl.1 rfl (lv_room (Nat.le_of_ble_eq_true rfl)) dX8_goBack_8 hle9) hS (fun H locs hW hS => ?_)
  obtain ⟨w1, hw1, hW, hB_w1⟩ : ∃ ww : TW, w_X9_become S w fl (3 * k) fl (3 * k + (w.2.1 fl k).1) = ww ∧ WT D yc e0 A S Z ww.1 ww.2.1 ww.2.2 H ∧ ZB Z Tc Ts ww := ⟨_, rfl, hW, hB_w1⟩
  have hGS : GS w1.2.1 := by rw [← hw1]; exact (GS.of (g_X9_become _ _ _ _ _ _) hGS)
  have hg9 := hGS fl k
  refine lv_aload_n hx hb dX8_goBack_11 rfl (lv_at hl 0 rfl) ?_
  refine t_get (D := D) (ci := 7) (v := .ref (zr S (ro fl k))) (C := RX8) (T := TX8) (N := 12) hx hb hts iX8 hown hK hW 2 fl k (dm2 (by omega) (by omega)) rfl rfl 6 (by decide) (hts _ wq1116) (fun _ h9 => h9) rfl dX8_goBack_12 ?_
  refine lv_aload_n hx hb dX8_goBack_15 rfl (lv_at hl 0 rfl) ?_
  refine t_get (D := D) (ci := 7) (v := .ref (zg S 0 fl (3 * k + (w1.2.1 fl k).1))) (C := RX8) (T := TX8) (N := 12) hx hb hts iX8 hown hK hW 2 fl k (dm2 (by omega) (by omega)) rfl rfl 8 (by decide) (hts _ wq1121) (fun _ h9 => h9) rfl dX8_goBack_16 ?_
  refine t_getN (D := D) (ci := 8) (v := .int (w1.1 0 fl (3 * k + (w1.2.1 fl k).1) 7)) (C := RX9) (T := TX9) (N := 11) hx hb hts iX9 hown hK hW 0 fl (3 * k + (w1.2.1 fl k).1) (dm0 (by omega) (by omega)) rfl rfl 7 (by decide) (zk_tab rfl (hN _ wr1071 rfl)) (fun _ h9 => h9) rfl dX8_goBack_19 ?_
  have hB_w2 : ZB Z Tc Ts (zrw w1 (ro fl k) (qsho (w1.2.2 (ro fl k)) (w1.1 0 fl (3 * k + (w1.2.1 fl k).1) 7))) := hB.mono (zP_l (P := (zle (zrw w1 (ro fl k) (qsho (w1.2.2 (ro fl k)) (w1.1 0 fl (3 * k + (w1.2.1 fl k).1) 7))))) hw1 (zP_let (P := (zle (zrw w1 (ro fl k) (qsho (w1.2.2 (ro fl k)) (w1.1 0 fl (3 * k + (w1.2.1 fl k).1) 7))))) (zle (zrw w1 (ro fl k) (qsho (w1.2.2 (ro fl k)) (w1.1 0 fl (3 * k + (w1.2.1 fl k).1) 7)))) zle.rf (fun w2 h8 => (zP_let (P := (zle (zrw w1 (ro fl k) (qsho (w1.2.2 (ro fl k)) (w1.1 0 fl (3 * k + (w1.2.1 fl k).1) 7))))) (zle (zrw w1 (ro fl k) (qsho (w1.2.2 (ro fl k)) (w1.1 0 fl (3 * k + (w1.2.1 fl k).1) 7)))) (zle.tr h8 (m_X4_empty _ _ _ _)) (fun w3 h8_ => (zP_let (P := (zle (zrw w1 (ro fl k) (qsho (w1.2.2 (ro fl k)) (w1.1 0 fl (3 * k + (w1.2.1 fl k).1) 7))))) (zle (zrw w1 (ro fl k) (qsho (w1.2.2 (ro fl k)) (w1.1 0 fl (3 * k + (w1.2.1 fl k).1) 7)))) (zle.to h8_ rfl) (fun w4 h8__ => h8__)))))))
  refine tw_v hB_w2 ⟨rfl, rfl⟩ (hB_w1.top hW) (fun hle9 => va_runV (As := [.int (w1.1 0 fl (3 * k + (w1.2.1 fl k).1) 7)]) (rest := []) ⟨hx, hb, hml, hown, hts⟩ (k_X6_shorten l D yc e0 A S Z Tc Ts w1 H.size (zh H) (ro fl k) (w1.1 0 fl (3 * k + (w1.2.1 fl k).1) 7) (dr_o hW.n12 (by omega) (by omega)) hB_w2) (cwV 1 hts (lw_V wq614 wq615 wq616 wq15 wq617) rfl rfl rfl (by decide +kernel) ⟨(Nat.le_of_ble_eq_true rfl), (Nat.le_of_ble_eq_true rfl)⟩) (tq_R hC hW hS hA (ro fl k) (dr_o hW.n12 (by omega) (by omega))) rfl rfl hl.1 rfl (lv_room (Nat.le_of_ble_eq_true rfl)) dX8_goBack_22 hle9) hS (fun H locs hW hS => ?_)
  obtain ⟨w2, hw2, hW, hB_w2⟩ : ∃ ww : TW, zrw w1 (ro fl k) (qsho (w1.2.2 (ro fl k)) (w1.1 0 fl (3 * k + (w1.2.1 fl k).1) 7)) = ww ∧ WT D yc e0 A S Z ww.1 ww.2.1 ww.2.2 H ∧ ZB Z Tc Ts ww := ⟨_, rfl, hW, hB_w2⟩
  have hGS : GS w2.2.1 := by rw [← hw2]; exact hGS
  have hg9 := hGS fl k
  refine lv_aload_n hx hb dX8_goBack_25 rfl (lv_at hl 0 rfl) ?_
  refine t_get (D := D) (ci := 7) (v := .ref (zg S 3 fl k)) (C := RX8) (T := TX8) (N := 12) hx hb hts iX8 hown hK hW 2 fl k (dm2 (by omega) (by omega)) rfl rfl 5 (by decide) (hts _ wq1113) (fun _ h9 => h9) rfl dX8_goBack_26 ?_
  have hB_w3 : ZB Z Tc Ts (w_X4_empty S w2 fl k) := hB.mono (zP_l (P := (zle (w_X4_empty S w2 fl k))) hw1 (zP_l (P := (zle (w_X4_empty S w2 fl k))) hw2 (zP_let (P := (zle (w_X4_empty S w2 fl k))) (zle (w_X4_empty S w2 fl k)) zle.rf (fun w3 h8 => (zP_let (P := (zle (w_X4_empty S w2 fl k))) (zle (w_X4_empty S w2 fl k)) (zle.to h8 rfl) (fun w4 h8_ => h8_))))))
  refine tw_v hB_w3 ⟨rfl, rfl⟩ (hB_w2.top hW) (fun hle9 => va_runV (As := []) (rest := []) ⟨hx, hb, hml, hown, hts⟩ (k_X4_empty l D yc e0 A S Z Tc Ts w2 H.size (zh H) fl k (by first | assumption | omega | decide) (by first | assumption | omega | decide) hB_w3) (cwV 0 hts (lw_V wq618 wq619 wq620 wq21 wq621) rfl rfl rfl (by decide +kernel) ⟨(Nat.le_of_ble_eq_true rfl), (Nat.le_of_ble_eq_true rfl)⟩) (tq_V hC hW hS hA 3 fl k (dm3 (by omega) (by omega)) rfl rfl) rfl rfl hl.1 rfl (lv_room (Nat.le_of_ble_eq_true rfl)) dX8_goBack_29 hle9) hS (fun H locs hW hS => ?_)
  obtain ⟨w3, hw3, hW, hB_w3⟩ : ∃ ww : TW, w_X4_empty S w2 fl k = ww ∧ WT D yc e0 A S Z ww.1 ww.2.1 ww.2.2 H ∧ ZB Z Tc Ts ww := ⟨_, rfl, hW, hB_w3⟩
  have hGS : GS w3.2.1 := by rw [← hw3]; exact (GS.of (g_X4_empty _ _ _ _) hGS)
  have hg9 := hGS fl k
  refine lv_aload_n hx hb dX8_goBack_32 rfl (lv_at hl 0 rfl) ?_
  refine lv_iconst (v := 0) hx hb dX8_goBack_33 (by decide) ?_
  refine t_put (D := D) (ci := 7) (v := .int 0) (ty := .boolean) (C := RX8) (T := TX8) (N := 12) hx hb hts iX8 tyX8 tyX8_ok nmX8 hown hK hW hS 2 fl k (dm2 (by omega) (by omega)) rfl rfl 11 (by decide) (hts _ wq1127) (fun _ h9 => h9) rfl (by decide +kernel) rfl rfl (Nat.le_of_ble_eq_true rfl) (fun j9 => if j9 = 11 then 0 else w3.1 2 fl k j9) w3.2.1 rfl (fun _ _ _ => rfl) (zbit (fun j9 h9 => hW.bit _ _ _ j9 h9) (fun _ => (by decide))) dX8_goBack_34 (fun H locs hW hS => ?_)
  obtain ⟨w4, hw4, hW, hB_w4⟩ : ∃ ww : TW, zset w3 2 fl k 11 0 = ww ∧ WT D yc e0 A S Z ww.1 ww.2.1 ww.2.2 H ∧ ZB Z Tc Ts ww := ⟨_, rfl, hW, hB_w3⟩
  have hGS : GS w4.2.1 := by rw [← hw4]; exact hGS
  have hg9 := hGS fl k
  exact tx_v hx hb hr hlk hS hW (zlet_e hw1 (zlet_e hw2 (zlet_e hw3 (zlet_e hw4 rfl)))) dX8_goBack_37
def w_X8_become (S : TS) (w : TW) (fl : Nat) (k : Nat) (fl2 : Nat) : TW := zlet (w_X9_become S w fl (3 * k) fl2 (3 * k)) (fun w1 => zlet (w_X4_become S w1 fl k fl2) (fun w2 => zlet (zset w2 2 fl k 10 (w2.1 2 fl2 k 10)) (fun w3 => zlet (zset w3 2 fl k 11 (w3.1 2 fl2 k 11)) (fun w4 => w4))))
theorem m_X8_become (S : TS) (w : TW) (fl : Nat) (k : Nat) (fl2 : Nat) : zle w (w_X8_become S w fl k fl2) := by
  unfold w_X8_become
  exact (zP_let (P := (zle (w))) (zle (w)) (zle.tr zle.rf (m_X9_become _ _ _ _ _ _)) (fun w1 h8_ => (zP_let (P := (zle (w))) (zle (w)) (zle.tr h8_ (m_X4_become _ _ _ _ _)) (fun w2 h8__ => (zP_let (P := (zle (w))) (zle (w)) (zle.to h8__ rfl) (fun w3 h8___ => (zP_let (P := (zle (w))) (zle (w)) (zle.to h8___ rfl) (fun w4 h8____ => h8____))))))))
theorem g_X8_become (S : TS) (w : TW) (fl : Nat) (k : Nat) (fl2 : Nat) : (w_X8_become S w fl k fl2).2.1 = w.2.1 := by
  unfold w_X8_become
  exact (zP_let (P := (fun (b : TW) => b.2.1 = w.2.1)) (fun (b : TW) => b.2.1 = w.2.1) ((g_X9_become _ _ _ _ _ _).trans rfl) (fun w1 h8_ => (zP_let (P := (fun (b : TW) => b.2.1 = w.2.1)) (fun (b : TW) => b.2.1 = w.2.1) ((g_X4_become _ _ _ _ _).trans h8_) (fun w2 h8__ => (zP_let (P := (fun (b : TW) => b.2.1 = w.2.1)) (fun (b : TW) => b.2.1 = w.2.1) h8__ (fun w3 h8___ => (zP_let (P := (fun (b : TW) => b.2.1 = w.2.1)) (fun (b : TW) => b.2.1 = w.2.1) h8___ (fun w4 h8____ => h8____))))))))
set_option maxHeartbeats 4000000 in
set_option maxRecDepth 100000 in
theorem k_X8_become (l : Launch) (D : va_G) (yc : Nat → ClassId) (e0 : Nat) (A : Nat → Prop) (S : TS) (Z : Nat × Nat) (Tc Ts : Nat) (w : TW) (cN zN : Nat) (fl : Nat) (k : Nat) (fl2 : Nat) (hf : fl < 2) (hk : k < zn S) (hf2 : fl2 < 2) (hne3 : ¬ fl2 = fl) (hB : ZB Z Tc Ts (w_X8_become S w fl k fl2)) : Met l yX8_become (ws_ yX8_become cX8_become 2 none) { frames := 5, cells := Tc - cN, slots := Ts - zN, locals := 111 } (PM D yc e0 A S Z w cN zN [.ref (zg S 2 fl k), .ref (zg S 2 fl2 k)]) (tQv D yc e0 A S Z (w_X8_become S w fl k fl2)) (Tc - cN) (Ts - zN) A := by
  have hB0 : ZB Z Tc Ts w := hB.mono (m_X8_become _ _ _ _ _)
  refine tk_W hB0 (by decide) (Nat.le_of_ble_eq_true rfl) ?_
  intro p e s m args below meth c ls H locs hx hb hml hr hlk hown hts hW hS hA hC hl
  have hK := hC.1
  have hN := hC.2.1
  have hn12 := hW.n12
  skip
  have hl : lv_has ls 2 [(0, .ref (zg S 2 fl k)), (1, .ref (zg S 2 fl2 k))] := hl
  refine lv_aload_n hx hb dX8_become_0 rfl (lv_at hl 0 rfl) ?_
  refine t_get (D := D) (ci := 7) (v := .ref (zg S 0 fl (3 * k))) (C := RX8) (T := TX8) (N := 12) hx hb hts iX8 hown hK hW 2 fl k (dm2 (by omega) (by omega)) rfl rfl 7 (by decide) (hts _ wq1118) (fun _ h9 => h9) rfl dX8_become_1 ?_
  refine lv_aload_n hx hb dX8_become_4 rfl (lv_at hl 1 rfl) ?_
  refine t_get (D := D) (ci := 7) (v := .ref (zg S 0 fl2 (3 * k))) (C := RX8) (T := TX8) (N := 12) hx hb hts iX8 hown hK hW 2 fl2 k (dm2 (by omega) (by omega)) rfl rfl 7 (by decide) (hts _ wq1118) (fun _ h9 => h9) rfl dX8_become_5 ?_
  have hB_w1 : ZB Z Tc Ts (w_X9_become S w fl (3 * k) fl2 (3 * k)) := hB.mono (zP_let (P := (zle (w_X9_become S w fl (3 * k) fl2 (3 * k)))) (zle (w_X9_become S w fl (3 * k) fl2 (3 * k))) zle.rf (fun w1 h8 => (zP_let (P := (zle (w_X9_become S w fl (3 * k) fl2 (3 * k)))) (zle (w_X9_become S w fl (3 * k) fl2 (3 * k))) (zle.tr h8 (m_X4_become _ _ _ _ _)) (fun w2 h8_ => (zP_let (P := (zle (w_X9_become S w fl (3 * k) fl2 (3 * k)))) (zle (w_X9_become S w fl (3 * k) fl2 (3 * k))) (zle.to h8_ rfl) (fun w3 h8__ => (zP_let (P := (zle (w_X9_become S w fl (3 * k) fl2 (3 * k)))) (zle (w_X9_become S w fl (3 * k) fl2 (3 * k))) (zle.to h8__ rfl) (fun w4 h8___ => h8___))))))))
  refine tw_v hB_w1 ⟨rfl, rfl⟩ (hB0.top hW) (fun hle9 => va_runV (As := [.ref (zg S 0 fl2 (3 * k))]) (rest := []) ⟨hx, hb, hml, hown, hts⟩ (k_X9_become l D yc e0 A S Z Tc Ts w H.size (zh H) fl (3 * k) fl2 (3 * k) (by first | assumption | omega | decide) (by first | assumption | omega | decide) (by first | assumption | omega | decide) (by first | assumption | omega | decide) (by first | assumption | omega | decide) hB_w1) (cwV 1 hts (lw_V wq613 wq362 wq363 wq22 wq364) rfl rfl rfl (by decide +kernel) ⟨(Nat.le_of_ble_eq_true rfl), (Nat.le_of_ble_eq_true rfl)⟩) (tq_V hC hW hS hA 0 fl (3 * k) (dm0 (by omega) (by omega)) rfl rfl) rfl rfl hl.1 rfl (lv_room (Nat.le_of_ble_eq_true rfl)) dX8_become_8 hle9) hS (fun H locs hW hS => ?_)
  obtain ⟨w1, hw1, hW, hB_w1⟩ : ∃ ww : TW, w_X9_become S w fl (3 * k) fl2 (3 * k) = ww ∧ WT D yc e0 A S Z ww.1 ww.2.1 ww.2.2 H ∧ ZB Z Tc Ts ww := ⟨_, rfl, hW, hB_w1⟩
  refine lv_aload_n hx hb dX8_become_11 rfl (lv_at hl 0 rfl) ?_
  refine t_get (D := D) (ci := 7) (v := .ref (zg S 3 fl k)) (C := RX8) (T := TX8) (N := 12) hx hb hts iX8 hown hK hW 2 fl k (dm2 (by omega) (by omega)) rfl rfl 5 (by decide) (hts _ wq1113) (fun _ h9 => h9) rfl dX8_become_12 ?_
  refine lv_aload_n hx hb dX8_become_15 rfl (lv_at hl 1 rfl) ?_
  refine t_get (D := D) (ci := 7) (v := .ref (zg S 3 fl2 k)) (C := RX8) (T := TX8) (N := 12) hx hb hts iX8 hown hK hW 2 fl2 k (dm2 (by omega) (by omega)) rfl rfl 5 (by decide) (hts _ wq1113) (fun _ h9 => h9) rfl dX8_become_16 ?_
  have hB_w2 : ZB Z Tc Ts (w_X4_become S w1 fl k fl2) := hB.mono (zP_l (P := (zle (w_X4_become S w1 fl k fl2))) hw1 (zP_let (P := (zle (w_X4_become S w1 fl k fl2))) (zle (w_X4_become S w1 fl k fl2)) zle.rf (fun w2 h8 => (zP_let (P := (zle (w_X4_become S w1 fl k fl2))) (zle (w_X4_become S w1 fl k fl2)) (zle.to h8 rfl) (fun w3 h8_ => (zP_let (P := (zle (w_X4_become S w1 fl k fl2))) (zle (w_X4_become S w1 fl k fl2)) (zle.to h8_ rfl) (fun w4 h8__ => h8__)))))))
  refine tw_v hB_w2 ⟨rfl, rfl⟩ (hB_w1.top hW) (fun hle9 => va_runV (As := [.ref (zg S 3 fl2 k)]) (rest := []) ⟨hx, hb, hml, hown, hts⟩ (k_X4_become l D yc e0 A S Z Tc Ts w1 H.size (zh H) fl k fl2 (by first | assumption | omega | decide) (by first | assumption | omega | decide) (by first | assumption | omega | decide) (by first | assumption | omega | decide) hB_w2) (cwV 1 hts (lw_V wq699 wq700 wq701 wq21 wq702) rfl rfl rfl (by decide +kernel) ⟨(Nat.le_of_ble_eq_true rfl), (Nat.le_of_ble_eq_true rfl)⟩) (tq_V hC hW hS hA 3 fl k (dm3 (by omega) (by omega)) rfl rfl) rfl rfl hl.1 rfl (lv_room (Nat.le_of_ble_eq_true rfl)) dX8_become_19 hle9) hS (fun H locs hW hS => ?_)
  obtain ⟨w2, hw2, hW, hB_w2⟩ : ∃ ww : TW, w_X4_become S w1 fl k fl2 = ww ∧ WT D yc e0 A S Z ww.1 ww.2.1 ww.2.2 H ∧ ZB Z Tc Ts ww := ⟨_, rfl, hW, hB_w2⟩
  refine lv_aload_n hx hb dX8_become_22 rfl (lv_at hl 0 rfl) ?_
  refine lv_aload_n hx hb dX8_become_23 rfl (lv_at hl 1 rfl) ?_
  refine t_get (D := D) (ci := 7) (v := .int (w2.1 2 fl2 k 10)) (C := RX8) (T := TX8) (N := 12) hx hb hts iX8 hown hK hW 2 fl2 k (dm2 (by omega) (by omega)) rfl rfl 10 (by decide) (hts _ wq1125) (fun _ h9 => h9) rfl dX8_become_24 ?_
  refine t_put (D := D) (ci := 7) (v := .int (w2.1 2 fl2 k 10)) (ty := .boolean) (C := RX8) (T := TX8) (N := 12) hx hb hts iX8 tyX8 tyX8_ok nmX8 hown hK hW hS 2 fl k (dm2 (by omega) (by omega)) rfl rfl 10 (by decide) (hts _ wq1125) (fun _ h9 => h9) rfl (by decide +kernel) (zk_nb (hW.bit _ _ _ _ rfl)) (zk_fb (hW.bit _ _ _ _ rfl)) (Nat.le_of_ble_eq_true rfl) (fun j9 => if j9 = 10 then w2.1 2 fl2 k 10 else w2.1 2 fl k j9) w2.2.1 rfl (fun _ _ _ => rfl) (zbit (fun j9 h9 => hW.bit _ _ _ j9 h9) (fun _ => (hW.bit _ _ _ _ rfl))) dX8_become_27 (fun H locs hW hS => ?_)
  obtain ⟨w3, hw3, hW, hB_w3⟩ : ∃ ww : TW, zset w2 2 fl k 10 (w2.1 2 fl2 k 10) = ww ∧ WT D yc e0 A S Z ww.1 ww.2.1 ww.2.2 H ∧ ZB Z Tc Ts ww := ⟨_, rfl, hW, hB_w2⟩
  refine lv_aload_n hx hb dX8_become_30 rfl (lv_at hl 0 rfl) ?_
  refine lv_aload_n hx hb dX8_become_31 rfl (lv_at hl 1 rfl) ?_
  refine t_get (D := D) (ci := 7) (v := .int (w3.1 2 fl2 k 11)) (C := RX8) (T := TX8) (N := 12) hx hb hts iX8 hown hK hW 2 fl2 k (dm2 (by omega) (by omega)) rfl rfl 11 (by decide) (hts _ wq1127) (fun _ h9 => h9) rfl dX8_become_32 ?_
  refine t_put (D := D) (ci := 7) (v := .int (w3.1 2 fl2 k 11)) (ty := .boolean) (C := RX8) (T := TX8) (N := 12) hx hb hts iX8 tyX8 tyX8_ok nmX8 hown hK hW hS 2 fl k (dm2 (by omega) (by omega)) rfl rfl 11 (by decide) (hts _ wq1127) (fun _ h9 => h9) rfl (by decide +kernel) (zk_nb (hW.bit _ _ _ _ rfl)) (zk_fb (hW.bit _ _ _ _ rfl)) (Nat.le_of_ble_eq_true rfl) (fun j9 => if j9 = 11 then w3.1 2 fl2 k 11 else w3.1 2 fl k j9) w3.2.1 rfl (fun _ _ _ => rfl) (zbit (fun j9 h9 => hW.bit _ _ _ j9 h9) (fun _ => (hW.bit _ _ _ _ rfl))) dX8_become_35 (fun H locs hW hS => ?_)
  obtain ⟨w4, hw4, hW, hB_w4⟩ : ∃ ww : TW, zset w3 2 fl k 11 (w3.1 2 fl2 k 11) = ww ∧ WT D yc e0 A S Z ww.1 ww.2.1 ww.2.2 H ∧ ZB Z Tc Ts ww := ⟨_, rfl, hW, hB_w3⟩
  exact tx_v hx hb hr hlk hS hW (zlet_e hw1 (zlet_e hw2 (zlet_e hw3 (zlet_e hw4 rfl)))) dX8_become_38
def r_X2_completeCheckpoint (S : TS) (fl : Nat) : Nat → Nat → TW → TW
  | 0, i, w => w
  | n + 1, i, w => zlet (w_X8_adoptSaved S w fl i) (fun w1 => r_X2_completeCheckpoint S fl n (i + 1) w1)
theorem er_X2_completeCheckpoint (S : TS) (fl : Nat) (n : Nat) (i : Nat) (w : TW) : r_X2_completeCheckpoint S fl (n + 1) i w = zlet (w_X8_adoptSaved S w fl i) (fun w1 => r_X2_completeCheckpoint S fl n (i + 1) w1) := rfl
theorem mr_X2_completeCheckpoint (S : TS) (fl : Nat) : ∀ (n : Nat) (i : Nat) (w : TW), zle w ((r_X2_completeCheckpoint S fl n i w)) := by
  intro n
  induction n with
  | zero => intro i w; exact zle.rf
  | succ n ih =>
    intro i w
    rw [er_X2_completeCheckpoint]
    exact (zP_let (P := (zle (w))) (zle (w)) (zle.tr zle.rf (m_X8_adoptSaved _ _ _ _)) (fun w1 h8_ => (zle.tr h8_ (ih _ _))))
theorem gsr_X2_completeCheckpoint (S : TS) (fl : Nat) : ∀ (n : Nat) (i : Nat) (w : TW) (hGS : GS w.2.1), GS ((r_X2_completeCheckpoint S fl n i w)).2.1 := by
  intro n
  induction n with
  | zero => intro i w hGS; exact hGS
  | succ n ih =>
    intro i w hGS
    rw [er_X2_completeCheckpoint]
    exact (zP_let (P := (fun (b : TW) => GS b.2.1)) (fun (b : TW) => GS b.2.1) (gs_X8_adoptSaved _ _ _ _ hGS) (fun w1 h8_ => (ih _ _ h8_)))
set_option maxHeartbeats 4000000 in
set_option maxRecDepth 100000 in
theorem lp_X2_completeCheckpoint {p : Program} {e : Env} {s : State} {m : MethodId} {args : Array Value} {below : List Frame} {meth : Method} {c : Code} {l : Launch} {D : va_G} {yc : Nat → ClassId} {e0 : Nat} {A : Nat → Prop} {S : TS} {Z : Nat × Nat} {Tc Ts : Nat} (fl : Nat) (hf : fl < 2) (hx : p.tables.exec = Jvm.exec) (hb : c.code = cX2_completeCheckpoint) (hml : c.maxLocals = 2) (hr : meth.sig.returnType = none) (hlk : meth.locks = false) (hown : s.vm.findClass yX2_completeCheckpoint.cls = some m.cls) (hts : ∀ w ∈ lw_all, w.before args s = true) (hA : ∀ a, s.heap.size ≤ a → A a) (hC : CX D yc e0 A s) {Q : State → Prop} : ∀ (n : Nat) (i : Nat) (w : TW) (H : Heap) (locs : List Loc) (ls : Array Slot), i + n = zn S → ZB Z Tc Ts ((r_X2_completeCheckpoint S fl n i w)) → WT D yc e0 A S Z w.1 w.2.1 w.2.2 H → va_S A s.heap H locs → lv_has ls 2 [(1, .int (nI i)), (0, .ref (zg S 6 fl 0))] → (∀ (wr : TW) (H : Heap) (locs : List Loc) (ls : Array Slot), r_X2_completeCheckpoint S fl n i w = wr → WT D yc e0 A S Z wr.1 wr.2.1 wr.2.2 H → va_S A s.heap H locs → lv_has ls 2 [(0, .ref (zg S 6 fl 0))] → W p l e { frames := 3, cells := Tc - s.heap.size, slots := Ts - zh s.heap, locals := 64 } s m args below meth c H locs (Tc - s.heap.size) (Ts - zh s.heap) Q (F0 m 33 ls [])) → W p l e { frames := 3, cells := Tc - s.heap.size, slots := Ts - zh s.heap, locals := 64 } s m args below meth c H locs (Tc - s.heap.size) (Ts - zh s.heap) Q (F0 m 2 ls []) := by
  have hK := hC.1
  have hN := hC.2.1
  intro n
  induction n with
  | zero =>
    intro i w H locs ls hinv hB hW hS hl kk
    have hB0 : ZB Z Tc Ts w := hB
    have hn12 := hW.n12
    refine lv_iload_n hx hb dX2_completeCheckpoint_2 rfl (lv_at hl 0 rfl) ?_
    refine lv_aload_n hx hb dX2_completeCheckpoint_3 rfl (lv_at hl 1 rfl) ?_
    refine t_get (D := D) (ci := 2) (v := .ref (zl S 0 fl 0)) (C := RX2) (T := TX2) (N := 8) hx hb hts iX2 hown hK hW 6 fl 0 (dm6 (by omega)) rfl rfl 1 (by decide) (hts _ wq68) (fun _ h9 => h9) rfl dX2_completeCheckpoint_4 ?_
    refine zr_i (va_runV (As := []) (rest := [.int (nI i)]) ⟨hx, hb, hml, hown, hts⟩ (k_AL_size l D yc e0 A S Z w.1 w.2.1 w.2.2 0 fl 0 (dl0 (by omega))) (cwV 0 hts (lw_V wq119 wq120 wq121 wq5 wq122) rfl rfl rfl (by decide +kernel) ⟨(Nat.le_of_ble_eq_true rfl), (Nat.le_of_ble_eq_true rfl)⟩) (tp_L hC hW hS hA 0 fl 0 (dl0 (by omega))) rfl rfl hl.1 rfl (lv_room (Nat.le_of_ble_eq_true rfl)) dX2_completeCheckpoint_7 ⟨(Nat.le_refl _), (Nat.le_refl _)⟩) ?_
    refine zk_ti (y := nI (zn S)) rfl ?_
    refine lv_icmp_ge (tgt := 33) hx hb dX2_completeCheckpoint_10 (by decide) (fun _ => ?_) (fun h9 => absurd (nI_le (by omega) (by omega)) h9)
    exact kk w H locs _ rfl hW hS (lv_sub hl [1] rfl)
  | succ n ih =>
    intro i w H locs ls hinv hB hW hS hl kk
    rw [er_X2_completeCheckpoint] at hB
    have hB0 : ZB Z Tc Ts w := hB.mono (zP_let (P := (zle (w))) (zle (w)) (zle.tr zle.rf (m_X8_adoptSaved _ _ _ _)) (fun w1 h8_ => (zle.tr h8_ (mr_X2_completeCheckpoint _ _ _ _ _))))
    have hn12 := hW.n12
    refine lv_iload_n hx hb dX2_completeCheckpoint_2 rfl (lv_at hl 0 rfl) ?_
    refine lv_aload_n hx hb dX2_completeCheckpoint_3 rfl (lv_at hl 1 rfl) ?_
    refine t_get (D := D) (ci := 2) (v := .ref (zl S 0 fl 0)) (C := RX2) (T := TX2) (N := 8) hx hb hts iX2 hown hK hW 6 fl 0 (dm6 (by omega)) rfl rfl 1 (by decide) (hts _ wq68) (fun _ h9 => h9) rfl dX2_completeCheckpoint_4 ?_
    refine zr_i (va_runV (As := []) (rest := [.int (nI i)]) ⟨hx, hb, hml, hown, hts⟩ (k_AL_size l D yc e0 A S Z w.1 w.2.1 w.2.2 0 fl 0 (dl0 (by omega))) (cwV 0 hts (lw_V wq119 wq120 wq121 wq5 wq122) rfl rfl rfl (by decide +kernel) ⟨(Nat.le_of_ble_eq_true rfl), (Nat.le_of_ble_eq_true rfl)⟩) (tp_L hC hW hS hA 0 fl 0 (dl0 (by omega))) rfl rfl hl.1 rfl (lv_room (Nat.le_of_ble_eq_true rfl)) dX2_completeCheckpoint_7 ⟨(Nat.le_refl _), (Nat.le_refl _)⟩) ?_
    refine zk_ti (y := nI (zn S)) rfl ?_
    refine lv_icmp_ge (tgt := 33) hx hb dX2_completeCheckpoint_10 (by decide) (fun h9 => absurd h9 (nI_ge (by omega) (by omega))) (fun _ => ?_)
    refine lv_aload_n hx hb dX2_completeCheckpoint_13 rfl (lv_at hl 1 rfl) ?_
    refine t_get (D := D) (ci := 2) (v := .ref (zl S 0 fl 0)) (C := RX2) (T := TX2) (N := 8) hx hb hts iX2 hown hK hW 6 fl 0 (dm6 (by omega)) rfl rfl 1 (by decide) (hts _ wq68) (fun _ h9 => h9) rfl dX2_completeCheckpoint_14 ?_
    refine lv_iload_n hx hb dX2_completeCheckpoint_17 rfl (lv_at hl 0 rfl) ?_
    refine zr_q (va_runV (As := [.int (nI i)]) (rest := []) ⟨hx, hb, hml, hown, hts⟩ (k_AL_get l D yc e0 A S Z w.1 w.2.1 w.2.2 0 fl 0 i (dl0 (by omega)) (show i < zn S by omega)) (cwV 1 hts (lw_V wq227 wq228 wq229 wq5 wq230) rfl rfl rfl (by decide +kernel) ⟨(Nat.le_of_ble_eq_true rfl), (Nat.le_of_ble_eq_true rfl)⟩) (tp_L hC hW hS hA 0 fl 0 (dl0 (by omega))) rfl rfl hl.1 rfl (lv_room (Nat.le_of_ble_eq_true rfl)) dX2_completeCheckpoint_18 ⟨(Nat.le_refl _), (Nat.le_refl _)⟩) ?_
    refine zk_tv (y := .ref (zg S 2 fl i)) rfl ?_
    refine va_castS hx hb hown (hts _ wq241) (hK.1 7 _ rfl).2 (t_cell hK hW 2 fl i (dm2 (by omega) (by omega)) rfl rfl) dX2_completeCheckpoint_21 ?_
    have hB_w1 : ZB Z Tc Ts (w_X8_adoptSaved S w fl i) := hB.mono (zP_let (P := (zle (w_X8_adoptSaved S w fl i))) (zle (w_X8_adoptSaved S w fl i)) zle.rf (fun w1 h8 => (zle.tr h8 (mr_X2_completeCheckpoint _ _ _ _ _))))
    refine tw_v hB_w1 ⟨rfl, rfl⟩ (hB0.top hW) (fun hle9 => va_runV (As := []) (rest := []) ⟨hx, hb, hml, hown, hts⟩ (k_X8_adoptSaved l D yc e0 A S Z Tc Ts w H.size (zh H) fl i (by first | assumption | omega | decide) (by first | assumption | omega | decide) hB_w1) (cwV 0 hts (lw_V wq382 wq383 wq384 wq16 wq385) rfl rfl rfl (by decide +kernel) ⟨(Nat.le_of_ble_eq_true rfl), (Nat.le_of_ble_eq_true rfl)⟩) (tq_V hC hW hS hA 2 fl i (dm2 (by omega) (by omega)) rfl rfl) rfl rfl hl.1 rfl (lv_room (Nat.le_of_ble_eq_true rfl)) dX2_completeCheckpoint_24 hle9) hS (fun H locs hW hS => ?_)
    obtain ⟨w1, hw1, hW, hB_w1⟩ : ∃ ww : TW, w_X8_adoptSaved S w fl i = ww ∧ WT D yc e0 A S Z ww.1 ww.2.1 ww.2.2 H ∧ ZB Z Tc Ts ww := ⟨_, rfl, hW, hB_w1⟩
    refine lv_iinc (v := nI (i + 1)) (lv' := [(1, .int (nI (i + 1))), (0, .ref (zg S 6 fl 0))]) hx hb dX2_completeCheckpoint_27 hl (k := 0) rfl (nI_1 _) (by decide) rfl (fun ls hl => ?_)
    refine lv_goto (tgt := 2) hx hb dX2_completeCheckpoint_30 (by decide) ?_
    have e9 : r_X2_completeCheckpoint S fl (n + 1) i w = r_X2_completeCheckpoint S fl n (i + 1) w1 := (er_X2_completeCheckpoint _ _ _ _ _).trans (zlet_e hw1 rfl)
    have e8 : ZB Z Tc Ts ((r_X2_completeCheckpoint S fl n (i + 1) w1)) := by rw [← e9, er_X2_completeCheckpoint]; exact hB
    exact ih (i + 1) w1 H locs _ (by omega) e8 hW hS (lv_sub hl [0, 1] rfl) (fun wr H locs ls he hW hS hl => kk wr H locs ls (e9.trans he) hW hS hl)
def w_X2_completeCheckpoint (S : TS) (w : TW) (fl : Nat) : TW := zlet (r_X2_completeCheckpoint S fl (zn S) 0 w) (fun w1 => zlet (zset w1 6 fl 0 6 (w1.1 6 fl 0 5)) (fun w2 => zlet (zset w2 6 fl 0 5 0) (fun w3 => w3)))
theorem m_X2_completeCheckpoint (S : TS) (w : TW) (fl : Nat) : zle w (w_X2_completeCheckpoint S w fl) := by
  unfold w_X2_completeCheckpoint
  exact (zP_let (P := (zle (w))) (zle (w)) (zle.tr zle.rf (mr_X2_completeCheckpoint _ _ _ _ _)) (fun w1 h8_ => (zP_let (P := (zle (w))) (zle (w)) (zle.to h8_ rfl) (fun w2 h8__ => (zP_let (P := (zle (w))) (zle (w)) (zle.to h8__ rfl) (fun w3 h8___ => h8___))))))
theorem gs_X2_completeCheckpoint (S : TS) (w : TW) (fl : Nat) (hGS : GS w.2.1) : GS (w_X2_completeCheckpoint S w fl).2.1 := by
  unfold w_X2_completeCheckpoint
  exact (zP_let (P := (fun (b : TW) => GS b.2.1)) (fun (b : TW) => GS b.2.1) (gsr_X2_completeCheckpoint _ _ _ _ _ hGS) (fun w1 h8_ => (zP_let (P := (fun (b : TW) => GS b.2.1)) (fun (b : TW) => GS b.2.1) h8_ (fun w2 h8__ => (zP_let (P := (fun (b : TW) => GS b.2.1)) (fun (b : TW) => GS b.2.1) h8__ (fun w3 h8___ => h8___))))))
set_option maxHeartbeats 4000000 in
set_option maxRecDepth 100000 in
theorem k_X2_completeCheckpoint (l : Launch) (D : va_G) (yc : Nat → ClassId) (e0 : Nat) (A : Nat → Prop) (S : TS) (Z : Nat × Nat) (Tc Ts : Nat) (w : TW) (cN zN : Nat) (fl : Nat) (hf : fl < 2) (hB : ZB Z Tc Ts (w_X2_completeCheckpoint S w fl)) : Met l yX2_completeCheckpoint (ws_ yX2_completeCheckpoint cX2_completeCheckpoint 2 none) { frames := 3, cells := Tc - cN, slots := Ts - zN, locals := 64 } (PM D yc e0 A S Z w cN zN [.ref (zg S 6 fl 0)]) (tQv D yc e0 A S Z (w_X2_completeCheckpoint S w fl)) (Tc - cN) (Ts - zN) A := by
  have hB0 : ZB Z Tc Ts w := hB.mono (m_X2_completeCheckpoint _ _ _)
  refine tk_W hB0 (by decide) (Nat.le_of_ble_eq_true rfl) ?_
  intro p e s m args below meth c ls H locs hx hb hml hr hlk hown hts hW hS hA hC hl
  have hK := hC.1
  have hN := hC.2.1
  have hn12 := hW.n12
  skip
  have hl : lv_has ls 2 [(0, .ref (zg S 6 fl 0))] := hl
  refine lv_iconst (v := 0) hx hb dX2_completeCheckpoint_0 (by decide) ?_
  refine lv_istore_n (lv' := [(1, .int 0), (0, .ref (zg S 6 fl 0))]) hx hb dX2_completeCheckpoint_1 rfl hl (by decide) rfl (fun ls hl => ?_)
  have hB_w1 : ZB Z Tc Ts (r_X2_completeCheckpoint S fl (zn S) 0 w) := hB.mono (zP_let (P := (zle (r_X2_completeCheckpoint S fl (zn S) 0 w))) (zle (r_X2_completeCheckpoint S fl (zn S) 0 w)) zle.rf (fun w1 h8 => (zP_let (P := (zle (r_X2_completeCheckpoint S fl (zn S) 0 w))) (zle (r_X2_completeCheckpoint S fl (zn S) 0 w)) (zle.to h8 rfl) (fun w2 h8_ => (zP_let (P := (zle (r_X2_completeCheckpoint S fl (zn S) 0 w))) (zle (r_X2_completeCheckpoint S fl (zn S) 0 w)) (zle.to h8_ rfl) (fun w3 h8__ => h8__))))))
  refine lp_X2_completeCheckpoint fl hf hx hb hml hr hlk hown hts hA hC (zn S) 0 w H locs _ (Nat.zero_add _) hB_w1 hW hS (lv_sub hl [0, 1] rfl) (fun w1 H locs ls hw1 hW hS hl => ?_)
  have hB_w1 : ZB Z Tc Ts w1 := by rw [← hw1]; exact hB_w1
  refine lv_aload_n hx hb dX2_completeCheckpoint_33 rfl (lv_at hl 0 rfl) ?_
  refine lv_aload_n hx hb dX2_completeCheckpoint_34 rfl (lv_at hl 0 rfl) ?_
  refine t_get (D := D) (ci := 2) (v := .int (w1.1 6 fl 0 5)) (C := RX2) (T := TX2) (N := 8) hx hb hts iX2 hown hK hW 6 fl 0 (dm6 (by omega)) rfl rfl 5 (by decide) (hts _ wq73) (fun _ h9 => h9) rfl dX2_completeCheckpoint_35 ?_
  refine t_put (D := D) (ci := 2) (v := .int (w1.1 6 fl 0 5)) (ty := .int) (C := RX2) (T := TX2) (N := 8) hx hb hts iX2 tyX2 tyX2_ok nmX2 hown hK hW hS 6 fl 0 (dm6 (by omega)) rfl rfl 6 (by decide) (hts _ wq75) (fun _ h9 => h9) rfl (by decide +kernel) rfl rfl (Nat.le_of_ble_eq_true rfl) (fun j9 => if j9 = 6 then w1.1 6 fl 0 5 else w1.1 6 fl 0 j9) w1.2.1 rfl (fun _ _ _ => rfl) (zbit (fun j9 h9 => hW.bit _ _ _ j9 h9) (fun h9 => absurd h9 (by decide))) dX2_completeCheckpoint_38 (fun H locs hW hS => ?_)
  obtain ⟨w2, hw2, hW, hB_w2⟩ : ∃ ww : TW, zset w1 6 fl 0 6 (w1.1 6 fl 0 5) = ww ∧ WT D yc e0 A S Z ww.1 ww.2.1 ww.2.2 H ∧ ZB Z Tc Ts ww := ⟨_, rfl, hW, hB_w1⟩
  refine lv_aload_n hx hb dX2_completeCheckpoint_41 rfl (lv_at hl 0 rfl) ?_
  refine lv_iconst (v := 0) hx hb dX2_completeCheckpoint_42 (by decide) ?_
  refine t_put (D := D) (ci := 2) (v := .int 0) (ty := .int) (C := RX2) (T := TX2) (N := 8) hx hb hts iX2 tyX2 tyX2_ok nmX2 hown hK hW hS 6 fl 0 (dm6 (by omega)) rfl rfl 5 (by decide) (hts _ wq73) (fun _ h9 => h9) rfl (by decide +kernel) rfl rfl (Nat.le_of_ble_eq_true rfl) (fun j9 => if j9 = 5 then 0 else w2.1 6 fl 0 j9) w2.2.1 rfl (fun _ _ _ => rfl) (zbit (fun j9 h9 => hW.bit _ _ _ j9 h9) (fun h9 => absurd h9 (by decide))) dX2_completeCheckpoint_43 (fun H locs hW hS => ?_)
  obtain ⟨w3, hw3, hW, hB_w3⟩ : ∃ ww : TW, zset w2 6 fl 0 5 0 = ww ∧ WT D yc e0 A S Z ww.1 ww.2.1 ww.2.2 H ∧ ZB Z Tc Ts ww := ⟨_, rfl, hW, hB_w2⟩
  exact tx_v hx hb hr hlk hS hW (zlet_e hw1 (zlet_e hw2 (zlet_e hw3 rfl))) dX2_completeCheckpoint_46
def w_X2_passBarrier (S : TS) (w : TW) (fl : Nat) (k : Nat) : TW := zlet (zset w 2 fl k 11 0) (fun w1 => zlet (w_X8_emit S w1 fl k v_X3_barrier) (fun w2 => if (nI fl) = 0 then zlet (w_X9_become S w2 fl (3 * k + (w2.2.1 fl k).2) fl (3 * k)) (fun w4 => zlet (zset w4 6 fl 0 7 ((w4.1 6 fl 0 7) - 1)) (fun w5 => if (w5.1 6 fl 0 7) = 0 then zlet (w_X2_completeCheckpoint S w5 fl) (fun w7 => w7) else w5)) else w2))
theorem m_X2_passBarrier (S : TS) (w : TW) (fl : Nat) (k : Nat) : zle w (w_X2_passBarrier S w fl k) := by
  unfold w_X2_passBarrier
  exact (zP_let (P := (zle (w))) (zle (w)) (zle.to zle.rf rfl) (fun w1 h8_ => (zP_let (P := (zle (w))) (zle (w)) (zle.tr h8_ (m_X8_emit _ _ _ _ _)) (fun w2 h8__ => (zP_if (P := (zle (w))) (zP_let (P := (zle (w))) (zle (w)) (zle.tr h8__ (m_X9_become _ _ _ _ _ _)) (fun w4 h8___ => (zP_let (P := (zle (w))) (zle (w)) (zle.to h8___ rfl) (fun w5 h8____ => (zP_if (P := (zle (w))) (zP_let (P := (zle (w))) (zle (w)) (zle.tr h8____ (m_X2_completeCheckpoint _ _ _)) (fun w7 h8_____ => h8_____)) h8____))))) h8__)))))
theorem gs_X2_passBarrier (S : TS) (w : TW) (fl : Nat) (k : Nat) (hGS : GS w.2.1) : GS (w_X2_passBarrier S w fl k).2.1 := by
  unfold w_X2_passBarrier
  exact (zP_let (P := (fun (b : TW) => GS b.2.1)) (fun (b : TW) => GS b.2.1) hGS (fun w1 h8_ => (zP_let (P := (fun (b : TW) => GS b.2.1)) (fun (b : TW) => GS b.2.1) (GS.of (g_X8_emit _ _ _ _ _) h8_) (fun w2 h8__ => (zP_ifd (P := (fun (b : TW) => GS b.2.1)) (fun hq0 => (zP_let (P := (fun (b : TW) => GS b.2.1)) (fun (b : TW) => GS b.2.1) (GS.of (g_X9_become _ _ _ _ _ _) h8__) (fun w4 h8___ => (zP_let (P := (fun (b : TW) => GS b.2.1)) (fun (b : TW) => GS b.2.1) h8___ (fun w5 h8____ => (zP_ifd (P := (fun (b : TW) => GS b.2.1)) (fun hq1 => (zP_let (P := (fun (b : TW) => GS b.2.1)) (fun (b : TW) => GS b.2.1) (gs_X2_completeCheckpoint _ _ _ h8____) (fun w7 h8_____ => h8_____))) (fun hq1 => h8____))))))) (fun hq0 => h8__))))))
set_option maxHeartbeats 4000000 in
set_option maxRecDepth 100000 in
theorem k_X2_passBarrier (l : Launch) (D : va_G) (yc : Nat → ClassId) (e0 : Nat) (A : Nat → Prop) (S : TS) (Z : Nat × Nat) (Tc Ts : Nat) (w : TW) (cN zN : Nat) (fl : Nat) (k : Nat) (hf : fl < 2) (hk : k < zn S) (hGS : GS w.2.1) (hB : ZB Z Tc Ts (w_X2_passBarrier S w fl k)) : Met l yX2_passBarrier (ws_ yX2_passBarrier cX2_passBarrier 2 none) { frames := 4, cells := Tc - cN, slots := Ts - zN, locals := 108 } (PM D yc e0 A S Z w cN zN [.ref (zg S 6 fl 0), .ref (zg S 2 fl k)]) (tQv D yc e0 A S Z (w_X2_passBarrier S w fl k)) (Tc - cN) (Ts - zN) A := by
  have hB0 : ZB Z Tc Ts w := hB.mono (m_X2_passBarrier _ _ _ _)
  refine tk_W hB0 (by decide) (Nat.le_of_ble_eq_true rfl) ?_
  intro p e s m args below meth c ls H locs hx hb hml hr hlk hown hts hW hS hA hC hl
  have hK := hC.1
  have hN := hC.2.1
  have hn12 := hW.n12
  skip
  have hg9 := hGS fl k
  have hl : lv_has ls 2 [(0, .ref (zg S 6 fl 0)), (1, .ref (zg S 2 fl k))] := hl
  refine lv_aload_n hx hb dX2_passBarrier_0 rfl (lv_at hl 1 rfl) ?_
  refine lv_iconst (v := 0) hx hb dX2_passBarrier_1 (by decide) ?_
  refine t_putN (D := D) (ci := 7) (v := .int 0) (ty := .boolean) (C := RX8) (T := TX8) (N := 12) hx hb hts iX8 tyX8 tyX8_ok nmX8 hown hK hW hS 2 fl k (dm2 (by omega) (by omega)) rfl rfl 11 (by decide) (zk_tab rfl (hN _ wr1128 rfl)) (fun _ h9 => h9) rfl (by decide +kernel) rfl rfl (Nat.le_of_ble_eq_true rfl) (fun j9 => if j9 = 11 then 0 else w.1 2 fl k j9) w.2.1 rfl (fun _ _ _ => rfl) (zbit (fun j9 h9 => hW.bit _ _ _ j9 h9) (fun _ => (by decide))) dX2_passBarrier_2 (fun H locs hW hS => ?_)
  obtain ⟨w1, hw1, hW, hB_w1⟩ : ∃ ww : TW, zset w 2 fl k 11 0 = ww ∧ WT D yc e0 A S Z ww.1 ww.2.1 ww.2.2 H ∧ ZB Z Tc Ts ww := ⟨_, rfl, hW, hB0⟩
  have hGS : GS w1.2.1 := by rw [← hw1]; exact hGS
  have hg9 := hGS fl k
  refine lv_aload_n hx hb dX2_passBarrier_5 rfl (lv_at hl 1 rfl) ?_
  refine zr_l (va_runS (As := []) (rest := [.ref (zg S 2 fl k)]) ⟨hx, hb, hml, hown, hts⟩ (k_X3_barrier l) (va_cwS 0 hts (lw_S wq332 wq333 wq25 wq334) rfl rfl rfl (by decide +kernel) ⟨(Nat.le_of_ble_eq_true rfl), (Nat.le_of_ble_eq_true rfl)⟩) tp_N rfl rfl hl.1 rfl (lv_room (Nat.le_of_ble_eq_true rfl)) dX2_passBarrier_6 ⟨(Nat.le_refl _), (Nat.le_refl _)⟩) ?_
  have hB_w2 : ZB Z Tc Ts (w_X8_emit S w1 fl k v_X3_barrier) := hB.mono (zP_l (P := (zle (w_X8_emit S w1 fl k v_X3_barrier))) hw1 (zP_let (P := (zle (w_X8_emit S w1 fl k v_X3_barrier))) (zle (w_X8_emit S w1 fl k v_X3_barrier)) zle.rf (fun w2 h8 => (zP_if (P := (zle (w_X8_emit S w1 fl k v_X3_barrier))) (zP_let (P := (zle (w_X8_emit S w1 fl k v_X3_barrier))) (zle (w_X8_emit S w1 fl k v_X3_barrier)) (zle.tr h8 (m_X9_become _ _ _ _ _ _)) (fun w4 h8_ => (zP_let (P := (zle (w_X8_emit S w1 fl k v_X3_barrier))) (zle (w_X8_emit S w1 fl k v_X3_barrier)) (zle.to h8_ rfl) (fun w5 h8__ => (zP_if (P := (zle (w_X8_emit S w1 fl k v_X3_barrier))) (zP_let (P := (zle (w_X8_emit S w1 fl k v_X3_barrier))) (zle (w_X8_emit S w1 fl k v_X3_barrier)) (zle.tr h8__ (m_X2_completeCheckpoint _ _ _)) (fun w7 h8___ => h8___)) h8__))))) h8))))
  refine tw_v hB_w2 ⟨rfl, rfl⟩ (hB_w1.top hW) (fun hle9 => va_runV (As := [.long v_X3_barrier]) (rest := []) ⟨hx, hb, hml, hown, hts⟩ (k_X8_emit l D yc e0 A S Z Tc Ts w1 H.size (zh H) fl k v_X3_barrier (by first | assumption | omega | decide) (by first | assumption | omega | decide) hB_w2) (cwV 1 hts (lw_V wq336 wq337 wq338 wq16 wq339) rfl rfl rfl (by decide +kernel) ⟨(Nat.le_of_ble_eq_true rfl), (Nat.le_of_ble_eq_true rfl)⟩) (tq_V hC hW hS hA 2 fl k (dm2 (by omega) (by omega)) rfl rfl) rfl rfl hl.1 rfl (lv_room (Nat.le_of_ble_eq_true rfl)) dX2_passBarrier_9 hle9) hS (fun H locs hW hS => ?_)
  obtain ⟨w2, hw2, hW, hB_w2⟩ : ∃ ww : TW, w_X8_emit S w1 fl k v_X3_barrier = ww ∧ WT D yc e0 A S Z ww.1 ww.2.1 ww.2.2 H ∧ ZB Z Tc Ts ww := ⟨_, rfl, hW, hB_w2⟩
  have hGS : GS w2.2.1 := by rw [← hw2]; exact (GS.of (g_X8_emit _ _ _ _ _) hGS)
  have hg9 := hGS fl k
  refine lv_aload_n hx hb dX2_passBarrier_12 rfl (lv_at hl 0 rfl) ?_
  refine t_get (D := D) (ci := 2) (v := .int (nI fl)) (C := RX2) (T := TX2) (N := 8) hx hb hts iX2 hown hK hW 6 fl 0 (dm6 (by omega)) rfl rfl 0 (by decide) (hts _ wq67) (fun _ h9 => h9) rfl dX2_passBarrier_13 ?_
  refine lv_if_eq (tgt := 20) hx hb dX2_passBarrier_16 (by decide) (fun hb3 => ?_) (fun hb3 => ?_)
  · refine lv_aload_n hx hb dX2_passBarrier_20 rfl (lv_at hl 1 rfl) ?_
    refine t_getN (D := D) (ci := 7) (v := .ref (zg S 0 fl (3 * k + (w2.2.1 fl k).2))) (C := RX8) (T := TX8) (N := 12) hx hb hts iX8 hown hK hW 2 fl k (dm2 (by omega) (by omega)) rfl rfl 9 (by decide) (zk_tab rfl (hN _ wr1124 rfl)) (fun _ h9 => h9) rfl dX2_passBarrier_21 ?_
    refine lv_aload_n hx hb dX2_passBarrier_24 rfl (lv_at hl 1 rfl) ?_
    refine t_getN (D := D) (ci := 7) (v := .ref (zg S 0 fl (3 * k))) (C := RX8) (T := TX8) (N := 12) hx hb hts iX8 hown hK hW 2 fl k (dm2 (by omega) (by omega)) rfl rfl 7 (by decide) (zk_tab rfl (hN _ wr1119 rfl)) (fun _ h9 => h9) rfl dX2_passBarrier_25 ?_
    have hB_w4 : ZB Z Tc Ts (w_X9_become S w2 fl (3 * k + (w2.2.1 fl k).2) fl (3 * k)) := hB.mono (zP_l (P := (zle (w_X9_become S w2 fl (3 * k + (w2.2.1 fl k).2) fl (3 * k)))) hw1 (zP_l (P := (zle (w_X9_become S w2 fl (3 * k + (w2.2.1 fl k).2) fl (3 * k)))) hw2 (zP_p (P := (zle (w_X9_become S w2 fl (3 * k + (w2.2.1 fl k).2) fl (3 * k)))) hb3 (zP_let (P := (zle (w_X9_become S w2 fl (3 * k + (w2.2.1 fl k).2) fl (3 * k)))) (zle (w_X9_become S w2 fl (3 * k + (w2.2.1 fl k).2) fl (3 * k))) zle.rf (fun w4 h8 => (zP_let (P := (zle (w_X9_become S w2 fl (3 * k + (w2.2.1 fl k).2) fl (3 * k)))) (zle (w_X9_become S w2 fl (3 * k + (w2.2.1 fl k).2) fl (3 * k))) (zle.to h8 rfl) (fun w5 h8_ => (zP_if (P := (zle (w_X9_become S w2 fl (3 * k + (w2.2.1 fl k).2) fl (3 * k)))) (zP_let (P := (zle (w_X9_become S w2 fl (3 * k + (w2.2.1 fl k).2) fl (3 * k)))) (zle (w_X9_become S w2 fl (3 * k + (w2.2.1 fl k).2) fl (3 * k))) (zle.tr h8_ (m_X2_completeCheckpoint _ _ _)) (fun w7 h8__ => h8__)) h8_))))))))
    refine tw_v hB_w4 ⟨rfl, rfl⟩ (hB_w2.top hW) (fun hle9 => va_runV (As := [.ref (zg S 0 fl (3 * k))]) (rest := []) ⟨hx, hb, hml, hown, hts⟩ (k_X9_become l D yc e0 A S Z Tc Ts w2 H.size (zh H) fl (3 * k + (w2.2.1 fl k).2) fl (3 * k) (by first | assumption | omega | decide) (by first | assumption | omega | decide) (by first | assumption | omega | decide) (by first | assumption | omega | decide) (by first | assumption | omega | decide) hB_w4) (cwV 1 hts (lw_V wq361 wq362 wq363 wq22 wq364) rfl rfl rfl (by decide +kernel) ⟨(Nat.le_of_ble_eq_true rfl), (Nat.le_of_ble_eq_true rfl)⟩) (tq_V hC hW hS hA 0 fl (3 * k + (w2.2.1 fl k).2) (dm0 (by omega) (by omega)) rfl rfl) rfl rfl hl.1 rfl (lv_room (Nat.le_of_ble_eq_true rfl)) dX2_passBarrier_28 hle9) hS (fun H locs hW hS => ?_)
    obtain ⟨w4, hw4, hW, hB_w4⟩ : ∃ ww : TW, w_X9_become S w2 fl (3 * k + (w2.2.1 fl k).2) fl (3 * k) = ww ∧ WT D yc e0 A S Z ww.1 ww.2.1 ww.2.2 H ∧ ZB Z Tc Ts ww := ⟨_, rfl, hW, hB_w4⟩
    have hGS : GS w4.2.1 := by rw [← hw4]; exact (GS.of (g_X9_become _ _ _ _ _ _) hGS)
    have hg9 := hGS fl k
    refine lv_aload_n hx hb dX2_passBarrier_31 rfl (lv_at hl 0 rfl) ?_
    refine lv_dup hx hb dX2_passBarrier_32 rfl ?_
    refine t_get (D := D) (ci := 2) (v := .int (w4.1 6 fl 0 7)) (C := RX2) (T := TX2) (N := 8) hx hb hts iX2 hown hK hW 6 fl 0 (dm6 (by omega)) rfl rfl 7 (by decide) (hts _ wq77) (fun _ h9 => h9) rfl dX2_passBarrier_33 ?_
    refine lv_iconst (v := 1) hx hb dX2_passBarrier_36 (by decide) ?_
    refine lv_isub hx hb dX2_passBarrier_37 ?_
    refine t_put (D := D) (ci := 2) (v := .int ((w4.1 6 fl 0 7) - 1)) (ty := .int) (C := RX2) (T := TX2) (N := 8) hx hb hts iX2 tyX2 tyX2_ok nmX2 hown hK hW hS 6 fl 0 (dm6 (by omega)) rfl rfl 7 (by decide) (hts _ wq77) (fun _ h9 => h9) rfl (by decide +kernel) rfl rfl (Nat.le_of_ble_eq_true rfl) (fun j9 => if j9 = 7 then (w4.1 6 fl 0 7) - 1 else w4.1 6 fl 0 j9) w4.2.1 rfl (fun _ _ _ => rfl) (zbit (fun j9 h9 => hW.bit _ _ _ j9 h9) (fun h9 => absurd h9 (by decide))) dX2_passBarrier_38 (fun H locs hW hS => ?_)
    obtain ⟨w5, hw5, hW, hB_w5⟩ : ∃ ww : TW, zset w4 6 fl 0 7 ((w4.1 6 fl 0 7) - 1) = ww ∧ WT D yc e0 A S Z ww.1 ww.2.1 ww.2.2 H ∧ ZB Z Tc Ts ww := ⟨_, rfl, hW, hB_w4⟩
    have hGS : GS w5.2.1 := by rw [← hw5]; exact hGS
    have hg9 := hGS fl k
    refine lv_aload_n hx hb dX2_passBarrier_41 rfl (lv_at hl 0 rfl) ?_
    refine t_get (D := D) (ci := 2) (v := .int (w5.1 6 fl 0 7)) (C := RX2) (T := TX2) (N := 8) hx hb hts iX2 hown hK hW 6 fl 0 (dm6 (by omega)) rfl rfl 7 (by decide) (hts _ wq77) (fun _ h9 => h9) rfl dX2_passBarrier_42 ?_
    refine lv_if_ne (tgt := 52) hx hb dX2_passBarrier_45 (by decide) (fun hb6 => ?_) (fun hb6 => ?_)
    · exact tx_v hx hb hr hlk hS hW (zlet_e hw1 (zlet_e hw2 (zif_p hb3 (zlet_e hw4 (zlet_e hw5 (zif_n hb6 rfl)))))) dX2_passBarrier_52
    · refine lv_aload_n hx hb dX2_passBarrier_48 rfl (lv_at hl 0 rfl) ?_
      have hB_w7 : ZB Z Tc Ts (w_X2_completeCheckpoint S w5 fl) := hB.mono (zP_l (P := (zle (w_X2_completeCheckpoint S w5 fl))) hw1 (zP_l (P := (zle (w_X2_completeCheckpoint S w5 fl))) hw2 (zP_p (P := (zle (w_X2_completeCheckpoint S w5 fl))) hb3 (zP_l (P := (zle (w_X2_completeCheckpoint S w5 fl))) hw4 (zP_l (P := (zle (w_X2_completeCheckpoint S w5 fl))) hw5 (zP_p (P := (zle (w_X2_completeCheckpoint S w5 fl))) hb6 (zP_let (P := (zle (w_X2_completeCheckpoint S w5 fl))) (zle (w_X2_completeCheckpoint S w5 fl)) zle.rf (fun w7 h8 => h8))))))))
      refine tw_v hB_w7 ⟨rfl, rfl⟩ (hB_w5.top hW) (fun hle9 => va_runV (As := []) (rest := []) ⟨hx, hb, hml, hown, hts⟩ (k_X2_completeCheckpoint l D yc e0 A S Z Tc Ts w5 H.size (zh H) fl (by first | assumption | omega | decide) hB_w7) (cwV 0 hts (lw_V wq378 wq380 ws7 wq2 wq381) rfl rfl rfl (by decide +kernel) ⟨(Nat.le_of_ble_eq_true rfl), (Nat.le_of_ble_eq_true rfl)⟩) (tq_V hC hW hS hA 6 fl 0 (dm6 (by omega)) rfl rfl) rfl rfl hl.1 rfl (lv_room (Nat.le_of_ble_eq_true rfl)) dX2_passBarrier_49 hle9) hS (fun H locs hW hS => ?_)
      obtain ⟨w7, hw7, hW, hB_w7⟩ : ∃ ww : TW, w_X2_completeCheckpoint S w5 fl = ww ∧ WT D yc e0 A S Z ww.1 ww.2.1 ww.2.2 H ∧ ZB Z Tc Ts ww := ⟨_, rfl, hW, hB_w7⟩
      have hGS : GS w7.2.1 := by rw [← hw7]; exact (gs_X2_completeCheckpoint _ _ _ hGS)
      have hg9 := hGS fl k
      exact tx_v hx hb hr hlk hS hW (zlet_e hw1 (zlet_e hw2 (zif_p hb3 (zlet_e hw4 (zlet_e hw5 (zif_p hb6 (zlet_e hw7 rfl))))))) dX2_passBarrier_52
  · exact tx_v hx hb hr hlk hS hW (zlet_e hw1 (zlet_e hw2 (zif_n hb3 rfl))) dX2_passBarrier_19
def w_X2_takeBarrierN (S : TS) (w : TW) (fl : Nat) (k : Nat) (kd : Nat) : TW := zlet (w_X2_passBarrier S w fl k) (fun w1 => w1)
theorem m_X2_takeBarrierN (S : TS) (w : TW) (fl : Nat) (k : Nat) (kd : Nat) : zle w (w_X2_takeBarrierN S w fl k kd) := by
  unfold w_X2_takeBarrierN
  exact (zP_let (P := (zle (w))) (zle (w)) (zle.tr zle.rf (m_X2_passBarrier _ _ _ _)) (fun w1 h8_ => h8_))
theorem gs_X2_takeBarrierN (S : TS) (w : TW) (fl : Nat) (k : Nat) (kd : Nat) (hGS : GS w.2.1) : GS (w_X2_takeBarrierN S w fl k kd).2.1 := by
  unfold w_X2_takeBarrierN
  exact (zP_let (P := (fun (b : TW) => GS b.2.1)) (fun (b : TW) => GS b.2.1) (gs_X2_passBarrier _ _ _ _ hGS) (fun w1 h8_ => h8_))
set_option maxHeartbeats 4000000 in
set_option maxRecDepth 100000 in
theorem k_X2_takeBarrierN (l : Launch) (D : va_G) (yc : Nat → ClassId) (e0 : Nat) (A : Nat → Prop) (S : TS) (Z : Nat × Nat) (Tc Ts : Nat) (w : TW) (cN zN : Nat) (fl : Nat) (k : Nat) (kd : Nat) (hf : fl < 2) (hk : k < zn S) (hGS : GS w.2.1) (hkd : kd = 4 ∨ kd = 5) (hd : dm S kd fl k) (hB : ZB Z Tc Ts (w_X2_takeBarrierN S w fl k kd)) : Met l yX2_takeBarrier (ws_ yX2_takeBarrier cX2_takeBarrier 4 none) { frames := 5, cells := Tc - cN, slots := Ts - zN, locals := 129 } (PM D yc e0 A S Z w cN zN [.ref (zg S 6 fl 0), .ref (zg S 2 fl k), .ref (zg S kd fl k), .null]) (tQv D yc e0 A S Z (w_X2_takeBarrierN S w fl k kd)) (Tc - cN) (Ts - zN) A := by
  have hB0 : ZB Z Tc Ts w := hB.mono (m_X2_takeBarrierN _ _ _ _ _)
  refine tk_W hB0 (by decide) (Nat.le_of_ble_eq_true rfl) ?_
  intro p e s m args below meth c ls H locs hx hb hml hr hlk hown hts hW hS hA hC hl
  have hK := hC.1
  have hN := hC.2.1
  have hn12 := hW.n12
  skip
  have hg9 := hGS fl k
  have hl : lv_has ls 4 [(0, .ref (zg S 6 fl 0)), (1, .ref (zg S 2 fl k)), (2, .ref (zg S kd fl k)), (3, .null)] := hl
  refine lv_aload_nN hx hb dX2_takeBarrier_0 rfl (lv_at hl 3 rfl) ?_
  refine lv_ifnullN (tgt := 17) hx hb dX2_takeBarrier_1 (by decide) ?_
  refine lv_aload_nN hx hb dX2_takeBarrier_17 rfl (lv_at hl 3 rfl) ?_
  refine lv_ifnullN (tgt := 26) hx hb dX2_takeBarrier_18 (by decide) ?_
  refine lv_aload_n hx hb dX2_takeBarrier_26 rfl (lv_at hl 0 rfl) ?_
  refine lv_aload_n hx hb dX2_takeBarrier_27 rfl (lv_at hl 1 rfl) ?_
  have hB_w1 : ZB Z Tc Ts (w_X2_passBarrier S w fl k) := hB.mono (zP_let (P := (zle (w_X2_passBarrier S w fl k))) (zle (w_X2_passBarrier S w fl k)) zle.rf (fun w1 h8 => h8))
  refine tw_v hB_w1 ⟨rfl, rfl⟩ (hB0.top hW) (fun hle9 => va_runV (As := [.ref (zg S 2 fl k)]) (rest := []) ⟨hx, hb, hml, hown, hts⟩ (k_X2_passBarrier l D yc e0 A S Z Tc Ts w H.size (zh H) fl k (by first | assumption | omega | decide) (by first | assumption | omega | decide) (by first | assumption | omega | decide) hB_w1) (cwV 1 hts (lw_V wq328 wq330 ws6 wq2 wq331) rfl rfl rfl (by decide +kernel) ⟨(Nat.le_of_ble_eq_true rfl), (Nat.le_of_ble_eq_true rfl)⟩) (tq_V hC hW hS hA 6 fl 0 (dm6 (by omega)) rfl rfl) rfl rfl hl.1 rfl (lv_room (Nat.le_of_ble_eq_true rfl)) dX2_takeBarrier_28 hle9) hS (fun H locs hW hS => ?_)
  obtain ⟨w1, hw1, hW, hB_w1⟩ : ∃ ww : TW, w_X2_passBarrier S w fl k = ww ∧ WT D yc e0 A S Z ww.1 ww.2.1 ww.2.2 H ∧ ZB Z Tc Ts ww := ⟨_, rfl, hW, hB_w1⟩
  have hGS : GS w1.2.1 := by rw [← hw1]; exact (gs_X2_passBarrier _ _ _ _ hGS)
  have hg9 := hGS fl k
  exact tx_v hx hb hr hlk hS hW (zlet_e hw1 rfl) dX2_takeBarrier_31
def w_X2_takeBarrier (S : TS) (w : TW) (fl : Nat) (k : Nat) (kd : Nat) (kd2 : Nat) : TW := if (w.1 kd2 fl k 2) = 0 then zlet (zset w kd fl k 2 1) (fun w2 => w2) else zlet (zset w kd2 fl k 2 0) (fun w3 => zlet (w_X2_passBarrier S w3 fl k) (fun w4 => w4))
theorem m_X2_takeBarrier (S : TS) (w : TW) (fl : Nat) (k : Nat) (kd : Nat) (kd2 : Nat) : zle w (w_X2_takeBarrier S w fl k kd kd2) := by
  unfold w_X2_takeBarrier
  exact (zP_if (P := (zle (w))) (zP_let (P := (zle (w))) (zle (w)) (zle.to zle.rf rfl) (fun w2 h8_ => h8_)) (zP_let (P := (zle (w))) (zle (w)) (zle.to zle.rf rfl) (fun w3 h8_ => (zP_let (P := (zle (w))) (zle (w)) (zle.tr h8_ (m_X2_passBarrier _ _ _ _)) (fun w4 h8__ => h8__)))))
theorem gs_X2_takeBarrier (S : TS) (w : TW) (fl : Nat) (k : Nat) (kd : Nat) (kd2 : Nat) (hGS : GS w.2.1) : GS (w_X2_takeBarrier S w fl k kd kd2).2.1 := by
  unfold w_X2_takeBarrier
  exact (zP_ifd (P := (fun (b : TW) => GS b.2.1)) (fun hq0 => (zP_let (P := (fun (b : TW) => GS b.2.1)) (fun (b : TW) => GS b.2.1) hGS (fun w2 h8_ => h8_))) (fun hq0 => (zP_let (P := (fun (b : TW) => GS b.2.1)) (fun (b : TW) => GS b.2.1) hGS (fun w3 h8_ => (zP_let (P := (fun (b : TW) => GS b.2.1)) (fun (b : TW) => GS b.2.1) (gs_X2_passBarrier _ _ _ _ h8_) (fun w4 h8__ => h8__))))))
set_option maxHeartbeats 4000000 in
set_option maxRecDepth 100000 in
theorem k_X2_takeBarrier (l : Launch) (D : va_G) (yc : Nat → ClassId) (e0 : Nat) (A : Nat → Prop) (S : TS) (Z : Nat × Nat) (Tc Ts : Nat) (w : TW) (cN zN : Nat) (fl : Nat) (k : Nat) (kd : Nat) (kd2 : Nat) (hf : fl < 2) (hk : k < zn S) (hGS : GS w.2.1) (hkd : kd = 4 ∨ kd = 5) (hd : dm S kd fl k) (hkd2 : kd2 = 4 ∨ kd2 = 5) (hd2 : dm S kd2 fl k) (hB : ZB Z Tc Ts (w_X2_takeBarrier S w fl k kd kd2)) : Met l yX2_takeBarrier (ws_ yX2_takeBarrier cX2_takeBarrier 4 none) { frames := 5, cells := Tc - cN, slots := Ts - zN, locals := 129 } (PM D yc e0 A S Z w cN zN [.ref (zg S 6 fl 0), .ref (zg S 2 fl k), .ref (zg S kd fl k), .ref (zg S kd2 fl k)]) (tQv D yc e0 A S Z (w_X2_takeBarrier S w fl k kd kd2)) (Tc - cN) (Ts - zN) A := by
  have hB0 : ZB Z Tc Ts w := hB.mono (m_X2_takeBarrier _ _ _ _ _ _)
  refine tk_W hB0 (by decide) (Nat.le_of_ble_eq_true rfl) ?_
  intro p e s m args below meth c ls H locs hx hb hml hr hlk hown hts hW hS hA hC hl
  have hK := hC.1
  have hN := hC.2.1
  have hn12 := hW.n12
  skip
  have hg9 := hGS fl k
  have hl : lv_has ls 4 [(0, .ref (zg S 6 fl 0)), (1, .ref (zg S 2 fl k)), (2, .ref (zg S kd fl k)), (3, .ref (zg S kd2 fl k))] := hl
  refine lv_aload_n hx hb dX2_takeBarrier_0 rfl (lv_at hl 3 rfl) ?_
  refine lv_ifnull hx hb dX2_takeBarrier_1 ?_
  refine lv_aload_n hx hb dX2_takeBarrier_4 rfl (lv_at hl 3 rfl) ?_
  refine t_getN (D := D) (ci := 1) (v := .int (w.1 kd2 fl k 2)) (C := RX1) (T := TX1) (N := 3) hx hb hts iX1 hown hK hW kd2 fl k hd2 (cel_ch hkd2) rfl 2 (by decide) (zk_tab rfl (hN _ wr942 rfl)) (fun _ h9 => h9) rfl dX2_takeBarrier_5 ?_
  refine lv_if_ne (tgt := 17) hx hb dX2_takeBarrier_8 (by decide) (fun hb1 => ?_) (fun hb1 => ?_)
  · refine lv_aload_n hx hb dX2_takeBarrier_17 rfl (lv_at hl 3 rfl) ?_
    refine lv_ifnull hx hb dX2_takeBarrier_18 ?_
    refine lv_aload_n hx hb dX2_takeBarrier_21 rfl (lv_at hl 3 rfl) ?_
    refine lv_iconst (v := 0) hx hb dX2_takeBarrier_22 (by decide) ?_
    refine t_putN (D := D) (ci := 1) (v := .int 0) (ty := .boolean) (C := RX1) (T := TX1) (N := 3) hx hb hts iX1 tyX1 tyX1_ok nmX1 hown hK hW hS kd2 fl k hd2 (cel_ch hkd2) rfl 2 (by decide) (zk_tab rfl (hN _ wr942 rfl)) (fun _ h9 => h9) rfl (by decide +kernel) rfl rfl (Nat.le_of_ble_eq_true rfl) (fun j9 => if j9 = 2 then 0 else w.1 kd2 fl k j9) w.2.1 ((cel_ch hkd2).trans rfl) (fun _ _ _ => rfl) (zbit (fun j9 h9 => hW.bit _ _ _ j9 h9) (fun _ => (by decide))) dX2_takeBarrier_23 (fun H locs hW hS => ?_)
    obtain ⟨w3, hw3, hW, hB_w3⟩ : ∃ ww : TW, zset w kd2 fl k 2 0 = ww ∧ WT D yc e0 A S Z ww.1 ww.2.1 ww.2.2 H ∧ ZB Z Tc Ts ww := ⟨_, rfl, hW, hB0⟩
    have hGS : GS w3.2.1 := by rw [← hw3]; exact hGS
    have hg9 := hGS fl k
    refine lv_aload_n hx hb dX2_takeBarrier_26 rfl (lv_at hl 0 rfl) ?_
    refine lv_aload_n hx hb dX2_takeBarrier_27 rfl (lv_at hl 1 rfl) ?_
    have hB_w4 : ZB Z Tc Ts (w_X2_passBarrier S w3 fl k) := hB.mono (zP_n (P := (zle (w_X2_passBarrier S w3 fl k))) hb1 (zP_l (P := (zle (w_X2_passBarrier S w3 fl k))) hw3 (zP_let (P := (zle (w_X2_passBarrier S w3 fl k))) (zle (w_X2_passBarrier S w3 fl k)) zle.rf (fun w4 h8 => h8))))
    refine tw_v hB_w4 ⟨rfl, rfl⟩ (hB_w3.top hW) (fun hle9 => va_runV (As := [.ref (zg S 2 fl k)]) (rest := []) ⟨hx, hb, hml, hown, hts⟩ (k_X2_passBarrier l D yc e0 A S Z Tc Ts w3 H.size (zh H) fl k (by first | assumption | omega | decide) (by first | assumption | omega | decide) (by first | assumption | omega | decide) hB_w4) (cwV 1 hts (lw_V wq328 wq330 ws6 wq2 wq331) rfl rfl rfl (by decide +kernel) ⟨(Nat.le_of_ble_eq_true rfl), (Nat.le_of_ble_eq_true rfl)⟩) (tq_V hC hW hS hA 6 fl 0 (dm6 (by omega)) rfl rfl) rfl rfl hl.1 rfl (lv_room (Nat.le_of_ble_eq_true rfl)) dX2_takeBarrier_28 hle9) hS (fun H locs hW hS => ?_)
    obtain ⟨w4, hw4, hW, hB_w4⟩ : ∃ ww : TW, w_X2_passBarrier S w3 fl k = ww ∧ WT D yc e0 A S Z ww.1 ww.2.1 ww.2.2 H ∧ ZB Z Tc Ts ww := ⟨_, rfl, hW, hB_w4⟩
    have hGS : GS w4.2.1 := by rw [← hw4]; exact (gs_X2_passBarrier _ _ _ _ hGS)
    have hg9 := hGS fl k
    exact tx_v hx hb hr hlk hS hW (zif_n hb1 (zlet_e hw3 (zlet_e hw4 rfl))) dX2_takeBarrier_31
  · refine lv_aload_n hx hb dX2_takeBarrier_11 rfl (lv_at hl 2 rfl) ?_
    refine lv_iconst (v := 1) hx hb dX2_takeBarrier_12 (by decide) ?_
    refine t_putN (D := D) (ci := 1) (v := .int 1) (ty := .boolean) (C := RX1) (T := TX1) (N := 3) hx hb hts iX1 tyX1 tyX1_ok nmX1 hown hK hW hS kd fl k hd (cel_ch hkd) rfl 2 (by decide) (zk_tab rfl (hN _ wr942 rfl)) (fun _ h9 => h9) rfl (by decide +kernel) rfl rfl (Nat.le_of_ble_eq_true rfl) (fun j9 => if j9 = 2 then 1 else w.1 kd fl k j9) w.2.1 ((cel_ch hkd).trans rfl) (fun _ _ _ => rfl) (zbit (fun j9 h9 => hW.bit _ _ _ j9 h9) (fun _ => (by decide))) dX2_takeBarrier_13 (fun H locs hW hS => ?_)
    obtain ⟨w2, hw2, hW, hB_w2⟩ : ∃ ww : TW, zset w kd fl k 2 1 = ww ∧ WT D yc e0 A S Z ww.1 ww.2.1 ww.2.2 H ∧ ZB Z Tc Ts ww := ⟨_, rfl, hW, hB0⟩
    have hGS : GS w2.2.1 := by rw [← hw2]; exact hGS
    have hg9 := hGS fl k
    exact tx_v hx hb hr hlk hS hW (zif_p hb1 (zlet_e hw2 rfl)) dX2_takeBarrier_16
def w_X2_step (S : TS) (w : TW) (fl : Nat) (k : Nat) : TW × Int32 := zlet (zset w 6 fl 0 3 (nI k)) (fun w1 => zlet (w_X4_forgetGiven S w1 fl k) (fun w2 => if (w2.1 8 0 k 0) = 0 then if (w2.1 2 fl k 11) = 0 then zlet (w_X8_read S w2 fl k) (fun w5 => zlet (w_X8_raiseMark S w5.1 fl k w5.2) (fun w6 => (w6, 1))) else zlet (w_X2_passBarrier S w2 fl k) (fun w7 => (w7, 1)) else if (v_X8_turnsToSecond S w2.1 w2.2.1 w2.2.2 fl k) = 0 then if (zp S 0 k).isSome = true then if (v_X1_canGive S w2.1 w2.2.1 w2.2.2 4 fl k) = 0 then (w2, 0) else zlet (w_X1_give S w2 4 fl k) (fun w11 => zlet (zset w11.1 0 fl (3 * k) 3 0) (fun w12 => if (v_X3_kind w11.2) = 0 then zlet (w_X8_takeEvent S w12 fl k w11.2 0) (fun w14 => (w14, 1)) else if (v_X3_kind w11.2) = 1 then zlet (w_X8_leastMark S w12 fl k (v_X3_time w11.2) 0) (fun w16 => zlet (w_X8_raiseMark S w16.1 fl k w16.2) (fun w17 => (w17, 1))) else if (zp S 1 k).isSome = true then zlet (w_X2_takeBarrier S w12 fl k 4 5) (fun w19 => (w19, 1)) else zlet (w_X2_takeBarrierN S w12 fl k 4) (fun w20 => (w20, 1)))) else (w2, 0) else if (zp S 1 k).isSome = true then if (v_X1_canGive S w2.1 w2.2.1 w2.2.2 5 fl k) = 0 then (w2, 0) else zlet (w_X1_give S w2 5 fl k) (fun w23 => zlet (zset w23.1 0 fl (3 * k) 3 1) (fun w24 => if (v_X3_kind w23.2) = 0 then zlet (w_X8_takeEvent S w24 fl k w23.2 1) (fun w26 => (w26, 1)) else if (v_X3_kind w23.2) = 1 then zlet (w_X8_leastMark S w24 fl k (v_X3_time w23.2) 1) (fun w28 => zlet (w_X8_raiseMark S w28.1 fl k w28.2) (fun w29 => (w29, 1))) else if (zp S 0 k).isSome = true then zlet (w_X2_takeBarrier S w24 fl k 5 4) (fun w31 => (w31, 1)) else zlet (w_X2_takeBarrierN S w24 fl k 5) (fun w32 => (w32, 1)))) else (w2, 0)))
theorem m_X2_step (S : TS) (w : TW) (fl : Nat) (k : Nat) : zle w ((w_X2_step S w fl k).1) := by
  unfold w_X2_step
  exact (zP_let (P := (zle2 (w))) (zle (w)) (zle.to zle.rf rfl) (fun w1 h8_ => (zP_let (P := (zle2 (w))) (zle (w)) (zle.tr h8_ (m_X4_forgetGiven _ _ _ _)) (fun w2 h8__ => (zP_if (P := (zle2 (w))) (zP_if (P := (zle2 (w))) (zP_let (P := (zle2 (w))) (zle2 (w)) (zle.tr h8__ (m_X8_read _ _ _ _)) (fun w5 h8___ => (zP_let (P := (zle2 (w))) (zle (w)) (zle.tr h8___ (m_X8_raiseMark _ _ _ _ _)) (fun w6 h8____ => h8____)))) (zP_let (P := (zle2 (w))) (zle (w)) (zle.tr h8__ (m_X2_passBarrier _ _ _ _)) (fun w7 h8___ => h8___))) (zP_if (P := (zle2 (w))) (zP_if (P := (zle2 (w))) (zP_if (P := (zle2 (w))) h8__ (zP_let (P := (zle2 (w))) (zle2 (w)) (zle.tr h8__ (m_X1_give _ _ _ _ _)) (fun w11 h8___ => (zP_let (P := (zle2 (w))) (zle (w)) (zle.to h8___ rfl) (fun w12 h8____ => (zP_if (P := (zle2 (w))) (zP_let (P := (zle2 (w))) (zle (w)) (zle.tr h8____ (m_X8_takeEvent _ _ _ _ _ _)) (fun w14 h8_____ => h8_____)) (zP_if (P := (zle2 (w))) (zP_let (P := (zle2 (w))) (zle2 (w)) (zle.tr h8____ (m_X8_leastMark _ _ _ _ _ _)) (fun w16 h8_____ => (zP_let (P := (zle2 (w))) (zle (w)) (zle.tr h8_____ (m_X8_raiseMark _ _ _ _ _)) (fun w17 h8______ => h8______)))) (zP_if (P := (zle2 (w))) (zP_let (P := (zle2 (w))) (zle (w)) (zle.tr h8____ (m_X2_takeBarrier _ _ _ _ _ _)) (fun w19 h8_____ => h8_____)) (zP_let (P := (zle2 (w))) (zle (w)) (zle.tr h8____ (m_X2_takeBarrierN _ _ _ _ _)) (fun w20 h8_____ => h8_____)))))))))) h8__) (zP_if (P := (zle2 (w))) (zP_if (P := (zle2 (w))) h8__ (zP_let (P := (zle2 (w))) (zle2 (w)) (zle.tr h8__ (m_X1_give _ _ _ _ _)) (fun w23 h8___ => (zP_let (P := (zle2 (w))) (zle (w)) (zle.to h8___ rfl) (fun w24 h8____ => (zP_if (P := (zle2 (w))) (zP_let (P := (zle2 (w))) (zle (w)) (zle.tr h8____ (m_X8_takeEvent _ _ _ _ _ _)) (fun w26 h8_____ => h8_____)) (zP_if (P := (zle2 (w))) (zP_let (P := (zle2 (w))) (zle2 (w)) (zle.tr h8____ (m_X8_leastMark _ _ _ _ _ _)) (fun w28 h8_____ => (zP_let (P := (zle2 (w))) (zle (w)) (zle.tr h8_____ (m_X8_raiseMark _ _ _ _ _)) (fun w29 h8______ => h8______)))) (zP_if (P := (zle2 (w))) (zP_let (P := (zle2 (w))) (zle (w)) (zle.tr h8____ (m_X2_takeBarrier _ _ _ _ _ _)) (fun w31 h8_____ => h8_____)) (zP_let (P := (zle2 (w))) (zle (w)) (zle.tr h8____ (m_X2_takeBarrierN _ _ _ _ _)) (fun w32 h8_____ => h8_____)))))))))) h8__)))))))
theorem gs_X2_step (S : TS) (w : TW) (fl : Nat) (k : Nat) (hGS : GS w.2.1) : GS ((w_X2_step S w fl k).1).2.1 := by
  unfold w_X2_step
  exact (zP_let (P := (fun (b : TW × Int32) => GS b.1.2.1)) (fun (b : TW) => GS b.2.1) hGS (fun w1 h8_ => (zP_let (P := (fun (b : TW × Int32) => GS b.1.2.1)) (fun (b : TW) => GS b.2.1) (GS.of (g_X4_forgetGiven _ _ _ _) h8_) (fun w2 h8__ => (zP_ifd (P := (fun (b : TW × Int32) => GS b.1.2.1)) (fun hq0 => (zP_ifd (P := (fun (b : TW × Int32) => GS b.1.2.1)) (fun hq1 => (zP_let (P := (fun (b : TW × Int32) => GS b.1.2.1)) (fun (b : TW × Int32) => GS b.1.2.1) (GS.of (g_X8_read _ _ _ _) h8__) (fun w5 h8___ => (zP_let (P := (fun (b : TW × Int32) => GS b.1.2.1)) (fun (b : TW) => GS b.2.1) (GS.of (g_X8_raiseMark _ _ _ _ _) h8___) (fun w6 h8____ => h8____))))) (fun hq1 => (zP_let (P := (fun (b : TW × Int32) => GS b.1.2.1)) (fun (b : TW) => GS b.2.1) (gs_X2_passBarrier _ _ _ _ h8__) (fun w7 h8___ => h8___))))) (fun hq0 => (zP_ifd (P := (fun (b : TW × Int32) => GS b.1.2.1)) (fun hq1 => (zP_ifd (P := (fun (b : TW × Int32) => GS b.1.2.1)) (fun hq2 => (zP_ifd (P := (fun (b : TW × Int32) => GS b.1.2.1)) (fun hq3 => h8__) (fun hq3 => (zP_let (P := (fun (b : TW × Int32) => GS b.1.2.1)) (fun (b : TW × Int64) => GS b.1.2.1) (GS.of (g_X1_give _ _ _ _ _) h8__) (fun w11 h8___ => (zP_let (P := (fun (b : TW × Int32) => GS b.1.2.1)) (fun (b : TW) => GS b.2.1) h8___ (fun w12 h8____ => (zP_ifd (P := (fun (b : TW × Int32) => GS b.1.2.1)) (fun hq4 => (zP_let (P := (fun (b : TW × Int32) => GS b.1.2.1)) (fun (b : TW) => GS b.2.1) (GS.of (g_X8_takeEvent _ _ _ _ _ _) h8____) (fun w14 h8_____ => h8_____))) (fun hq4 => (zP_ifd (P := (fun (b : TW × Int32) => GS b.1.2.1)) (fun hq5 => (zP_let (P := (fun (b : TW × Int32) => GS b.1.2.1)) (fun (b : TW × Int32) => GS b.1.2.1) (GS.of (g_X8_leastMark _ _ _ _ _ _) h8____) (fun w16 h8_____ => (zP_let (P := (fun (b : TW × Int32) => GS b.1.2.1)) (fun (b : TW) => GS b.2.1) (GS.of (g_X8_raiseMark _ _ _ _ _) h8_____) (fun w17 h8______ => h8______))))) (fun hq5 => (zP_ifd (P := (fun (b : TW × Int32) => GS b.1.2.1)) (fun hq6 => (zP_let (P := (fun (b : TW × Int32) => GS b.1.2.1)) (fun (b : TW) => GS b.2.1) (gs_X2_takeBarrier _ _ _ _ _ _ h8____) (fun w19 h8_____ => h8_____))) (fun hq6 => (zP_let (P := (fun (b : TW × Int32) => GS b.1.2.1)) (fun (b : TW) => GS b.2.1) (gs_X2_takeBarrierN _ _ _ _ _ h8____) (fun w20 h8_____ => h8_____))))))))))))))) (fun hq2 => h8__))) (fun hq1 => (zP_ifd (P := (fun (b : TW × Int32) => GS b.1.2.1)) (fun hq2 => (zP_ifd (P := (fun (b : TW × Int32) => GS b.1.2.1)) (fun hq3 => h8__) (fun hq3 => (zP_let (P := (fun (b : TW × Int32) => GS b.1.2.1)) (fun (b : TW × Int64) => GS b.1.2.1) (GS.of (g_X1_give _ _ _ _ _) h8__) (fun w23 h8___ => (zP_let (P := (fun (b : TW × Int32) => GS b.1.2.1)) (fun (b : TW) => GS b.2.1) h8___ (fun w24 h8____ => (zP_ifd (P := (fun (b : TW × Int32) => GS b.1.2.1)) (fun hq4 => (zP_let (P := (fun (b : TW × Int32) => GS b.1.2.1)) (fun (b : TW) => GS b.2.1) (GS.of (g_X8_takeEvent _ _ _ _ _ _) h8____) (fun w26 h8_____ => h8_____))) (fun hq4 => (zP_ifd (P := (fun (b : TW × Int32) => GS b.1.2.1)) (fun hq5 => (zP_let (P := (fun (b : TW × Int32) => GS b.1.2.1)) (fun (b : TW × Int32) => GS b.1.2.1) (GS.of (g_X8_leastMark _ _ _ _ _ _) h8____) (fun w28 h8_____ => (zP_let (P := (fun (b : TW × Int32) => GS b.1.2.1)) (fun (b : TW) => GS b.2.1) (GS.of (g_X8_raiseMark _ _ _ _ _) h8_____) (fun w29 h8______ => h8______))))) (fun hq5 => (zP_ifd (P := (fun (b : TW × Int32) => GS b.1.2.1)) (fun hq6 => (zP_let (P := (fun (b : TW × Int32) => GS b.1.2.1)) (fun (b : TW) => GS b.2.1) (gs_X2_takeBarrier _ _ _ _ _ _ h8____) (fun w31 h8_____ => h8_____))) (fun hq6 => (zP_let (P := (fun (b : TW × Int32) => GS b.1.2.1)) (fun (b : TW) => GS b.2.1) (gs_X2_takeBarrierN _ _ _ _ _ h8____) (fun w32 h8_____ => h8_____))))))))))))))) (fun hq2 => h8__))))))))))
set_option maxHeartbeats 4000000 in
set_option maxRecDepth 100000 in
theorem k_X2_step (l : Launch) (D : va_G) (yc : Nat → ClassId) (e0 : Nat) (A : Nat → Prop) (S : TS) (Z : Nat × Nat) (Tc Ts : Nat) (w : TW) (cN zN : Nat) (fl : Nat) (k : Nat) (hf : fl < 2) (hk : k < zn S) (hGS : GS w.2.1) (hB : ZB Z Tc Ts ((w_X2_step S w fl k).1)) : Met l yX2_step (ws_ yX2_step cX2_step 8 (some .boolean)) { frames := 7, cells := Tc - cN, slots := Ts - zN, locals := 192 } (PM D yc e0 A S Z w cN zN [.ref (zg S 6 fl 0), .int (nI k)]) (tQi D yc e0 A S Z (w_X2_step S w fl k)) (Tc - cN) (Ts - zN) A := by
  have hB0 : ZB Z Tc Ts w := hB.mono (m_X2_step _ _ _ _)
  refine tk_W hB0 (by decide) (Nat.le_of_ble_eq_true rfl) ?_
  intro p e s m args below meth c ls H locs hx hb hml hr hlk hown hts hW hS hA hC hl
  have hK := hC.1
  have hN := hC.2.1
  have hn12 := hW.n12
  skip
  have hg9 := hGS fl k
  have hl : lv_has ls 8 [(0, .ref (zg S 6 fl 0)), (1, .int (nI k))] := hl
  refine lv_aload_n hx hb dX2_step_0 rfl (lv_at hl 0 rfl) ?_
  refine lv_iload_n hx hb dX2_step_1 rfl (lv_at hl 1 rfl) ?_
  refine zr_q (va_runV (As := [.int (nI k)]) (rest := []) ⟨hx, hb, hml, hown, hts⟩ (k_X2_at l D yc e0 A S Z w.1 w.2.1 w.2.2 fl k (by first | assumption | omega | decide) (by first | assumption | omega | decide)) (cwV 1 hts (lw_V wq281 wq224 wq225 wq2 wq226) rfl rfl rfl (by decide +kernel) ⟨(Nat.le_of_ble_eq_true rfl), (Nat.le_of_ble_eq_true rfl)⟩) (tp_V hC hW hS hA 6 fl 0 (dm6 (by omega)) rfl rfl) rfl rfl hl.1 rfl (lv_room (Nat.le_of_ble_eq_true rfl)) dX2_step_2 ⟨(Nat.le_refl _), (Nat.le_refl _)⟩) ?_
  refine lv_astore_n (lv' := [(2, .ref (zg S 2 fl k)), (0, .ref (zg S 6 fl 0)), (1, .int (nI k))]) hx hb dX2_step_5 rfl hl (by decide) rfl (fun ls hl => ?_)
  refine lv_aload_n hx hb dX2_step_6 rfl (lv_at hl 0 rfl) ?_
  refine lv_ifnonnull (tgt := 12) hx hb dX2_step_7 (by decide) ?_
  refine lv_aload_n hx hb dX2_step_12 rfl (lv_at hl 1 rfl) ?_
  refine lv_iload_n hx hb dX2_step_13 rfl (lv_at hl 2 rfl) ?_
  refine t_put (D := D) (ci := 2) (v := .int (nI k)) (ty := .int) (C := RX2) (T := TX2) (N := 8) hx hb hts iX2 tyX2 tyX2_ok nmX2 hown hK hW hS 6 fl 0 (dm6 (by omega)) rfl rfl 3 (by decide) (hts _ wq71) (fun _ h9 => h9) rfl (by decide +kernel) rfl rfl (Nat.le_of_ble_eq_true rfl) (fun j9 => if j9 = 3 then nI k else w.1 6 fl 0 j9) w.2.1 rfl (fun _ _ _ => rfl) (zbit (fun j9 h9 => hW.bit _ _ _ j9 h9) (fun h9 => absurd h9 (by decide))) dX2_step_14 (fun H locs hW hS => ?_)
  obtain ⟨w1, hw1, hW, hB_w1⟩ : ∃ ww : TW, zset w 6 fl 0 3 (nI k) = ww ∧ WT D yc e0 A S Z ww.1 ww.2.1 ww.2.2 H ∧ ZB Z Tc Ts ww := ⟨_, rfl, hW, hB0⟩
  have hGS : GS w1.2.1 := by rw [← hw1]; exact hGS
  have hg9 := hGS fl k
  refine lv_aload_n hx hb dX2_step_17 rfl (lv_at hl 0 rfl) ?_
  refine t_getN (D := D) (ci := 7) (v := .ref (zg S 3 fl k)) (C := RX8) (T := TX8) (N := 12) hx hb hts iX8 hown hK hW 2 fl k (dm2 (by omega) (by omega)) rfl rfl 5 (by decide) (zk_tab rfl (hN _ wr1114 rfl)) (fun _ h9 => h9) rfl dX2_step_18 ?_
  have hB_w2 : ZB Z Tc Ts (w_X4_forgetGiven S w1 fl k) := hB.mono (zP_l (P := (zle2 (w_X4_forgetGiven S w1 fl k))) hw1 (zP_let (P := (zle2 (w_X4_forgetGiven S w1 fl k))) (zle (w_X4_forgetGiven S w1 fl k)) zle.rf (fun w2 h8 => (zP_if (P := (zle2 (w_X4_forgetGiven S w1 fl k))) (zP_if (P := (zle2 (w_X4_forgetGiven S w1 fl k))) (zP_let (P := (zle2 (w_X4_forgetGiven S w1 fl k))) (zle2 (w_X4_forgetGiven S w1 fl k)) (zle.tr h8 (m_X8_read _ _ _ _)) (fun w5 h8_ => (zP_let (P := (zle2 (w_X4_forgetGiven S w1 fl k))) (zle (w_X4_forgetGiven S w1 fl k)) (zle.tr h8_ (m_X8_raiseMark _ _ _ _ _)) (fun w6 h8__ => h8__)))) (zP_let (P := (zle2 (w_X4_forgetGiven S w1 fl k))) (zle (w_X4_forgetGiven S w1 fl k)) (zle.tr h8 (m_X2_passBarrier _ _ _ _)) (fun w7 h8_ => h8_))) (zP_if (P := (zle2 (w_X4_forgetGiven S w1 fl k))) (zP_if (P := (zle2 (w_X4_forgetGiven S w1 fl k))) (zP_if (P := (zle2 (w_X4_forgetGiven S w1 fl k))) h8 (zP_let (P := (zle2 (w_X4_forgetGiven S w1 fl k))) (zle2 (w_X4_forgetGiven S w1 fl k)) (zle.tr h8 (m_X1_give _ _ _ _ _)) (fun w11 h8_ => (zP_let (P := (zle2 (w_X4_forgetGiven S w1 fl k))) (zle (w_X4_forgetGiven S w1 fl k)) (zle.to h8_ rfl) (fun w12 h8__ => (zP_if (P := (zle2 (w_X4_forgetGiven S w1 fl k))) (zP_let (P := (zle2 (w_X4_forgetGiven S w1 fl k))) (zle (w_X4_forgetGiven S w1 fl k)) (zle.tr h8__ (m_X8_takeEvent _ _ _ _ _ _)) (fun w14 h8___ => h8___)) (zP_if (P := (zle2 (w_X4_forgetGiven S w1 fl k))) (zP_let (P := (zle2 (w_X4_forgetGiven S w1 fl k))) (zle2 (w_X4_forgetGiven S w1 fl k)) (zle.tr h8__ (m_X8_leastMark _ _ _ _ _ _)) (fun w16 h8___ => (zP_let (P := (zle2 (w_X4_forgetGiven S w1 fl k))) (zle (w_X4_forgetGiven S w1 fl k)) (zle.tr h8___ (m_X8_raiseMark _ _ _ _ _)) (fun w17 h8____ => h8____)))) (zP_if (P := (zle2 (w_X4_forgetGiven S w1 fl k))) (zP_let (P := (zle2 (w_X4_forgetGiven S w1 fl k))) (zle (w_X4_forgetGiven S w1 fl k)) (zle.tr h8__ (m_X2_takeBarrier _ _ _ _ _ _)) (fun w19 h8___ => h8___)) (zP_let (P := (zle2 (w_X4_forgetGiven S w1 fl k))) (zle (w_X4_forgetGiven S w1 fl k)) (zle.tr h8__ (m_X2_takeBarrierN _ _ _ _ _)) (fun w20 h8___ => h8___)))))))))) h8) (zP_if (P := (zle2 (w_X4_forgetGiven S w1 fl k))) (zP_if (P := (zle2 (w_X4_forgetGiven S w1 fl k))) h8 (zP_let (P := (zle2 (w_X4_forgetGiven S w1 fl k))) (zle2 (w_X4_forgetGiven S w1 fl k)) (zle.tr h8 (m_X1_give _ _ _ _ _)) (fun w23 h8_ => (zP_let (P := (zle2 (w_X4_forgetGiven S w1 fl k))) (zle (w_X4_forgetGiven S w1 fl k)) (zle.to h8_ rfl) (fun w24 h8__ => (zP_if (P := (zle2 (w_X4_forgetGiven S w1 fl k))) (zP_let (P := (zle2 (w_X4_forgetGiven S w1 fl k))) (zle (w_X4_forgetGiven S w1 fl k)) (zle.tr h8__ (m_X8_takeEvent _ _ _ _ _ _)) (fun w26 h8___ => h8___)) (zP_if (P := (zle2 (w_X4_forgetGiven S w1 fl k))) (zP_let (P := (zle2 (w_X4_forgetGiven S w1 fl k))) (zle2 (w_X4_forgetGiven S w1 fl k)) (zle.tr h8__ (m_X8_leastMark _ _ _ _ _ _)) (fun w28 h8___ => (zP_let (P := (zle2 (w_X4_forgetGiven S w1 fl k))) (zle (w_X4_forgetGiven S w1 fl k)) (zle.tr h8___ (m_X8_raiseMark _ _ _ _ _)) (fun w29 h8____ => h8____)))) (zP_if (P := (zle2 (w_X4_forgetGiven S w1 fl k))) (zP_let (P := (zle2 (w_X4_forgetGiven S w1 fl k))) (zle (w_X4_forgetGiven S w1 fl k)) (zle.tr h8__ (m_X2_takeBarrier _ _ _ _ _ _)) (fun w31 h8___ => h8___)) (zP_let (P := (zle2 (w_X4_forgetGiven S w1 fl k))) (zle (w_X4_forgetGiven S w1 fl k)) (zle.tr h8__ (m_X2_takeBarrierN _ _ _ _ _)) (fun w32 h8___ => h8___)))))))))) h8))))))
  refine tw_v hB_w2 ⟨rfl, rfl⟩ (hB_w1.top hW) (fun hle9 => va_runV (As := []) (rest := []) ⟨hx, hb, hml, hown, hts⟩ (k_X4_forgetGiven l D yc e0 A S Z Tc Ts w1 H.size (zh H) fl k (by first | assumption | omega | decide) (by first | assumption | omega | decide) hB_w2) (cwV 0 hts (lw_V wq317 wq318 wq319 wq21 wq320) rfl rfl rfl (by decide +kernel) ⟨(Nat.le_of_ble_eq_true rfl), (Nat.le_of_ble_eq_true rfl)⟩) (tq_V hC hW hS hA 3 fl k (dm3 (by omega) (by omega)) rfl rfl) rfl rfl hl.1 rfl (lv_room (Nat.le_of_ble_eq_true rfl)) dX2_step_21 hle9) hS (fun H locs hW hS => ?_)
  obtain ⟨w2, hw2, hW, hB_w2⟩ : ∃ ww : TW, w_X4_forgetGiven S w1 fl k = ww ∧ WT D yc e0 A S Z ww.1 ww.2.1 ww.2.2 H ∧ ZB Z Tc Ts ww := ⟨_, rfl, hW, hB_w2⟩
  have hGS : GS w2.2.1 := by rw [← hw2]; exact (GS.of (g_X4_forgetGiven _ _ _ _) hGS)
  have hg9 := hGS fl k
  refine lv_aload_n hx hb dX2_step_24 rfl (lv_at hl 0 rfl) ?_
  refine t_getN (D := D) (ci := 7) (v := .ref (zg S 8 0 k)) (C := RX8) (T := TX8) (N := 12) hx hb hts iX8 hown hK hW 2 fl k (dm2 (by omega) (by omega)) rfl rfl 0 (by decide) (zk_tab rfl (hN _ wr1105 rfl)) (fun _ h9 => h9) rfl dX2_step_25 ?_
  refine t_getN (D := D) (ci := 4) (v := .int (w2.1 8 0 k 0)) (C := RX5) (T := TX5) (N := 15) hx hb hts iX5 hown hK hW 8 0 k (dm8 (by omega)) rfl rfl 0 (by decide) (zk_tab rfl (hN _ wr833 rfl)) (fun _ h9 => h9) rfl dX2_step_28 ?_
  refine lv_if_ne (tgt := 59) hx hb dX2_step_31 (by decide) (fun hb3 => ?_) (fun hb3 => ?_)
  · refine lv_aload_n hx hb dX2_step_59 rfl (lv_at hl 0 rfl) ?_
    refine zr_i (va_runV (As := []) (rest := []) ⟨hx, hb, hml, hown, hts⟩ (k_X8_turnsToSecond l D yc e0 A S Z w2.1 w2.2.1 w2.2.2 fl k (by first | assumption | omega | decide) (by first | assumption | omega | decide)) (cwV 0 hts (lw_V wq461 wq462 wq463 wq16 wq464) rfl rfl rfl (by decide +kernel) ⟨(Nat.le_of_ble_eq_true rfl), (Nat.le_of_ble_eq_true rfl)⟩) (tp_V hC hW hS hA 2 fl k (dm2 (by omega) (by omega)) rfl rfl) rfl rfl hl.1 rfl (lv_room (Nat.le_of_ble_eq_true rfl)) dX2_step_60 ⟨(Nat.le_refl _), (Nat.le_refl _)⟩) ?_
    by_cases hb8 : (v_X8_turnsToSecond S w2.1 w2.2.1 w2.2.2 fl k) = 0
    · refine zk_ti (y := 0) hb8 ?_
      refine lv_istore_n (lv' := [(3, .int 0), (2, .ref (zg S 2 fl k)), (0, .ref (zg S 6 fl 0)), (1, .int (nI k))]) hx hb dX2_step_63 rfl hl (by decide) rfl (fun ls hl => ?_)
      refine lv_aload_n hx hb dX2_step_64 rfl (lv_at hl 1 rfl) ?_
      refine lv_iload_n hx hb dX2_step_65 rfl (lv_at hl 0 rfl) ?_
      refine zr_q (va_runV (As := [.int 0]) (rest := []) ⟨hx, hb, hml, hown, hts⟩ (k_X8_channel0 l D yc e0 A S Z w2.1 w2.2.1 w2.2.2 fl k (by first | assumption | omega | decide) (by first | assumption | omega | decide)) (cwV 1 hts (lw_V wq465 wq466 wq467 wq16 wq468) rfl rfl rfl (by decide +kernel) ⟨(Nat.le_of_ble_eq_true rfl), (Nat.le_of_ble_eq_true rfl)⟩) (tp_V hC hW hS hA 2 fl k (dm2 (by omega) (by omega)) rfl rfl) rfl rfl hl.1 rfl (lv_room (Nat.le_of_ble_eq_true rfl)) dX2_step_66 ⟨(Nat.le_refl _), (Nat.le_refl _)⟩) ?_
      by_cases ho9 : (zp S 0 k).isSome = true
      · refine zk_tv (y := .ref (zg S 4 fl k)) (by show zch S 0 fl k = _; unfold zch; rw [if_pos ho9]) ?_
        refine lv_astore (lv' := [(4, .ref (zg S 4 fl k)), (3, .int 0), (2, .ref (zg S 2 fl k)), (0, .ref (zg S 6 fl 0)), (1, .int (nI k))]) hx hb dX2_step_69 hl (by decide) rfl (fun ls hl => ?_)
        refine lv_aload hx hb dX2_step_71 (lv_at hl 0 rfl) ?_
        refine lv_ifnull hx hb dX2_step_73 ?_
        refine lv_aload hx hb dX2_step_76 (lv_at hl 0 rfl) ?_
        refine zr_i (va_runV (As := []) (rest := []) ⟨hx, hb, hml, hown, hts⟩ (k_X1_canGive l D yc e0 A S Z w2.1 w2.2.1 w2.2.2 4 fl k (Or.inl rfl) (dm4 (by omega) (by omega) (by assumption))) (cwV 0 hts (lw_V wq469 wq305 wq306 wq17 wq307) rfl rfl rfl (by decide +kernel) ⟨(Nat.le_of_ble_eq_true rfl), (Nat.le_of_ble_eq_true rfl)⟩) (tp_V hC hW hS hA 4 fl k (dm4 (by omega) (by omega) (by assumption)) (cel_ch (Or.inl rfl)) rfl) rfl rfl hl.1 rfl (lv_room (Nat.le_of_ble_eq_true rfl)) dX2_step_78 ⟨(Nat.le_refl _), (Nat.le_refl _)⟩) ?_
        refine lv_if_ne (tgt := 86) hx hb dX2_step_81 (by decide) (fun hb10 => ?_) (fun hb10 => ?_)
        · refine lv_aload hx hb dX2_step_86 (lv_at hl 0 rfl) ?_
          have hB_w11 : ZB Z Tc Ts ((w_X1_give S w2 4 fl k).1) := hB.mono (zP_l (P := (zle2 ((w_X1_give S w2 4 fl k).1))) hw1 (zP_l (P := (zle2 ((w_X1_give S w2 4 fl k).1))) hw2 (zP_n (P := (zle2 ((w_X1_give S w2 4 fl k).1))) hb3 (zP_p (P := (zle2 ((w_X1_give S w2 4 fl k).1))) hb8 (zP_p (P := (zle2 ((w_X1_give S w2 4 fl k).1))) ho9 (zP_n (P := (zle2 ((w_X1_give S w2 4 fl k).1))) hb10 (zP_let (P := (zle2 ((w_X1_give S w2 4 fl k).1))) (zle2 ((w_X1_give S w2 4 fl k).1)) zle.rf (fun w11 h8 => (zP_let (P := (zle2 ((w_X1_give S w2 4 fl k).1))) (zle ((w_X1_give S w2 4 fl k).1)) (zle.to h8 rfl) (fun w12 h8_ => (zP_if (P := (zle2 ((w_X1_give S w2 4 fl k).1))) (zP_let (P := (zle2 ((w_X1_give S w2 4 fl k).1))) (zle ((w_X1_give S w2 4 fl k).1)) (zle.tr h8_ (m_X8_takeEvent _ _ _ _ _ _)) (fun w14 h8__ => h8__)) (zP_if (P := (zle2 ((w_X1_give S w2 4 fl k).1))) (zP_let (P := (zle2 ((w_X1_give S w2 4 fl k).1))) (zle2 ((w_X1_give S w2 4 fl k).1)) (zle.tr h8_ (m_X8_leastMark _ _ _ _ _ _)) (fun w16 h8__ => (zP_let (P := (zle2 ((w_X1_give S w2 4 fl k).1))) (zle ((w_X1_give S w2 4 fl k).1)) (zle.tr h8__ (m_X8_raiseMark _ _ _ _ _)) (fun w17 h8___ => h8___)))) (zP_if (P := (zle2 ((w_X1_give S w2 4 fl k).1))) (zP_let (P := (zle2 ((w_X1_give S w2 4 fl k).1))) (zle ((w_X1_give S w2 4 fl k).1)) (zle.tr h8_ (m_X2_takeBarrier _ _ _ _ _ _)) (fun w19 h8__ => h8__)) (zP_let (P := (zle2 ((w_X1_give S w2 4 fl k).1))) (zle ((w_X1_give S w2 4 fl k).1)) (zle.tr h8_ (m_X2_takeBarrierN _ _ _ _ _)) (fun w20 h8__ => h8__)))))))))))))))
          refine tw_l hB_w11 ⟨rfl, rfl⟩ (hB_w2.top hW) (fun hle9 => va_runV (As := []) (rest := []) ⟨hx, hb, hml, hown, hts⟩ (k_X1_give l D yc e0 A S Z Tc Ts w2 H.size (zh H) 4 fl k (Or.inl rfl) (dm4 (by omega) (by omega) (by assumption)) hB_w11) (cwV 0 hts (lw_V wq470 wq471 wq472 wq17 wq473) rfl rfl rfl (by decide +kernel) ⟨(Nat.le_of_ble_eq_true rfl), (Nat.le_of_ble_eq_true rfl)⟩) (tq_V hC hW hS hA 4 fl k (dm4 (by omega) (by omega) (by assumption)) (cel_ch (Or.inl rfl)) rfl) rfl rfl hl.1 rfl (lv_room (Nat.le_of_ble_eq_true rfl)) dX2_step_88 hle9) hS (fun H locs hW hS => ?_)
          obtain ⟨w11, hw11, hW, hB_w11⟩ : ∃ ww : TW × Int64, w_X1_give S w2 4 fl k = ww ∧ WT D yc e0 A S Z ww.1.1 ww.1.2.1 ww.1.2.2 H ∧ ZB Z Tc Ts ww.1 := ⟨_, rfl, hW, hB_w11⟩
          have hGS : GS w11.1.2.1 := by rw [← hw11]; exact (GS.of (g_X1_give _ _ _ _ _) hGS)
          have hg9 := hGS fl k
          have hv9 := congrArg Prod.snd hw11
          refine zk_tl (y := w11.2) (by exact hv9) ?_
          refine lv_lstore (lv' := [(5, .long w11.2), (4, .ref (zg S 4 fl k)), (3, .int 0), (2, .ref (zg S 2 fl k)), (0, .ref (zg S 6 fl 0)), (1, .int (nI k))]) hx hb dX2_step_91 hl (by decide) rfl (fun ls hl => ?_)
          refine lv_aload_n hx hb dX2_step_93 rfl (lv_at hl 3 rfl) ?_
          refine t_getN (D := D) (ci := 7) (v := .ref (zg S 0 fl (3 * k))) (C := RX8) (T := TX8) (N := 12) hx hb hts iX8 hown hK hW 2 fl k (dm2 (by omega) (by omega)) rfl rfl 7 (by decide) (zk_tab rfl (hN _ wr1119 rfl)) (fun _ h9 => h9) rfl dX2_step_94 ?_
          refine lv_iload_n hx hb dX2_step_97 rfl (lv_at hl 2 rfl) ?_
          refine t_putN (D := D) (ci := 8) (v := .int 0) (ty := .boolean) (C := RX9) (T := TX9) (N := 11) hx hb hts iX9 tyX9 tyX9_ok nmX9 hown hK hW hS 0 fl (3 * k) (dm0 (by omega) (by omega)) rfl rfl 3 (by decide) (zk_tab rfl (hN _ wr1060 rfl)) (fun _ h9 => h9) rfl (by decide +kernel) rfl rfl (Nat.le_of_ble_eq_true rfl) (fun j9 => if j9 = 3 then 0 else w11.1.1 0 fl (3 * k) j9) w11.1.2.1 rfl (fun _ _ _ => rfl) (zbit (fun j9 h9 => hW.bit _ _ _ j9 h9) (fun _ => (by decide))) dX2_step_98 (fun H locs hW hS => ?_)
          obtain ⟨w12, hw12, hW, hB_w12⟩ : ∃ ww : TW, zset w11.1 0 fl (3 * k) 3 0 = ww ∧ WT D yc e0 A S Z ww.1 ww.2.1 ww.2.2 H ∧ ZB Z Tc Ts ww := ⟨_, rfl, hW, hB_w11⟩
          have hGS : GS w12.2.1 := by rw [← hw12]; exact hGS
          have hg9 := hGS fl k
          refine lv_lload hx hb dX2_step_101 (lv_at hl 0 rfl) ?_
          refine zr_i (va_runS (As := [.long w11.2]) (rest := []) ⟨hx, hb, hml, hown, hts⟩ (k_X3_kind l w11.2) (va_cwS 1 hts (lw_S wq475 wq341 wq25 wq342) rfl rfl rfl (by decide +kernel) ⟨(Nat.le_of_ble_eq_true rfl), (Nat.le_of_ble_eq_true rfl)⟩) tp_N rfl rfl hl.1 rfl (lv_room (Nat.le_of_ble_eq_true rfl)) dX2_step_103 ⟨(Nat.le_refl _), (Nat.le_refl _)⟩) ?_
          refine lv_istore (lv' := [(7, .int (v_X3_kind w11.2)), (5, .long w11.2), (4, .ref (zg S 4 fl k)), (3, .int 0), (2, .ref (zg S 2 fl k)), (0, .ref (zg S 6 fl 0)), (1, .int (nI k))]) hx hb dX2_step_106 hl (by decide) rfl (fun ls hl => ?_)
          refine lv_iload hx hb dX2_step_108 (lv_at hl 0 rfl) ?_
          refine lv_if_ne (tgt := 123) hx hb dX2_step_110 (by decide) (fun hb13 => ?_) (fun hb13 => ?_)
          · refine lv_iload hx hb dX2_step_123 (lv_at hl 0 rfl) ?_
            refine lv_iconst (v := 1) hx hb dX2_step_125 (by decide) ?_
            refine lv_icmp_ne (tgt := 146) hx hb dX2_step_126 (by decide) (fun hb15 => ?_) (fun hb15 => ?_)
            · refine lv_aload_n hx hb dX2_step_146 rfl (lv_at hl 5 rfl) ?_
              refine lv_aload_n hx hb dX2_step_147 rfl (lv_at hl 4 rfl) ?_
              refine lv_aload hx hb dX2_step_148 (lv_at hl 2 rfl) ?_
              refine lv_aload_n hx hb dX2_step_150 rfl (lv_at hl 4 rfl) ?_
              refine lv_iload_n hx hb dX2_step_151 rfl (lv_at hl 3 rfl) ?_
              refine lv_if_ne (tgt := 159) hx hb dX2_step_152 (by decide) (fun h9 => absurd (by decide) h9) (fun _ => ?_)
              refine lv_iconst (v := 1) hx hb dX2_step_155 (by decide) ?_
              refine lv_goto (tgt := 160) hx hb dX2_step_156 (by decide) ?_
              refine zr_q (va_runV (As := [.int 1]) (rest := [.ref (zg S 4 fl k), .ref (zg S 2 fl k), .ref (zg S 6 fl 0)]) ⟨hx, hb, hml, hown, hts⟩ (k_X8_channel1 l D yc e0 A S Z w12.1 w12.2.1 w12.2.2 fl k (by first | assumption | omega | decide) (by first | assumption | omega | decide)) (cwV 1 hts (lw_V wq465 wq466 wq467 wq16 wq468) rfl rfl rfl (by decide +kernel) ⟨(Nat.le_of_ble_eq_true rfl), (Nat.le_of_ble_eq_true rfl)⟩) (tp_V hC hW hS hA 2 fl k (dm2 (by omega) (by omega)) rfl rfl) rfl rfl hl.1 rfl (lv_room (Nat.le_of_ble_eq_true rfl)) dX2_step_160 ⟨(Nat.le_refl _), (Nat.le_refl _)⟩) ?_
              by_cases ho18 : (zp S 1 k).isSome = true
              · refine zk_tv (y := .ref (zg S 5 fl k)) (by show zch S 1 fl k = _; unfold zch; rw [if_pos ho18]) ?_
                have hB_w19 : ZB Z Tc Ts (w_X2_takeBarrier S w12 fl k 4 5) := hB.mono (zP_l (P := (zle2 (w_X2_takeBarrier S w12 fl k 4 5))) hw1 (zP_l (P := (zle2 (w_X2_takeBarrier S w12 fl k 4 5))) hw2 (zP_n (P := (zle2 (w_X2_takeBarrier S w12 fl k 4 5))) hb3 (zP_p (P := (zle2 (w_X2_takeBarrier S w12 fl k 4 5))) hb8 (zP_p (P := (zle2 (w_X2_takeBarrier S w12 fl k 4 5))) ho9 (zP_n (P := (zle2 (w_X2_takeBarrier S w12 fl k 4 5))) hb10 (zP_l (P := (zle2 (w_X2_takeBarrier S w12 fl k 4 5))) hw11 (zP_l (P := (zle2 (w_X2_takeBarrier S w12 fl k 4 5))) hw12 (zP_n (P := (zle2 (w_X2_takeBarrier S w12 fl k 4 5))) hb13 (zP_n (P := (zle2 (w_X2_takeBarrier S w12 fl k 4 5))) hb15 (zP_p (P := (zle2 (w_X2_takeBarrier S w12 fl k 4 5))) ho18 (zP_let (P := (zle2 (w_X2_takeBarrier S w12 fl k 4 5))) (zle (w_X2_takeBarrier S w12 fl k 4 5)) zle.rf (fun w19 h8 => h8)))))))))))))
                refine tw_v hB_w19 ⟨rfl, rfl⟩ (hB_w12.top hW) (fun hle9 => va_runV (As := [.ref (zg S 2 fl k), .ref (zg S 4 fl k), .ref (zg S 5 fl k)]) (rest := []) ⟨hx, hb, hml, hown, hts⟩ (k_X2_takeBarrier l D yc e0 A S Z Tc Ts w12 H.size (zh H) fl k 4 5 (by first | assumption | omega | decide) (by first | assumption | omega | decide) (by first | assumption | omega | decide) (Or.inl rfl) (dm4 (by omega) (by omega) (by assumption)) (Or.inr rfl) (dm5 (by omega) (by omega) (by assumption)) hB_w19) (cwV 3 hts (lw_V wq583 wq585 ws19 wq2 wq586) rfl rfl rfl (by decide +kernel) ⟨(Nat.le_of_ble_eq_true rfl), (Nat.le_of_ble_eq_true rfl)⟩) (tq_V hC hW hS hA 6 fl 0 (dm6 (by omega)) rfl rfl) rfl rfl hl.1 rfl (lv_room (Nat.le_of_ble_eq_true rfl)) dX2_step_163 hle9) hS (fun H locs hW hS => ?_)
                obtain ⟨w19, hw19, hW, hB_w19⟩ : ∃ ww : TW, w_X2_takeBarrier S w12 fl k 4 5 = ww ∧ WT D yc e0 A S Z ww.1 ww.2.1 ww.2.2 H ∧ ZB Z Tc Ts ww := ⟨_, rfl, hW, hB_w19⟩
                have hGS : GS w19.2.1 := by rw [← hw19]; exact (gs_X2_takeBarrier _ _ _ _ _ _ hGS)
                have hg9 := hGS fl k
                refine lv_iconst (v := 1) hx hb dX2_step_166 (by decide) ?_
                exact tx_i hx hb hr hlk hS rfl hW (zlet_e hw1 (zlet_e hw2 (zif_n hb3 (zif_p hb8 (zif_p ho9 (zif_n hb10 (zlet_e hw11 (zlet_e hw12 (zif_n hb13 (zif_n hb15 (zif_p ho18 (zlet_e hw19 rfl)))))))))))) dX2_step_167
              · refine zk_tv (y := .null) (by show zch S 1 fl k = _; unfold zch; rw [if_neg ho18]) ?_
                have hB_w20 : ZB Z Tc Ts (w_X2_takeBarrierN S w12 fl k 4) := hB.mono (zP_l (P := (zle2 (w_X2_takeBarrierN S w12 fl k 4))) hw1 (zP_l (P := (zle2 (w_X2_takeBarrierN S w12 fl k 4))) hw2 (zP_n (P := (zle2 (w_X2_takeBarrierN S w12 fl k 4))) hb3 (zP_p (P := (zle2 (w_X2_takeBarrierN S w12 fl k 4))) hb8 (zP_p (P := (zle2 (w_X2_takeBarrierN S w12 fl k 4))) ho9 (zP_n (P := (zle2 (w_X2_takeBarrierN S w12 fl k 4))) hb10 (zP_l (P := (zle2 (w_X2_takeBarrierN S w12 fl k 4))) hw11 (zP_l (P := (zle2 (w_X2_takeBarrierN S w12 fl k 4))) hw12 (zP_n (P := (zle2 (w_X2_takeBarrierN S w12 fl k 4))) hb13 (zP_n (P := (zle2 (w_X2_takeBarrierN S w12 fl k 4))) hb15 (zP_n (P := (zle2 (w_X2_takeBarrierN S w12 fl k 4))) ho18 (zP_let (P := (zle2 (w_X2_takeBarrierN S w12 fl k 4))) (zle (w_X2_takeBarrierN S w12 fl k 4)) zle.rf (fun w20 h8 => h8)))))))))))))
                refine tw_v hB_w20 ⟨rfl, rfl⟩ (hB_w12.top hW) (fun hle9 => va_runV (As := [.ref (zg S 2 fl k), .ref (zg S 4 fl k), .null]) (rest := []) ⟨hx, hb, hml, hown, hts⟩ (k_X2_takeBarrierN l D yc e0 A S Z Tc Ts w12 H.size (zh H) fl k 4 (by first | assumption | omega | decide) (by first | assumption | omega | decide) (by first | assumption | omega | decide) (Or.inl rfl) (dm4 (by omega) (by omega) (by assumption)) hB_w20) (cwV 3 hts (lw_V wq583 wq585 ws19 wq2 wq586) rfl rfl rfl (by decide +kernel) ⟨(Nat.le_of_ble_eq_true rfl), (Nat.le_of_ble_eq_true rfl)⟩) (tq_V hC hW hS hA 6 fl 0 (dm6 (by omega)) rfl rfl) rfl rfl hl.1 rfl (lv_room (Nat.le_of_ble_eq_true rfl)) dX2_step_163 hle9) hS (fun H locs hW hS => ?_)
                obtain ⟨w20, hw20, hW, hB_w20⟩ : ∃ ww : TW, w_X2_takeBarrierN S w12 fl k 4 = ww ∧ WT D yc e0 A S Z ww.1 ww.2.1 ww.2.2 H ∧ ZB Z Tc Ts ww := ⟨_, rfl, hW, hB_w20⟩
                have hGS : GS w20.2.1 := by rw [← hw20]; exact (gs_X2_takeBarrierN _ _ _ _ _ hGS)
                have hg9 := hGS fl k
                refine lv_iconst (v := 1) hx hb dX2_step_166 (by decide) ?_
                exact tx_i hx hb hr hlk hS rfl hW (zlet_e hw1 (zlet_e hw2 (zif_n hb3 (zif_p hb8 (zif_p ho9 (zif_n hb10 (zlet_e hw11 (zlet_e hw12 (zif_n hb13 (zif_n hb15 (zif_n ho18 (zlet_e hw20 rfl)))))))))))) dX2_step_167
            · refine lv_aload_n hx hb dX2_step_129 rfl (lv_at hl 4 rfl) ?_
              refine lv_aload_n hx hb dX2_step_130 rfl (lv_at hl 4 rfl) ?_
              refine lv_lload hx hb dX2_step_131 (lv_at hl 1 rfl) ?_
              refine zr_i (va_runS (As := [.long w11.2]) (rest := [.ref (zg S 2 fl k), .ref (zg S 2 fl k)]) ⟨hx, hb, hml, hown, hts⟩ (k_X3_time l w11.2) (va_cwS 1 hts (lw_S wq578 wq396 wq25 wq397) rfl rfl rfl (by decide +kernel) ⟨(Nat.le_of_ble_eq_true rfl), (Nat.le_of_ble_eq_true rfl)⟩) tp_N rfl rfl hl.1 rfl (lv_room (Nat.le_of_ble_eq_true rfl)) dX2_step_133 ⟨(Nat.le_refl _), (Nat.le_refl _)⟩) ?_
              refine lv_iload_n hx hb dX2_step_136 rfl (lv_at hl 3 rfl) ?_
              have hB_w16 : ZB Z Tc Ts ((w_X8_leastMark S w12 fl k (v_X3_time w11.2) 0).1) := hB.mono (zP_l (P := (zle2 ((w_X8_leastMark S w12 fl k (v_X3_time w11.2) 0).1))) hw1 (zP_l (P := (zle2 ((w_X8_leastMark S w12 fl k (v_X3_time w11.2) 0).1))) hw2 (zP_n (P := (zle2 ((w_X8_leastMark S w12 fl k (v_X3_time w11.2) 0).1))) hb3 (zP_p (P := (zle2 ((w_X8_leastMark S w12 fl k (v_X3_time w11.2) 0).1))) hb8 (zP_p (P := (zle2 ((w_X8_leastMark S w12 fl k (v_X3_time w11.2) 0).1))) ho9 (zP_n (P := (zle2 ((w_X8_leastMark S w12 fl k (v_X3_time w11.2) 0).1))) hb10 (zP_l (P := (zle2 ((w_X8_leastMark S w12 fl k (v_X3_time w11.2) 0).1))) hw11 (zP_l (P := (zle2 ((w_X8_leastMark S w12 fl k (v_X3_time w11.2) 0).1))) hw12 (zP_n (P := (zle2 ((w_X8_leastMark S w12 fl k (v_X3_time w11.2) 0).1))) hb13 (zP_p (P := (zle2 ((w_X8_leastMark S w12 fl k (v_X3_time w11.2) 0).1))) hb15 (zP_let (P := (zle2 ((w_X8_leastMark S w12 fl k (v_X3_time w11.2) 0).1))) (zle2 ((w_X8_leastMark S w12 fl k (v_X3_time w11.2) 0).1)) zle.rf (fun w16 h8 => (zP_let (P := (zle2 ((w_X8_leastMark S w12 fl k (v_X3_time w11.2) 0).1))) (zle ((w_X8_leastMark S w12 fl k (v_X3_time w11.2) 0).1)) (zle.tr h8 (m_X8_raiseMark _ _ _ _ _)) (fun w17 h8_ => h8_))))))))))))))
              refine tw_i hB_w16 ⟨rfl, rfl⟩ (hB_w12.top hW) (fun hle9 => va_runV (As := [.int (v_X3_time w11.2), .int 0]) (rest := [.ref (zg S 2 fl k)]) ⟨hx, hb, hml, hown, hts⟩ (k_X8_leastMark l D yc e0 A S Z Tc Ts w12 H.size (zh H) fl k (v_X3_time w11.2) 0 (by first | assumption | omega | decide) (by first | assumption | omega | decide) hB_w16) (cwV 2 hts (lw_V wq579 wq580 wq581 wq16 wq582) rfl rfl rfl (by decide +kernel) ⟨(Nat.le_of_ble_eq_true rfl), (Nat.le_of_ble_eq_true rfl)⟩) (tq_V hC hW hS hA 2 fl k (dm2 (by omega) (by omega)) rfl rfl) rfl rfl hl.1 rfl (lv_room (Nat.le_of_ble_eq_true rfl)) dX2_step_137 hle9) hS (fun H locs hW hS => ?_)
              obtain ⟨w16, hw16, hW, hB_w16⟩ : ∃ ww : TW × Int32, w_X8_leastMark S w12 fl k (v_X3_time w11.2) 0 = ww ∧ WT D yc e0 A S Z ww.1.1 ww.1.2.1 ww.1.2.2 H ∧ ZB Z Tc Ts ww.1 := ⟨_, rfl, hW, hB_w16⟩
              have hGS : GS w16.1.2.1 := by rw [← hw16]; exact (GS.of (g_X8_leastMark _ _ _ _ _ _) hGS)
              have hg9 := hGS fl k
              have hv9 := congrArg Prod.snd hw16
              refine zk_ti (y := w16.2) (by exact hv9) ?_
              have hB_w17 : ZB Z Tc Ts (w_X8_raiseMark S w16.1 fl k w16.2) := hB.mono (zP_l (P := (zle2 (w_X8_raiseMark S w16.1 fl k w16.2))) hw1 (zP_l (P := (zle2 (w_X8_raiseMark S w16.1 fl k w16.2))) hw2 (zP_n (P := (zle2 (w_X8_raiseMark S w16.1 fl k w16.2))) hb3 (zP_p (P := (zle2 (w_X8_raiseMark S w16.1 fl k w16.2))) hb8 (zP_p (P := (zle2 (w_X8_raiseMark S w16.1 fl k w16.2))) ho9 (zP_n (P := (zle2 (w_X8_raiseMark S w16.1 fl k w16.2))) hb10 (zP_l (P := (zle2 (w_X8_raiseMark S w16.1 fl k w16.2))) hw11 (zP_l (P := (zle2 (w_X8_raiseMark S w16.1 fl k w16.2))) hw12 (zP_n (P := (zle2 (w_X8_raiseMark S w16.1 fl k w16.2))) hb13 (zP_p (P := (zle2 (w_X8_raiseMark S w16.1 fl k w16.2))) hb15 (zP_l (P := (zle2 (w_X8_raiseMark S w16.1 fl k w16.2))) hw16 (zP_let (P := (zle2 (w_X8_raiseMark S w16.1 fl k w16.2))) (zle (w_X8_raiseMark S w16.1 fl k w16.2)) zle.rf (fun w17 h8 => h8)))))))))))))
              refine tw_v hB_w17 ⟨rfl, rfl⟩ (hB_w16.top hW) (fun hle9 => va_runV (As := [.int w16.2]) (rest := []) ⟨hx, hb, hml, hown, hts⟩ (k_X8_raiseMark l D yc e0 A S Z Tc Ts w16.1 H.size (zh H) fl k w16.2 (by first | assumption | omega | decide) (by first | assumption | omega | decide) hB_w17) (cwV 1 hts (lw_V wq399 wq400 wq401 wq16 wq402) rfl rfl rfl (by decide +kernel) ⟨(Nat.le_of_ble_eq_true rfl), (Nat.le_of_ble_eq_true rfl)⟩) (tq_V hC hW hS hA 2 fl k (dm2 (by omega) (by omega)) rfl rfl) rfl rfl hl.1 rfl (lv_room (Nat.le_of_ble_eq_true rfl)) dX2_step_140 hle9) hS (fun H locs hW hS => ?_)
              obtain ⟨w17, hw17, hW, hB_w17⟩ : ∃ ww : TW, w_X8_raiseMark S w16.1 fl k w16.2 = ww ∧ WT D yc e0 A S Z ww.1 ww.2.1 ww.2.2 H ∧ ZB Z Tc Ts ww := ⟨_, rfl, hW, hB_w17⟩
              have hGS : GS w17.2.1 := by rw [← hw17]; exact (GS.of (g_X8_raiseMark _ _ _ _ _) hGS)
              have hg9 := hGS fl k
              refine lv_goto (tgt := 166) hx hb dX2_step_143 (by decide) ?_
              refine lv_iconst (v := 1) hx hb dX2_step_166 (by decide) ?_
              exact tx_i hx hb hr hlk hS rfl hW (zlet_e hw1 (zlet_e hw2 (zif_n hb3 (zif_p hb8 (zif_p ho9 (zif_n hb10 (zlet_e hw11 (zlet_e hw12 (zif_n hb13 (zif_p hb15 (zlet_e hw16 (zlet_e hw17 rfl)))))))))))) dX2_step_167
          · refine lv_aload_n hx hb dX2_step_113 rfl (lv_at hl 4 rfl) ?_
            refine lv_lload hx hb dX2_step_114 (lv_at hl 1 rfl) ?_
            refine lv_iload_n hx hb dX2_step_116 rfl (lv_at hl 3 rfl) ?_
            have hB_w14 : ZB Z Tc Ts (w_X8_takeEvent S w12 fl k w11.2 0) := hB.mono (zP_l (P := (zle2 (w_X8_takeEvent S w12 fl k w11.2 0))) hw1 (zP_l (P := (zle2 (w_X8_takeEvent S w12 fl k w11.2 0))) hw2 (zP_n (P := (zle2 (w_X8_takeEvent S w12 fl k w11.2 0))) hb3 (zP_p (P := (zle2 (w_X8_takeEvent S w12 fl k w11.2 0))) hb8 (zP_p (P := (zle2 (w_X8_takeEvent S w12 fl k w11.2 0))) ho9 (zP_n (P := (zle2 (w_X8_takeEvent S w12 fl k w11.2 0))) hb10 (zP_l (P := (zle2 (w_X8_takeEvent S w12 fl k w11.2 0))) hw11 (zP_l (P := (zle2 (w_X8_takeEvent S w12 fl k w11.2 0))) hw12 (zP_p (P := (zle2 (w_X8_takeEvent S w12 fl k w11.2 0))) hb13 (zP_let (P := (zle2 (w_X8_takeEvent S w12 fl k w11.2 0))) (zle (w_X8_takeEvent S w12 fl k w11.2 0)) zle.rf (fun w14 h8 => h8)))))))))))
            refine tw_v hB_w14 ⟨rfl, rfl⟩ (hB_w12.top hW) (fun hle9 => va_runV (As := [.long w11.2, .int 0]) (rest := []) ⟨hx, hb, hml, hown, hts⟩ (k_X8_takeEvent l D yc e0 A S Z Tc Ts w12 H.size (zh H) fl k w11.2 0 (by first | assumption | omega | decide) (by first | assumption | omega | decide) hB_w14) (cwV 2 hts (lw_V wq476 wq477 wq478 wq16 wq479) rfl rfl rfl (by decide +kernel) ⟨(Nat.le_of_ble_eq_true rfl), (Nat.le_of_ble_eq_true rfl)⟩) (tq_V hC hW hS hA 2 fl k (dm2 (by omega) (by omega)) rfl rfl) rfl rfl hl.1 rfl (lv_room (Nat.le_of_ble_eq_true rfl)) dX2_step_117 hle9) hS (fun H locs hW hS => ?_)
            obtain ⟨w14, hw14, hW, hB_w14⟩ : ∃ ww : TW, w_X8_takeEvent S w12 fl k w11.2 0 = ww ∧ WT D yc e0 A S Z ww.1 ww.2.1 ww.2.2 H ∧ ZB Z Tc Ts ww := ⟨_, rfl, hW, hB_w14⟩
            have hGS : GS w14.2.1 := by rw [← hw14]; exact (GS.of (g_X8_takeEvent _ _ _ _ _ _) hGS)
            have hg9 := hGS fl k
            refine lv_goto (tgt := 166) hx hb dX2_step_120 (by decide) ?_
            refine lv_iconst (v := 1) hx hb dX2_step_166 (by decide) ?_
            exact tx_i hx hb hr hlk hS rfl hW (zlet_e hw1 (zlet_e hw2 (zif_n hb3 (zif_p hb8 (zif_p ho9 (zif_n hb10 (zlet_e hw11 (zlet_e hw12 (zif_p hb13 (zlet_e hw14 rfl)))))))))) dX2_step_167
        · refine lv_iconst (v := 0) hx hb dX2_step_84 (by decide) ?_
          exact tx_i hx hb hr hlk hS rfl hW (zlet_e hw1 (zlet_e hw2 (zif_n hb3 (zif_p hb8 (zif_p ho9 (zif_p hb10 rfl)))))) dX2_step_85
      · refine zk_tv (y := .null) (by show zch S 0 fl k = _; unfold zch; rw [if_neg ho9]) ?_
        refine lv_astoreN (lv' := [(4, .null), (3, .int 0), (2, .ref (zg S 2 fl k)), (0, .ref (zg S 6 fl 0)), (1, .int (nI k))]) hx hb dX2_step_69 hl (by decide) rfl (fun ls hl => ?_)
        refine lv_aloadN hx hb dX2_step_71 (lv_at hl 0 rfl) ?_
        refine lv_ifnullN (tgt := 84) hx hb dX2_step_73 (by decide) ?_
        refine lv_iconst (v := 0) hx hb dX2_step_84 (by decide) ?_
        exact tx_i hx hb hr hlk hS rfl hW (zlet_e hw1 (zlet_e hw2 (zif_n hb3 (zif_p hb8 (zif_n ho9 rfl))))) dX2_step_85
    · refine zk_ti (y := 1) (t2_01 hb8) ?_
      refine lv_istore_n (lv' := [(3, .int 1), (2, .ref (zg S 2 fl k)), (0, .ref (zg S 6 fl 0)), (1, .int (nI k))]) hx hb dX2_step_63 rfl hl (by decide) rfl (fun ls hl => ?_)
      refine lv_aload_n hx hb dX2_step_64 rfl (lv_at hl 1 rfl) ?_
      refine lv_iload_n hx hb dX2_step_65 rfl (lv_at hl 0 rfl) ?_
      refine zr_q (va_runV (As := [.int 1]) (rest := []) ⟨hx, hb, hml, hown, hts⟩ (k_X8_channel1 l D yc e0 A S Z w2.1 w2.2.1 w2.2.2 fl k (by first | assumption | omega | decide) (by first | assumption | omega | decide)) (cwV 1 hts (lw_V wq465 wq466 wq467 wq16 wq468) rfl rfl rfl (by decide +kernel) ⟨(Nat.le_of_ble_eq_true rfl), (Nat.le_of_ble_eq_true rfl)⟩) (tp_V hC hW hS hA 2 fl k (dm2 (by omega) (by omega)) rfl rfl) rfl rfl hl.1 rfl (lv_room (Nat.le_of_ble_eq_true rfl)) dX2_step_66 ⟨(Nat.le_refl _), (Nat.le_refl _)⟩) ?_
      by_cases ho21 : (zp S 1 k).isSome = true
      · refine zk_tv (y := .ref (zg S 5 fl k)) (by show zch S 1 fl k = _; unfold zch; rw [if_pos ho21]) ?_
        refine lv_astore (lv' := [(4, .ref (zg S 5 fl k)), (3, .int 1), (2, .ref (zg S 2 fl k)), (0, .ref (zg S 6 fl 0)), (1, .int (nI k))]) hx hb dX2_step_69 hl (by decide) rfl (fun ls hl => ?_)
        refine lv_aload hx hb dX2_step_71 (lv_at hl 0 rfl) ?_
        refine lv_ifnull hx hb dX2_step_73 ?_
        refine lv_aload hx hb dX2_step_76 (lv_at hl 0 rfl) ?_
        refine zr_i (va_runV (As := []) (rest := []) ⟨hx, hb, hml, hown, hts⟩ (k_X1_canGive l D yc e0 A S Z w2.1 w2.2.1 w2.2.2 5 fl k (Or.inr rfl) (dm5 (by omega) (by omega) (by assumption))) (cwV 0 hts (lw_V wq469 wq305 wq306 wq17 wq307) rfl rfl rfl (by decide +kernel) ⟨(Nat.le_of_ble_eq_true rfl), (Nat.le_of_ble_eq_true rfl)⟩) (tp_V hC hW hS hA 5 fl k (dm5 (by omega) (by omega) (by assumption)) (cel_ch (Or.inr rfl)) rfl) rfl rfl hl.1 rfl (lv_room (Nat.le_of_ble_eq_true rfl)) dX2_step_78 ⟨(Nat.le_refl _), (Nat.le_refl _)⟩) ?_
        refine lv_if_ne (tgt := 86) hx hb dX2_step_81 (by decide) (fun hb22 => ?_) (fun hb22 => ?_)
        · refine lv_aload hx hb dX2_step_86 (lv_at hl 0 rfl) ?_
          have hB_w23 : ZB Z Tc Ts ((w_X1_give S w2 5 fl k).1) := hB.mono (zP_l (P := (zle2 ((w_X1_give S w2 5 fl k).1))) hw1 (zP_l (P := (zle2 ((w_X1_give S w2 5 fl k).1))) hw2 (zP_n (P := (zle2 ((w_X1_give S w2 5 fl k).1))) hb3 (zP_n (P := (zle2 ((w_X1_give S w2 5 fl k).1))) hb8 (zP_p (P := (zle2 ((w_X1_give S w2 5 fl k).1))) ho21 (zP_n (P := (zle2 ((w_X1_give S w2 5 fl k).1))) hb22 (zP_let (P := (zle2 ((w_X1_give S w2 5 fl k).1))) (zle2 ((w_X1_give S w2 5 fl k).1)) zle.rf (fun w23 h8 => (zP_let (P := (zle2 ((w_X1_give S w2 5 fl k).1))) (zle ((w_X1_give S w2 5 fl k).1)) (zle.to h8 rfl) (fun w24 h8_ => (zP_if (P := (zle2 ((w_X1_give S w2 5 fl k).1))) (zP_let (P := (zle2 ((w_X1_give S w2 5 fl k).1))) (zle ((w_X1_give S w2 5 fl k).1)) (zle.tr h8_ (m_X8_takeEvent _ _ _ _ _ _)) (fun w26 h8__ => h8__)) (zP_if (P := (zle2 ((w_X1_give S w2 5 fl k).1))) (zP_let (P := (zle2 ((w_X1_give S w2 5 fl k).1))) (zle2 ((w_X1_give S w2 5 fl k).1)) (zle.tr h8_ (m_X8_leastMark _ _ _ _ _ _)) (fun w28 h8__ => (zP_let (P := (zle2 ((w_X1_give S w2 5 fl k).1))) (zle ((w_X1_give S w2 5 fl k).1)) (zle.tr h8__ (m_X8_raiseMark _ _ _ _ _)) (fun w29 h8___ => h8___)))) (zP_if (P := (zle2 ((w_X1_give S w2 5 fl k).1))) (zP_let (P := (zle2 ((w_X1_give S w2 5 fl k).1))) (zle ((w_X1_give S w2 5 fl k).1)) (zle.tr h8_ (m_X2_takeBarrier _ _ _ _ _ _)) (fun w31 h8__ => h8__)) (zP_let (P := (zle2 ((w_X1_give S w2 5 fl k).1))) (zle ((w_X1_give S w2 5 fl k).1)) (zle.tr h8_ (m_X2_takeBarrierN _ _ _ _ _)) (fun w32 h8__ => h8__)))))))))))))))
          refine tw_l hB_w23 ⟨rfl, rfl⟩ (hB_w2.top hW) (fun hle9 => va_runV (As := []) (rest := []) ⟨hx, hb, hml, hown, hts⟩ (k_X1_give l D yc e0 A S Z Tc Ts w2 H.size (zh H) 5 fl k (Or.inr rfl) (dm5 (by omega) (by omega) (by assumption)) hB_w23) (cwV 0 hts (lw_V wq470 wq471 wq472 wq17 wq473) rfl rfl rfl (by decide +kernel) ⟨(Nat.le_of_ble_eq_true rfl), (Nat.le_of_ble_eq_true rfl)⟩) (tq_V hC hW hS hA 5 fl k (dm5 (by omega) (by omega) (by assumption)) (cel_ch (Or.inr rfl)) rfl) rfl rfl hl.1 rfl (lv_room (Nat.le_of_ble_eq_true rfl)) dX2_step_88 hle9) hS (fun H locs hW hS => ?_)
          obtain ⟨w23, hw23, hW, hB_w23⟩ : ∃ ww : TW × Int64, w_X1_give S w2 5 fl k = ww ∧ WT D yc e0 A S Z ww.1.1 ww.1.2.1 ww.1.2.2 H ∧ ZB Z Tc Ts ww.1 := ⟨_, rfl, hW, hB_w23⟩
          have hGS : GS w23.1.2.1 := by rw [← hw23]; exact (GS.of (g_X1_give _ _ _ _ _) hGS)
          have hg9 := hGS fl k
          have hv9 := congrArg Prod.snd hw23
          refine zk_tl (y := w23.2) (by exact hv9) ?_
          refine lv_lstore (lv' := [(5, .long w23.2), (4, .ref (zg S 5 fl k)), (3, .int 1), (2, .ref (zg S 2 fl k)), (0, .ref (zg S 6 fl 0)), (1, .int (nI k))]) hx hb dX2_step_91 hl (by decide) rfl (fun ls hl => ?_)
          refine lv_aload_n hx hb dX2_step_93 rfl (lv_at hl 3 rfl) ?_
          refine t_getN (D := D) (ci := 7) (v := .ref (zg S 0 fl (3 * k))) (C := RX8) (T := TX8) (N := 12) hx hb hts iX8 hown hK hW 2 fl k (dm2 (by omega) (by omega)) rfl rfl 7 (by decide) (zk_tab rfl (hN _ wr1119 rfl)) (fun _ h9 => h9) rfl dX2_step_94 ?_
          refine lv_iload_n hx hb dX2_step_97 rfl (lv_at hl 2 rfl) ?_
          refine t_putN (D := D) (ci := 8) (v := .int 1) (ty := .boolean) (C := RX9) (T := TX9) (N := 11) hx hb hts iX9 tyX9 tyX9_ok nmX9 hown hK hW hS 0 fl (3 * k) (dm0 (by omega) (by omega)) rfl rfl 3 (by decide) (zk_tab rfl (hN _ wr1060 rfl)) (fun _ h9 => h9) rfl (by decide +kernel) rfl rfl (Nat.le_of_ble_eq_true rfl) (fun j9 => if j9 = 3 then 1 else w23.1.1 0 fl (3 * k) j9) w23.1.2.1 rfl (fun _ _ _ => rfl) (zbit (fun j9 h9 => hW.bit _ _ _ j9 h9) (fun _ => (by decide))) dX2_step_98 (fun H locs hW hS => ?_)
          obtain ⟨w24, hw24, hW, hB_w24⟩ : ∃ ww : TW, zset w23.1 0 fl (3 * k) 3 1 = ww ∧ WT D yc e0 A S Z ww.1 ww.2.1 ww.2.2 H ∧ ZB Z Tc Ts ww := ⟨_, rfl, hW, hB_w23⟩
          have hGS : GS w24.2.1 := by rw [← hw24]; exact hGS
          have hg9 := hGS fl k
          refine lv_lload hx hb dX2_step_101 (lv_at hl 0 rfl) ?_
          refine zr_i (va_runS (As := [.long w23.2]) (rest := []) ⟨hx, hb, hml, hown, hts⟩ (k_X3_kind l w23.2) (va_cwS 1 hts (lw_S wq475 wq341 wq25 wq342) rfl rfl rfl (by decide +kernel) ⟨(Nat.le_of_ble_eq_true rfl), (Nat.le_of_ble_eq_true rfl)⟩) tp_N rfl rfl hl.1 rfl (lv_room (Nat.le_of_ble_eq_true rfl)) dX2_step_103 ⟨(Nat.le_refl _), (Nat.le_refl _)⟩) ?_
          refine lv_istore (lv' := [(7, .int (v_X3_kind w23.2)), (5, .long w23.2), (4, .ref (zg S 5 fl k)), (3, .int 1), (2, .ref (zg S 2 fl k)), (0, .ref (zg S 6 fl 0)), (1, .int (nI k))]) hx hb dX2_step_106 hl (by decide) rfl (fun ls hl => ?_)
          refine lv_iload hx hb dX2_step_108 (lv_at hl 0 rfl) ?_
          refine lv_if_ne (tgt := 123) hx hb dX2_step_110 (by decide) (fun hb25 => ?_) (fun hb25 => ?_)
          · refine lv_iload hx hb dX2_step_123 (lv_at hl 0 rfl) ?_
            refine lv_iconst (v := 1) hx hb dX2_step_125 (by decide) ?_
            refine lv_icmp_ne (tgt := 146) hx hb dX2_step_126 (by decide) (fun hb27 => ?_) (fun hb27 => ?_)
            · refine lv_aload_n hx hb dX2_step_146 rfl (lv_at hl 5 rfl) ?_
              refine lv_aload_n hx hb dX2_step_147 rfl (lv_at hl 4 rfl) ?_
              refine lv_aload hx hb dX2_step_148 (lv_at hl 2 rfl) ?_
              refine lv_aload_n hx hb dX2_step_150 rfl (lv_at hl 4 rfl) ?_
              refine lv_iload_n hx hb dX2_step_151 rfl (lv_at hl 3 rfl) ?_
              refine lv_if_ne (tgt := 159) hx hb dX2_step_152 (by decide) (fun _ => ?_) (fun h9 => absurd h9 (by decide))
              refine lv_iconst (v := 0) hx hb dX2_step_159 (by decide) ?_
              refine zr_q (va_runV (As := [.int 0]) (rest := [.ref (zg S 5 fl k), .ref (zg S 2 fl k), .ref (zg S 6 fl 0)]) ⟨hx, hb, hml, hown, hts⟩ (k_X8_channel0 l D yc e0 A S Z w24.1 w24.2.1 w24.2.2 fl k (by first | assumption | omega | decide) (by first | assumption | omega | decide)) (cwV 1 hts (lw_V wq465 wq466 wq467 wq16 wq468) rfl rfl rfl (by decide +kernel) ⟨(Nat.le_of_ble_eq_true rfl), (Nat.le_of_ble_eq_true rfl)⟩) (tp_V hC hW hS hA 2 fl k (dm2 (by omega) (by omega)) rfl rfl) rfl rfl hl.1 rfl (lv_room (Nat.le_of_ble_eq_true rfl)) dX2_step_160 ⟨(Nat.le_refl _), (Nat.le_refl _)⟩) ?_
              by_cases ho30 : (zp S 0 k).isSome = true
              · refine zk_tv (y := .ref (zg S 4 fl k)) (by show zch S 0 fl k = _; unfold zch; rw [if_pos ho30]) ?_
                have hB_w31 : ZB Z Tc Ts (w_X2_takeBarrier S w24 fl k 5 4) := hB.mono (zP_l (P := (zle2 (w_X2_takeBarrier S w24 fl k 5 4))) hw1 (zP_l (P := (zle2 (w_X2_takeBarrier S w24 fl k 5 4))) hw2 (zP_n (P := (zle2 (w_X2_takeBarrier S w24 fl k 5 4))) hb3 (zP_n (P := (zle2 (w_X2_takeBarrier S w24 fl k 5 4))) hb8 (zP_p (P := (zle2 (w_X2_takeBarrier S w24 fl k 5 4))) ho21 (zP_n (P := (zle2 (w_X2_takeBarrier S w24 fl k 5 4))) hb22 (zP_l (P := (zle2 (w_X2_takeBarrier S w24 fl k 5 4))) hw23 (zP_l (P := (zle2 (w_X2_takeBarrier S w24 fl k 5 4))) hw24 (zP_n (P := (zle2 (w_X2_takeBarrier S w24 fl k 5 4))) hb25 (zP_n (P := (zle2 (w_X2_takeBarrier S w24 fl k 5 4))) hb27 (zP_p (P := (zle2 (w_X2_takeBarrier S w24 fl k 5 4))) ho30 (zP_let (P := (zle2 (w_X2_takeBarrier S w24 fl k 5 4))) (zle (w_X2_takeBarrier S w24 fl k 5 4)) zle.rf (fun w31 h8 => h8)))))))))))))
                refine tw_v hB_w31 ⟨rfl, rfl⟩ (hB_w24.top hW) (fun hle9 => va_runV (As := [.ref (zg S 2 fl k), .ref (zg S 5 fl k), .ref (zg S 4 fl k)]) (rest := []) ⟨hx, hb, hml, hown, hts⟩ (k_X2_takeBarrier l D yc e0 A S Z Tc Ts w24 H.size (zh H) fl k 5 4 (by first | assumption | omega | decide) (by first | assumption | omega | decide) (by first | assumption | omega | decide) (Or.inr rfl) (dm5 (by omega) (by omega) (by assumption)) (Or.inl rfl) (dm4 (by omega) (by omega) (by assumption)) hB_w31) (cwV 3 hts (lw_V wq583 wq585 ws19 wq2 wq586) rfl rfl rfl (by decide +kernel) ⟨(Nat.le_of_ble_eq_true rfl), (Nat.le_of_ble_eq_true rfl)⟩) (tq_V hC hW hS hA 6 fl 0 (dm6 (by omega)) rfl rfl) rfl rfl hl.1 rfl (lv_room (Nat.le_of_ble_eq_true rfl)) dX2_step_163 hle9) hS (fun H locs hW hS => ?_)
                obtain ⟨w31, hw31, hW, hB_w31⟩ : ∃ ww : TW, w_X2_takeBarrier S w24 fl k 5 4 = ww ∧ WT D yc e0 A S Z ww.1 ww.2.1 ww.2.2 H ∧ ZB Z Tc Ts ww := ⟨_, rfl, hW, hB_w31⟩
                have hGS : GS w31.2.1 := by rw [← hw31]; exact (gs_X2_takeBarrier _ _ _ _ _ _ hGS)
                have hg9 := hGS fl k
                refine lv_iconst (v := 1) hx hb dX2_step_166 (by decide) ?_
                exact tx_i hx hb hr hlk hS rfl hW (zlet_e hw1 (zlet_e hw2 (zif_n hb3 (zif_n hb8 (zif_p ho21 (zif_n hb22 (zlet_e hw23 (zlet_e hw24 (zif_n hb25 (zif_n hb27 (zif_p ho30 (zlet_e hw31 rfl)))))))))))) dX2_step_167
              · refine zk_tv (y := .null) (by show zch S 0 fl k = _; unfold zch; rw [if_neg ho30]) ?_
                have hB_w32 : ZB Z Tc Ts (w_X2_takeBarrierN S w24 fl k 5) := hB.mono (zP_l (P := (zle2 (w_X2_takeBarrierN S w24 fl k 5))) hw1 (zP_l (P := (zle2 (w_X2_takeBarrierN S w24 fl k 5))) hw2 (zP_n (P := (zle2 (w_X2_takeBarrierN S w24 fl k 5))) hb3 (zP_n (P := (zle2 (w_X2_takeBarrierN S w24 fl k 5))) hb8 (zP_p (P := (zle2 (w_X2_takeBarrierN S w24 fl k 5))) ho21 (zP_n (P := (zle2 (w_X2_takeBarrierN S w24 fl k 5))) hb22 (zP_l (P := (zle2 (w_X2_takeBarrierN S w24 fl k 5))) hw23 (zP_l (P := (zle2 (w_X2_takeBarrierN S w24 fl k 5))) hw24 (zP_n (P := (zle2 (w_X2_takeBarrierN S w24 fl k 5))) hb25 (zP_n (P := (zle2 (w_X2_takeBarrierN S w24 fl k 5))) hb27 (zP_n (P := (zle2 (w_X2_takeBarrierN S w24 fl k 5))) ho30 (zP_let (P := (zle2 (w_X2_takeBarrierN S w24 fl k 5))) (zle (w_X2_takeBarrierN S w24 fl k 5)) zle.rf (fun w32 h8 => h8)))))))))))))
                refine tw_v hB_w32 ⟨rfl, rfl⟩ (hB_w24.top hW) (fun hle9 => va_runV (As := [.ref (zg S 2 fl k), .ref (zg S 5 fl k), .null]) (rest := []) ⟨hx, hb, hml, hown, hts⟩ (k_X2_takeBarrierN l D yc e0 A S Z Tc Ts w24 H.size (zh H) fl k 5 (by first | assumption | omega | decide) (by first | assumption | omega | decide) (by first | assumption | omega | decide) (Or.inr rfl) (dm5 (by omega) (by omega) (by assumption)) hB_w32) (cwV 3 hts (lw_V wq583 wq585 ws19 wq2 wq586) rfl rfl rfl (by decide +kernel) ⟨(Nat.le_of_ble_eq_true rfl), (Nat.le_of_ble_eq_true rfl)⟩) (tq_V hC hW hS hA 6 fl 0 (dm6 (by omega)) rfl rfl) rfl rfl hl.1 rfl (lv_room (Nat.le_of_ble_eq_true rfl)) dX2_step_163 hle9) hS (fun H locs hW hS => ?_)
                obtain ⟨w32, hw32, hW, hB_w32⟩ : ∃ ww : TW, w_X2_takeBarrierN S w24 fl k 5 = ww ∧ WT D yc e0 A S Z ww.1 ww.2.1 ww.2.2 H ∧ ZB Z Tc Ts ww := ⟨_, rfl, hW, hB_w32⟩
                have hGS : GS w32.2.1 := by rw [← hw32]; exact (gs_X2_takeBarrierN _ _ _ _ _ hGS)
                have hg9 := hGS fl k
                refine lv_iconst (v := 1) hx hb dX2_step_166 (by decide) ?_
                exact tx_i hx hb hr hlk hS rfl hW (zlet_e hw1 (zlet_e hw2 (zif_n hb3 (zif_n hb8 (zif_p ho21 (zif_n hb22 (zlet_e hw23 (zlet_e hw24 (zif_n hb25 (zif_n hb27 (zif_n ho30 (zlet_e hw32 rfl)))))))))))) dX2_step_167
            · refine lv_aload_n hx hb dX2_step_129 rfl (lv_at hl 4 rfl) ?_
              refine lv_aload_n hx hb dX2_step_130 rfl (lv_at hl 4 rfl) ?_
              refine lv_lload hx hb dX2_step_131 (lv_at hl 1 rfl) ?_
              refine zr_i (va_runS (As := [.long w23.2]) (rest := [.ref (zg S 2 fl k), .ref (zg S 2 fl k)]) ⟨hx, hb, hml, hown, hts⟩ (k_X3_time l w23.2) (va_cwS 1 hts (lw_S wq578 wq396 wq25 wq397) rfl rfl rfl (by decide +kernel) ⟨(Nat.le_of_ble_eq_true rfl), (Nat.le_of_ble_eq_true rfl)⟩) tp_N rfl rfl hl.1 rfl (lv_room (Nat.le_of_ble_eq_true rfl)) dX2_step_133 ⟨(Nat.le_refl _), (Nat.le_refl _)⟩) ?_
              refine lv_iload_n hx hb dX2_step_136 rfl (lv_at hl 3 rfl) ?_
              have hB_w28 : ZB Z Tc Ts ((w_X8_leastMark S w24 fl k (v_X3_time w23.2) 1).1) := hB.mono (zP_l (P := (zle2 ((w_X8_leastMark S w24 fl k (v_X3_time w23.2) 1).1))) hw1 (zP_l (P := (zle2 ((w_X8_leastMark S w24 fl k (v_X3_time w23.2) 1).1))) hw2 (zP_n (P := (zle2 ((w_X8_leastMark S w24 fl k (v_X3_time w23.2) 1).1))) hb3 (zP_n (P := (zle2 ((w_X8_leastMark S w24 fl k (v_X3_time w23.2) 1).1))) hb8 (zP_p (P := (zle2 ((w_X8_leastMark S w24 fl k (v_X3_time w23.2) 1).1))) ho21 (zP_n (P := (zle2 ((w_X8_leastMark S w24 fl k (v_X3_time w23.2) 1).1))) hb22 (zP_l (P := (zle2 ((w_X8_leastMark S w24 fl k (v_X3_time w23.2) 1).1))) hw23 (zP_l (P := (zle2 ((w_X8_leastMark S w24 fl k (v_X3_time w23.2) 1).1))) hw24 (zP_n (P := (zle2 ((w_X8_leastMark S w24 fl k (v_X3_time w23.2) 1).1))) hb25 (zP_p (P := (zle2 ((w_X8_leastMark S w24 fl k (v_X3_time w23.2) 1).1))) hb27 (zP_let (P := (zle2 ((w_X8_leastMark S w24 fl k (v_X3_time w23.2) 1).1))) (zle2 ((w_X8_leastMark S w24 fl k (v_X3_time w23.2) 1).1)) zle.rf (fun w28 h8 => (zP_let (P := (zle2 ((w_X8_leastMark S w24 fl k (v_X3_time w23.2) 1).1))) (zle ((w_X8_leastMark S w24 fl k (v_X3_time w23.2) 1).1)) (zle.tr h8 (m_X8_raiseMark _ _ _ _ _)) (fun w29 h8_ => h8_))))))))))))))
              refine tw_i hB_w28 ⟨rfl, rfl⟩ (hB_w24.top hW) (fun hle9 => va_runV (As := [.int (v_X3_time w23.2), .int 1]) (rest := [.ref (zg S 2 fl k)]) ⟨hx, hb, hml, hown, hts⟩ (k_X8_leastMark l D yc e0 A S Z Tc Ts w24 H.size (zh H) fl k (v_X3_time w23.2) 1 (by first | assumption | omega | decide) (by first | assumption | omega | decide) hB_w28) (cwV 2 hts (lw_V wq579 wq580 wq581 wq16 wq582) rfl rfl rfl (by decide +kernel) ⟨(Nat.le_of_ble_eq_true rfl), (Nat.le_of_ble_eq_true rfl)⟩) (tq_V hC hW hS hA 2 fl k (dm2 (by omega) (by omega)) rfl rfl) rfl rfl hl.1 rfl (lv_room (Nat.le_of_ble_eq_true rfl)) dX2_step_137 hle9) hS (fun H locs hW hS => ?_)
              obtain ⟨w28, hw28, hW, hB_w28⟩ : ∃ ww : TW × Int32, w_X8_leastMark S w24 fl k (v_X3_time w23.2) 1 = ww ∧ WT D yc e0 A S Z ww.1.1 ww.1.2.1 ww.1.2.2 H ∧ ZB Z Tc Ts ww.1 := ⟨_, rfl, hW, hB_w28⟩
              have hGS : GS w28.1.2.1 := by rw [← hw28]; exact (GS.of (g_X8_leastMark _ _ _ _ _ _) hGS)
              have hg9 := hGS fl k
              have hv9 := congrArg Prod.snd hw28
              refine zk_ti (y := w28.2) (by exact hv9) ?_
              have hB_w29 : ZB Z Tc Ts (w_X8_raiseMark S w28.1 fl k w28.2) := hB.mono (zP_l (P := (zle2 (w_X8_raiseMark S w28.1 fl k w28.2))) hw1 (zP_l (P := (zle2 (w_X8_raiseMark S w28.1 fl k w28.2))) hw2 (zP_n (P := (zle2 (w_X8_raiseMark S w28.1 fl k w28.2))) hb3 (zP_n (P := (zle2 (w_X8_raiseMark S w28.1 fl k w28.2))) hb8 (zP_p (P := (zle2 (w_X8_raiseMark S w28.1 fl k w28.2))) ho21 (zP_n (P := (zle2 (w_X8_raiseMark S w28.1 fl k w28.2))) hb22 (zP_l (P := (zle2 (w_X8_raiseMark S w28.1 fl k w28.2))) hw23 (zP_l (P := (zle2 (w_X8_raiseMark S w28.1 fl k w28.2))) hw24 (zP_n (P := (zle2 (w_X8_raiseMark S w28.1 fl k w28.2))) hb25 (zP_p (P := (zle2 (w_X8_raiseMark S w28.1 fl k w28.2))) hb27 (zP_l (P := (zle2 (w_X8_raiseMark S w28.1 fl k w28.2))) hw28 (zP_let (P := (zle2 (w_X8_raiseMark S w28.1 fl k w28.2))) (zle (w_X8_raiseMark S w28.1 fl k w28.2)) zle.rf (fun w29 h8 => h8)))))))))))))
              refine tw_v hB_w29 ⟨rfl, rfl⟩ (hB_w28.top hW) (fun hle9 => va_runV (As := [.int w28.2]) (rest := []) ⟨hx, hb, hml, hown, hts⟩ (k_X8_raiseMark l D yc e0 A S Z Tc Ts w28.1 H.size (zh H) fl k w28.2 (by first | assumption | omega | decide) (by first | assumption | omega | decide) hB_w29) (cwV 1 hts (lw_V wq399 wq400 wq401 wq16 wq402) rfl rfl rfl (by decide +kernel) ⟨(Nat.le_of_ble_eq_true rfl), (Nat.le_of_ble_eq_true rfl)⟩) (tq_V hC hW hS hA 2 fl k (dm2 (by omega) (by omega)) rfl rfl) rfl rfl hl.1 rfl (lv_room (Nat.le_of_ble_eq_true rfl)) dX2_step_140 hle9) hS (fun H locs hW hS => ?_)
              obtain ⟨w29, hw29, hW, hB_w29⟩ : ∃ ww : TW, w_X8_raiseMark S w28.1 fl k w28.2 = ww ∧ WT D yc e0 A S Z ww.1 ww.2.1 ww.2.2 H ∧ ZB Z Tc Ts ww := ⟨_, rfl, hW, hB_w29⟩
              have hGS : GS w29.2.1 := by rw [← hw29]; exact (GS.of (g_X8_raiseMark _ _ _ _ _) hGS)
              have hg9 := hGS fl k
              refine lv_goto (tgt := 166) hx hb dX2_step_143 (by decide) ?_
              refine lv_iconst (v := 1) hx hb dX2_step_166 (by decide) ?_
              exact tx_i hx hb hr hlk hS rfl hW (zlet_e hw1 (zlet_e hw2 (zif_n hb3 (zif_n hb8 (zif_p ho21 (zif_n hb22 (zlet_e hw23 (zlet_e hw24 (zif_n hb25 (zif_p hb27 (zlet_e hw28 (zlet_e hw29 rfl)))))))))))) dX2_step_167
          · refine lv_aload_n hx hb dX2_step_113 rfl (lv_at hl 4 rfl) ?_
            refine lv_lload hx hb dX2_step_114 (lv_at hl 1 rfl) ?_
            refine lv_iload_n hx hb dX2_step_116 rfl (lv_at hl 3 rfl) ?_
            have hB_w26 : ZB Z Tc Ts (w_X8_takeEvent S w24 fl k w23.2 1) := hB.mono (zP_l (P := (zle2 (w_X8_takeEvent S w24 fl k w23.2 1))) hw1 (zP_l (P := (zle2 (w_X8_takeEvent S w24 fl k w23.2 1))) hw2 (zP_n (P := (zle2 (w_X8_takeEvent S w24 fl k w23.2 1))) hb3 (zP_n (P := (zle2 (w_X8_takeEvent S w24 fl k w23.2 1))) hb8 (zP_p (P := (zle2 (w_X8_takeEvent S w24 fl k w23.2 1))) ho21 (zP_n (P := (zle2 (w_X8_takeEvent S w24 fl k w23.2 1))) hb22 (zP_l (P := (zle2 (w_X8_takeEvent S w24 fl k w23.2 1))) hw23 (zP_l (P := (zle2 (w_X8_takeEvent S w24 fl k w23.2 1))) hw24 (zP_p (P := (zle2 (w_X8_takeEvent S w24 fl k w23.2 1))) hb25 (zP_let (P := (zle2 (w_X8_takeEvent S w24 fl k w23.2 1))) (zle (w_X8_takeEvent S w24 fl k w23.2 1)) zle.rf (fun w26 h8 => h8)))))))))))
            refine tw_v hB_w26 ⟨rfl, rfl⟩ (hB_w24.top hW) (fun hle9 => va_runV (As := [.long w23.2, .int 1]) (rest := []) ⟨hx, hb, hml, hown, hts⟩ (k_X8_takeEvent l D yc e0 A S Z Tc Ts w24 H.size (zh H) fl k w23.2 1 (by first | assumption | omega | decide) (by first | assumption | omega | decide) hB_w26) (cwV 2 hts (lw_V wq476 wq477 wq478 wq16 wq479) rfl rfl rfl (by decide +kernel) ⟨(Nat.le_of_ble_eq_true rfl), (Nat.le_of_ble_eq_true rfl)⟩) (tq_V hC hW hS hA 2 fl k (dm2 (by omega) (by omega)) rfl rfl) rfl rfl hl.1 rfl (lv_room (Nat.le_of_ble_eq_true rfl)) dX2_step_117 hle9) hS (fun H locs hW hS => ?_)
            obtain ⟨w26, hw26, hW, hB_w26⟩ : ∃ ww : TW, w_X8_takeEvent S w24 fl k w23.2 1 = ww ∧ WT D yc e0 A S Z ww.1 ww.2.1 ww.2.2 H ∧ ZB Z Tc Ts ww := ⟨_, rfl, hW, hB_w26⟩
            have hGS : GS w26.2.1 := by rw [← hw26]; exact (GS.of (g_X8_takeEvent _ _ _ _ _ _) hGS)
            have hg9 := hGS fl k
            refine lv_goto (tgt := 166) hx hb dX2_step_120 (by decide) ?_
            refine lv_iconst (v := 1) hx hb dX2_step_166 (by decide) ?_
            exact tx_i hx hb hr hlk hS rfl hW (zlet_e hw1 (zlet_e hw2 (zif_n hb3 (zif_n hb8 (zif_p ho21 (zif_n hb22 (zlet_e hw23 (zlet_e hw24 (zif_p hb25 (zlet_e hw26 rfl)))))))))) dX2_step_167
        · refine lv_iconst (v := 0) hx hb dX2_step_84 (by decide) ?_
          exact tx_i hx hb hr hlk hS rfl hW (zlet_e hw1 (zlet_e hw2 (zif_n hb3 (zif_n hb8 (zif_p ho21 (zif_p hb22 rfl)))))) dX2_step_85
      · refine zk_tv (y := .null) (by show zch S 1 fl k = _; unfold zch; rw [if_neg ho21]) ?_
        refine lv_astoreN (lv' := [(4, .null), (3, .int 1), (2, .ref (zg S 2 fl k)), (0, .ref (zg S 6 fl 0)), (1, .int (nI k))]) hx hb dX2_step_69 hl (by decide) rfl (fun ls hl => ?_)
        refine lv_aloadN hx hb dX2_step_71 (lv_at hl 0 rfl) ?_
        refine lv_ifnullN (tgt := 84) hx hb dX2_step_73 (by decide) ?_
        refine lv_iconst (v := 0) hx hb dX2_step_84 (by decide) ?_
        exact tx_i hx hb hr hlk hS rfl hW (zlet_e hw1 (zlet_e hw2 (zif_n hb3 (zif_n hb8 (zif_n ho21 rfl))))) dX2_step_85
  · refine lv_aload_n hx hb dX2_step_34 rfl (lv_at hl 0 rfl) ?_
    refine t_getN (D := D) (ci := 7) (v := .int (w2.1 2 fl k 11)) (C := RX8) (T := TX8) (N := 12) hx hb hts iX8 hown hK hW 2 fl k (dm2 (by omega) (by omega)) rfl rfl 11 (by decide) (zk_tab rfl (hN _ wr1128 rfl)) (fun _ h9 => h9) rfl dX2_step_35 ?_
    refine lv_if_eq (tgt := 49) hx hb dX2_step_38 (by decide) (fun hb4 => ?_) (fun hb4 => ?_)
    · refine lv_aload_n hx hb dX2_step_49 rfl (lv_at hl 0 rfl) ?_
      refine lv_aload_n hx hb dX2_step_50 rfl (lv_at hl 0 rfl) ?_
      have hB_w5 : ZB Z Tc Ts ((w_X8_read S w2 fl k).1) := hB.mono (zP_l (P := (zle2 ((w_X8_read S w2 fl k).1))) hw1 (zP_l (P := (zle2 ((w_X8_read S w2 fl k).1))) hw2 (zP_p (P := (zle2 ((w_X8_read S w2 fl k).1))) hb3 (zP_p (P := (zle2 ((w_X8_read S w2 fl k).1))) hb4 (zP_let (P := (zle2 ((w_X8_read S w2 fl k).1))) (zle2 ((w_X8_read S w2 fl k).1)) zle.rf (fun w5 h8 => (zP_let (P := (zle2 ((w_X8_read S w2 fl k).1))) (zle ((w_X8_read S w2 fl k).1)) (zle.tr h8 (m_X8_raiseMark _ _ _ _ _)) (fun w6 h8_ => h8_))))))))
      refine tw_i hB_w5 ⟨rfl, rfl⟩ (hB_w2.top hW) (fun hle9 => va_runV (As := []) (rest := [.ref (zg S 2 fl k)]) ⟨hx, hb, hml, hown, hts⟩ (k_X8_read l D yc e0 A S Z Tc Ts w2 H.size (zh H) fl k (by first | assumption | omega | decide) (by first | assumption | omega | decide) hB_w5) (cwV 0 hts (lw_V wq386 wq387 wq388 wq16 wq389) rfl rfl rfl (by decide +kernel) ⟨(Nat.le_of_ble_eq_true rfl), (Nat.le_of_ble_eq_true rfl)⟩) (tq_V hC hW hS hA 2 fl k (dm2 (by omega) (by omega)) rfl rfl) rfl rfl hl.1 rfl (lv_room (Nat.le_of_ble_eq_true rfl)) dX2_step_51 hle9) hS (fun H locs hW hS => ?_)
      obtain ⟨w5, hw5, hW, hB_w5⟩ : ∃ ww : TW × Int32, w_X8_read S w2 fl k = ww ∧ WT D yc e0 A S Z ww.1.1 ww.1.2.1 ww.1.2.2 H ∧ ZB Z Tc Ts ww.1 := ⟨_, rfl, hW, hB_w5⟩
      have hGS : GS w5.1.2.1 := by rw [← hw5]; exact (GS.of (g_X8_read _ _ _ _) hGS)
      have hg9 := hGS fl k
      have hv9 := congrArg Prod.snd hw5
      refine zk_ti (y := w5.2) (by exact hv9) ?_
      have hB_w6 : ZB Z Tc Ts (w_X8_raiseMark S w5.1 fl k w5.2) := hB.mono (zP_l (P := (zle2 (w_X8_raiseMark S w5.1 fl k w5.2))) hw1 (zP_l (P := (zle2 (w_X8_raiseMark S w5.1 fl k w5.2))) hw2 (zP_p (P := (zle2 (w_X8_raiseMark S w5.1 fl k w5.2))) hb3 (zP_p (P := (zle2 (w_X8_raiseMark S w5.1 fl k w5.2))) hb4 (zP_l (P := (zle2 (w_X8_raiseMark S w5.1 fl k w5.2))) hw5 (zP_let (P := (zle2 (w_X8_raiseMark S w5.1 fl k w5.2))) (zle (w_X8_raiseMark S w5.1 fl k w5.2)) zle.rf (fun w6 h8 => h8)))))))
      refine tw_v hB_w6 ⟨rfl, rfl⟩ (hB_w5.top hW) (fun hle9 => va_runV (As := [.int w5.2]) (rest := []) ⟨hx, hb, hml, hown, hts⟩ (k_X8_raiseMark l D yc e0 A S Z Tc Ts w5.1 H.size (zh H) fl k w5.2 (by first | assumption | omega | decide) (by first | assumption | omega | decide) hB_w6) (cwV 1 hts (lw_V wq399 wq400 wq401 wq16 wq402) rfl rfl rfl (by decide +kernel) ⟨(Nat.le_of_ble_eq_true rfl), (Nat.le_of_ble_eq_true rfl)⟩) (tq_V hC hW hS hA 2 fl k (dm2 (by omega) (by omega)) rfl rfl) rfl rfl hl.1 rfl (lv_room (Nat.le_of_ble_eq_true rfl)) dX2_step_54 hle9) hS (fun H locs hW hS => ?_)
      obtain ⟨w6, hw6, hW, hB_w6⟩ : ∃ ww : TW, w_X8_raiseMark S w5.1 fl k w5.2 = ww ∧ WT D yc e0 A S Z ww.1 ww.2.1 ww.2.2 H ∧ ZB Z Tc Ts ww := ⟨_, rfl, hW, hB_w6⟩
      have hGS : GS w6.2.1 := by rw [← hw6]; exact (GS.of (g_X8_raiseMark _ _ _ _ _) hGS)
      have hg9 := hGS fl k
      refine lv_iconst (v := 1) hx hb dX2_step_57 (by decide) ?_
      exact tx_i hx hb hr hlk hS rfl hW (zlet_e hw1 (zlet_e hw2 (zif_p hb3 (zif_p hb4 (zlet_e hw5 (zlet_e hw6 rfl)))))) dX2_step_58
    · refine lv_aload_n hx hb dX2_step_41 rfl (lv_at hl 1 rfl) ?_
      refine lv_aload_n hx hb dX2_step_42 rfl (lv_at hl 0 rfl) ?_
      have hB_w7 : ZB Z Tc Ts (w_X2_passBarrier S w2 fl k) := hB.mono (zP_l (P := (zle2 (w_X2_passBarrier S w2 fl k))) hw1 (zP_l (P := (zle2 (w_X2_passBarrier S w2 fl k))) hw2 (zP_p (P := (zle2 (w_X2_passBarrier S w2 fl k))) hb3 (zP_n (P := (zle2 (w_X2_passBarrier S w2 fl k))) hb4 (zP_let (P := (zle2 (w_X2_passBarrier S w2 fl k))) (zle (w_X2_passBarrier S w2 fl k)) zle.rf (fun w7 h8 => h8))))))
      refine tw_v hB_w7 ⟨rfl, rfl⟩ (hB_w2.top hW) (fun hle9 => va_runV (As := [.ref (zg S 2 fl k)]) (rest := []) ⟨hx, hb, hml, hown, hts⟩ (k_X2_passBarrier l D yc e0 A S Z Tc Ts w2 H.size (zh H) fl k (by first | assumption | omega | decide) (by first | assumption | omega | decide) (by first | assumption | omega | decide) hB_w7) (cwV 1 hts (lw_V wq328 wq330 ws6 wq2 wq331) rfl rfl rfl (by decide +kernel) ⟨(Nat.le_of_ble_eq_true rfl), (Nat.le_of_ble_eq_true rfl)⟩) (tq_V hC hW hS hA 6 fl 0 (dm6 (by omega)) rfl rfl) rfl rfl hl.1 rfl (lv_room (Nat.le_of_ble_eq_true rfl)) dX2_step_43 hle9) hS (fun H locs hW hS => ?_)
      obtain ⟨w7, hw7, hW, hB_w7⟩ : ∃ ww : TW, w_X2_passBarrier S w2 fl k = ww ∧ WT D yc e0 A S Z ww.1 ww.2.1 ww.2.2 H ∧ ZB Z Tc Ts ww := ⟨_, rfl, hW, hB_w7⟩
      have hGS : GS w7.2.1 := by rw [← hw7]; exact (gs_X2_passBarrier _ _ _ _ hGS)
      have hg9 := hGS fl k
      refine lv_goto (tgt := 57) hx hb dX2_step_46 (by decide) ?_
      refine lv_iconst (v := 1) hx hb dX2_step_57 (by decide) ?_
      exact tx_i hx hb hr hlk hS rfl hW (zlet_e hw1 (zlet_e hw2 (zif_p hb3 (zif_n hb4 (zlet_e hw7 rfl))))) dX2_step_58
def v_X2_stepN (S : TS) (F : TF) (G : TG) (q : TQ) (fl : Nat) : Int32 := 0
set_option maxHeartbeats 4000000 in
set_option maxRecDepth 100000 in
theorem k_X2_stepN (l : Launch) (D : va_G) (yc : Nat → ClassId) (e0 : Nat) (A : Nat → Prop) (S : TS) (Z : Nat × Nat) (F : TF) (G : TG) (q : TQ) (fl : Nat) (hf : fl < 2) : Met l yX2_step (ws_ yX2_step cX2_step 8 (some .boolean)) ({ frames := 1, cells := 0, slots := 0, locals := 21 }) (PT D yc e0 A S Z F G q [.ref (zg S 6 fl 0), .int (-1)]) (zQ (some (.int (v_X2_stepN S F G q fl)))) 0 0 zno := by
  refine tk_M (by decide) (Nat.le_of_ble_eq_true rfl) ?_
  intro p e s m args below meth c ls hx hb hml hr hlk hown hts hW hS hA hC hl
  have hK := hC.1
  have hN := hC.2.1
  have hn12 := hW.n12
  have hl : lv_has ls 8 [(0, .ref (zg S 6 fl 0)), (1, .int (-1))] := hl
  refine lv_aload_n hx hb dX2_step_0 rfl (lv_at hl 0 rfl) ?_
  refine lv_iload_n hx hb dX2_step_1 rfl (lv_at hl 1 rfl) ?_
  refine zr_q (va_runV (As := [.int (-1)]) (rest := []) ⟨hx, hb, hml, hown, hts⟩ (k_X2_at0 l D yc e0 A S Z F G q fl (-1) (by first | assumption | omega | decide) (by first | assumption | omega | decide)) (cwV 1 hts (lw_V wq281 wq224 wq225 wq2 wq226) rfl rfl rfl (by decide +kernel) ⟨(Nat.le_of_ble_eq_true rfl), (Nat.le_of_ble_eq_true rfl)⟩) (tp_V hC hW hS hA 6 fl 0 (dm6 (by omega)) rfl rfl) rfl rfl hl.1 rfl (lv_room (Nat.le_of_ble_eq_true rfl)) dX2_step_2 ⟨(Nat.le_of_ble_eq_true rfl), (Nat.le_of_ble_eq_true rfl)⟩) ?_
  refine zk_tv (y := .null) rfl ?_
  refine lv_astore_nN (lv' := [(2, .null), (0, .ref (zg S 6 fl 0)), (1, .int (-1))]) hx hb dX2_step_5 rfl hl (by decide) rfl (fun ls hl => ?_)
  refine lv_aload_nN hx hb dX2_step_6 rfl (lv_at hl 0 rfl) ?_
  refine lv_ifnonnullN hx hb dX2_step_7 ?_
  refine lv_iconst (v := 0) hx hb dX2_step_10 (by decide) ?_
  exact ze_i hx hb hr hlk rfl (by rfl) dX2_step_11
def r_X2_beginCheckpoint (S : TS) (fl : Nat) : Nat → Nat → TW → TW
  | 0, i, w => w
  | n + 1, i, w => if (w.1 8 0 i 0) = 0 then zlet (zset w 2 fl i 11 1) (fun w2 => r_X2_beginCheckpoint S fl n (i + 1) w2) else zlet (zset w 2 fl i 11 0) (fun w3 => r_X2_beginCheckpoint S fl n (i + 1) w3)
theorem er_X2_beginCheckpoint (S : TS) (fl : Nat) (n : Nat) (i : Nat) (w : TW) : r_X2_beginCheckpoint S fl (n + 1) i w = if (w.1 8 0 i 0) = 0 then zlet (zset w 2 fl i 11 1) (fun w2 => r_X2_beginCheckpoint S fl n (i + 1) w2) else zlet (zset w 2 fl i 11 0) (fun w3 => r_X2_beginCheckpoint S fl n (i + 1) w3) := rfl
theorem mr_X2_beginCheckpoint (S : TS) (fl : Nat) : ∀ (n : Nat) (i : Nat) (w : TW), zle w ((r_X2_beginCheckpoint S fl n i w)) := by
  intro n
  induction n with
  | zero => intro i w; exact zle.rf
  | succ n ih =>
    intro i w
    rw [er_X2_beginCheckpoint]
    exact (zP_if (P := (zle (w))) (zP_let (P := (zle (w))) (zle (w)) (zle.to zle.rf rfl) (fun w2 h8_ => (zle.tr h8_ (ih _ _)))) (zP_let (P := (zle (w))) (zle (w)) (zle.to zle.rf rfl) (fun w3 h8_ => (zle.tr h8_ (ih _ _)))))
theorem gr_X2_beginCheckpoint (S : TS) (fl : Nat) : ∀ (n : Nat) (i : Nat) (w : TW), ((r_X2_beginCheckpoint S fl n i w)).2.1 = w.2.1 := by
  intro n
  induction n with
  | zero => intro i w; rfl
  | succ n ih =>
    intro i w
    rw [er_X2_beginCheckpoint]
    exact (zP_if (P := (fun (b : TW) => b.2.1 = w.2.1)) (zP_let (P := (fun (b : TW) => b.2.1 = w.2.1)) (fun (b : TW) => b.2.1 = w.2.1) rfl (fun w2 h8_ => ((ih _ _).trans h8_))) (zP_let (P := (fun (b : TW) => b.2.1 = w.2.1)) (fun (b : TW) => b.2.1 = w.2.1) rfl (fun w3 h8_ => ((ih _ _).trans h8_))))
set_option maxHeartbeats 4000000 in
set_option maxRecDepth 100000 in
theorem lp_X2_beginCheckpoint {p : Program} {e : Env} {s : State} {m : MethodId} {args : Array Value} {below : List Frame} {meth : Method} {c : Code} {l : Launch} {D : va_G} {yc : Nat → ClassId} {e0 : Nat} {A : Nat → Prop} {S : TS} {Z : Nat × Nat} {Tc Ts : Nat} (fl : Nat) (hf : fl < 2) (hx : p.tables.exec = Jvm.exec) (hb : c.code = cX2_beginCheckpoint) (hml : c.maxLocals = 3) (hr : meth.sig.returnType = (some .int)) (hlk : meth.locks = false) (hown : s.vm.findClass yX2_beginCheckpoint.cls = some m.cls) (hts : ∀ w ∈ lw_all, w.before args s = true) (hA : ∀ a, s.heap.size ≤ a → A a) (hC : CX D yc e0 A s) {Q : State → Prop} : ∀ (n : Nat) (i : Nat) (w : TW) (H : Heap) (locs : List Loc) (ls : Array Slot), i + n = zn S → ZB Z Tc Ts ((r_X2_beginCheckpoint S fl n i w)) → WT D yc e0 A S Z w.1 w.2.1 w.2.2 H → va_S A s.heap H locs → lv_has ls 3 [(1, .int (nI i)), (0, .ref (zg S 6 fl 0))] → (∀ (wr : TW) (H : Heap) (locs : List Loc) (ls : Array Slot), r_X2_beginCheckpoint S fl n i w = wr → WT D yc e0 A S Z wr.1 wr.2.1 wr.2.2 H → va_S A s.heap H locs → lv_has ls 3 [(0, .ref (zg S 6 fl 0))] → W p l e { frames := 3, cells := Tc - s.heap.size, slots := Ts - zh s.heap, locals := 64 } s m args below meth c H locs (Tc - s.heap.size) (Ts - zh s.heap) Q (F0 m 79 ls [])) → W p l e { frames := 3, cells := Tc - s.heap.size, slots := Ts - zh s.heap, locals := 64 } s m args below meth c H locs (Tc - s.heap.size) (Ts - zh s.heap) Q (F0 m 31 ls []) := by
  have hK := hC.1
  have hN := hC.2.1
  intro n
  induction n with
  | zero =>
    intro i w H locs ls hinv hB hW hS hl kk
    have hB0 : ZB Z Tc Ts w := hB
    have hn12 := hW.n12
    refine lv_iload_n hx hb dX2_beginCheckpoint_31 rfl (lv_at hl 0 rfl) ?_
    refine lv_aload_n hx hb dX2_beginCheckpoint_32 rfl (lv_at hl 1 rfl) ?_
    refine t_get (D := D) (ci := 2) (v := .ref (zl S 0 fl 0)) (C := RX2) (T := TX2) (N := 8) hx hb hts iX2 hown hK hW 6 fl 0 (dm6 (by omega)) rfl rfl 1 (by decide) (hts _ wq68) (fun _ h9 => h9) rfl dX2_beginCheckpoint_33 ?_
    refine zr_i (va_runV (As := []) (rest := [.int (nI i)]) ⟨hx, hb, hml, hown, hts⟩ (k_AL_size l D yc e0 A S Z w.1 w.2.1 w.2.2 0 fl 0 (dl0 (by omega))) (cwV 0 hts (lw_V wq119 wq120 wq121 wq5 wq122) rfl rfl rfl (by decide +kernel) ⟨(Nat.le_of_ble_eq_true rfl), (Nat.le_of_ble_eq_true rfl)⟩) (tp_L hC hW hS hA 0 fl 0 (dl0 (by omega))) rfl rfl hl.1 rfl (lv_room (Nat.le_of_ble_eq_true rfl)) dX2_beginCheckpoint_36 ⟨(Nat.le_refl _), (Nat.le_refl _)⟩) ?_
    refine zk_ti (y := nI (zn S)) rfl ?_
    refine lv_icmp_ge (tgt := 79) hx hb dX2_beginCheckpoint_39 (by decide) (fun _ => ?_) (fun h9 => absurd (nI_le (by omega) (by omega)) h9)
    exact kk w H locs _ rfl hW hS (lv_sub hl [1] rfl)
  | succ n ih =>
    intro i w H locs ls hinv hB hW hS hl kk
    rw [er_X2_beginCheckpoint] at hB
    have hB0 : ZB Z Tc Ts w := hB.mono (zP_if (P := (zle (w))) (zP_let (P := (zle (w))) (zle (w)) (zle.to zle.rf rfl) (fun w2 h8_ => (zle.tr h8_ (mr_X2_beginCheckpoint _ _ _ _ _)))) (zP_let (P := (zle (w))) (zle (w)) (zle.to zle.rf rfl) (fun w3 h8_ => (zle.tr h8_ (mr_X2_beginCheckpoint _ _ _ _ _)))))
    have hn12 := hW.n12
    refine lv_iload_n hx hb dX2_beginCheckpoint_31 rfl (lv_at hl 0 rfl) ?_
    refine lv_aload_n hx hb dX2_beginCheckpoint_32 rfl (lv_at hl 1 rfl) ?_
    refine t_get (D := D) (ci := 2) (v := .ref (zl S 0 fl 0)) (C := RX2) (T := TX2) (N := 8) hx hb hts iX2 hown hK hW 6 fl 0 (dm6 (by omega)) rfl rfl 1 (by decide) (hts _ wq68) (fun _ h9 => h9) rfl dX2_beginCheckpoint_33 ?_
    refine zr_i (va_runV (As := []) (rest := [.int (nI i)]) ⟨hx, hb, hml, hown, hts⟩ (k_AL_size l D yc e0 A S Z w.1 w.2.1 w.2.2 0 fl 0 (dl0 (by omega))) (cwV 0 hts (lw_V wq119 wq120 wq121 wq5 wq122) rfl rfl rfl (by decide +kernel) ⟨(Nat.le_of_ble_eq_true rfl), (Nat.le_of_ble_eq_true rfl)⟩) (tp_L hC hW hS hA 0 fl 0 (dl0 (by omega))) rfl rfl hl.1 rfl (lv_room (Nat.le_of_ble_eq_true rfl)) dX2_beginCheckpoint_36 ⟨(Nat.le_refl _), (Nat.le_refl _)⟩) ?_
    refine zk_ti (y := nI (zn S)) rfl ?_
    refine lv_icmp_ge (tgt := 79) hx hb dX2_beginCheckpoint_39 (by decide) (fun h9 => absurd h9 (nI_ge (by omega) (by omega))) (fun _ => ?_)
    refine lv_aload_n hx hb dX2_beginCheckpoint_42 rfl (lv_at hl 1 rfl) ?_
    refine t_get (D := D) (ci := 2) (v := .ref (zl S 0 fl 0)) (C := RX2) (T := TX2) (N := 8) hx hb hts iX2 hown hK hW 6 fl 0 (dm6 (by omega)) rfl rfl 1 (by decide) (hts _ wq68) (fun _ h9 => h9) rfl dX2_beginCheckpoint_43 ?_
    refine lv_iload_n hx hb dX2_beginCheckpoint_46 rfl (lv_at hl 0 rfl) ?_
    refine zr_q (va_runV (As := [.int (nI i)]) (rest := []) ⟨hx, hb, hml, hown, hts⟩ (k_AL_get l D yc e0 A S Z w.1 w.2.1 w.2.2 0 fl 0 i (dl0 (by omega)) (show i < zn S by omega)) (cwV 1 hts (lw_V wq227 wq228 wq229 wq5 wq230) rfl rfl rfl (by decide +kernel) ⟨(Nat.le_of_ble_eq_true rfl), (Nat.le_of_ble_eq_true rfl)⟩) (tp_L hC hW hS hA 0 fl 0 (dl0 (by omega))) rfl rfl hl.1 rfl (lv_room (Nat.le_of_ble_eq_true rfl)) dX2_beginCheckpoint_47 ⟨(Nat.le_refl _), (Nat.le_refl _)⟩) ?_
    refine zk_tv (y := .ref (zg S 2 fl i)) rfl ?_
    refine va_castS hx hb hown (hts _ wq241) (hK.1 7 _ rfl).2 (t_cell hK hW 2 fl i (dm2 (by omega) (by omega)) rfl rfl) dX2_beginCheckpoint_50 ?_
    refine lv_astore_n (lv' := [(2, .ref (zg S 2 fl i)), (1, .int (nI i)), (0, .ref (zg S 6 fl 0))]) hx hb dX2_beginCheckpoint_53 rfl hl (by decide) rfl (fun ls hl => ?_)
    refine lv_aload_n hx hb dX2_beginCheckpoint_54 rfl (lv_at hl 0 rfl) ?_
    refine lv_aload_n hx hb dX2_beginCheckpoint_55 rfl (lv_at hl 0 rfl) ?_
    refine t_getN (D := D) (ci := 7) (v := .ref (zg S 8 0 i)) (C := RX8) (T := TX8) (N := 12) hx hb hts iX8 hown hK hW 2 fl i (dm2 (by omega) (by omega)) rfl rfl 0 (by decide) (zk_tab rfl (hN _ wr1105 rfl)) (fun _ h9 => h9) rfl dX2_beginCheckpoint_56 ?_
    refine t_getN (D := D) (ci := 4) (v := .int (w.1 8 0 i 0)) (C := RX5) (T := TX5) (N := 15) hx hb hts iX5 hown hK hW 8 0 i (dm8 (by omega)) rfl rfl 0 (by decide) (zk_tab rfl (hN _ wr833 rfl)) (fun _ h9 => h9) rfl dX2_beginCheckpoint_59 ?_
    refine lv_if_ne (tgt := 69) hx hb dX2_beginCheckpoint_62 (by decide) (fun hb1 => ?_) (fun hb1 => ?_)
    · refine lv_iconst (v := 0) hx hb dX2_beginCheckpoint_69 (by decide) ?_
      refine t_putN (D := D) (ci := 7) (v := .int 0) (ty := .boolean) (C := RX8) (T := TX8) (N := 12) hx hb hts iX8 tyX8 tyX8_ok nmX8 hown hK hW hS 2 fl i (dm2 (by omega) (by omega)) rfl rfl 11 (by decide) (zk_tab rfl (hN _ wr1128 rfl)) (fun _ h9 => h9) rfl (by decide +kernel) rfl rfl (Nat.le_of_ble_eq_true rfl) (fun j9 => if j9 = 11 then 0 else w.1 2 fl i j9) w.2.1 rfl (fun _ _ _ => rfl) (zbit (fun j9 h9 => hW.bit _ _ _ j9 h9) (fun _ => (by decide))) dX2_beginCheckpoint_70 (fun H locs hW hS => ?_)
      obtain ⟨w3, hw3, hW, hB_w3⟩ : ∃ ww : TW, zset w 2 fl i 11 0 = ww ∧ WT D yc e0 A S Z ww.1 ww.2.1 ww.2.2 H ∧ ZB Z Tc Ts ww := ⟨_, rfl, hW, hB0⟩
      refine lv_iinc (v := nI (i + 1)) (lv' := [(1, .int (nI (i + 1))), (2, .ref (zg S 2 fl i)), (0, .ref (zg S 6 fl 0))]) hx hb dX2_beginCheckpoint_73 hl (k := 1) rfl (nI_1 _) (by decide) rfl (fun ls hl => ?_)
      refine lv_goto (tgt := 31) hx hb dX2_beginCheckpoint_76 (by decide) ?_
      have e9 : r_X2_beginCheckpoint S fl (n + 1) i w = r_X2_beginCheckpoint S fl n (i + 1) w3 := (er_X2_beginCheckpoint _ _ _ _ _).trans (zif_n hb1 (zlet_e hw3 rfl))
      have e8 : ZB Z Tc Ts ((r_X2_beginCheckpoint S fl n (i + 1) w3)) := by rw [← e9, er_X2_beginCheckpoint]; exact hB
      exact ih (i + 1) w3 H locs _ (by omega) e8 hW hS (lv_sub hl [0, 2] rfl) (fun wr H locs ls he hW hS hl => kk wr H locs ls (e9.trans he) hW hS hl)
    · refine lv_iconst (v := 1) hx hb dX2_beginCheckpoint_65 (by decide) ?_
      refine lv_goto (tgt := 70) hx hb dX2_beginCheckpoint_66 (by decide) ?_
      refine t_putN (D := D) (ci := 7) (v := .int 1) (ty := .boolean) (C := RX8) (T := TX8) (N := 12) hx hb hts iX8 tyX8 tyX8_ok nmX8 hown hK hW hS 2 fl i (dm2 (by omega) (by omega)) rfl rfl 11 (by decide) (zk_tab rfl (hN _ wr1128 rfl)) (fun _ h9 => h9) rfl (by decide +kernel) rfl rfl (Nat.le_of_ble_eq_true rfl) (fun j9 => if j9 = 11 then 1 else w.1 2 fl i j9) w.2.1 rfl (fun _ _ _ => rfl) (zbit (fun j9 h9 => hW.bit _ _ _ j9 h9) (fun _ => (by decide))) dX2_beginCheckpoint_70 (fun H locs hW hS => ?_)
      obtain ⟨w2, hw2, hW, hB_w2⟩ : ∃ ww : TW, zset w 2 fl i 11 1 = ww ∧ WT D yc e0 A S Z ww.1 ww.2.1 ww.2.2 H ∧ ZB Z Tc Ts ww := ⟨_, rfl, hW, hB0⟩
      refine lv_iinc (v := nI (i + 1)) (lv' := [(1, .int (nI (i + 1))), (2, .ref (zg S 2 fl i)), (0, .ref (zg S 6 fl 0))]) hx hb dX2_beginCheckpoint_73 hl (k := 1) rfl (nI_1 _) (by decide) rfl (fun ls hl => ?_)
      refine lv_goto (tgt := 31) hx hb dX2_beginCheckpoint_76 (by decide) ?_
      have e9 : r_X2_beginCheckpoint S fl (n + 1) i w = r_X2_beginCheckpoint S fl n (i + 1) w2 := (er_X2_beginCheckpoint _ _ _ _ _).trans (zif_p hb1 (zlet_e hw2 rfl))
      have e8 : ZB Z Tc Ts ((r_X2_beginCheckpoint S fl n (i + 1) w2)) := by rw [← e9, er_X2_beginCheckpoint]; exact hB
      exact ih (i + 1) w2 H locs _ (by omega) e8 hW hS (lv_sub hl [0, 2] rfl) (fun wr H locs ls he hW hS hl => kk wr H locs ls (e9.trans he) hW hS hl)
def w_X2_beginCheckpoint (S : TS) (w : TW) (fl : Nat) : TW × Int32 := zlet (zset w 6 fl 0 4 ((w.1 6 fl 0 4) + 1)) (fun w1 => zlet (zset w1 6 fl 0 5 (w1.1 6 fl 0 4)) (fun w2 => zlet (zset w2 6 fl 0 7 (nI (zn S))) (fun w3 => zlet (r_X2_beginCheckpoint S fl (zn S) 0 w3) (fun w4 => (w4, w4.1 6 fl 0 5)))))
theorem m_X2_beginCheckpoint (S : TS) (w : TW) (fl : Nat) : zle w ((w_X2_beginCheckpoint S w fl).1) := by
  unfold w_X2_beginCheckpoint
  exact (zP_let (P := (zle2 (w))) (zle (w)) (zle.to zle.rf rfl) (fun w1 h8_ => (zP_let (P := (zle2 (w))) (zle (w)) (zle.to h8_ rfl) (fun w2 h8__ => (zP_let (P := (zle2 (w))) (zle (w)) (zle.to h8__ rfl) (fun w3 h8___ => (zP_let (P := (zle2 (w))) (zle (w)) (zle.tr h8___ (mr_X2_beginCheckpoint _ _ _ _ _)) (fun w4 h8____ => h8____))))))))
theorem g_X2_beginCheckpoint (S : TS) (w : TW) (fl : Nat) : ((w_X2_beginCheckpoint S w fl).1).2.1 = w.2.1 := by
  unfold w_X2_beginCheckpoint
  exact (zP_let (P := (fun (b : TW × Int32) => b.1.2.1 = w.2.1)) (fun (b : TW) => b.2.1 = w.2.1) rfl (fun w1 h8_ => (zP_let (P := (fun (b : TW × Int32) => b.1.2.1 = w.2.1)) (fun (b : TW) => b.2.1 = w.2.1) h8_ (fun w2 h8__ => (zP_let (P := (fun (b : TW × Int32) => b.1.2.1 = w.2.1)) (fun (b : TW) => b.2.1 = w.2.1) h8__ (fun w3 h8___ => (zP_let (P := (fun (b : TW × Int32) => b.1.2.1 = w.2.1)) (fun (b : TW) => b.2.1 = w.2.1) ((gr_X2_beginCheckpoint _ _ _ _ _).trans h8___) (fun w4 h8____ => h8____))))))))
set_option maxHeartbeats 4000000 in
set_option maxRecDepth 100000 in
theorem k_X2_beginCheckpoint (l : Launch) (D : va_G) (yc : Nat → ClassId) (e0 : Nat) (A : Nat → Prop) (S : TS) (Z : Nat × Nat) (Tc Ts : Nat) (w : TW) (cN zN : Nat) (fl : Nat) (hf : fl < 2) (hB : ZB Z Tc Ts ((w_X2_beginCheckpoint S w fl).1)) : Met l yX2_beginCheckpoint (ws_ yX2_beginCheckpoint cX2_beginCheckpoint 3 (some .int)) { frames := 3, cells := Tc - cN, slots := Ts - zN, locals := 64 } (PM D yc e0 A S Z w cN zN [.ref (zg S 6 fl 0)]) (tQi D yc e0 A S Z (w_X2_beginCheckpoint S w fl)) (Tc - cN) (Ts - zN) A := by
  have hB0 : ZB Z Tc Ts w := hB.mono (m_X2_beginCheckpoint _ _ _)
  refine tk_W hB0 (by decide) (Nat.le_of_ble_eq_true rfl) ?_
  intro p e s m args below meth c ls H locs hx hb hml hr hlk hown hts hW hS hA hC hl
  have hK := hC.1
  have hN := hC.2.1
  have hn12 := hW.n12
  skip
  have hl : lv_has ls 3 [(0, .ref (zg S 6 fl 0))] := hl
  refine lv_aload_n hx hb dX2_beginCheckpoint_0 rfl (lv_at hl 0 rfl) ?_
  refine lv_dup hx hb dX2_beginCheckpoint_1 rfl ?_
  refine t_get (D := D) (ci := 2) (v := .int (w.1 6 fl 0 4)) (C := RX2) (T := TX2) (N := 8) hx hb hts iX2 hown hK hW 6 fl 0 (dm6 (by omega)) rfl rfl 4 (by decide) (hts _ wq72) (fun _ h9 => h9) rfl dX2_beginCheckpoint_2 ?_
  refine lv_iconst (v := 1) hx hb dX2_beginCheckpoint_5 (by decide) ?_
  refine lv_iadd hx hb dX2_beginCheckpoint_6 ?_
  refine t_put (D := D) (ci := 2) (v := .int ((w.1 6 fl 0 4) + 1)) (ty := .int) (C := RX2) (T := TX2) (N := 8) hx hb hts iX2 tyX2 tyX2_ok nmX2 hown hK hW hS 6 fl 0 (dm6 (by omega)) rfl rfl 4 (by decide) (hts _ wq72) (fun _ h9 => h9) rfl (by decide +kernel) rfl rfl (Nat.le_of_ble_eq_true rfl) (fun j9 => if j9 = 4 then (w.1 6 fl 0 4) + 1 else w.1 6 fl 0 j9) w.2.1 rfl (fun _ _ _ => rfl) (zbit (fun j9 h9 => hW.bit _ _ _ j9 h9) (fun h9 => absurd h9 (by decide))) dX2_beginCheckpoint_7 (fun H locs hW hS => ?_)
  obtain ⟨w1, hw1, hW, hB_w1⟩ : ∃ ww : TW, zset w 6 fl 0 4 ((w.1 6 fl 0 4) + 1) = ww ∧ WT D yc e0 A S Z ww.1 ww.2.1 ww.2.2 H ∧ ZB Z Tc Ts ww := ⟨_, rfl, hW, hB0⟩
  refine lv_aload_n hx hb dX2_beginCheckpoint_10 rfl (lv_at hl 0 rfl) ?_
  refine lv_aload_n hx hb dX2_beginCheckpoint_11 rfl (lv_at hl 0 rfl) ?_
  refine t_get (D := D) (ci := 2) (v := .int (w1.1 6 fl 0 4)) (C := RX2) (T := TX2) (N := 8) hx hb hts iX2 hown hK hW 6 fl 0 (dm6 (by omega)) rfl rfl 4 (by decide) (hts _ wq72) (fun _ h9 => h9) rfl dX2_beginCheckpoint_12 ?_
  refine t_put (D := D) (ci := 2) (v := .int (w1.1 6 fl 0 4)) (ty := .int) (C := RX2) (T := TX2) (N := 8) hx hb hts iX2 tyX2 tyX2_ok nmX2 hown hK hW hS 6 fl 0 (dm6 (by omega)) rfl rfl 5 (by decide) (hts _ wq73) (fun _ h9 => h9) rfl (by decide +kernel) rfl rfl (Nat.le_of_ble_eq_true rfl) (fun j9 => if j9 = 5 then w1.1 6 fl 0 4 else w1.1 6 fl 0 j9) w1.2.1 rfl (fun _ _ _ => rfl) (zbit (fun j9 h9 => hW.bit _ _ _ j9 h9) (fun h9 => absurd h9 (by decide))) dX2_beginCheckpoint_15 (fun H locs hW hS => ?_)
  obtain ⟨w2, hw2, hW, hB_w2⟩ : ∃ ww : TW, zset w1 6 fl 0 5 (w1.1 6 fl 0 4) = ww ∧ WT D yc e0 A S Z ww.1 ww.2.1 ww.2.2 H ∧ ZB Z Tc Ts ww := ⟨_, rfl, hW, hB_w1⟩
  refine lv_aload_n hx hb dX2_beginCheckpoint_18 rfl (lv_at hl 0 rfl) ?_
  refine lv_aload_n hx hb dX2_beginCheckpoint_19 rfl (lv_at hl 0 rfl) ?_
  refine t_get (D := D) (ci := 2) (v := .ref (zl S 0 fl 0)) (C := RX2) (T := TX2) (N := 8) hx hb hts iX2 hown hK hW 6 fl 0 (dm6 (by omega)) rfl rfl 1 (by decide) (hts _ wq68) (fun _ h9 => h9) rfl dX2_beginCheckpoint_20 ?_
  refine zr_i (va_runV (As := []) (rest := [.ref (zg S 6 fl 0)]) ⟨hx, hb, hml, hown, hts⟩ (k_AL_size l D yc e0 A S Z w2.1 w2.2.1 w2.2.2 0 fl 0 (dl0 (by omega))) (cwV 0 hts (lw_V wq119 wq120 wq121 wq5 wq122) rfl rfl rfl (by decide +kernel) ⟨(Nat.le_of_ble_eq_true rfl), (Nat.le_of_ble_eq_true rfl)⟩) (tp_L hC hW hS hA 0 fl 0 (dl0 (by omega))) rfl rfl hl.1 rfl (lv_room (Nat.le_of_ble_eq_true rfl)) dX2_beginCheckpoint_23 ⟨(Nat.le_refl _), (Nat.le_refl _)⟩) ?_
  refine zk_ti (y := nI (zn S)) rfl ?_
  refine t_put (D := D) (ci := 2) (v := .int (nI (zn S))) (ty := .int) (C := RX2) (T := TX2) (N := 8) hx hb hts iX2 tyX2 tyX2_ok nmX2 hown hK hW hS 6 fl 0 (dm6 (by omega)) rfl rfl 7 (by decide) (hts _ wq77) (fun _ h9 => h9) rfl (by decide +kernel) rfl rfl (Nat.le_of_ble_eq_true rfl) (fun j9 => if j9 = 7 then nI (zn S) else w2.1 6 fl 0 j9) w2.2.1 rfl (fun _ _ _ => rfl) (zbit (fun j9 h9 => hW.bit _ _ _ j9 h9) (fun h9 => absurd h9 (by decide))) dX2_beginCheckpoint_26 (fun H locs hW hS => ?_)
  obtain ⟨w3, hw3, hW, hB_w3⟩ : ∃ ww : TW, zset w2 6 fl 0 7 (nI (zn S)) = ww ∧ WT D yc e0 A S Z ww.1 ww.2.1 ww.2.2 H ∧ ZB Z Tc Ts ww := ⟨_, rfl, hW, hB_w2⟩
  refine lv_iconst (v := 0) hx hb dX2_beginCheckpoint_29 (by decide) ?_
  refine lv_istore_n (lv' := [(1, .int 0), (0, .ref (zg S 6 fl 0))]) hx hb dX2_beginCheckpoint_30 rfl hl (by decide) rfl (fun ls hl => ?_)
  have hB_w4 : ZB Z Tc Ts (r_X2_beginCheckpoint S fl (zn S) 0 w3) := hB.mono (zP_l (P := (zle2 (r_X2_beginCheckpoint S fl (zn S) 0 w3))) hw1 (zP_l (P := (zle2 (r_X2_beginCheckpoint S fl (zn S) 0 w3))) hw2 (zP_l (P := (zle2 (r_X2_beginCheckpoint S fl (zn S) 0 w3))) hw3 (zP_let (P := (zle2 (r_X2_beginCheckpoint S fl (zn S) 0 w3))) (zle (r_X2_beginCheckpoint S fl (zn S) 0 w3)) zle.rf (fun w4 h8 => h8)))))
  refine lp_X2_beginCheckpoint fl hf hx hb hml hr hlk hown hts hA hC (zn S) 0 w3 H locs _ (Nat.zero_add _) hB_w4 hW hS (lv_sub hl [0, 1] rfl) (fun w4 H locs ls hw4 hW hS hl => ?_)
  have hB_w4 : ZB Z Tc Ts w4 := by rw [← hw4]; exact hB_w4
  refine lv_aload_n hx hb dX2_beginCheckpoint_79 rfl (lv_at hl 0 rfl) ?_
  refine t_get (D := D) (ci := 2) (v := .int (w4.1 6 fl 0 5)) (C := RX2) (T := TX2) (N := 8) hx hb hts iX2 hown hK hW 6 fl 0 (dm6 (by omega)) rfl rfl 5 (by decide) (hts _ wq73) (fun _ h9 => h9) rfl dX2_beginCheckpoint_80 ?_
  exact tx_i hx hb hr hlk hS rfl hW (zlet_e hw1 (zlet_e hw2 (zlet_e hw3 (zlet_e hw4 rfl)))) dX2_beginCheckpoint_83
def r_X2_goBack (S : TS) (fl : Nat) : Nat → Nat → TW → TW
  | 0, i, w => w
  | n + 1, i, w => zlet (w_X8_goBack S w fl i) (fun w1 => r_X2_goBack S fl n (i + 1) w1)
theorem er_X2_goBack (S : TS) (fl : Nat) (n : Nat) (i : Nat) (w : TW) : r_X2_goBack S fl (n + 1) i w = zlet (w_X8_goBack S w fl i) (fun w1 => r_X2_goBack S fl n (i + 1) w1) := rfl
theorem mr_X2_goBack (S : TS) (fl : Nat) : ∀ (n : Nat) (i : Nat) (w : TW), zle w ((r_X2_goBack S fl n i w)) := by
  intro n
  induction n with
  | zero => intro i w; exact zle.rf
  | succ n ih =>
    intro i w
    rw [er_X2_goBack]
    exact (zP_let (P := (zle (w))) (zle (w)) (zle.tr zle.rf (m_X8_goBack _ _ _ _)) (fun w1 h8_ => (zle.tr h8_ (ih _ _))))
theorem gr_X2_goBack (S : TS) (fl : Nat) : ∀ (n : Nat) (i : Nat) (w : TW), ((r_X2_goBack S fl n i w)).2.1 = w.2.1 := by
  intro n
  induction n with
  | zero => intro i w; rfl
  | succ n ih =>
    intro i w
    rw [er_X2_goBack]
    exact (zP_let (P := (fun (b : TW) => b.2.1 = w.2.1)) (fun (b : TW) => b.2.1 = w.2.1) ((g_X8_goBack _ _ _ _).trans rfl) (fun w1 h8_ => ((ih _ _).trans h8_)))
set_option maxHeartbeats 4000000 in
set_option maxRecDepth 100000 in
theorem lp_X2_goBack {p : Program} {e : Env} {s : State} {m : MethodId} {args : Array Value} {below : List Frame} {meth : Method} {c : Code} {l : Launch} {D : va_G} {yc : Nat → ClassId} {e0 : Nat} {A : Nat → Prop} {S : TS} {Z : Nat × Nat} {Tc Ts : Nat} (fl : Nat) (hf : fl < 2) (hx : p.tables.exec = Jvm.exec) (hb : c.code = cX2_goBack) (hml : c.maxLocals = 2) (hr : meth.sig.returnType = (some .int)) (hlk : meth.locks = false) (hown : s.vm.findClass yX2_goBack.cls = some m.cls) (hts : ∀ w ∈ lw_all, w.before args s = true) (hA : ∀ a, s.heap.size ≤ a → A a) (hC : CX D yc e0 A s) {Q : State → Prop} : ∀ (n : Nat) (i : Nat) (w : TW) (H : Heap) (locs : List Loc) (ls : Array Slot), i + n = zn S ∧ GS w.2.1 → ZB Z Tc Ts ((r_X2_goBack S fl n i w)) → WT D yc e0 A S Z w.1 w.2.1 w.2.2 H → va_S A s.heap H locs → lv_has ls 2 [(1, .int (nI i)), (0, .ref (zg S 6 fl 0))] → (∀ (wr : TW) (H : Heap) (locs : List Loc) (ls : Array Slot), r_X2_goBack S fl n i w = wr → WT D yc e0 A S Z wr.1 wr.2.1 wr.2.2 H → va_S A s.heap H locs → lv_has ls 2 [(0, .ref (zg S 6 fl 0))] → W p l e { frames := 5, cells := Tc - s.heap.size, slots := Ts - zh s.heap, locals := 128 } s m args below meth c H locs (Tc - s.heap.size) (Ts - zh s.heap) Q (F0 m 33 ls [])) → W p l e { frames := 5, cells := Tc - s.heap.size, slots := Ts - zh s.heap, locals := 128 } s m args below meth c H locs (Tc - s.heap.size) (Ts - zh s.heap) Q (F0 m 2 ls []) := by
  have hK := hC.1
  have hN := hC.2.1
  intro n
  induction n with
  | zero =>
    intro i w H locs ls hinv hB hW hS hl kk
    have hB0 : ZB Z Tc Ts w := hB
    have hn12 := hW.n12
    obtain ⟨hinv, hGS⟩ := hinv
    have hg9 := hGS fl i
    refine lv_iload_n hx hb dX2_goBack_2 rfl (lv_at hl 0 rfl) ?_
    refine lv_aload_n hx hb dX2_goBack_3 rfl (lv_at hl 1 rfl) ?_
    refine t_get (D := D) (ci := 2) (v := .ref (zl S 0 fl 0)) (C := RX2) (T := TX2) (N := 8) hx hb hts iX2 hown hK hW 6 fl 0 (dm6 (by omega)) rfl rfl 1 (by decide) (hts _ wq68) (fun _ h9 => h9) rfl dX2_goBack_4 ?_
    refine zr_i (va_runV (As := []) (rest := [.int (nI i)]) ⟨hx, hb, hml, hown, hts⟩ (k_AL_size l D yc e0 A S Z w.1 w.2.1 w.2.2 0 fl 0 (dl0 (by omega))) (cwV 0 hts (lw_V wq119 wq120 wq121 wq5 wq122) rfl rfl rfl (by decide +kernel) ⟨(Nat.le_of_ble_eq_true rfl), (Nat.le_of_ble_eq_true rfl)⟩) (tp_L hC hW hS hA 0 fl 0 (dl0 (by omega))) rfl rfl hl.1 rfl (lv_room (Nat.le_of_ble_eq_true rfl)) dX2_goBack_7 ⟨(Nat.le_refl _), (Nat.le_refl _)⟩) ?_
    refine zk_ti (y := nI (zn S)) rfl ?_
    refine lv_icmp_ge (tgt := 33) hx hb dX2_goBack_10 (by decide) (fun _ => ?_) (fun h9 => absurd (nI_le (by omega) (by omega)) h9)
    exact kk w H locs _ rfl hW hS (lv_sub hl [1] rfl)
  | succ n ih =>
    intro i w H locs ls hinv hB hW hS hl kk
    rw [er_X2_goBack] at hB
    have hB0 : ZB Z Tc Ts w := hB.mono (zP_let (P := (zle (w))) (zle (w)) (zle.tr zle.rf (m_X8_goBack _ _ _ _)) (fun w1 h8_ => (zle.tr h8_ (mr_X2_goBack _ _ _ _ _))))
    have hn12 := hW.n12
    obtain ⟨hinv, hGS⟩ := hinv
    have hg9 := hGS fl i
    refine lv_iload_n hx hb dX2_goBack_2 rfl (lv_at hl 0 rfl) ?_
    refine lv_aload_n hx hb dX2_goBack_3 rfl (lv_at hl 1 rfl) ?_
    refine t_get (D := D) (ci := 2) (v := .ref (zl S 0 fl 0)) (C := RX2) (T := TX2) (N := 8) hx hb hts iX2 hown hK hW 6 fl 0 (dm6 (by omega)) rfl rfl 1 (by decide) (hts _ wq68) (fun _ h9 => h9) rfl dX2_goBack_4 ?_
    refine zr_i (va_runV (As := []) (rest := [.int (nI i)]) ⟨hx, hb, hml, hown, hts⟩ (k_AL_size l D yc e0 A S Z w.1 w.2.1 w.2.2 0 fl 0 (dl0 (by omega))) (cwV 0 hts (lw_V wq119 wq120 wq121 wq5 wq122) rfl rfl rfl (by decide +kernel) ⟨(Nat.le_of_ble_eq_true rfl), (Nat.le_of_ble_eq_true rfl)⟩) (tp_L hC hW hS hA 0 fl 0 (dl0 (by omega))) rfl rfl hl.1 rfl (lv_room (Nat.le_of_ble_eq_true rfl)) dX2_goBack_7 ⟨(Nat.le_refl _), (Nat.le_refl _)⟩) ?_
    refine zk_ti (y := nI (zn S)) rfl ?_
    refine lv_icmp_ge (tgt := 33) hx hb dX2_goBack_10 (by decide) (fun h9 => absurd h9 (nI_ge (by omega) (by omega))) (fun _ => ?_)
    refine lv_aload_n hx hb dX2_goBack_13 rfl (lv_at hl 1 rfl) ?_
    refine t_get (D := D) (ci := 2) (v := .ref (zl S 0 fl 0)) (C := RX2) (T := TX2) (N := 8) hx hb hts iX2 hown hK hW 6 fl 0 (dm6 (by omega)) rfl rfl 1 (by decide) (hts _ wq68) (fun _ h9 => h9) rfl dX2_goBack_14 ?_
    refine lv_iload_n hx hb dX2_goBack_17 rfl (lv_at hl 0 rfl) ?_
    refine zr_q (va_runV (As := [.int (nI i)]) (rest := []) ⟨hx, hb, hml, hown, hts⟩ (k_AL_get l D yc e0 A S Z w.1 w.2.1 w.2.2 0 fl 0 i (dl0 (by omega)) (show i < zn S by omega)) (cwV 1 hts (lw_V wq227 wq228 wq229 wq5 wq230) rfl rfl rfl (by decide +kernel) ⟨(Nat.le_of_ble_eq_true rfl), (Nat.le_of_ble_eq_true rfl)⟩) (tp_L hC hW hS hA 0 fl 0 (dl0 (by omega))) rfl rfl hl.1 rfl (lv_room (Nat.le_of_ble_eq_true rfl)) dX2_goBack_18 ⟨(Nat.le_refl _), (Nat.le_refl _)⟩) ?_
    refine zk_tv (y := .ref (zg S 2 fl i)) rfl ?_
    refine va_castS hx hb hown (hts _ wq241) (hK.1 7 _ rfl).2 (t_cell hK hW 2 fl i (dm2 (by omega) (by omega)) rfl rfl) dX2_goBack_21 ?_
    have hB_w1 : ZB Z Tc Ts (w_X8_goBack S w fl i) := hB.mono (zP_let (P := (zle (w_X8_goBack S w fl i))) (zle (w_X8_goBack S w fl i)) zle.rf (fun w1 h8 => (zle.tr h8 (mr_X2_goBack _ _ _ _ _))))
    refine tw_v hB_w1 ⟨rfl, rfl⟩ (hB0.top hW) (fun hle9 => va_runV (As := []) (rest := []) ⟨hx, hb, hml, hown, hts⟩ (k_X8_goBack l D yc e0 A S Z Tc Ts w H.size (zh H) fl i (by first | assumption | omega | decide) (by first | assumption | omega | decide) (by first | assumption | omega | decide) hB_w1) (cwV 0 hts (lw_V wq609 wq610 wq611 wq16 wq612) rfl rfl rfl (by decide +kernel) ⟨(Nat.le_of_ble_eq_true rfl), (Nat.le_of_ble_eq_true rfl)⟩) (tq_V hC hW hS hA 2 fl i (dm2 (by omega) (by omega)) rfl rfl) rfl rfl hl.1 rfl (lv_room (Nat.le_of_ble_eq_true rfl)) dX2_goBack_24 hle9) hS (fun H locs hW hS => ?_)
    obtain ⟨w1, hw1, hW, hB_w1⟩ : ∃ ww : TW, w_X8_goBack S w fl i = ww ∧ WT D yc e0 A S Z ww.1 ww.2.1 ww.2.2 H ∧ ZB Z Tc Ts ww := ⟨_, rfl, hW, hB_w1⟩
    have hGS : GS w1.2.1 := by rw [← hw1]; exact (GS.of (g_X8_goBack _ _ _ _) hGS)
    have hg9 := hGS fl i
    refine lv_iinc (v := nI (i + 1)) (lv' := [(1, .int (nI (i + 1))), (0, .ref (zg S 6 fl 0))]) hx hb dX2_goBack_27 hl (k := 0) rfl (nI_1 _) (by decide) rfl (fun ls hl => ?_)
    refine lv_goto (tgt := 2) hx hb dX2_goBack_30 (by decide) ?_
    have e9 : r_X2_goBack S fl (n + 1) i w = r_X2_goBack S fl n (i + 1) w1 := (er_X2_goBack _ _ _ _ _).trans (zlet_e hw1 rfl)
    have e8 : ZB Z Tc Ts ((r_X2_goBack S fl n (i + 1) w1)) := by rw [← e9, er_X2_goBack]; exact hB
    exact ih (i + 1) w1 H locs _ ⟨by omega, hGS⟩ e8 hW hS (lv_sub hl [0, 1] rfl) (fun wr H locs ls he hW hS hl => kk wr H locs ls (e9.trans he) hW hS hl)
def w_X2_goBack (S : TS) (w : TW) (fl : Nat) : TW × Int32 := zlet (r_X2_goBack S fl (zn S) 0 w) (fun w1 => zlet (zset w1 6 fl 0 5 0) (fun w2 => zlet (zset w2 6 fl 0 3 (-1)) (fun w3 => (w3, w3.1 6 fl 0 6))))
theorem m_X2_goBack (S : TS) (w : TW) (fl : Nat) : zle w ((w_X2_goBack S w fl).1) := by
  unfold w_X2_goBack
  exact (zP_let (P := (zle2 (w))) (zle (w)) (zle.tr zle.rf (mr_X2_goBack _ _ _ _ _)) (fun w1 h8_ => (zP_let (P := (zle2 (w))) (zle (w)) (zle.to h8_ rfl) (fun w2 h8__ => (zP_let (P := (zle2 (w))) (zle (w)) (zle.to h8__ rfl) (fun w3 h8___ => h8___))))))
theorem g_X2_goBack (S : TS) (w : TW) (fl : Nat) : ((w_X2_goBack S w fl).1).2.1 = w.2.1 := by
  unfold w_X2_goBack
  exact (zP_let (P := (fun (b : TW × Int32) => b.1.2.1 = w.2.1)) (fun (b : TW) => b.2.1 = w.2.1) ((gr_X2_goBack _ _ _ _ _).trans rfl) (fun w1 h8_ => (zP_let (P := (fun (b : TW × Int32) => b.1.2.1 = w.2.1)) (fun (b : TW) => b.2.1 = w.2.1) h8_ (fun w2 h8__ => (zP_let (P := (fun (b : TW × Int32) => b.1.2.1 = w.2.1)) (fun (b : TW) => b.2.1 = w.2.1) h8__ (fun w3 h8___ => h8___))))))
set_option maxHeartbeats 4000000 in
set_option maxRecDepth 100000 in
theorem k_X2_goBack (l : Launch) (D : va_G) (yc : Nat → ClassId) (e0 : Nat) (A : Nat → Prop) (S : TS) (Z : Nat × Nat) (Tc Ts : Nat) (w : TW) (cN zN : Nat) (fl : Nat) (hf : fl < 2) (hGS : GS w.2.1) (hB : ZB Z Tc Ts ((w_X2_goBack S w fl).1)) : Met l yX2_goBack (ws_ yX2_goBack cX2_goBack 2 (some .int)) { frames := 5, cells := Tc - cN, slots := Ts - zN, locals := 128 } (PM D yc e0 A S Z w cN zN [.ref (zg S 6 fl 0)]) (tQi D yc e0 A S Z (w_X2_goBack S w fl)) (Tc - cN) (Ts - zN) A := by
  have hB0 : ZB Z Tc Ts w := hB.mono (m_X2_goBack _ _ _)
  refine tk_W hB0 (by decide) (Nat.le_of_ble_eq_true rfl) ?_
  intro p e s m args below meth c ls H locs hx hb hml hr hlk hown hts hW hS hA hC hl
  have hK := hC.1
  have hN := hC.2.1
  have hn12 := hW.n12
  skip
  have hl : lv_has ls 2 [(0, .ref (zg S 6 fl 0))] := hl
  refine lv_iconst (v := 0) hx hb dX2_goBack_0 (by decide) ?_
  refine lv_istore_n (lv' := [(1, .int 0), (0, .ref (zg S 6 fl 0))]) hx hb dX2_goBack_1 rfl hl (by decide) rfl (fun ls hl => ?_)
  have hB_w1 : ZB Z Tc Ts (r_X2_goBack S fl (zn S) 0 w) := hB.mono (zP_let (P := (zle2 (r_X2_goBack S fl (zn S) 0 w))) (zle (r_X2_goBack S fl (zn S) 0 w)) zle.rf (fun w1 h8 => (zP_let (P := (zle2 (r_X2_goBack S fl (zn S) 0 w))) (zle (r_X2_goBack S fl (zn S) 0 w)) (zle.to h8 rfl) (fun w2 h8_ => (zP_let (P := (zle2 (r_X2_goBack S fl (zn S) 0 w))) (zle (r_X2_goBack S fl (zn S) 0 w)) (zle.to h8_ rfl) (fun w3 h8__ => h8__))))))
  refine lp_X2_goBack fl hf hx hb hml hr hlk hown hts hA hC (zn S) 0 w H locs _ ⟨Nat.zero_add _, hGS⟩ hB_w1 hW hS (lv_sub hl [0, 1] rfl) (fun w1 H locs ls hw1 hW hS hl => ?_)
  have hB_w1 : ZB Z Tc Ts w1 := by rw [← hw1]; exact hB_w1
  refine lv_aload_n hx hb dX2_goBack_33 rfl (lv_at hl 0 rfl) ?_
  refine lv_iconst (v := 0) hx hb dX2_goBack_34 (by decide) ?_
  refine t_put (D := D) (ci := 2) (v := .int 0) (ty := .int) (C := RX2) (T := TX2) (N := 8) hx hb hts iX2 tyX2 tyX2_ok nmX2 hown hK hW hS 6 fl 0 (dm6 (by omega)) rfl rfl 5 (by decide) (hts _ wq73) (fun _ h9 => h9) rfl (by decide +kernel) rfl rfl (Nat.le_of_ble_eq_true rfl) (fun j9 => if j9 = 5 then 0 else w1.1 6 fl 0 j9) w1.2.1 rfl (fun _ _ _ => rfl) (zbit (fun j9 h9 => hW.bit _ _ _ j9 h9) (fun h9 => absurd h9 (by decide))) dX2_goBack_35 (fun H locs hW hS => ?_)
  obtain ⟨w2, hw2, hW, hB_w2⟩ : ∃ ww : TW, zset w1 6 fl 0 5 0 = ww ∧ WT D yc e0 A S Z ww.1 ww.2.1 ww.2.2 H ∧ ZB Z Tc Ts ww := ⟨_, rfl, hW, hB_w1⟩
  refine lv_aload_n hx hb dX2_goBack_38 rfl (lv_at hl 0 rfl) ?_
  refine lv_iconst (v := (-1)) hx hb dX2_goBack_39 (by decide) ?_
  refine t_put (D := D) (ci := 2) (v := .int (-1)) (ty := .int) (C := RX2) (T := TX2) (N := 8) hx hb hts iX2 tyX2 tyX2_ok nmX2 hown hK hW hS 6 fl 0 (dm6 (by omega)) rfl rfl 3 (by decide) (hts _ wq71) (fun _ h9 => h9) rfl (by decide +kernel) rfl rfl (Nat.le_of_ble_eq_true rfl) (fun j9 => if j9 = 3 then (-1) else w2.1 6 fl 0 j9) w2.2.1 rfl (fun _ _ _ => rfl) (zbit (fun j9 h9 => hW.bit _ _ _ j9 h9) (fun h9 => absurd h9 (by decide))) dX2_goBack_40 (fun H locs hW hS => ?_)
  obtain ⟨w3, hw3, hW, hB_w3⟩ : ∃ ww : TW, zset w2 6 fl 0 3 (-1) = ww ∧ WT D yc e0 A S Z ww.1 ww.2.1 ww.2.2 H ∧ ZB Z Tc Ts ww := ⟨_, rfl, hW, hB_w2⟩
  refine lv_aload_n hx hb dX2_goBack_43 rfl (lv_at hl 0 rfl) ?_
  refine t_get (D := D) (ci := 2) (v := .int (w3.1 6 fl 0 6)) (C := RX2) (T := TX2) (N := 8) hx hb hts iX2 hown hK hW 6 fl 0 (dm6 (by omega)) rfl rfl 6 (by decide) (hts _ wq75) (fun _ h9 => h9) rfl dX2_goBack_44 ?_
  exact tx_i hx hb hr hlk hS rfl hW (zlet_e hw1 (zlet_e hw2 (zlet_e hw3 rfl))) dX2_goBack_47
def r_X2_become (S : TS) (fl : Nat) (fl2 : Nat) : Nat → Nat → TW → TW
  | 0, i, w => w
  | n + 1, i, w => zlet (w_X8_become S w fl i fl2) (fun w1 => r_X2_become S fl fl2 n (i + 1) w1)
theorem er_X2_become (S : TS) (fl : Nat) (fl2 : Nat) (n : Nat) (i : Nat) (w : TW) : r_X2_become S fl fl2 (n + 1) i w = zlet (w_X8_become S w fl i fl2) (fun w1 => r_X2_become S fl fl2 n (i + 1) w1) := rfl
theorem mr_X2_become (S : TS) (fl : Nat) (fl2 : Nat) : ∀ (n : Nat) (i : Nat) (w : TW), zle w ((r_X2_become S fl fl2 n i w)) := by
  intro n
  induction n with
  | zero => intro i w; exact zle.rf
  | succ n ih =>
    intro i w
    rw [er_X2_become]
    exact (zP_let (P := (zle (w))) (zle (w)) (zle.tr zle.rf (m_X8_become _ _ _ _ _)) (fun w1 h8_ => (zle.tr h8_ (ih _ _))))
theorem gr_X2_become (S : TS) (fl : Nat) (fl2 : Nat) : ∀ (n : Nat) (i : Nat) (w : TW), ((r_X2_become S fl fl2 n i w)).2.1 = w.2.1 := by
  intro n
  induction n with
  | zero => intro i w; rfl
  | succ n ih =>
    intro i w
    rw [er_X2_become]
    exact (zP_let (P := (fun (b : TW) => b.2.1 = w.2.1)) (fun (b : TW) => b.2.1 = w.2.1) ((g_X8_become _ _ _ _ _).trans rfl) (fun w1 h8_ => ((ih _ _).trans h8_)))
set_option maxHeartbeats 4000000 in
set_option maxRecDepth 100000 in
theorem lp_X2_become {p : Program} {e : Env} {s : State} {m : MethodId} {args : Array Value} {below : List Frame} {meth : Method} {c : Code} {l : Launch} {D : va_G} {yc : Nat → ClassId} {e0 : Nat} {A : Nat → Prop} {S : TS} {Z : Nat × Nat} {Tc Ts : Nat} (fl : Nat) (fl2 : Nat) (hf : fl < 2) (hf2 : fl2 < 2) (hne3 : ¬ fl2 = fl) (hx : p.tables.exec = Jvm.exec) (hb : c.code = cX2_become) (hml : c.maxLocals = 3) (hr : meth.sig.returnType = none) (hlk : meth.locks = false) (hown : s.vm.findClass yX2_become.cls = some m.cls) (hts : ∀ w ∈ lw_all, w.before args s = true) (hA : ∀ a, s.heap.size ≤ a → A a) (hC : CX D yc e0 A s) {Q : State → Prop} : ∀ (n : Nat) (i : Nat) (w : TW) (H : Heap) (locs : List Loc) (ls : Array Slot), i + n = zn S → ZB Z Tc Ts ((r_X2_become S fl fl2 n i w)) → WT D yc e0 A S Z w.1 w.2.1 w.2.2 H → va_S A s.heap H locs → lv_has ls 3 [(2, .int (nI i)), (0, .ref (zg S 6 fl 0)), (1, .ref (zg S 6 fl2 0))] → (∀ (wr : TW) (H : Heap) (locs : List Loc) (ls : Array Slot), r_X2_become S fl fl2 n i w = wr → WT D yc e0 A S Z wr.1 wr.2.1 wr.2.2 H → va_S A s.heap H locs → lv_has ls 3 [(0, .ref (zg S 6 fl 0)), (1, .ref (zg S 6 fl2 0))] → W p l e { frames := 6, cells := Tc - s.heap.size, slots := Ts - zh s.heap, locals := 132 } s m args below meth c H locs (Tc - s.heap.size) (Ts - zh s.heap) Q (F0 m 71 ls [])) → W p l e { frames := 6, cells := Tc - s.heap.size, slots := Ts - zh s.heap, locals := 132 } s m args below meth c H locs (Tc - s.heap.size) (Ts - zh s.heap) Q (F0 m 18 ls []) := by
  have hK := hC.1
  have hN := hC.2.1
  intro n
  induction n with
  | zero =>
    intro i w H locs ls hinv hB hW hS hl kk
    have hB0 : ZB Z Tc Ts w := hB
    have hn12 := hW.n12
    refine lv_iload_n hx hb dX2_become_18 rfl (lv_at hl 0 rfl) ?_
    refine lv_aload_n hx hb dX2_become_19 rfl (lv_at hl 1 rfl) ?_
    refine t_get (D := D) (ci := 2) (v := .ref (zl S 0 fl 0)) (C := RX2) (T := TX2) (N := 8) hx hb hts iX2 hown hK hW 6 fl 0 (dm6 (by omega)) rfl rfl 1 (by decide) (hts _ wq68) (fun _ h9 => h9) rfl dX2_become_20 ?_
    refine zr_i (va_runV (As := []) (rest := [.int (nI i)]) ⟨hx, hb, hml, hown, hts⟩ (k_AL_size l D yc e0 A S Z w.1 w.2.1 w.2.2 0 fl 0 (dl0 (by omega))) (cwV 0 hts (lw_V wq119 wq120 wq121 wq5 wq122) rfl rfl rfl (by decide +kernel) ⟨(Nat.le_of_ble_eq_true rfl), (Nat.le_of_ble_eq_true rfl)⟩) (tp_L hC hW hS hA 0 fl 0 (dl0 (by omega))) rfl rfl hl.1 rfl (lv_room (Nat.le_of_ble_eq_true rfl)) dX2_become_23 ⟨(Nat.le_refl _), (Nat.le_refl _)⟩) ?_
    refine zk_ti (y := nI (zn S)) rfl ?_
    refine lv_icmp_ge (tgt := 71) hx hb dX2_become_26 (by decide) (fun _ => ?_) (fun h9 => absurd (nI_le (by omega) (by omega)) h9)
    exact kk w H locs _ rfl hW hS (lv_sub hl [1, 2] rfl)
  | succ n ih =>
    intro i w H locs ls hinv hB hW hS hl kk
    rw [er_X2_become] at hB
    have hB0 : ZB Z Tc Ts w := hB.mono (zP_let (P := (zle (w))) (zle (w)) (zle.tr zle.rf (m_X8_become _ _ _ _ _)) (fun w1 h8_ => (zle.tr h8_ (mr_X2_become _ _ _ _ _ _))))
    have hn12 := hW.n12
    refine lv_iload_n hx hb dX2_become_18 rfl (lv_at hl 0 rfl) ?_
    refine lv_aload_n hx hb dX2_become_19 rfl (lv_at hl 1 rfl) ?_
    refine t_get (D := D) (ci := 2) (v := .ref (zl S 0 fl 0)) (C := RX2) (T := TX2) (N := 8) hx hb hts iX2 hown hK hW 6 fl 0 (dm6 (by omega)) rfl rfl 1 (by decide) (hts _ wq68) (fun _ h9 => h9) rfl dX2_become_20 ?_
    refine zr_i (va_runV (As := []) (rest := [.int (nI i)]) ⟨hx, hb, hml, hown, hts⟩ (k_AL_size l D yc e0 A S Z w.1 w.2.1 w.2.2 0 fl 0 (dl0 (by omega))) (cwV 0 hts (lw_V wq119 wq120 wq121 wq5 wq122) rfl rfl rfl (by decide +kernel) ⟨(Nat.le_of_ble_eq_true rfl), (Nat.le_of_ble_eq_true rfl)⟩) (tp_L hC hW hS hA 0 fl 0 (dl0 (by omega))) rfl rfl hl.1 rfl (lv_room (Nat.le_of_ble_eq_true rfl)) dX2_become_23 ⟨(Nat.le_refl _), (Nat.le_refl _)⟩) ?_
    refine zk_ti (y := nI (zn S)) rfl ?_
    refine lv_icmp_ge (tgt := 71) hx hb dX2_become_26 (by decide) (fun h9 => absurd h9 (nI_ge (by omega) (by omega))) (fun _ => ?_)
    refine lv_iload_n hx hb dX2_become_29 rfl (lv_at hl 0 rfl) ?_
    refine lv_aload_n hx hb dX2_become_30 rfl (lv_at hl 2 rfl) ?_
    refine t_get (D := D) (ci := 2) (v := .ref (zl S 0 fl2 0)) (C := RX2) (T := TX2) (N := 8) hx hb hts iX2 hown hK hW 6 fl2 0 (dm6 (by omega)) rfl rfl 1 (by decide) (hts _ wq68) (fun _ h9 => h9) rfl dX2_become_31 ?_
    refine zr_i (va_runV (As := []) (rest := [.int (nI i)]) ⟨hx, hb, hml, hown, hts⟩ (k_AL_size l D yc e0 A S Z w.1 w.2.1 w.2.2 0 fl2 0 (dl0 (by omega))) (cwV 0 hts (lw_V wq119 wq120 wq121 wq5 wq122) rfl rfl rfl (by decide +kernel) ⟨(Nat.le_of_ble_eq_true rfl), (Nat.le_of_ble_eq_true rfl)⟩) (tp_L hC hW hS hA 0 fl2 0 (dl0 (by omega))) rfl rfl hl.1 rfl (lv_room (Nat.le_of_ble_eq_true rfl)) dX2_become_34 ⟨(Nat.le_refl _), (Nat.le_refl _)⟩) ?_
    refine zk_ti (y := nI (zn S)) rfl ?_
    refine lv_icmp_ge (tgt := 71) hx hb dX2_become_37 (by decide) (fun h9 => absurd h9 (nI_ge (by omega) (by omega))) (fun _ => ?_)
    refine lv_aload_n hx hb dX2_become_40 rfl (lv_at hl 1 rfl) ?_
    refine t_get (D := D) (ci := 2) (v := .ref (zl S 0 fl 0)) (C := RX2) (T := TX2) (N := 8) hx hb hts iX2 hown hK hW 6 fl 0 (dm6 (by omega)) rfl rfl 1 (by decide) (hts _ wq68) (fun _ h9 => h9) rfl dX2_become_41 ?_
    refine lv_iload_n hx hb dX2_become_44 rfl (lv_at hl 0 rfl) ?_
    refine zr_q (va_runV (As := [.int (nI i)]) (rest := []) ⟨hx, hb, hml, hown, hts⟩ (k_AL_get l D yc e0 A S Z w.1 w.2.1 w.2.2 0 fl 0 i (dl0 (by omega)) (show i < zn S by omega)) (cwV 1 hts (lw_V wq227 wq228 wq229 wq5 wq230) rfl rfl rfl (by decide +kernel) ⟨(Nat.le_of_ble_eq_true rfl), (Nat.le_of_ble_eq_true rfl)⟩) (tp_L hC hW hS hA 0 fl 0 (dl0 (by omega))) rfl rfl hl.1 rfl (lv_room (Nat.le_of_ble_eq_true rfl)) dX2_become_45 ⟨(Nat.le_refl _), (Nat.le_refl _)⟩) ?_
    refine zk_tv (y := .ref (zg S 2 fl i)) rfl ?_
    refine va_castS hx hb hown (hts _ wq241) (hK.1 7 _ rfl).2 (t_cell hK hW 2 fl i (dm2 (by omega) (by omega)) rfl rfl) dX2_become_48 ?_
    refine lv_aload_n hx hb dX2_become_51 rfl (lv_at hl 2 rfl) ?_
    refine t_get (D := D) (ci := 2) (v := .ref (zl S 0 fl2 0)) (C := RX2) (T := TX2) (N := 8) hx hb hts iX2 hown hK hW 6 fl2 0 (dm6 (by omega)) rfl rfl 1 (by decide) (hts _ wq68) (fun _ h9 => h9) rfl dX2_become_52 ?_
    refine lv_iload_n hx hb dX2_become_55 rfl (lv_at hl 0 rfl) ?_
    refine zr_q (va_runV (As := [.int (nI i)]) (rest := [.ref (zg S 2 fl i)]) ⟨hx, hb, hml, hown, hts⟩ (k_AL_get l D yc e0 A S Z w.1 w.2.1 w.2.2 0 fl2 0 i (dl0 (by omega)) (show i < zn S by omega)) (cwV 1 hts (lw_V wq227 wq228 wq229 wq5 wq230) rfl rfl rfl (by decide +kernel) ⟨(Nat.le_of_ble_eq_true rfl), (Nat.le_of_ble_eq_true rfl)⟩) (tp_L hC hW hS hA 0 fl2 0 (dl0 (by omega))) rfl rfl hl.1 rfl (lv_room (Nat.le_of_ble_eq_true rfl)) dX2_become_56 ⟨(Nat.le_refl _), (Nat.le_refl _)⟩) ?_
    refine zk_tv (y := .ref (zg S 2 fl2 i)) rfl ?_
    refine va_castS hx hb hown (hts _ wq241) (hK.1 7 _ rfl).2 (t_cell hK hW 2 fl2 i (dm2 (by omega) (by omega)) rfl rfl) dX2_become_59 ?_
    have hB_w1 : ZB Z Tc Ts (w_X8_become S w fl i fl2) := hB.mono (zP_let (P := (zle (w_X8_become S w fl i fl2))) (zle (w_X8_become S w fl i fl2)) zle.rf (fun w1 h8 => (zle.tr h8 (mr_X2_become _ _ _ _ _ _))))
    refine tw_v hB_w1 ⟨rfl, rfl⟩ (hB0.top hW) (fun hle9 => va_runV (As := [.ref (zg S 2 fl2 i)]) (rest := []) ⟨hx, hb, hml, hown, hts⟩ (k_X8_become l D yc e0 A S Z Tc Ts w H.size (zh H) fl i fl2 (by first | assumption | omega | decide) (by first | assumption | omega | decide) (by first | assumption | omega | decide) (by first | assumption | omega | decide) hB_w1) (cwV 1 hts (lw_V wq695 wq696 wq697 wq16 wq698) rfl rfl rfl (by decide +kernel) ⟨(Nat.le_of_ble_eq_true rfl), (Nat.le_of_ble_eq_true rfl)⟩) (tq_V hC hW hS hA 2 fl i (dm2 (by omega) (by omega)) rfl rfl) rfl rfl hl.1 rfl (lv_room (Nat.le_of_ble_eq_true rfl)) dX2_become_62 hle9) hS (fun H locs hW hS => ?_)
    obtain ⟨w1, hw1, hW, hB_w1⟩ : ∃ ww : TW, w_X8_become S w fl i fl2 = ww ∧ WT D yc e0 A S Z ww.1 ww.2.1 ww.2.2 H ∧ ZB Z Tc Ts ww := ⟨_, rfl, hW, hB_w1⟩
    refine lv_iinc (v := nI (i + 1)) (lv' := [(2, .int (nI (i + 1))), (0, .ref (zg S 6 fl 0)), (1, .ref (zg S 6 fl2 0))]) hx hb dX2_become_65 hl (k := 0) rfl (nI_1 _) (by decide) rfl (fun ls hl => ?_)
    refine lv_goto (tgt := 18) hx hb dX2_become_68 (by decide) ?_
    have e9 : r_X2_become S fl fl2 (n + 1) i w = r_X2_become S fl fl2 n (i + 1) w1 := (er_X2_become _ _ _ _ _ _).trans (zlet_e hw1 rfl)
    have e8 : ZB Z Tc Ts ((r_X2_become S fl fl2 n (i + 1) w1)) := by rw [← e9, er_X2_become]; exact hB
    exact ih (i + 1) w1 H locs _ (by omega) e8 hW hS (lv_sub hl [0, 1, 2] rfl) (fun wr H locs ls he hW hS hl => kk wr H locs ls (e9.trans he) hW hS hl)
def w_X2_become (S : TS) (w : TW) (fl : Nat) (fl2 : Nat) : TW := zlet (zset w 6 fl 0 2 (w.1 6 fl2 0 2)) (fun w1 => zlet (zset w1 6 fl 0 3 (w1.1 6 fl2 0 3)) (fun w2 => zlet (r_X2_become S fl fl2 (zn S) 0 w2) (fun w3 => w3)))
theorem m_X2_become (S : TS) (w : TW) (fl : Nat) (fl2 : Nat) : zle w (w_X2_become S w fl fl2) := by
  unfold w_X2_become
  exact (zP_let (P := (zle (w))) (zle (w)) (zle.to zle.rf rfl) (fun w1 h8_ => (zP_let (P := (zle (w))) (zle (w)) (zle.to h8_ rfl) (fun w2 h8__ => (zP_let (P := (zle (w))) (zle (w)) (zle.tr h8__ (mr_X2_become _ _ _ _ _ _)) (fun w3 h8___ => h8___))))))
theorem g_X2_become (S : TS) (w : TW) (fl : Nat) (fl2 : Nat) : (w_X2_become S w fl fl2).2.1 = w.2.1 := by
  unfold w_X2_become
  exact (zP_let (P := (fun (b : TW) => b.2.1 = w.2.1)) (fun (b : TW) => b.2.1 = w.2.1) rfl (fun w1 h8_ => (zP_let (P := (fun (b : TW) => b.2.1 = w.2.1)) (fun (b : TW) => b.2.1 = w.2.1) h8_ (fun w2 h8__ => (zP_let (P := (fun (b : TW) => b.2.1 = w.2.1)) (fun (b : TW) => b.2.1 = w.2.1) ((gr_X2_become _ _ _ _ _ _).trans h8__) (fun w3 h8___ => h8___))))))
set_option maxHeartbeats 4000000 in
set_option maxRecDepth 100000 in
theorem k_X2_become (l : Launch) (D : va_G) (yc : Nat → ClassId) (e0 : Nat) (A : Nat → Prop) (S : TS) (Z : Nat × Nat) (Tc Ts : Nat) (w : TW) (cN zN : Nat) (fl : Nat) (fl2 : Nat) (hf : fl < 2) (hf2 : fl2 < 2) (hne3 : ¬ fl2 = fl) (hB : ZB Z Tc Ts (w_X2_become S w fl fl2)) : Met l yX2_become (ws_ yX2_become cX2_become 3 none) { frames := 6, cells := Tc - cN, slots := Ts - zN, locals := 132 } (PM D yc e0 A S Z w cN zN [.ref (zg S 6 fl 0), .ref (zg S 6 fl2 0)]) (tQv D yc e0 A S Z (w_X2_become S w fl fl2)) (Tc - cN) (Ts - zN) A := by
  have hB0 : ZB Z Tc Ts w := hB.mono (m_X2_become _ _ _ _)
  refine tk_W hB0 (by decide) (Nat.le_of_ble_eq_true rfl) ?_
  intro p e s m args below meth c ls H locs hx hb hml hr hlk hown hts hW hS hA hC hl
  have hK := hC.1
  have hN := hC.2.1
  have hn12 := hW.n12
  skip
  have hl : lv_has ls 3 [(0, .ref (zg S 6 fl 0)), (1, .ref (zg S 6 fl2 0))] := hl
  refine lv_aload_n hx hb dX2_become_0 rfl (lv_at hl 0 rfl) ?_
  refine lv_aload_n hx hb dX2_become_1 rfl (lv_at hl 1 rfl) ?_
  refine t_get (D := D) (ci := 2) (v := .int (w.1 6 fl2 0 2)) (C := RX2) (T := TX2) (N := 8) hx hb hts iX2 hown hK hW 6 fl2 0 (dm6 (by omega)) rfl rfl 2 (by decide) (hts _ wq69) (fun _ h9 => h9) rfl dX2_become_2 ?_
  refine t_put (D := D) (ci := 2) (v := .int (w.1 6 fl2 0 2)) (ty := .int) (C := RX2) (T := TX2) (N := 8) hx hb hts iX2 tyX2 tyX2_ok nmX2 hown hK hW hS 6 fl 0 (dm6 (by omega)) rfl rfl 2 (by decide) (hts _ wq69) (fun _ h9 => h9) rfl (by decide +kernel) rfl rfl (Nat.le_of_ble_eq_true rfl) (fun j9 => if j9 = 2 then w.1 6 fl2 0 2 else w.1 6 fl 0 j9) w.2.1 rfl (fun _ _ _ => rfl) (zbit (fun j9 h9 => hW.bit _ _ _ j9 h9) (fun h9 => absurd h9 (by decide))) dX2_become_5 (fun H locs hW hS => ?_)
  obtain ⟨w1, hw1, hW, hB_w1⟩ : ∃ ww : TW, zset w 6 fl 0 2 (w.1 6 fl2 0 2) = ww ∧ WT D yc e0 A S Z ww.1 ww.2.1 ww.2.2 H ∧ ZB Z Tc Ts ww := ⟨_, rfl, hW, hB0⟩
  refine lv_aload_n hx hb dX2_become_8 rfl (lv_at hl 0 rfl) ?_
  refine lv_aload_n hx hb dX2_become_9 rfl (lv_at hl 1 rfl) ?_
  refine t_get (D := D) (ci := 2) (v := .int (w1.1 6 fl2 0 3)) (C := RX2) (T := TX2) (N := 8) hx hb hts iX2 hown hK hW 6 fl2 0 (dm6 (by omega)) rfl rfl 3 (by decide) (hts _ wq71) (fun _ h9 => h9) rfl dX2_become_10 ?_
  refine t_put (D := D) (ci := 2) (v := .int (w1.1 6 fl2 0 3)) (ty := .int) (C := RX2) (T := TX2) (N := 8) hx hb hts iX2 tyX2 tyX2_ok nmX2 hown hK hW hS 6 fl 0 (dm6 (by omega)) rfl rfl 3 (by decide) (hts _ wq71) (fun _ h9 => h9) rfl (by decide +kernel) rfl rfl (Nat.le_of_ble_eq_true rfl) (fun j9 => if j9 = 3 then w1.1 6 fl2 0 3 else w1.1 6 fl 0 j9) w1.2.1 rfl (fun _ _ _ => rfl) (zbit (fun j9 h9 => hW.bit _ _ _ j9 h9) (fun h9 => absurd h9 (by decide))) dX2_become_13 (fun H locs hW hS => ?_)
  obtain ⟨w2, hw2, hW, hB_w2⟩ : ∃ ww : TW, zset w1 6 fl 0 3 (w1.1 6 fl2 0 3) = ww ∧ WT D yc e0 A S Z ww.1 ww.2.1 ww.2.2 H ∧ ZB Z Tc Ts ww := ⟨_, rfl, hW, hB_w1⟩
  refine lv_iconst (v := 0) hx hb dX2_become_16 (by decide) ?_
  refine lv_istore_n (lv' := [(2, .int 0), (0, .ref (zg S 6 fl 0)), (1, .ref (zg S 6 fl2 0))]) hx hb dX2_become_17 rfl hl (by decide) rfl (fun ls hl => ?_)
  have hB_w3 : ZB Z Tc Ts (r_X2_become S fl fl2 (zn S) 0 w2) := hB.mono (zP_l (P := (zle (r_X2_become S fl fl2 (zn S) 0 w2))) hw1 (zP_l (P := (zle (r_X2_become S fl fl2 (zn S) 0 w2))) hw2 (zP_let (P := (zle (r_X2_become S fl fl2 (zn S) 0 w2))) (zle (r_X2_become S fl fl2 (zn S) 0 w2)) zle.rf (fun w3 h8 => h8))))
  refine lp_X2_become fl fl2 hf hf2 hne3 hx hb hml hr hlk hown hts hA hC (zn S) 0 w2 H locs _ (Nat.zero_add _) hB_w3 hW hS (lv_sub hl [0, 1, 2] rfl) (fun w3 H locs ls hw3 hW hS hl => ?_)
  have hB_w3 : ZB Z Tc Ts w3 := by rw [← hw3]; exact hB_w3
  exact tx_v hx hb hr hlk hS hW (zlet_e hw1 (zlet_e hw2 (zlet_e hw3 rfl))) dX2_become_71
