set_option maxHeartbeats 4000000 in
set_option maxRecDepth 100000 in
theorem y_offer0 (l : Launch) {D : va_G} {yc : Nat → ClassId} {e0 : Nat} {A : Nat → Prop} {S : TS} {Z : Nat × Nat} {F : TF} {G : TG} {q : TQ} {k a t : Nat} {v : Int32} (hk : k < zn S) (hs : ¬ F 8 0 k 0 = 0) : Met l yL_offer (ws_ yL_offer cL_offer 5 (some .int)) { frames := 6, cells := 0, slots := 0, locals := 140 } (PT D yc e0 A S Z F G q [.ref (zg S 7 0 0), .int (nI k), .int (nI a), .int v, .int (nI t)]) (zQ (some (.int 0))) 0 0 zno := by
  refine tk_M (by decide) (Nat.le_of_ble_eq_true rfl) ?_
  intro p e s m args below meth c ls hx hb hml hr hlk hown hts hW hS hA hC hl
  have hK := hC.1
  have hN := hC.2.1
  have hl : lv_has ls 5 [(0, .ref (zg S 7 0 0)), (1, .int (nI k)), (2, .int (nI a)), (3, .int v), (4, .int (nI t))] := hl
  refine lv_aload_n hx hb dL_offer_0 rfl (lv_at hl 0 rfl) ?_
  refine lv_iload_n hx hb dL_offer_1 rfl (lv_at hl 1 rfl) ?_
  refine zr_i (va_runV (As := [.int (nI k)]) (rest := []) ⟨hx, hb, hml, hown, hts⟩ (k_X10_sortOf l D yc e0 A S Z F G q k hk) (cwV 1 hts (lw_V wq627 wq628 wq629 wq1 wq630) rfl rfl rfl (by decide +kernel) ⟨(Nat.le_of_ble_eq_true rfl), (Nat.le_of_ble_eq_true rfl)⟩) (tp_V hC hW hS hA 7 0 0 dm7 rfl rfl) rfl rfl hl.1 rfl (lv_room (Nat.le_of_ble_eq_true rfl)) dL_offer_2 ⟨(Nat.le_of_ble_eq_true rfl), (Nat.le_of_ble_eq_true rfl)⟩) ?_
  refine zk_ti (y := F 8 0 k 0) rfl ?_
  refine lv_if_eq (tgt := 10) hx hb dL_offer_5 (by decide) (fun h9 => absurd h9 hs) (fun _ => ?_)
  refine lv_iconst (v := 0) hx hb dL_offer_8 (by decide) ?_
  exact ze_i hx hb hr hlk rfl rfl dL_offer_9
set_option maxHeartbeats 4000000 in
set_option maxRecDepth 100000 in
theorem y_offer1 (l : Launch) {D : va_G} {yc : Nat → ClassId} {e0 : Nat} {A : Nat → Prop} {S : TS} {Z : Nat × Nat} {Tc Ts cN zN : Nat} {w : TW} {k a t : Nat} {v : Int32} (hk : k < zn S) (hs : w.1 8 0 k 0 = 0) (hst : ¬ w.1 7 0 0 2 = 0) (hop : w.1 2 0 k 10 = 0) (ha : a ≤ 99) (ht : t ≤ 100000) (hlg : (w.2.2 (rl k)).2.length < 150) (hB : ZB Z Tc Ts ((w_X10_offer S w k a v t).1)) : Met l yL_offer (ws_ yL_offer cL_offer 5 (some .int)) { frames := 8, cells := Tc - cN, slots := Ts - zN, locals := 180 } (PM D yc e0 A S Z w cN zN [.ref (zg S 7 0 0), .int (nI k), .int (nI a), .int v, .int (nI t)]) (tQi D yc e0 A S Z ((w_X10_offer S w k a v t).1, 1)) (Tc - cN) (Ts - zN) A := by
  have hB0 : ZB Z Tc Ts w := hB.mono (m_X10_offer _ _ _ _ _ _)
  refine tk_W hB0 (by decide) (Nat.le_of_ble_eq_true rfl) ?_
  intro p e s m args below meth c ls H locs hx hb hml hr hlk hown hts hW hS hA hC hl
  have hK := hC.1
  have hN := hC.2.1
  have hl : lv_has ls 5 [(0, .ref (zg S 7 0 0)), (1, .int (nI k)), (2, .int (nI a)), (3, .int v), (4, .int (nI t))] := hl
  refine lv_aload_n hx hb dL_offer_0 rfl (lv_at hl 0 rfl) ?_
  refine lv_iload_n hx hb dL_offer_1 rfl (lv_at hl 1 rfl) ?_
  refine zr_i (va_runV (As := [.int (nI k)]) (rest := []) ⟨hx, hb, hml, hown, hts⟩ (k_X10_sortOf l D yc e0 A S Z w.1 w.2.1 w.2.2 k hk) (cwV 1 hts (lw_V wq627 wq628 wq629 wq1 wq630) rfl rfl rfl (by decide +kernel) ⟨(Nat.le_of_ble_eq_true rfl), (Nat.le_of_ble_eq_true rfl)⟩) (tp_V hC hW hS hA 7 0 0 dm7 rfl rfl) rfl rfl hl.1 rfl (lv_room (Nat.le_of_ble_eq_true rfl)) dL_offer_2 ⟨by dsimp only; omega, by dsimp only; omega⟩) ?_
  refine zk_ti (y := w.1 8 0 k 0) rfl ?_
  refine lv_if_eq (tgt := 10) hx hb dL_offer_5 (by decide) (fun _ => ?_) (fun h9 => absurd hs h9)
  refine lv_aload_n hx hb dL_offer_10 rfl (lv_at hl 0 rfl) ?_
  refine lv_iload_n hx hb dL_offer_11 rfl (lv_at hl 1 rfl) ?_
  refine lv_iload_n hx hb dL_offer_12 rfl (lv_at hl 2 rfl) ?_
  refine lv_iload_n hx hb dL_offer_13 rfl (lv_at hl 3 rfl) ?_
  refine lv_iload hx hb dL_offer_14 (lv_at hl 4 rfl) ?_
  refine tw_i hB ⟨rfl, rfl⟩ (hB0.top hW) (fun hle9 => va_runV (As := [.int (nI k), .int (nI a), .int v, .int (nI t)]) (rest := []) ⟨hx, hb, hml, hown, hts⟩ (k_X10_offer l D yc e0 A S Z Tc Ts w H.size (zh H) k a v t hk hs hst hop ha ht hlg hB) (cwV 4 hts (lw_V wq805 wq806 wq807 wq1 wq808) rfl rfl rfl (by decide +kernel) ⟨(Nat.le_of_ble_eq_true rfl), (Nat.le_of_ble_eq_true rfl)⟩) (tq_V hC hW hS hA 7 0 0 dm7 rfl rfl) rfl rfl hl.1 rfl (lv_room (Nat.le_of_ble_eq_true rfl)) dL_offer_16 hle9) hS (fun H locs hW hS => ?_)
  refine lv_pop hx hb dL_offer_19 rfl ?_
  refine lv_iconst (v := 1) hx hb dL_offer_20 (by decide) ?_
  exact tx_i hx hb hr hlk hS rfl hW rfl dL_offer_21
