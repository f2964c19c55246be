def v_X3_event (i1 : Int32) (i2 : Int32) (i3 : Int32) : Int64 := ((i3.toInt64 <<< ((40 : Int32).toInt64 &&& 63)) ||| (i1.toInt64 <<< ((32 : Int32).toInt64 &&& 63))) ||| (i2.toInt64 &&& 4294967295)
set_option maxHeartbeats 4000000 in
set_option maxRecDepth 100000 in
theorem k_X3_event (l : Launch) (i1 : Int32) (i2 : Int32) (i3 : Int32)  : Met l yX3_event (ws_ yX3_event cX3_event 3 (some .long)) ({ frames := 0, cells := 0, slots := 0, locals := 0 }) (PN [.int i1, .int i2, .int i3]) (zQ (some (.long (v_X3_event i1 i2 i3)))) 0 0 zno := by
  refine tk_N (by decide) (Nat.le_of_ble_eq_true rfl) ?_
  intro p e s m args below meth c ls hx hb hml hr hlk hown hts hl
  have hl : lv_has ls 3 [(0, .int i1), (1, .int i2), (2, .int i3)] := hl
  refine lv_iload_n hx hb dX3_event_0 rfl (lv_at hl 2 rfl) ?_
  refine lv_i2l (v := i3.toInt64) hx hb dX3_event_1 rfl ?_
  refine lv_bipush (v := 40) hx hb dX3_event_2 (by decide) ?_
  refine lv_lshl (v := i3.toInt64 <<< ((40 : Int32).toInt64 &&& 63)) hx hb dX3_event_4 rfl ?_
  refine lv_iload_n hx hb dX3_event_5 rfl (lv_at hl 0 rfl) ?_
  refine lv_i2l (v := i1.toInt64) hx hb dX3_event_6 rfl ?_
  refine lv_bipush (v := 32) hx hb dX3_event_7 (by decide) ?_
  refine lv_lshl (v := i1.toInt64 <<< ((32 : Int32).toInt64 &&& 63)) hx hb dX3_event_9 rfl ?_
  refine lv_lor hx hb dX3_event_10 ?_
  refine lv_iload_n hx hb dX3_event_11 rfl (lv_at hl 1 rfl) ?_
  refine lv_i2l (v := i2.toInt64) hx hb dX3_event_12 rfl ?_
  refine lv_ldc2 hx hb hown (hts _ wq447) dX3_event_13 ?_
  refine lv_land hx hb dX3_event_16 ?_
  refine lv_lor hx hb dX3_event_17 ?_
  exact ze_l hx hb hr hlk (by rfl) dX3_event_18
def v_X3_mark (i1 : Int32) : Int64 := 1152921504606846976 ||| (i1.toInt64 <<< ((40 : Int32).toInt64 &&& 63))
set_option maxHeartbeats 4000000 in
set_option maxRecDepth 100000 in
theorem k_X3_mark (l : Launch) (i1 : Int32)  : Met l yX3_mark (ws_ yX3_mark cX3_mark 1 (some .long)) ({ frames := 0, cells := 0, slots := 0, locals := 0 }) (PN [.int i1]) (zQ (some (.long (v_X3_mark i1)))) 0 0 zno := by
  refine tk_N (by decide) (Nat.le_of_ble_eq_true rfl) ?_
  intro p e s m args below meth c ls hx hb hml hr hlk hown hts hl
  have hl : lv_has ls 1 [(0, .int i1)] := hl
  refine lv_ldc2 hx hb hown (hts _ wq460) dX3_mark_0 ?_
  refine lv_iload_n hx hb dX3_mark_3 rfl (lv_at hl 0 rfl) ?_
  refine lv_i2l (v := i1.toInt64) hx hb dX3_mark_4 rfl ?_
  refine lv_bipush (v := 40) hx hb dX3_mark_5 (by decide) ?_
  refine lv_lshl (v := i1.toInt64 <<< ((40 : Int32).toInt64 &&& 63)) hx hb dX3_mark_7 rfl ?_
  refine lv_lor hx hb dX3_mark_8 ?_
  exact ze_l hx hb hr hlk (by rfl) dX3_mark_9
def v_X3_barrier : Int64 := 2305843009213693952
set_option maxHeartbeats 4000000 in
set_option maxRecDepth 100000 in
theorem k_X3_barrier (l : Launch)   : Met l yX3_barrier (ws_ yX3_barrier cX3_barrier 0 (some .long)) ({ frames := 0, cells := 0, slots := 0, locals := 0 }) (PN []) (zQ (some (.long (v_X3_barrier)))) 0 0 zno := by
  refine tk_N (by decide) (Nat.le_of_ble_eq_true rfl) ?_
  intro p e s m args below meth c ls hx hb hml hr hlk hown hts hl
  have hl : lv_has ls 0 [] := hl
  refine lv_ldc2 hx hb hown (hts _ wq335) dX3_barrier_0 ?_
  exact ze_l hx hb hr hlk (by rfl) dX3_barrier_3
def v_X3_kind (l1 : Int64) : Int32 := ((l1.toUInt64 >>> ((60 : Int32).toInt64.toUInt64 &&& Int64.toUInt64 63)).toInt64).toInt32
set_option maxHeartbeats 4000000 in
set_option maxRecDepth 100000 in
theorem k_X3_kind (l : Launch) (l1 : Int64)  : Met l yX3_kind (ws_ yX3_kind cX3_kind 2 (some .int)) ({ frames := 0, cells := 0, slots := 0, locals := 0 }) (PN [.long l1]) (zQ (some (.int (v_X3_kind l1)))) 0 0 zno := by
  refine tk_N (by decide) (Nat.le_of_ble_eq_true rfl) ?_
  intro p e s m args below meth c ls hx hb hml hr hlk hown hts hl
  have hl : lv_has ls 2 [(0, .long l1)] := hl
  refine lv_lload_n hx hb dX3_kind_0 rfl (lv_at hl 0 rfl) ?_
  refine lv_bipush (v := 60) hx hb dX3_kind_1 (by decide) ?_
  refine lv_lushr (v := (l1.toUInt64 >>> ((60 : Int32).toInt64.toUInt64 &&& Int64.toUInt64 63)).toInt64) hx hb dX3_kind_3 rfl ?_
  refine lv_l2i (v := ((l1.toUInt64 >>> ((60 : Int32).toInt64.toUInt64 &&& Int64.toUInt64 63)).toInt64).toInt32) hx hb dX3_kind_4 rfl ?_
  exact ze_i hx hb hr hlk rfl (by rfl) dX3_kind_5
def v_X3_time (l1 : Int64) : Int32 := (((l1.toUInt64 >>> ((40 : Int32).toInt64.toUInt64 &&& Int64.toUInt64 63)).toInt64) &&& 1048575).toInt32
set_option maxHeartbeats 4000000 in
set_option maxRecDepth 100000 in
theorem k_X3_time (l : Launch) (l1 : Int64)  : Met l yX3_time (ws_ yX3_time cX3_time 2 (some .int)) ({ frames := 0, cells := 0, slots := 0, locals := 0 }) (PN [.long l1]) (zQ (some (.int (v_X3_time l1)))) 0 0 zno := by
  refine tk_N (by decide) (Nat.le_of_ble_eq_true rfl) ?_
  intro p e s m args below meth c ls hx hb hml hr hlk hown hts hl
  have hl : lv_has ls 2 [(0, .long l1)] := hl
  refine lv_lload_n hx hb dX3_time_0 rfl (lv_at hl 0 rfl) ?_
  refine lv_bipush (v := 40) hx hb dX3_time_1 (by decide) ?_
  refine lv_lushr (v := (l1.toUInt64 >>> ((40 : Int32).toInt64.toUInt64 &&& Int64.toUInt64 63)).toInt64) hx hb dX3_time_3 rfl ?_
  refine lv_ldc2 hx hb hown (hts _ wq398) dX3_time_4 ?_
  refine lv_land hx hb dX3_time_7 ?_
  refine lv_l2i (v := (((l1.toUInt64 >>> ((40 : Int32).toInt64.toUInt64 &&& Int64.toUInt64 63)).toInt64) &&& 1048575).toInt32) hx hb dX3_time_8 rfl ?_
  exact ze_i hx hb hr hlk rfl (by rfl) dX3_time_9
def v_X3_key (l1 : Int64) : Int32 := (((l1.toUInt64 >>> ((32 : Int32).toInt64.toUInt64 &&& Int64.toUInt64 63)).toInt64) &&& 255).toInt32
set_option maxHeartbeats 4000000 in
set_option maxRecDepth 100000 in
theorem k_X3_key (l : Launch) (l1 : Int64)  : Met l yX3_key (ws_ yX3_key cX3_key 2 (some .int)) ({ frames := 0, cells := 0, slots := 0, locals := 0 }) (PN [.long l1]) (zQ (some (.int (v_X3_key l1)))) 0 0 zno := by
  refine tk_N (by decide) (Nat.le_of_ble_eq_true rfl) ?_
  intro p e s m args below meth c ls hx hb hml hr hlk hown hts hl
  have hl : lv_has ls 2 [(0, .long l1)] := hl
  refine lv_lload_n hx hb dX3_key_0 rfl (lv_at hl 0 rfl) ?_
  refine lv_bipush (v := 32) hx hb dX3_key_1 (by decide) ?_
  refine lv_lushr (v := (l1.toUInt64 >>> ((32 : Int32).toInt64.toUInt64 &&& Int64.toUInt64 63)).toInt64) hx hb dX3_key_3 rfl ?_
  refine lv_ldc2 hx hb hown (hts _ wq490) dX3_key_4 ?_
  refine lv_land hx hb dX3_key_7 ?_
  refine lv_l2i (v := (((l1.toUInt64 >>> ((32 : Int32).toInt64.toUInt64 &&& Int64.toUInt64 63)).toInt64) &&& 255).toInt32) hx hb dX3_key_8 rfl ?_
  exact ze_i hx hb hr hlk rfl (by rfl) dX3_key_9
def v_X3_value (l1 : Int64) : Int32 := l1.toInt32
set_option maxHeartbeats 4000000 in
set_option maxRecDepth 100000 in
theorem k_X3_value (l : Launch) (l1 : Int64)  : Met l yX3_value (ws_ yX3_value cX3_value 2 (some .int)) ({ frames := 0, cells := 0, slots := 0, locals := 0 }) (PN [.long l1]) (zQ (some (.int (v_X3_value l1)))) 0 0 zno := by
  refine tk_N (by decide) (Nat.le_of_ble_eq_true rfl) ?_
  intro p e s m args below meth c ls hx hb hml hr hlk hown hts hl
  have hl : lv_has ls 2 [(0, .long l1)] := hl
  refine lv_lload_n hx hb dX3_value_0 rfl (lv_at hl 0 rfl) ?_
  refine lv_l2i (v := l1.toInt32) hx hb dX3_value_1 rfl ?_
  exact ze_i hx hb hr hlk rfl (by rfl) dX3_value_2
def v_X0_cell (i1 : Int32) (i2 : Int32) : Int64 := (i2.toInt64 <<< ((32 : Int32).toInt64 &&& 63)) ||| (i1.toInt64 &&& 4294967295)
set_option maxHeartbeats 4000000 in
set_option maxRecDepth 100000 in
theorem k_X0_cell (l : Launch) (i1 : Int32) (i2 : Int32)  : Met l yX0_cell (ws_ yX0_cell cX0_cell 2 (some .long)) ({ frames := 0, cells := 0, slots := 0, locals := 0 }) (PN [.int i1, .int i2]) (zQ (some (.long (v_X0_cell i1 i2)))) 0 0 zno := by
  refine tk_N (by decide) (Nat.le_of_ble_eq_true rfl) ?_
  intro p e s m args below meth c ls hx hb hml hr hlk hown hts hl
  have hl : lv_has ls 2 [(0, .int i1), (1, .int i2)] := hl
  refine lv_iload_n hx hb dX0_cell_0 rfl (lv_at hl 1 rfl) ?_
  refine lv_i2l (v := i2.toInt64) hx hb dX0_cell_1 rfl ?_
  refine lv_bipush (v := 32) hx hb dX0_cell_2 (by decide) ?_
  refine lv_lshl (v := i2.toInt64 <<< ((32 : Int32).toInt64 &&& 63)) hx hb dX0_cell_4 rfl ?_
  refine lv_iload_n hx hb dX0_cell_5 rfl (lv_at hl 0 rfl) ?_
  refine lv_i2l (v := i1.toInt64) hx hb dX0_cell_6 rfl ?_
  refine lv_ldc2 hx hb hown (hts _ wq521) dX0_cell_7 ?_
  refine lv_land hx hb dX0_cell_10 ?_
  refine lv_lor hx hb dX0_cell_11 ?_
  exact ze_l hx hb hr hlk (by rfl) dX0_cell_12
def v_X0_value (l1 : Int64) : Int32 := l1.toInt32
set_option maxHeartbeats 4000000 in
set_option maxRecDepth 100000 in
theorem k_X0_value (l : Launch) (l1 : Int64)  : Met l yX0_value (ws_ yX0_value cX0_value 2 (some .int)) ({ frames := 0, cells := 0, slots := 0, locals := 0 }) (PN [.long l1]) (zQ (some (.int (v_X0_value l1)))) 0 0 zno := by
  refine tk_N (by decide) (Nat.le_of_ble_eq_true rfl) ?_
  intro p e s m args below meth c ls hx hb hml hr hlk hown hts hl
  have hl : lv_has ls 2 [(0, .long l1)] := hl
  refine lv_lload_n hx hb dX0_value_0 rfl (lv_at hl 0 rfl) ?_
  refine lv_l2i (v := l1.toInt32) hx hb dX0_value_1 rfl ?_
  exact ze_i hx hb hr hlk rfl (by rfl) dX0_value_2
def v_X0_beside (l1 : Int64) : Int32 := (l1 >>> ((32 : Int32).toInt64 &&& 63)).toInt32
set_option maxHeartbeats 4000000 in
set_option maxRecDepth 100000 in
theorem k_X0_beside (l : Launch) (l1 : Int64)  : Met l yX0_beside (ws_ yX0_beside cX0_beside 2 (some .int)) ({ frames := 0, cells := 0, slots := 0, locals := 0 }) (PN [.long l1]) (zQ (some (.int (v_X0_beside l1)))) 0 0 zno := by
  refine tk_N (by decide) (Nat.le_of_ble_eq_true rfl) ?_
  intro p e s m args below meth c ls hx hb hml hr hlk hown hts hl
  have hl : lv_has ls 2 [(0, .long l1)] := hl
  refine lv_lload_n hx hb dX0_beside_0 rfl (lv_at hl 0 rfl) ?_
  refine lv_bipush (v := 32) hx hb dX0_beside_1 (by decide) ?_
  refine lv_lshr (v := l1 >>> ((32 : Int32).toInt64 &&& 63)) hx hb dX0_beside_3 rfl ?_
  refine lv_l2i (v := (l1 >>> ((32 : Int32).toInt64 &&& 63)).toInt32) hx hb dX0_beside_4 rfl ?_
  exact ze_i hx hb hr hlk rfl (by rfl) dX0_beside_5
def v_X0_ofOne (i1 : Int32) (l1 : Int64) : Int64 := if i1 = 0 then if i1 = 4 then v_X0_cell 1 (v_X3_time l1) else v_X0_cell 1 1 else if i1 = 4 then v_X0_cell (v_X3_value l1) (v_X3_time l1) else v_X0_cell (v_X3_value l1) 1
set_option maxHeartbeats 4000000 in
set_option maxRecDepth 100000 in
theorem k_X0_ofOne (l : Launch) (i1 : Int32) (l1 : Int64)  : Met l yX0_ofOne (ws_ yX0_ofOne cX0_ofOne 4 (some .long)) ({ frames := 1, cells := 0, slots := 0, locals := 21 }) (PN [.int i1, .long l1]) (zQ (some (.long (v_X0_ofOne i1 l1)))) 0 0 zno := by
  refine tk_N (by decide) (Nat.le_of_ble_eq_true rfl) ?_
  intro p e s m args below meth c ls hx hb hml hr hlk hown hts hl
  have hl : lv_has ls 4 [(0, .int i1), (1, .long l1)] := hl
  refine lv_iload_n hx hb dX0_ofOne_0 rfl (lv_at hl 0 rfl) ?_
  refine lv_if_ne (tgt := 8) hx hb dX0_ofOne_1 (by decide) (fun hb1 => ?_) (fun hb1 => ?_)
  · refine lv_lload_n hx hb dX0_ofOne_8 rfl (lv_at hl 1 rfl) ?_
    refine zr_i (va_runS (As := [.long l1]) (rest := []) ⟨hx, hb, hml, hown, hts⟩ (k_X3_value l l1) (va_cwS 1 hts (lw_S wq516 wq485 wq25 wq486) rfl rfl rfl (by decide +kernel) ⟨(Nat.le_of_ble_eq_true rfl), (Nat.le_of_ble_eq_true rfl)⟩) tp_N rfl rfl hl.1 rfl (lv_room (Nat.le_of_ble_eq_true rfl)) dX0_ofOne_9 ⟨(Nat.le_of_ble_eq_true rfl), (Nat.le_of_ble_eq_true rfl)⟩) ?_
    refine lv_istore_n (lv' := [(3, .int (v_X3_value l1)), (0, .int i1), (1, .long l1)]) hx hb dX0_ofOne_12 rfl hl (by decide) rfl (fun ls hl => ?_)
    refine lv_iload_n hx hb dX0_ofOne_13 rfl (lv_at hl 0 rfl) ?_
    refine lv_iload_n hx hb dX0_ofOne_14 rfl (lv_at hl 1 rfl) ?_
    refine lv_iconst (v := 4) hx hb dX0_ofOne_15 (by decide) ?_
    refine lv_icmp_ne (tgt := 26) hx hb dX0_ofOne_16 (by decide) (fun hb3 => ?_) (fun hb3 => ?_)
    · refine lv_iconst (v := 1) hx hb dX0_ofOne_26 (by decide) ?_
      refine zr_l (va_runS (As := [.int (v_X3_value l1), .int 1]) (rest := []) ⟨hx, hb, hml, hown, hts⟩ (k_X0_cell l (v_X3_value l1) 1) (va_cwS 2 hts (lw_S wq518 wq519 wq26 wq520) rfl rfl rfl (by decide +kernel) ⟨(Nat.le_of_ble_eq_true rfl), (Nat.le_of_ble_eq_true rfl)⟩) tp_N rfl rfl hl.1 rfl (lv_room (Nat.le_of_ble_eq_true rfl)) dX0_ofOne_27 ⟨(Nat.le_of_ble_eq_true rfl), (Nat.le_of_ble_eq_true rfl)⟩) ?_
      exact ze_l hx hb hr hlk (by unfold v_X0_ofOne; rw [if_neg hb1, if_neg hb3]) dX0_ofOne_30
    · refine lv_lload_n hx hb dX0_ofOne_19 rfl (lv_at hl 2 rfl) ?_
      refine zr_i (va_runS (As := [.long l1]) (rest := [.int (v_X3_value l1)]) ⟨hx, hb, hml, hown, hts⟩ (k_X3_time l l1) (va_cwS 1 hts (lw_S wq517 wq396 wq25 wq397) rfl rfl rfl (by decide +kernel) ⟨(Nat.le_of_ble_eq_true rfl), (Nat.le_of_ble_eq_true rfl)⟩) tp_N rfl rfl hl.1 rfl (lv_room (Nat.le_of_ble_eq_true rfl)) dX0_ofOne_20 ⟨(Nat.le_of_ble_eq_true rfl), (Nat.le_of_ble_eq_true rfl)⟩) ?_
      refine lv_goto (tgt := 27) hx hb dX0_ofOne_23 (by decide) ?_
      refine zr_l (va_runS (As := [.int (v_X3_value l1), .int (v_X3_time l1)]) (rest := []) ⟨hx, hb, hml, hown, hts⟩ (k_X0_cell l (v_X3_value l1) (v_X3_time l1)) (va_cwS 2 hts (lw_S wq518 wq519 wq26 wq520) rfl rfl rfl (by decide +kernel) ⟨(Nat.le_of_ble_eq_true rfl), (Nat.le_of_ble_eq_true rfl)⟩) tp_N rfl rfl hl.1 rfl (lv_room (Nat.le_of_ble_eq_true rfl)) dX0_ofOne_27 ⟨(Nat.le_of_ble_eq_true rfl), (Nat.le_of_ble_eq_true rfl)⟩) ?_
      exact ze_l hx hb hr hlk (by unfold v_X0_ofOne; rw [if_neg hb1, if_pos hb3]) dX0_ofOne_30
  · refine lv_iconst (v := 1) hx hb dX0_ofOne_4 (by decide) ?_
    refine lv_goto (tgt := 12) hx hb dX0_ofOne_5 (by decide) ?_
    refine lv_istore_n (lv' := [(3, .int 1), (0, .int i1), (1, .long l1)]) hx hb dX0_ofOne_12 rfl hl (by decide) rfl (fun ls hl => ?_)
    refine lv_iload_n hx hb dX0_ofOne_13 rfl (lv_at hl 0 rfl) ?_
    refine lv_iload_n hx hb dX0_ofOne_14 rfl (lv_at hl 1 rfl) ?_
    refine lv_iconst (v := 4) hx hb dX0_ofOne_15 (by decide) ?_
    refine lv_icmp_ne (tgt := 26) hx hb dX0_ofOne_16 (by decide) (fun hb2 => ?_) (fun hb2 => ?_)
    · refine lv_iconst (v := 1) hx hb dX0_ofOne_26 (by decide) ?_
      refine zr_l (va_runS (As := [.int 1, .int 1]) (rest := []) ⟨hx, hb, hml, hown, hts⟩ (k_X0_cell l 1 1) (va_cwS 2 hts (lw_S wq518 wq519 wq26 wq520) rfl rfl rfl (by decide +kernel) ⟨(Nat.le_of_ble_eq_true rfl), (Nat.le_of_ble_eq_true rfl)⟩) tp_N rfl rfl hl.1 rfl (lv_room (Nat.le_of_ble_eq_true rfl)) dX0_ofOne_27 ⟨(Nat.le_of_ble_eq_true rfl), (Nat.le_of_ble_eq_true rfl)⟩) ?_
      exact ze_l hx hb hr hlk (by unfold v_X0_ofOne; rw [if_pos hb1, if_neg hb2]) dX0_ofOne_30
    · refine lv_lload_n hx hb dX0_ofOne_19 rfl (lv_at hl 2 rfl) ?_
      refine zr_i (va_runS (As := [.long l1]) (rest := [.int 1]) ⟨hx, hb, hml, hown, hts⟩ (k_X3_time l l1) (va_cwS 1 hts (lw_S wq517 wq396 wq25 wq397) rfl rfl rfl (by decide +kernel) ⟨(Nat.le_of_ble_eq_true rfl), (Nat.le_of_ble_eq_true rfl)⟩) tp_N rfl rfl hl.1 rfl (lv_room (Nat.le_of_ble_eq_true rfl)) dX0_ofOne_20 ⟨(Nat.le_of_ble_eq_true rfl), (Nat.le_of_ble_eq_true rfl)⟩) ?_
      refine lv_goto (tgt := 27) hx hb dX0_ofOne_23 (by decide) ?_
      refine zr_l (va_runS (As := [.int 1, .int (v_X3_time l1)]) (rest := []) ⟨hx, hb, hml, hown, hts⟩ (k_X0_cell l 1 (v_X3_time l1)) (va_cwS 2 hts (lw_S wq518 wq519 wq26 wq520) rfl rfl rfl (by decide +kernel) ⟨(Nat.le_of_ble_eq_true rfl), (Nat.le_of_ble_eq_true rfl)⟩) tp_N rfl rfl hl.1 rfl (lv_room (Nat.le_of_ble_eq_true rfl)) dX0_ofOne_27 ⟨(Nat.le_of_ble_eq_true rfl), (Nat.le_of_ble_eq_true rfl)⟩) ?_
      exact ze_l hx hb hr hlk (by unfold v_X0_ofOne; rw [if_pos hb1, if_pos hb2]) dX0_ofOne_30
def v_X0_ofBoth (i1 : Int32) (l1 : Int64) (l2 : Int64) : Int64 := if i1 = 2 then v_X0_cell (zmin (v_X0_value l1) (v_X0_value l2)) ((v_X0_beside l1) + (v_X0_beside l2)) else if i1 = 3 then v_X0_cell (zmax (v_X0_value l1) (v_X0_value l2)) ((v_X0_beside l1) + (v_X0_beside l2)) else if i1 = 4 then if (v_X0_beside l2) < (v_X0_beside l1) then l1 else l2 else v_X0_cell ((v_X0_value l1) + (v_X0_value l2)) ((v_X0_beside l1) + (v_X0_beside l2))
set_option maxHeartbeats 4000000 in
set_option maxRecDepth 100000 in
theorem k_X0_ofBoth (l : Launch) (i1 : Int32) (l1 : Int64) (l2 : Int64)  : Met l yX0_ofBoth (ws_ yX0_ofBoth cX0_ofBoth 8 (some .long)) ({ frames := 1, cells := 0, slots := 0, locals := 21 }) (PN [.int i1, .long l1, .long l2]) (zQ (some (.long (v_X0_ofBoth i1 l1 l2)))) 0 0 zno := by
  refine tk_N (by decide) (Nat.le_of_ble_eq_true rfl) ?_
  intro p e s m args below meth c ls hx hb hml hr hlk hown hts hl
  have hl : lv_has ls 8 [(0, .int i1), (1, .long l1), (3, .long l2)] := hl
  refine lv_lload_n hx hb dX0_ofBoth_0 rfl (lv_at hl 1 rfl) ?_
  refine zr_i (va_runS (As := [.long l1]) (rest := []) ⟨hx, hb, hml, hown, hts⟩ (k_X0_value l l1) (va_cwS 1 hts (lw_S wq432 wq433 wq26 wq434) rfl rfl rfl (by decide +kernel) ⟨(Nat.le_of_ble_eq_true rfl), (Nat.le_of_ble_eq_true rfl)⟩) tp_N rfl rfl hl.1 rfl (lv_room (Nat.le_of_ble_eq_true rfl)) dX0_ofBoth_1 ⟨(Nat.le_of_ble_eq_true rfl), (Nat.le_of_ble_eq_true rfl)⟩) ?_
  refine lv_istore (lv' := [(5, .int (v_X0_value l1)), (0, .int i1), (1, .long l1), (3, .long l2)]) hx hb dX0_ofBoth_4 hl (by decide) rfl (fun ls hl => ?_)
  refine lv_lload_n hx hb dX0_ofBoth_6 rfl (lv_at hl 3 rfl) ?_
  refine zr_i (va_runS (As := [.long l2]) (rest := []) ⟨hx, hb, hml, hown, hts⟩ (k_X0_value l l2) (va_cwS 1 hts (lw_S wq432 wq433 wq26 wq434) rfl rfl rfl (by decide +kernel) ⟨(Nat.le_of_ble_eq_true rfl), (Nat.le_of_ble_eq_true rfl)⟩) tp_N rfl rfl hl.1 rfl (lv_room (Nat.le_of_ble_eq_true rfl)) dX0_ofBoth_7 ⟨(Nat.le_of_ble_eq_true rfl), (Nat.le_of_ble_eq_true rfl)⟩) ?_
  refine lv_istore (lv' := [(6, .int (v_X0_value l2)), (5, .int (v_X0_value l1)), (0, .int i1), (1, .long l1), (3, .long l2)]) hx hb dX0_ofBoth_10 hl (by decide) rfl (fun ls hl => ?_)
  refine lv_lload_n hx hb dX0_ofBoth_12 rfl (lv_at hl 3 rfl) ?_
  refine zr_i (va_runS (As := [.long l1]) (rest := []) ⟨hx, hb, hml, hown, hts⟩ (k_X0_beside l l1) (va_cwS 1 hts (lw_S wq429 wq430 wq26 wq431) rfl rfl rfl (by decide +kernel) ⟨(Nat.le_of_ble_eq_true rfl), (Nat.le_of_ble_eq_true rfl)⟩) tp_N rfl rfl hl.1 rfl (lv_room (Nat.le_of_ble_eq_true rfl)) dX0_ofBoth_13 ⟨(Nat.le_of_ble_eq_true rfl), (Nat.le_of_ble_eq_true rfl)⟩) ?_
  refine lv_lload_n hx hb dX0_ofBoth_16 rfl (lv_at hl 4 rfl) ?_
  refine zr_i (va_runS (As := [.long l2]) (rest := [.int (v_X0_beside l1)]) ⟨hx, hb, hml, hown, hts⟩ (k_X0_beside l l2) (va_cwS 1 hts (lw_S wq429 wq430 wq26 wq431) rfl rfl rfl (by decide +kernel) ⟨(Nat.le_of_ble_eq_true rfl), (Nat.le_of_ble_eq_true rfl)⟩) tp_N rfl rfl hl.1 rfl (lv_room (Nat.le_of_ble_eq_true rfl)) dX0_ofBoth_17 ⟨(Nat.le_of_ble_eq_true rfl), (Nat.le_of_ble_eq_true rfl)⟩) ?_
  refine lv_iadd hx hb dX0_ofBoth_20 ?_
  refine lv_istore (lv' := [(7, .int ((v_X0_beside l1) + (v_X0_beside l2))), (6, .int (v_X0_value l2)), (5, .int (v_X0_value l1)), (0, .int i1), (1, .long l1), (3, .long l2)]) hx hb dX0_ofBoth_21 hl (by decide) rfl (fun ls hl => ?_)
  refine lv_iload_n hx hb dX0_ofBoth_23 rfl (lv_at hl 3 rfl) ?_
  by_cases hs1 : i1 = 2
  · refine zk_ti (y := 2) hs1 ?_
    refine lv_tableIn (off := 28) (tgt := 52) hx hb dX0_ofBoth_24 (by decide) (by decide) (by decide) (by decide) ?_
    refine lv_iload hx hb dX0_ofBoth_52 (lv_at hl 2 rfl) ?_
    refine lv_iload hx hb dX0_ofBoth_54 (lv_at hl 1 rfl) ?_
    refine va_mmin hx hb (by rw [hml]; exact hl.1.symm) hown (hts _ wq529) (hts _ wq300) (hts _ wq14) (hts _ wq301) (Nat.le_of_ble_eq_true rfl) (Nat.le_of_ble_eq_true rfl) (Nat.le_of_ble_eq_true rfl) (Nat.le_of_ble_eq_true rfl) dX0_ofBoth_56 ?_
    refine zk_ti (y := zmin (v_X0_value l1) (v_X0_value l2)) rfl ?_
    refine lv_iload hx hb dX0_ofBoth_59 (lv_at hl 0 rfl) ?_
    refine zr_l (va_runS (As := [.int (zmin (v_X0_value l1) (v_X0_value l2)), .int ((v_X0_beside l1) + (v_X0_beside l2))]) (rest := []) ⟨hx, hb, hml, hown, hts⟩ (k_X0_cell l (zmin (v_X0_value l1) (v_X0_value l2)) ((v_X0_beside l1) + (v_X0_beside l2))) (va_cwS 2 hts (lw_S wq518 wq519 wq26 wq520) rfl rfl rfl (by decide +kernel) ⟨(Nat.le_of_ble_eq_true rfl), (Nat.le_of_ble_eq_true rfl)⟩) tp_N rfl rfl hl.1 rfl (lv_room (Nat.le_of_ble_eq_true rfl)) dX0_ofBoth_61 ⟨(Nat.le_of_ble_eq_true rfl), (Nat.le_of_ble_eq_true rfl)⟩) ?_
    exact ze_l hx hb hr hlk (by unfold v_X0_ofBoth; rw [if_pos hs1]) dX0_ofBoth_64
  · by_cases hs2 : i1 = 3
    · refine zk_ti (y := 3) hs2 ?_
      refine lv_tableIn (off := 41) (tgt := 65) hx hb dX0_ofBoth_24 (by decide) (by decide) (by decide) (by decide) ?_
      refine lv_iload hx hb dX0_ofBoth_65 (lv_at hl 2 rfl) ?_
      refine lv_iload hx hb dX0_ofBoth_67 (lv_at hl 1 rfl) ?_
      refine va_mmax hx hb (by rw [hml]; exact hl.1.symm) hown (hts _ wq530) (hts _ wq375) (hts _ wq14) (hts _ wq376) (Nat.le_of_ble_eq_true rfl) (Nat.le_of_ble_eq_true rfl) (Nat.le_of_ble_eq_true rfl) (Nat.le_of_ble_eq_true rfl) dX0_ofBoth_69 ?_
      refine zk_ti (y := zmax (v_X0_value l1) (v_X0_value l2)) rfl ?_
      refine lv_iload hx hb dX0_ofBoth_72 (lv_at hl 0 rfl) ?_
      refine zr_l (va_runS (As := [.int (zmax (v_X0_value l1) (v_X0_value l2)), .int ((v_X0_beside l1) + (v_X0_beside l2))]) (rest := []) ⟨hx, hb, hml, hown, hts⟩ (k_X0_cell l (zmax (v_X0_value l1) (v_X0_value l2)) ((v_X0_beside l1) + (v_X0_beside l2))) (va_cwS 2 hts (lw_S wq518 wq519 wq26 wq520) rfl rfl rfl (by decide +kernel) ⟨(Nat.le_of_ble_eq_true rfl), (Nat.le_of_ble_eq_true rfl)⟩) tp_N rfl rfl hl.1 rfl (lv_room (Nat.le_of_ble_eq_true rfl)) dX0_ofBoth_74 ⟨(Nat.le_of_ble_eq_true rfl), (Nat.le_of_ble_eq_true rfl)⟩) ?_
      exact ze_l hx hb hr hlk (by unfold v_X0_ofBoth; rw [if_neg hs1, if_pos hs2]) dX0_ofBoth_77
    · by_cases hs3 : i1 = 4
      · refine zk_ti (y := 4) hs3 ?_
        refine lv_tableIn (off := 54) (tgt := 78) hx hb dX0_ofBoth_24 (by decide) (by decide) (by decide) (by decide) ?_
        refine lv_lload_n hx hb dX0_ofBoth_78 rfl (lv_at hl 5 rfl) ?_
        refine zr_i (va_runS (As := [.long l2]) (rest := []) ⟨hx, hb, hml, hown, hts⟩ (k_X0_beside l l2) (va_cwS 1 hts (lw_S wq429 wq430 wq26 wq431) rfl rfl rfl (by decide +kernel) ⟨(Nat.le_of_ble_eq_true rfl), (Nat.le_of_ble_eq_true rfl)⟩) tp_N rfl rfl hl.1 rfl (lv_room (Nat.le_of_ble_eq_true rfl)) dX0_ofBoth_79 ⟨(Nat.le_of_ble_eq_true rfl), (Nat.le_of_ble_eq_true rfl)⟩) ?_
        refine lv_lload_n hx hb dX0_ofBoth_82 rfl (lv_at hl 4 rfl) ?_
        refine zr_i (va_runS (As := [.long l1]) (rest := [.int (v_X0_beside l2)]) ⟨hx, hb, hml, hown, hts⟩ (k_X0_beside l l1) (va_cwS 1 hts (lw_S wq429 wq430 wq26 wq431) rfl rfl rfl (by decide +kernel) ⟨(Nat.le_of_ble_eq_true rfl), (Nat.le_of_ble_eq_true rfl)⟩) tp_N rfl rfl hl.1 rfl (lv_room (Nat.le_of_ble_eq_true rfl)) dX0_ofBoth_83 ⟨(Nat.le_of_ble_eq_true rfl), (Nat.le_of_ble_eq_true rfl)⟩) ?_
        refine lv_icmp_lt (tgt := 93) hx hb dX0_ofBoth_86 (by decide) (fun hb4 => ?_) (fun hb4 => ?_)
        · refine lv_lload_n hx hb dX0_ofBoth_93 rfl (lv_at hl 4 rfl) ?_
          exact ze_l hx hb hr hlk (by unfold v_X0_ofBoth; rw [if_neg hs1, if_neg hs2, if_pos hs3, if_pos hb4]) dX0_ofBoth_94
        · refine lv_lload_n hx hb dX0_ofBoth_89 rfl (lv_at hl 5 rfl) ?_
          refine lv_goto (tgt := 94) hx hb dX0_ofBoth_90 (by decide) ?_
          exact ze_l hx hb hr hlk (by unfold v_X0_ofBoth; rw [if_neg hs1, if_neg hs2, if_pos hs3, if_neg hb4]) dX0_ofBoth_94
      · refine lv_tableOut (tgt := 95) hx hb dX0_ofBoth_24 (by have a0 := zk_nt hs1; have e0 : (2 : Int32).toInt = 2 := (by decide); rw [e0] at a0; have a1 := zk_nt hs2; have e1 : (3 : Int32).toInt = 3 := (by decide); rw [e1] at a1; have a2 := zk_nt hs3; have e2 : (4 : Int32).toInt = 4 := (by decide); rw [e2] at a2; omega) (by decide) ?_
        refine lv_iload hx hb dX0_ofBoth_95 (lv_at hl 2 rfl) ?_
        refine lv_iload hx hb dX0_ofBoth_97 (lv_at hl 1 rfl) ?_
        refine lv_iadd hx hb dX0_ofBoth_99 ?_
        refine lv_iload hx hb dX0_ofBoth_100 (lv_at hl 0 rfl) ?_
        refine zr_l (va_runS (As := [.int ((v_X0_value l1) + (v_X0_value l2)), .int ((v_X0_beside l1) + (v_X0_beside l2))]) (rest := []) ⟨hx, hb, hml, hown, hts⟩ (k_X0_cell l ((v_X0_value l1) + (v_X0_value l2)) ((v_X0_beside l1) + (v_X0_beside l2))) (va_cwS 2 hts (lw_S wq518 wq519 wq26 wq520) rfl rfl rfl (by decide +kernel) ⟨(Nat.le_of_ble_eq_true rfl), (Nat.le_of_ble_eq_true rfl)⟩) tp_N rfl rfl hl.1 rfl (lv_room (Nat.le_of_ble_eq_true rfl)) dX0_ofBoth_102 ⟨(Nat.le_of_ble_eq_true rfl), (Nat.le_of_ble_eq_true rfl)⟩) ?_
        exact ze_l hx hb hr hlk (by unfold v_X0_ofBoth; rw [if_neg hs1, if_neg hs2, if_neg hs3]) dX0_ofBoth_105
def v_X0_answer (i1 : Int32) (l1 : Int64) : Int32 := if i1 = 5 then if (v_X0_beside l1) = 0 then v_X0_value l1 else (v_X0_value l1) / (v_X0_beside l1) else v_X0_value l1
set_option maxHeartbeats 4000000 in
set_option maxRecDepth 100000 in
theorem k_X0_answer (l : Launch) (i1 : Int32) (l1 : Int64)  : Met l yX0_answer (ws_ yX0_answer cX0_answer 4 (some .int)) ({ frames := 1, cells := 0, slots := 0, locals := 21 }) (PN [.int i1, .long l1]) (zQ (some (.int (v_X0_answer i1 l1)))) 0 0 zno := by
  refine tk_N (by decide) (Nat.le_of_ble_eq_true rfl) ?_
  intro p e s m args below meth c ls hx hb hml hr hlk hown hts hl
  have hl : lv_has ls 4 [(0, .int i1), (1, .long l1)] := hl
  refine lv_lload_n hx hb dX0_answer_0 rfl (lv_at hl 1 rfl) ?_
  refine zr_i (va_runS (As := [.long l1]) (rest := []) ⟨hx, hb, hml, hown, hts⟩ (k_X0_beside l l1) (va_cwS 1 hts (lw_S wq429 wq430 wq26 wq431) rfl rfl rfl (by decide +kernel) ⟨(Nat.le_of_ble_eq_true rfl), (Nat.le_of_ble_eq_true rfl)⟩) tp_N rfl rfl hl.1 rfl (lv_room (Nat.le_of_ble_eq_true rfl)) dX0_answer_1 ⟨(Nat.le_of_ble_eq_true rfl), (Nat.le_of_ble_eq_true rfl)⟩) ?_
  refine lv_istore_n (lv' := [(3, .int (v_X0_beside l1)), (0, .int i1), (1, .long l1)]) hx hb dX0_answer_4 rfl hl (by decide) rfl (fun ls hl => ?_)
  refine lv_iload_n hx hb dX0_answer_5 rfl (lv_at hl 1 rfl) ?_
  refine lv_iconst (v := 5) hx hb dX0_answer_6 (by decide) ?_
  refine lv_icmp_ne (tgt := 23) hx hb dX0_answer_7 (by decide) (fun hb1 => ?_) (fun hb1 => ?_)
  · refine lv_lload_n hx hb dX0_answer_23 rfl (lv_at hl 2 rfl) ?_
    refine zr_i (va_runS (As := [.long l1]) (rest := []) ⟨hx, hb, hml, hown, hts⟩ (k_X0_value l l1) (va_cwS 1 hts (lw_S wq432 wq433 wq26 wq434) rfl rfl rfl (by decide +kernel) ⟨(Nat.le_of_ble_eq_true rfl), (Nat.le_of_ble_eq_true rfl)⟩) tp_N rfl rfl hl.1 rfl (lv_room (Nat.le_of_ble_eq_true rfl)) dX0_answer_24 ⟨(Nat.le_of_ble_eq_true rfl), (Nat.le_of_ble_eq_true rfl)⟩) ?_
    exact ze_i hx hb hr hlk rfl (by unfold v_X0_answer; rw [if_neg hb1]) dX0_answer_27
  · refine lv_iload_n hx hb dX0_answer_10 rfl (lv_at hl 0 rfl) ?_
    refine lv_if_eq (tgt := 23) hx hb dX0_answer_11 (by decide) (fun hb2 => ?_) (fun hb2 => ?_)
    · refine lv_lload_n hx hb dX0_answer_23 rfl (lv_at hl 2 rfl) ?_
      refine zr_i (va_runS (As := [.long l1]) (rest := []) ⟨hx, hb, hml, hown, hts⟩ (k_X0_value l l1) (va_cwS 1 hts (lw_S wq432 wq433 wq26 wq434) rfl rfl rfl (by decide +kernel) ⟨(Nat.le_of_ble_eq_true rfl), (Nat.le_of_ble_eq_true rfl)⟩) tp_N rfl rfl hl.1 rfl (lv_room (Nat.le_of_ble_eq_true rfl)) dX0_answer_24 ⟨(Nat.le_of_ble_eq_true rfl), (Nat.le_of_ble_eq_true rfl)⟩) ?_
      exact ze_i hx hb hr hlk rfl (by unfold v_X0_answer; rw [if_pos hb1, if_pos hb2]) dX0_answer_27
    · refine lv_lload_n hx hb dX0_answer_14 rfl (lv_at hl 2 rfl) ?_
      refine zr_i (va_runS (As := [.long l1]) (rest := []) ⟨hx, hb, hml, hown, hts⟩ (k_X0_value l l1) (va_cwS 1 hts (lw_S wq432 wq433 wq26 wq434) rfl rfl rfl (by decide +kernel) ⟨(Nat.le_of_ble_eq_true rfl), (Nat.le_of_ble_eq_true rfl)⟩) tp_N rfl rfl hl.1 rfl (lv_room (Nat.le_of_ble_eq_true rfl)) dX0_answer_15 ⟨(Nat.le_of_ble_eq_true rfl), (Nat.le_of_ble_eq_true rfl)⟩) ?_
      refine lv_iload_n hx hb dX0_answer_18 rfl (lv_at hl 0 rfl) ?_
      refine lv_idiv hx hb dX0_answer_19 (by assumption) ?_
      refine lv_goto (tgt := 27) hx hb dX0_answer_20 (by decide) ?_
      exact ze_i hx hb hr hlk rfl (by unfold v_X0_answer; rw [if_pos hb1, if_neg hb2]) dX0_answer_27
def v_X7_name (i1 : Int32) (i2 : Int32) (i3 : Int32) : Int64 := ((i1.toInt64 <<< ((29 : Int32).toInt64 &&& 63)) ||| (i2.toInt64 <<< ((21 : Int32).toInt64 &&& 63))) ||| ((i3 + 1000).toInt64)
set_option maxHeartbeats 4000000 in
set_option maxRecDepth 100000 in
theorem k_X7_name (l : Launch) (i1 : Int32) (i2 : Int32) (i3 : Int32)  : Met l yX7_name (ws_ yX7_name cX7_name 3 (some .long)) ({ frames := 0, cells := 0, slots := 0, locals := 0 }) (PN [.int i1, .int i2, .int i3]) (zQ (some (.long (v_X7_name i1 i2 i3)))) 0 0 zno := by
  refine tk_N (by decide) (Nat.le_of_ble_eq_true rfl) ?_
  intro p e s m args below meth c ls hx hb hml hr hlk hown hts hl
  have hl : lv_has ls 3 [(0, .int i1), (1, .int i2), (2, .int i3)] := hl
  refine lv_iload_n hx hb dX7_name_0 rfl (lv_at hl 0 rfl) ?_
  refine lv_i2l (v := i1.toInt64) hx hb dX7_name_1 rfl ?_
  refine lv_bipush (v := 29) hx hb dX7_name_2 (by decide) ?_
  refine lv_lshl (v := i1.toInt64 <<< ((29 : Int32).toInt64 &&& 63)) hx hb dX7_name_4 rfl ?_
  refine lv_iload_n hx hb dX7_name_5 rfl (lv_at hl 1 rfl) ?_
  refine lv_i2l (v := i2.toInt64) hx hb dX7_name_6 rfl ?_
  refine lv_bipush (v := 21) hx hb dX7_name_7 (by decide) ?_
  refine lv_lshl (v := i2.toInt64 <<< ((21 : Int32).toInt64 &&& 63)) hx hb dX7_name_9 rfl ?_
  refine lv_lor hx hb dX7_name_10 ?_
  refine lv_iload_n hx hb dX7_name_11 rfl (lv_at hl 2 rfl) ?_
  refine lv_sipush (v := 1000) hx hb dX7_name_12 (by decide) ?_
  refine lv_iadd hx hb dX7_name_15 ?_
  refine lv_i2l (v := (i3 + 1000).toInt64) hx hb dX7_name_16 rfl ?_
  refine lv_lor hx hb dX7_name_17 ?_
  exact ze_l hx hb hr hlk (by rfl) dX7_name_18
