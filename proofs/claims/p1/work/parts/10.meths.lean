set_option maxHeartbeats 4000000 in
set_option maxRecDepth 100000 in
theorem kX10_meanQueue_0 (l : Launch) (hst : l.stackTraces = false) (D : va_G) (yc : Nat → ClassId) (e0 sz : Nat) (a0 : Nat) (a1 : Nat) (a2 : Nat) (a3 : Nat)  : Met l yX10_meanQueue (ws_ yX10_meanQueue cX10_meanQueue 2 (some .double)) ({ frames := 2, cells := 0, slots := 0, locals := 42 }) (PR D yc e0 [(a0, .inr (9, [.ref a1, .ref a2, .int 0, .int 0, .int 0])), (a1, .inr (2, [.int 0, .ref a3, .int 8, .int (-1), .int 0, .int 0, .int 0, .int 0])), (a3, .inr (0, [.int 0, .ref e0, .int 0]))] sz [.ref a0]) (va_Qd (fun r u => r = (fun u : Nat → Nat → Nat => FP.dconst0) u) (WD D (va_A [(a0, .inr (9, [.ref a1, .ref a2, .int 0, .int 0, .int 0])), (a1, .inr (2, [.int 0, .ref a3, .int 8, .int (-1), .int 0, .int 0, .int 0, .int 0])), (a3, .inr (0, [.int 0, .ref e0, .int 0]))] sz) (fun u => [(a0, .inr (9, [.ref a1, .ref a2, .int 0, .int 0, .int 0])), (a1, .inr (2, [.int 0, .ref a3, .int 8, .int (-1), .int 0, .int 0, .int 0, .int 0])), (a3, .inr (0, [.int 0, .ref e0, .int 0]))])) (va_A [(a0, .inr (9, [.ref a1, .ref a2, .int 0, .int 0, .int 0])), (a1, .inr (2, [.int 0, .ref a3, .int 8, .int (-1), .int 0, .int 0, .int 0, .int 0])), (a3, .inr (0, [.int 0, .ref e0, .int 0]))] sz)) 0 0 (va_A [(a0, .inr (9, [.ref a1, .ref a2, .int 0, .int 0, .int 0])), (a1, .inr (2, [.int 0, .ref a3, .int 8, .int (-1), .int 0, .int 0, .int 0, .int 0])), (a3, .inr (0, [.int 0, .ref e0, .int 0]))] sz) := by
  refine zk_M (Qc := fun A => va_Qd (fun r u => r = (fun u : Nat → Nat → Nat => FP.dconst0) u) (WD D A (fun u => [(a0, .inr (9, [.ref a1, .ref a2, .int 0, .int 0, .int 0])), (a1, .inr (2, [.int 0, .ref a3, .int 8, .int (-1), .int 0, .int 0, .int 0, .int 0])), (a3, .inr (0, [.int 0, .ref e0, .int 0]))])) A) (by decide) (Nat.le_of_ble_eq_true rfl) ?_
  intro p e s m args below meth c A ls hx hb hml hr hlk hown hnm hts hP hD hS hA hC hl
  have hK := hC.1
  have hN := hC.2.1
  have hl : lv_has ls 2 [(0, .ref a0)] := hl
  generalize hHH : s.heap = H at hP ⊢
  have hS : va_S A s.heap H [] := by rw [← hHH]; exact hS
  refine lv_aload_n hx hb dX10_meanQueue_0 rfl (lv_at hl 0 rfl) ?_
  refine va_get (D := D) (ci := 9) (v := .ref a1) (C := RX10) (T := TX10) (N := 5) hx hb hts iX10 hown hK hP 0 rfl rfl 0 (by decide) (hts _ wq99) (fun _ h9 => h9) rfl dX10_meanQueue_1 ?_
  refine zk_i (wr := [(a0, .inr (9, [.ref a1, .ref a2, .int 0, .int 0, .int 0]))]) (va_runV (As := []) (rest := []) ⟨hx, hb, hml, hown, hts⟩ (kX2_channels_0 l hst D yc e0 H.size a1 a3) (cwV 0 hts (lw_V wq225 wq226 wq227 wq2 wq228) rfl rfl rfl (by decide +kernel) ⟨(Nat.le_of_ble_eq_true rfl), (Nat.le_of_ble_eq_true rfl)⟩) (zk_pV hC hP hD hS hA [1, 2] rfl rfl 1 2 rfl rfl) rfl rfl hl.1 rfl (lv_room (Nat.le_of_ble_eq_true rfl)) dX10_meanQueue_4 ⟨(Nat.le_of_ble_eq_true rfl), (Nat.le_of_ble_eq_true rfl)⟩) hP hD hS hA [1, 2] [0] rfl rfl rfl (by decide) (fun u1 H locs hP hD hS => ?_)
  have hP : va_P D vwCl [(a0, .inr (9, [.ref a1, .ref a2, .int 0, .int 0, .int 0])), (a1, .inr (2, [.int 0, .ref a3, .int 8, .int (-1), .int 0, .int 0, .int 0, .int 0])), (a3, .inr (0, [.int 0, .ref e0, .int 0]))] H := hP
  have hD : va_D A [(a0, .inr (9, [.ref a1, .ref a2, .int 0, .int 0, .int 0])), (a1, .inr (2, [.int 0, .ref a3, .int 8, .int (-1), .int 0, .int 0, .int 0, .int 0])), (a3, .inr (0, [.int 0, .ref e0, .int 0]))] := hD
  refine W.widen (k := 0) (n := 0) (Nat.le_of_ble_eq_true rfl) (Nat.le_of_ble_eq_true rfl) ?_
  refine lv_istore_n (lv' := [(1, .int 0), (0, .ref a0)]) hx hb dX10_meanQueue_7 rfl hl (by decide) rfl (fun ls hl => ?_)
  refine lv_iload_n hx hb dX10_meanQueue_8 rfl (lv_at hl 0 rfl) ?_
  refine lv_if_ne (tgt := 16) hx hb dX10_meanQueue_9 (by decide) (fun h9 => absurd (by decide) h9) (fun _ => ?_)
  refine lv_dconst0 hx hb dX10_meanQueue_12 ?_
  refine lv_goto (tgt := 27) hx hb dX10_meanQueue_13 (by decide) ?_
  exact zk_rd (r0 := fun u => FP.dconst0) (w1 := fun u => [(a0, .inr (9, [.ref a1, .ref a2, .int 0, .int 0, .int 0])), (a1, .inr (2, [.int 0, .ref a3, .int 8, .int (-1), .int 0, .int 0, .int 0, .int 0])), (a3, .inr (0, [.int 0, .ref e0, .int 0]))]) hx hb hr hlk hP hD hS (fun _ _ => 0) rfl [0, 1, 2] rfl rfl (Nat.le_of_ble_eq_true rfl) (Nat.le_of_ble_eq_true rfl) dX10_meanQueue_27
set_option maxHeartbeats 4000000 in
set_option maxRecDepth 100000 in
theorem kX14_channels_0 (l : Launch) (hst : l.stackTraces = false) (D : va_G) (yc : Nat → ClassId) (e0 sz : Nat) (a0 : Nat) (a1 : Nat) (a2 : Nat) (a3 : Nat) (a4 : Nat) (a5 : Nat) (a6 : Nat) (a7 : Nat)  : Met l yX14_channels (ws_ yX14_channels cX14_channels 3 (some .int)) ({ frames := 0, cells := 0, slots := 0, locals := 0 }) (PR D yc e0 [(a0, .inr (13, [.int 0, .int 0, .ref a1, .ref a2, .ref a3, .ref a4, .ref a5, .ref a6, .ref a7, .int 0, .long 0]))] sz [.ref a0]) (va_Qi (fun r u => r = (fun u : Nat → Nat → Nat => 0) u) (WD D (va_A [(a0, .inr (13, [.int 0, .int 0, .ref a1, .ref a2, .ref a3, .ref a4, .ref a5, .ref a6, .ref a7, .int 0, .long 0]))] sz) (fun u => [(a0, .inr (13, [.int 0, .int 0, .ref a1, .ref a2, .ref a3, .ref a4, .ref a5, .ref a6, .ref a7, .int 0, .long 0]))])) (va_A [(a0, .inr (13, [.int 0, .int 0, .ref a1, .ref a2, .ref a3, .ref a4, .ref a5, .ref a6, .ref a7, .int 0, .long 0]))] sz)) 0 0 (va_A [(a0, .inr (13, [.int 0, .int 0, .ref a1, .ref a2, .ref a3, .ref a4, .ref a5, .ref a6, .ref a7, .int 0, .long 0]))] sz) := by
  refine zk_M (Qc := fun A => va_Qi (fun r u => r = (fun u : Nat → Nat → Nat => 0) u) (WD D A (fun u => [(a0, .inr (13, [.int 0, .int 0, .ref a1, .ref a2, .ref a3, .ref a4, .ref a5, .ref a6, .ref a7, .int 0, .long 0]))])) A) (by decide) (Nat.le_of_ble_eq_true rfl) ?_
  intro p e s m args below meth c A ls hx hb hml hr hlk hown hnm hts hP hD hS hA hC hl
  have hK := hC.1
  have hN := hC.2.1
  have hl : lv_has ls 3 [(0, .ref a0)] := hl
  generalize hHH : s.heap = H at hP ⊢
  have hS : va_S A s.heap H [] := by rw [← hHH]; exact hS
  refine lv_iconst (v := 0) hx hb dX14_channels_0 (by decide) ?_
  refine lv_istore_n (lv' := [(1, .int 0), (0, .ref a0)]) hx hb dX14_channels_1 rfl hl (by decide) rfl (fun ls hl => ?_)
  refine lv_iconst (v := 0) hx hb dX14_channels_2 (by decide) ?_
  refine lv_istore_n (lv' := [(2, .int 0), (1, .int 0), (0, .ref a0)]) hx hb dX14_channels_3 rfl hl (by decide) rfl (fun ls hl => ?_)
  refine lv_iload_n hx hb dX14_channels_4 rfl (lv_at hl 0 rfl) ?_
  refine lv_aload_n hx hb dX14_channels_5 rfl (lv_at hl 2 rfl) ?_
  refine va_get (D := D) (ci := 13) (v := .int 0) (C := RX14) (T := TX14) (N := 11) hx hb hts iX14 hown hK hP 0 rfl rfl 0 (by decide) (hts _ wq1528) (fun _ h9 => h9) rfl dX14_channels_6 ?_
  refine lv_icmp_ge (tgt := 56) hx hb dX14_channels_9 (by decide) (fun _ => ?_) (fun h9 => absurd (by decide) h9)
  refine lv_iload_n hx hb dX14_channels_56 rfl (lv_at hl 1 rfl) ?_
  exact zk_ri (r0 := fun u => 0) (w1 := fun u => [(a0, .inr (13, [.int 0, .int 0, .ref a1, .ref a2, .ref a3, .ref a4, .ref a5, .ref a6, .ref a7, .int 0, .long 0]))]) hx hb hr hlk hP hD hS (fun _ _ => 0) rfl rfl [0] rfl rfl (Nat.le_of_ble_eq_true rfl) (Nat.le_of_ble_eq_true rfl) dX14_channels_57
set_option maxHeartbeats 4000000 in
set_option maxRecDepth 100000 in
theorem kX14_meanQueue_0 (l : Launch) (hst : l.stackTraces = false) (D : va_G) (yc : Nat → ClassId) (e0 sz : Nat) (a0 : Nat) (a1 : Nat) (a2 : Nat) (a3 : Nat) (a4 : Nat) (a5 : Nat) (a6 : Nat) (a7 : Nat)  : Met l yX14_meanQueue (ws_ yX14_meanQueue cX14_meanQueue 1 (some .double)) ({ frames := 1, cells := 0, slots := 0, locals := 22 }) (PR D yc e0 [(a0, .inr (13, [.int 0, .int 0, .ref a1, .ref a2, .ref a3, .ref a4, .ref a5, .ref a6, .ref a7, .int 0, .long 0]))] sz [.ref a0]) (va_Qd (fun r u => r = (fun u : Nat → Nat → Nat => FP.dconst0) u) (WD D (va_A [(a0, .inr (13, [.int 0, .int 0, .ref a1, .ref a2, .ref a3, .ref a4, .ref a5, .ref a6, .ref a7, .int 0, .long 0]))] sz) (fun u => [(a0, .inr (13, [.int 0, .int 0, .ref a1, .ref a2, .ref a3, .ref a4, .ref a5, .ref a6, .ref a7, .int 0, .long 0]))])) (va_A [(a0, .inr (13, [.int 0, .int 0, .ref a1, .ref a2, .ref a3, .ref a4, .ref a5, .ref a6, .ref a7, .int 0, .long 0]))] sz)) 0 0 (va_A [(a0, .inr (13, [.int 0, .int 0, .ref a1, .ref a2, .ref a3, .ref a4, .ref a5, .ref a6, .ref a7, .int 0, .long 0]))] sz) := by
  refine zk_M (Qc := fun A => va_Qd (fun r u => r = (fun u : Nat → Nat → Nat => FP.dconst0) u) (WD D A (fun u => [(a0, .inr (13, [.int 0, .int 0, .ref a1, .ref a2, .ref a3, .ref a4, .ref a5, .ref a6, .ref a7, .int 0, .long 0]))])) A) (by decide) (Nat.le_of_ble_eq_true rfl) ?_
  intro p e s m args below meth c A ls hx hb hml hr hlk hown hnm hts hP hD hS hA hC hl
  have hK := hC.1
  have hN := hC.2.1
  have hl : lv_has ls 1 [(0, .ref a0)] := hl
  generalize hHH : s.heap = H at hP ⊢
  have hS : va_S A s.heap H [] := by rw [← hHH]; exact hS
  refine lv_aload_n hx hb dX14_meanQueue_0 rfl (lv_at hl 0 rfl) ?_
  refine lv_iconst (v := 0) hx hb dX14_meanQueue_1 (by decide) ?_
  refine va_put (D := D) (ci := 13) (v := .int 0) (ty := .int) (C := RX14) (T := TX14) (N := 11) hx hb hts iX14 tyX14 tyX14_ok nmX14 hown hK hP hD hS 0 rfl rfl 9 (by decide) (hts _ wq1542) (fun _ h9 => h9) rfl (by decide +kernel) rfl rfl (Nat.le_of_ble_eq_true rfl) dX14_meanQueue_2 (fun H locs hP hD hS => ?_)
  have hP : va_P D vwCl [(a0, .inr (13, [.int 0, .int 0, .ref a1, .ref a2, .ref a3, .ref a4, .ref a5, .ref a6, .ref a7, .int 0, .long 0]))] H := hP
  have hD : va_D A [(a0, .inr (13, [.int 0, .int 0, .ref a1, .ref a2, .ref a3, .ref a4, .ref a5, .ref a6, .ref a7, .int 0, .long 0]))] := hD
  refine lv_aload_n hx hb dX14_meanQueue_5 rfl (lv_at hl 0 rfl) ?_
  refine zk_i (wr := []) (va_runV (As := []) (rest := []) ⟨hx, hb, hml, hown, hts⟩ (kX14_channels_0 l hst D yc e0 H.size a0 a1 a2 a3 a4 a5 a6 a7) (cwV 0 hts (lw_V wq1996 wq1998 ws74 wq6 wq1999) rfl rfl rfl (by decide +kernel) ⟨(Nat.le_of_ble_eq_true rfl), (Nat.le_of_ble_eq_true rfl)⟩) (zk_pV hC hP hD hS hA [0] rfl rfl 0 13 rfl rfl) rfl rfl hl.1 rfl (lv_room (Nat.le_of_ble_eq_true rfl)) dX14_meanQueue_6 ⟨(Nat.le_of_ble_eq_true rfl), (Nat.le_of_ble_eq_true rfl)⟩) hP hD hS hA [0] [] rfl rfl rfl (by decide) (fun u1 H locs hP hD hS => ?_)
  have hP : va_P D vwCl [(a0, .inr (13, [.int 0, .int 0, .ref a1, .ref a2, .ref a3, .ref a4, .ref a5, .ref a6, .ref a7, .int 0, .long 0]))] H := hP
  have hD : va_D A [(a0, .inr (13, [.int 0, .int 0, .ref a1, .ref a2, .ref a3, .ref a4, .ref a5, .ref a6, .ref a7, .int 0, .long 0]))] := hD
  refine W.widen (k := 0) (n := 0) (Nat.le_of_ble_eq_true rfl) (Nat.le_of_ble_eq_true rfl) ?_
  refine lv_if_ne (tgt := 16) hx hb dX14_meanQueue_9 (by decide) (fun h9 => absurd (by decide) h9) (fun _ => ?_)
  refine lv_dconst0 hx hb dX14_meanQueue_12 ?_
  refine lv_goto (tgt := 27) hx hb dX14_meanQueue_13 (by decide) ?_
  exact zk_rd (r0 := fun u => FP.dconst0) (w1 := fun u => [(a0, .inr (13, [.int 0, .int 0, .ref a1, .ref a2, .ref a3, .ref a4, .ref a5, .ref a6, .ref a7, .int 0, .long 0]))]) hx hb hr hlk hP hD hS (fun _ _ => 0) rfl [0] rfl rfl (Nat.le_of_ble_eq_true rfl) (Nat.le_of_ble_eq_true rfl) dX14_meanQueue_27
set_option maxHeartbeats 4000000 in
set_option maxRecDepth 100000 in
theorem kX10_itemsToRest_0 (l : Launch) (hst : l.stackTraces = false) (D : va_G) (yc : Nat → ClassId) (e0 sz : Nat) (a0 : Nat) (p0 : Int32) (h0 : p0 < 1) : vx_Met l yX10_itemsToRest (ws_ yX10_itemsToRest cX10_itemsToRest 3 (some .int)) ({ frames := 7, cells := 1, slots := 6, locals := 101 }) (PR D yc e0 [] sz [.ref a0, .int p0]) (fun _ _ _ _ => False) (zk_X D (va_A [] sz) "java/lang/IllegalArgumentException" (fun u => [])) 1 6 (va_A [] sz) := by
  refine zk_MX (by decide) (Nat.le_of_ble_eq_true rfl) ?_
  intro p e s m args below meth c A ls hx hb hml hr hlk hown hnm hts hP hD hS hA hC hl hnx
  have hK := hC.1
  have hN := hC.2.1
  have hl : lv_has ls 3 [(0, .ref a0), (1, .int p0)] := hl
  generalize hHH : s.heap = H at hP ⊢
  have hS : va_S A s.heap H [] := by rw [← hHH]; exact hS
  refine W.widen (k := 0) (n := 0) (Nat.le_of_ble_eq_true rfl) (Nat.le_of_ble_eq_true rfl) ?_
  refine lv_iload_n hx hb dX10_itemsToRest_0 rfl (lv_at hl 1 rfl) ?_
  refine lv_iconst (v := 1) hx hb dX10_itemsToRest_1 (by decide) ?_
  refine lv_sipush (v := 200) hx hb dX10_itemsToRest_2 (by decide) ?_
  refine zk_i (wr := []) (va_runS (As := [.int p0, .int 1, .int 200]) (rest := []) ⟨hx, hb, hml, hown, hts⟩ (kX10_isWithin_6 l hst D yc e0 H.size p0 h0) (va_cwS 3 hts (lw_S wq464 wq465 wq1 wq466) rfl rfl rfl (by decide +kernel) ⟨(Nat.le_of_ble_eq_true rfl), (Nat.le_of_ble_eq_true rfl)⟩) (zk_pS hC hP hD hS hA [] rfl rfl) rfl rfl hl.1 rfl (lv_room (Nat.le_of_ble_eq_true rfl)) dX10_itemsToRest_5 ⟨(Nat.le_of_ble_eq_true rfl), (Nat.le_of_ble_eq_true rfl)⟩) hP hD hS hA [] [] rfl rfl rfl (by decide) (fun u1 H locs hP hD hS => ?_)
  have hP : va_P D vwCl [] H := hP
  have hD : va_D A [] := hD
  refine W.widen (k := 0) (n := 0) (Nat.le_of_ble_eq_true rfl) (Nat.le_of_ble_eq_true rfl) ?_
  refine zk_x (wr := []) (vx_runS (As := [.int 0]) (rest := []) ⟨hx, hb, hml, hown, hts⟩ (kX10_refuseUnless_0 l hst D yc e0 H.size) (va_cwS 1 hts (lw_S wq388 wq389 wq1 wq390) rfl rfl rfl (by decide +kernel) ⟨(Nat.le_of_ble_eq_true rfl), (Nat.le_of_ble_eq_true rfl)⟩) (zk_pS hC hP hD hS hA [] rfl rfl) rfl rfl hl.1 rfl (lv_room (Nat.le_of_ble_eq_true rfl)) dX10_itemsToRest_8 ⟨(Nat.le_of_ble_eq_true rfl), (Nat.le_of_ble_eq_true rfl)⟩) hP hD hS hA [] [] rfl rfl rfl (by decide) (fun u2 ce q9 H locs hP hD hS hce hcv hcl => ?_)
  have hP : va_P D vwCl [] H := hP
  have hD : va_D A [] := hD
  exact vx_out (fun x9 hx9 => (hnx x9 hx9).elim) hlk hce hcv hcl (zk_out hP hD hS (fun _ _ => 0) [] rfl rfl) hS.2.2 (Nat.le_of_ble_eq_true rfl) (Nat.le_of_ble_eq_true rfl)
set_option maxHeartbeats 4000000 in
set_option maxRecDepth 100000 in
theorem kL_itemsToRest_0 (l : Launch) (hst : l.stackTraces = false) (D : va_G) (yc : Nat → ClassId) (e0 sz : Nat) (a0 : Nat) (p0 : Int32) (a1 : Nat) (a2 : Nat) (a3 : Nat) (h0 : p0 < 1) : Met l yL_itemsToRest (ww_ yL_itemsToRest cL_itemsToRest 4 (some .int) [(0, 9, 12, 13)]) ({ frames := 8, cells := 1, slots := 6, locals := 123 }) (PR D yc e0 [(a0, .inr (9, [.ref a2, .ref a3, .int 0, .int 0, .int 0]))] sz [.ref a0, .int p0, .ref a1]) (va_Qi (fun r u => r = (fun u : Nat → Nat → Nat => 1) u) (WD D (va_A [(a0, .inr (9, [.ref a2, .ref a3, .int 0, .int 0, .int 0]))] sz) (fun u => [(a0, .inr (9, [.ref a2, .ref a3, .int 0, .int 0, .int 0]))])) (va_A [(a0, .inr (9, [.ref a2, .ref a3, .int 0, .int 0, .int 0]))] sz)) 1 6 (va_A [(a0, .inr (9, [.ref a2, .ref a3, .int 0, .int 0, .int 0]))] sz) := by
  refine zk_MW (Qc := fun A => va_Qi (fun r u => r = (fun u : Nat → Nat → Nat => 1) u) (WD D A (fun u => [(a0, .inr (9, [.ref a2, .ref a3, .int 0, .int 0, .int 0]))])) A) (by decide) (Nat.le_of_ble_eq_true rfl) ?_
  intro p e s m args below meth c A ls hx hb hml hr hlk hown hts hP hD hS hA hC hl hex
  have hK := hC.1
  have hN := hC.2.1
  have hl : lv_has ls 4 [(0, .ref a0), (1, .int p0), (2, .ref a1)] := hl
  generalize hHH : s.heap = H at hP ⊢
  have hS : va_S A s.heap H [] := by rw [← hHH]; exact hS
  refine lv_aload_n hx hb dL_itemsToRest_0 rfl (lv_at hl 2 rfl) ?_
  refine lv_iconst (v := 0) hx hb dL_itemsToRest_1 (by decide) ?_
  refine lv_aload_n hx hb dL_itemsToRest_2 rfl (lv_at hl 0 rfl) ?_
  refine lv_iload_n hx hb dL_itemsToRest_3 rfl (lv_at hl 1 rfl) ?_
  refine zk_x (wr := [(a0, .inr (9, [.ref a2, .ref a3, .int 0, .int 0, .int 0]))]) (vx_runV (As := [.int p0]) (rest := [.int 0, .ref a1]) ⟨hx, hb, hml, hown, hts⟩ (kX10_itemsToRest_0 l hst D yc e0 H.size a0 p0 h0) (cwV 1 hts (lw_V wq1315 wq1316 wq1317 wq1 wq1318) rfl rfl rfl (by decide +kernel) ⟨(Nat.le_of_ble_eq_true rfl), (Nat.le_of_ble_eq_true rfl)⟩) (zk_pV hC hP hD hS hA [] rfl rfl 0 9 rfl rfl) rfl rfl hl.1 rfl (lv_room (Nat.le_of_ble_eq_true rfl)) dL_itemsToRest_4 ⟨(Nat.le_of_ble_eq_true rfl), (Nat.le_of_ble_eq_true rfl)⟩) hP hD hS hA [] [0] rfl rfl rfl (by decide) (fun u1 ce q9 H locs hP hD hS hce hcv hcl => ?_)
  have hP : va_P D vwCl [(a0, .inr (9, [.ref a2, .ref a3, .int 0, .int 0, .int 0]))] H := hP
  have hD : va_D A [(a0, .inr (9, [.ref a2, .ref a3, .int 0, .int 0, .int 0]))] := hD
  refine vx_catch (own := RL) (name := "java/lang/IllegalArgumentException") hown (tableOf []) ⟨0, 9, 12, 13⟩ (tableOf []) hex (fun z hz => False.elim (List.not_mem_nil hz)) (by decide) (by decide) (hts _ wq458) (zk_tab rfl (hN _ wr393 rfl)) hce hcv hcl ?_
  refine W.widen (k := 1) (n := 6) (Nat.le_of_ble_eq_true rfl) (Nat.le_of_ble_eq_true rfl) ?_
  refine lv_astore_n (lv' := [(3, .ref q9), (0, .ref a0), (1, .int p0), (2, .ref a1)]) hx hb dL_itemsToRest_12 rfl hl (by decide) rfl (fun ls hl => ?_)
  refine lv_iconst (v := 1) hx hb dL_itemsToRest_13 (by decide) ?_
  exact zk_ri (r0 := fun u => 1) (w1 := fun u => [(a0, .inr (9, [.ref a2, .ref a3, .int 0, .int 0, .int 0]))]) hx hb hr hlk hP hD hS (fun _ _ => 0) rfl rfl [0] rfl rfl (Nat.le_of_ble_eq_true rfl) (Nat.le_of_ble_eq_true rfl) dL_itemsToRest_14
set_option maxHeartbeats 4000000 in
set_option maxRecDepth 100000 in
theorem kX14_itemsToRest_0 (l : Launch) (hst : l.stackTraces = false) (D : va_G) (yc : Nat → ClassId) (e0 sz : Nat) (a0 : Nat) (p0 : Int32) (a1 : Nat) (a2 : Nat) (a3 : Nat) (a4 : Nat) (a5 : Nat) (a6 : Nat) (a7 : Nat) (h0 : p0 < 1) : Met l yX14_itemsToRest (ws_ yX14_itemsToRest cX14_itemsToRest 3 (some .int)) ({ frames := 1, cells := 0, slots := 0, locals := 22 }) (PR D yc e0 [(a0, .inr (13, [.int 0, .int 0, .ref a1, .ref a2, .ref a3, .ref a4, .ref a5, .ref a6, .ref a7, .int 0, .long 0]))] sz [.ref a0, .int p0]) (va_Qi (fun r u => r = (fun u : Nat → Nat → Nat => 0) u) (WD D (va_A [(a0, .inr (13, [.int 0, .int 0, .ref a1, .ref a2, .ref a3, .ref a4, .ref a5, .ref a6, .ref a7, .int 0, .long 0]))] sz) (fun u => [(a0, .inr (13, [.int 0, .int 0, .ref a1, .ref a2, .ref a3, .ref a4, .ref a5, .ref a6, .ref a7, .int 1, .long 0]))])) (va_A [(a0, .inr (13, [.int 0, .int 0, .ref a1, .ref a2, .ref a3, .ref a4, .ref a5, .ref a6, .ref a7, .int 0, .long 0]))] sz)) 0 0 (va_A [(a0, .inr (13, [.int 0, .int 0, .ref a1, .ref a2, .ref a3, .ref a4, .ref a5, .ref a6, .ref a7, .int 0, .long 0]))] sz) := by
  refine zk_M (Qc := fun A => va_Qi (fun r u => r = (fun u : Nat → Nat → Nat => 0) u) (WD D A (fun u => [(a0, .inr (13, [.int 0, .int 0, .ref a1, .ref a2, .ref a3, .ref a4, .ref a5, .ref a6, .ref a7, .int 1, .long 0]))])) A) (by decide) (Nat.le_of_ble_eq_true rfl) ?_
  intro p e s m args below meth c A ls hx hb hml hr hlk hown hnm hts hP hD hS hA hC hl
  have hK := hC.1
  have hN := hC.2.1
  have hl : lv_has ls 3 [(0, .ref a0), (1, .int p0)] := hl
  generalize hHH : s.heap = H at hP ⊢
  have hS : va_S A s.heap H [] := by rw [← hHH]; exact hS
  refine lv_aload_n hx hb dX14_itemsToRest_0 rfl (lv_at hl 0 rfl) ?_
  refine lv_iconst (v := 0) hx hb dX14_itemsToRest_1 (by decide) ?_
  refine va_put (D := D) (ci := 13) (v := .int 0) (ty := .int) (C := RX14) (T := TX14) (N := 11) hx hb hts iX14 tyX14 tyX14_ok nmX14 hown hK hP hD hS 0 rfl rfl 9 (by decide) (hts _ wq1542) (fun _ h9 => h9) rfl (by decide +kernel) rfl rfl (Nat.le_of_ble_eq_true rfl) dX14_itemsToRest_2 (fun H locs hP hD hS => ?_)
  have hP : va_P D vwCl [(a0, .inr (13, [.int 0, .int 0, .ref a1, .ref a2, .ref a3, .ref a4, .ref a5, .ref a6, .ref a7, .int 0, .long 0]))] H := hP
  have hD : va_D A [(a0, .inr (13, [.int 0, .int 0, .ref a1, .ref a2, .ref a3, .ref a4, .ref a5, .ref a6, .ref a7, .int 0, .long 0]))] := hD
  refine lv_iload_n hx hb dX14_itemsToRest_5 rfl (lv_at hl 1 rfl) ?_
  refine lv_iconst (v := 1) hx hb dX14_itemsToRest_6 (by decide) ?_
  refine lv_sipush (v := 200) hx hb dX14_itemsToRest_7 (by decide) ?_
  refine zk_i (wr := [(a0, .inr (13, [.int 0, .int 0, .ref a1, .ref a2, .ref a3, .ref a4, .ref a5, .ref a6, .ref a7, .int 0, .long 0]))]) (va_runS (As := [.int p0, .int 1, .int 200]) (rest := []) ⟨hx, hb, hml, hown, hts⟩ (kX14_is_7 l hst D yc e0 H.size p0 h0) (va_cwS 3 hts (lw_S wq1575 wq1576 wq6 wq1577) rfl rfl rfl (by decide +kernel) ⟨(Nat.le_of_ble_eq_true rfl), (Nat.le_of_ble_eq_true rfl)⟩) (zk_pS hC hP hD hS hA [] rfl rfl) rfl rfl hl.1 rfl (lv_room (Nat.le_of_ble_eq_true rfl)) dX14_itemsToRest_10 ⟨(Nat.le_of_ble_eq_true rfl), (Nat.le_of_ble_eq_true rfl)⟩) hP hD hS hA [] [0] rfl rfl rfl (by decide) (fun u1 H locs hP hD hS => ?_)
  have hP : va_P D vwCl [(a0, .inr (13, [.int 0, .int 0, .ref a1, .ref a2, .ref a3, .ref a4, .ref a5, .ref a6, .ref a7, .int 0, .long 0]))] H := hP
  have hD : va_D A [(a0, .inr (13, [.int 0, .int 0, .ref a1, .ref a2, .ref a3, .ref a4, .ref a5, .ref a6, .ref a7, .int 0, .long 0]))] := hD
  refine W.widen (k := 0) (n := 0) (Nat.le_of_ble_eq_true rfl) (Nat.le_of_ble_eq_true rfl) ?_
  refine lv_if_ne (tgt := 22) hx hb dX14_itemsToRest_13 (by decide) (fun h9 => absurd (by decide) h9) (fun _ => ?_)
  refine lv_aload_n hx hb dX14_itemsToRest_16 rfl (lv_at hl 0 rfl) ?_
  refine lv_iconst (v := 1) hx hb dX14_itemsToRest_17 (by decide) ?_
  refine zk_i (wr := []) (va_runV (As := [.int 1]) (rest := []) ⟨hx, hb, hml, hown, hts⟩ (kX14_refuse_0 l hst D yc e0 H.size a0 a1 a2 a3 a4 a5 a6 a7) (cwV 1 hts (lw_V wq1582 wq1584 ws33 wq6 wq1585) rfl rfl rfl (by decide +kernel) ⟨(Nat.le_of_ble_eq_true rfl), (Nat.le_of_ble_eq_true rfl)⟩) (zk_pV hC hP hD hS hA [0] rfl rfl 0 13 rfl rfl) rfl rfl hl.1 rfl (lv_room (Nat.le_of_ble_eq_true rfl)) dX14_itemsToRest_18 ⟨(Nat.le_of_ble_eq_true rfl), (Nat.le_of_ble_eq_true rfl)⟩) hP hD hS hA [0] [] rfl rfl rfl (by decide) (fun u2 H locs hP hD hS => ?_)
  have hP : va_P D vwCl [(a0, .inr (13, [.int 0, .int 0, .ref a1, .ref a2, .ref a3, .ref a4, .ref a5, .ref a6, .ref a7, .int 1, .long 0]))] H := hP
  have hD : va_D A [(a0, .inr (13, [.int 0, .int 0, .ref a1, .ref a2, .ref a3, .ref a4, .ref a5, .ref a6, .ref a7, .int 1, .long 0]))] := hD
  refine W.widen (k := 0) (n := 0) (Nat.le_of_ble_eq_true rfl) (Nat.le_of_ble_eq_true rfl) ?_
  exact zk_ri (r0 := fun u => 0) (w1 := fun u => [(a0, .inr (13, [.int 0, .int 0, .ref a1, .ref a2, .ref a3, .ref a4, .ref a5, .ref a6, .ref a7, .int 1, .long 0]))]) hx hb hr hlk hP hD hS (fun _ _ => 0) rfl rfl [0] rfl rfl (Nat.le_of_ble_eq_true rfl) (Nat.le_of_ble_eq_true rfl) dX14_itemsToRest_21
set_option maxHeartbeats 4000000 in
set_option maxRecDepth 100000 in
theorem kX10_itemsToRest_1 (l : Launch) (hst : l.stackTraces = false) (D : va_G) (yc : Nat → ClassId) (e0 sz : Nat) (a0 : Nat) (p0 : Int32) (h0 : ¬ p0 < 1) (h1 : 200 < p0) : vx_Met l yX10_itemsToRest (ws_ yX10_itemsToRest cX10_itemsToRest 3 (some .int)) ({ frames := 7, cells := 1, slots := 6, locals := 101 }) (PR D yc e0 [] sz [.ref a0, .int p0]) (fun _ _ _ _ => False) (zk_X D (va_A [] sz) "java/lang/IllegalArgumentException" (fun u => [])) 1 6 (va_A [] sz) := by
  refine zk_MX (by decide) (Nat.le_of_ble_eq_true rfl) ?_
  intro p e s m args below meth c A ls hx hb hml hr hlk hown hnm hts hP hD hS hA hC hl hnx
  have hK := hC.1
  have hN := hC.2.1
  have hl : lv_has ls 3 [(0, .ref a0), (1, .int p0)] := hl
  generalize hHH : s.heap = H at hP ⊢
  have hS : va_S A s.heap H [] := by rw [← hHH]; exact hS
  refine W.widen (k := 0) (n := 0) (Nat.le_of_ble_eq_true rfl) (Nat.le_of_ble_eq_true rfl) ?_
  refine lv_iload_n hx hb dX10_itemsToRest_0 rfl (lv_at hl 1 rfl) ?_
  refine lv_iconst (v := 1) hx hb dX10_itemsToRest_1 (by decide) ?_
  refine lv_sipush (v := 200) hx hb dX10_itemsToRest_2 (by decide) ?_
  refine zk_i (wr := []) (va_runS (As := [.int p0, .int 1, .int 200]) (rest := []) ⟨hx, hb, hml, hown, hts⟩ (kX10_isWithin_7 l hst D yc e0 H.size p0 h0 h1) (va_cwS 3 hts (lw_S wq464 wq465 wq1 wq466) rfl rfl rfl (by decide +kernel) ⟨(Nat.le_of_ble_eq_true rfl), (Nat.le_of_ble_eq_true rfl)⟩) (zk_pS hC hP hD hS hA [] rfl rfl) rfl rfl hl.1 rfl (lv_room (Nat.le_of_ble_eq_true rfl)) dX10_itemsToRest_5 ⟨(Nat.le_of_ble_eq_true rfl), (Nat.le_of_ble_eq_true rfl)⟩) hP hD hS hA [] [] rfl rfl rfl (by decide) (fun u1 H locs hP hD hS => ?_)
  have hP : va_P D vwCl [] H := hP
  have hD : va_D A [] := hD
  refine W.widen (k := 0) (n := 0) (Nat.le_of_ble_eq_true rfl) (Nat.le_of_ble_eq_true rfl) ?_
  refine zk_x (wr := []) (vx_runS (As := [.int 0]) (rest := []) ⟨hx, hb, hml, hown, hts⟩ (kX10_refuseUnless_0 l hst D yc e0 H.size) (va_cwS 1 hts (lw_S wq388 wq389 wq1 wq390) rfl rfl rfl (by decide +kernel) ⟨(Nat.le_of_ble_eq_true rfl), (Nat.le_of_ble_eq_true rfl)⟩) (zk_pS hC hP hD hS hA [] rfl rfl) rfl rfl hl.1 rfl (lv_room (Nat.le_of_ble_eq_true rfl)) dX10_itemsToRest_8 ⟨(Nat.le_of_ble_eq_true rfl), (Nat.le_of_ble_eq_true rfl)⟩) hP hD hS hA [] [] rfl rfl rfl (by decide) (fun u2 ce q9 H locs hP hD hS hce hcv hcl => ?_)
  have hP : va_P D vwCl [] H := hP
  have hD : va_D A [] := hD
  exact vx_out (fun x9 hx9 => (hnx x9 hx9).elim) hlk hce hcv hcl (zk_out hP hD hS (fun _ _ => 0) [] rfl rfl) hS.2.2 (Nat.le_of_ble_eq_true rfl) (Nat.le_of_ble_eq_true rfl)
set_option maxHeartbeats 4000000 in
set_option maxRecDepth 100000 in
theorem kL_itemsToRest_1 (l : Launch) (hst : l.stackTraces = false) (D : va_G) (yc : Nat → ClassId) (e0 sz : Nat) (a0 : Nat) (p0 : Int32) (a1 : Nat) (a2 : Nat) (a3 : Nat) (h0 : ¬ p0 < 1) (h1 : 200 < p0) : Met l yL_itemsToRest (ww_ yL_itemsToRest cL_itemsToRest 4 (some .int) [(0, 9, 12, 13)]) ({ frames := 8, cells := 1, slots := 6, locals := 123 }) (PR D yc e0 [(a0, .inr (9, [.ref a2, .ref a3, .int 0, .int 0, .int 0]))] sz [.ref a0, .int p0, .ref a1]) (va_Qi (fun r u => r = (fun u : Nat → Nat → Nat => 1) u) (WD D (va_A [(a0, .inr (9, [.ref a2, .ref a3, .int 0, .int 0, .int 0]))] sz) (fun u => [(a0, .inr (9, [.ref a2, .ref a3, .int 0, .int 0, .int 0]))])) (va_A [(a0, .inr (9, [.ref a2, .ref a3, .int 0, .int 0, .int 0]))] sz)) 1 6 (va_A [(a0, .inr (9, [.ref a2, .ref a3, .int 0, .int 0, .int 0]))] sz) := by
  refine zk_MW (Qc := fun A => va_Qi (fun r u => r = (fun u : Nat → Nat → Nat => 1) u) (WD D A (fun u => [(a0, .inr (9, [.ref a2, .ref a3, .int 0, .int 0, .int 0]))])) A) (by decide) (Nat.le_of_ble_eq_true rfl) ?_
  intro p e s m args below meth c A ls hx hb hml hr hlk hown hts hP hD hS hA hC hl hex
  have hK := hC.1
  have hN := hC.2.1
  have hl : lv_has ls 4 [(0, .ref a0), (1, .int p0), (2, .ref a1)] := hl
  generalize hHH : s.heap = H at hP ⊢
  have hS : va_S A s.heap H [] := by rw [← hHH]; exact hS
  refine lv_aload_n hx hb dL_itemsToRest_0 rfl (lv_at hl 2 rfl) ?_
  refine lv_iconst (v := 0) hx hb dL_itemsToRest_1 (by decide) ?_
  refine lv_aload_n hx hb dL_itemsToRest_2 rfl (lv_at hl 0 rfl) ?_
  refine lv_iload_n hx hb dL_itemsToRest_3 rfl (lv_at hl 1 rfl) ?_
  refine zk_x (wr := [(a0, .inr (9, [.ref a2, .ref a3, .int 0, .int 0, .int 0]))]) (vx_runV (As := [.int p0]) (rest := [.int 0, .ref a1]) ⟨hx, hb, hml, hown, hts⟩ (kX10_itemsToRest_1 l hst D yc e0 H.size a0 p0 h0 h1) (cwV 1 hts (lw_V wq1315 wq1316 wq1317 wq1 wq1318) rfl rfl rfl (by decide +kernel) ⟨(Nat.le_of_ble_eq_true rfl), (Nat.le_of_ble_eq_true rfl)⟩) (zk_pV hC hP hD hS hA [] rfl rfl 0 9 rfl rfl) rfl rfl hl.1 rfl (lv_room (Nat.le_of_ble_eq_true rfl)) dL_itemsToRest_4 ⟨(Nat.le_of_ble_eq_true rfl), (Nat.le_of_ble_eq_true rfl)⟩) hP hD hS hA [] [0] rfl rfl rfl (by decide) (fun u1 ce q9 H locs hP hD hS hce hcv hcl => ?_)
  have hP : va_P D vwCl [(a0, .inr (9, [.ref a2, .ref a3, .int 0, .int 0, .int 0]))] H := hP
  have hD : va_D A [(a0, .inr (9, [.ref a2, .ref a3, .int 0, .int 0, .int 0]))] := hD
  refine vx_catch (own := RL) (name := "java/lang/IllegalArgumentException") hown (tableOf []) ⟨0, 9, 12, 13⟩ (tableOf []) hex (fun z hz => False.elim (List.not_mem_nil hz)) (by decide) (by decide) (hts _ wq458) (zk_tab rfl (hN _ wr393 rfl)) hce hcv hcl ?_
  refine W.widen (k := 1) (n := 6) (Nat.le_of_ble_eq_true rfl) (Nat.le_of_ble_eq_true rfl) ?_
  refine lv_astore_n (lv' := [(3, .ref q9), (0, .ref a0), (1, .int p0), (2, .ref a1)]) hx hb dL_itemsToRest_12 rfl hl (by decide) rfl (fun ls hl => ?_)
  refine lv_iconst (v := 1) hx hb dL_itemsToRest_13 (by decide) ?_
  exact zk_ri (r0 := fun u => 1) (w1 := fun u => [(a0, .inr (9, [.ref a2, .ref a3, .int 0, .int 0, .int 0]))]) hx hb hr hlk hP hD hS (fun _ _ => 0) rfl rfl [0] rfl rfl (Nat.le_of_ble_eq_true rfl) (Nat.le_of_ble_eq_true rfl) dL_itemsToRest_14
set_option maxHeartbeats 4000000 in
set_option maxRecDepth 100000 in
theorem kX14_itemsToRest_1 (l : Launch) (hst : l.stackTraces = false) (D : va_G) (yc : Nat → ClassId) (e0 sz : Nat) (a0 : Nat) (p0 : Int32) (a1 : Nat) (a2 : Nat) (a3 : Nat) (a4 : Nat) (a5 : Nat) (a6 : Nat) (a7 : Nat) (h0 : ¬ p0 < 1) (h1 : 200 < p0) : Met l yX14_itemsToRest (ws_ yX14_itemsToRest cX14_itemsToRest 3 (some .int)) ({ frames := 1, cells := 0, slots := 0, locals := 22 }) (PR D yc e0 [(a0, .inr (13, [.int 0, .int 0, .ref a1, .ref a2, .ref a3, .ref a4, .ref a5, .ref a6, .ref a7, .int 0, .long 0]))] sz [.ref a0, .int p0]) (va_Qi (fun r u => r = (fun u : Nat → Nat → Nat => 0) u) (WD D (va_A [(a0, .inr (13, [.int 0, .int 0, .ref a1, .ref a2, .ref a3, .ref a4, .ref a5, .ref a6, .ref a7, .int 0, .long 0]))] sz) (fun u => [(a0, .inr (13, [.int 0, .int 0, .ref a1, .ref a2, .ref a3, .ref a4, .ref a5, .ref a6, .ref a7, .int 1, .long 0]))])) (va_A [(a0, .inr (13, [.int 0, .int 0, .ref a1, .ref a2, .ref a3, .ref a4, .ref a5, .ref a6, .ref a7, .int 0, .long 0]))] sz)) 0 0 (va_A [(a0, .inr (13, [.int 0, .int 0, .ref a1, .ref a2, .ref a3, .ref a4, .ref a5, .ref a6, .ref a7, .int 0, .long 0]))] sz) := by
  refine zk_M (Qc := fun A => va_Qi (fun r u => r = (fun u : Nat → Nat → Nat => 0) u) (WD D A (fun u => [(a0, .inr (13, [.int 0, .int 0, .ref a1, .ref a2, .ref a3, .ref a4, .ref a5, .ref a6, .ref a7, .int 1, .long 0]))])) A) (by decide) (Nat.le_of_ble_eq_true rfl) ?_
  intro p e s m args below meth c A ls hx hb hml hr hlk hown hnm hts hP hD hS hA hC hl
  have hK := hC.1
  have hN := hC.2.1
  have hl : lv_has ls 3 [(0, .ref a0), (1, .int p0)] := hl
  generalize hHH : s.heap = H at hP ⊢
  have hS : va_S A s.heap H [] := by rw [← hHH]; exact hS
  refine lv_aload_n hx hb dX14_itemsToRest_0 rfl (lv_at hl 0 rfl) ?_
  refine lv_iconst (v := 0) hx hb dX14_itemsToRest_1 (by decide) ?_
  refine va_put (D := D) (ci := 13) (v := .int 0) (ty := .int) (C := RX14) (T := TX14) (N := 11) hx hb hts iX14 tyX14 tyX14_ok nmX14 hown hK hP hD hS 0 rfl rfl 9 (by decide) (hts _ wq1542) (fun _ h9 => h9) rfl (by decide +kernel) rfl rfl (Nat.le_of_ble_eq_true rfl) dX14_itemsToRest_2 (fun H locs hP hD hS => ?_)
  have hP : va_P D vwCl [(a0, .inr (13, [.int 0, .int 0, .ref a1, .ref a2, .ref a3, .ref a4, .ref a5, .ref a6, .ref a7, .int 0, .long 0]))] H := hP
  have hD : va_D A [(a0, .inr (13, [.int 0, .int 0, .ref a1, .ref a2, .ref a3, .ref a4, .ref a5, .ref a6, .ref a7, .int 0, .long 0]))] := hD
  refine lv_iload_n hx hb dX14_itemsToRest_5 rfl (lv_at hl 1 rfl) ?_
  refine lv_iconst (v := 1) hx hb dX14_itemsToRest_6 (by decide) ?_
  refine lv_sipush (v := 200) hx hb dX14_itemsToRest_7 (by decide) ?_
  refine zk_i (wr := [(a0, .inr (13, [.int 0, .int 0, .ref a1, .ref a2, .ref a3, .ref a4, .ref a5, .ref a6, .ref a7, .int 0, .long 0]))]) (va_runS (As := [.int p0, .int 1, .int 200]) (rest := []) ⟨hx, hb, hml, hown, hts⟩ (kX14_is_8 l hst D yc e0 H.size p0 h0 h1) (va_cwS 3 hts (lw_S wq1575 wq1576 wq6 wq1577) rfl rfl rfl (by decide +kernel) ⟨(Nat.le_of_ble_eq_true rfl), (Nat.le_of_ble_eq_true rfl)⟩) (zk_pS hC hP hD hS hA [] rfl rfl) rfl rfl hl.1 rfl (lv_room (Nat.le_of_ble_eq_true rfl)) dX14_itemsToRest_10 ⟨(Nat.le_of_ble_eq_true rfl), (Nat.le_of_ble_eq_true rfl)⟩) hP hD hS hA [] [0] rfl rfl rfl (by decide) (fun u1 H locs hP hD hS => ?_)
  have hP : va_P D vwCl [(a0, .inr (13, [.int 0, .int 0, .ref a1, .ref a2, .ref a3, .ref a4, .ref a5, .ref a6, .ref a7, .int 0, .long 0]))] H := hP
  have hD : va_D A [(a0, .inr (13, [.int 0, .int 0, .ref a1, .ref a2, .ref a3, .ref a4, .ref a5, .ref a6, .ref a7, .int 0, .long 0]))] := hD
  refine W.widen (k := 0) (n := 0) (Nat.le_of_ble_eq_true rfl) (Nat.le_of_ble_eq_true rfl) ?_
  refine lv_if_ne (tgt := 22) hx hb dX14_itemsToRest_13 (by decide) (fun h9 => absurd (by decide) h9) (fun _ => ?_)
  refine lv_aload_n hx hb dX14_itemsToRest_16 rfl (lv_at hl 0 rfl) ?_
  refine lv_iconst (v := 1) hx hb dX14_itemsToRest_17 (by decide) ?_
  refine zk_i (wr := []) (va_runV (As := [.int 1]) (rest := []) ⟨hx, hb, hml, hown, hts⟩ (kX14_refuse_0 l hst D yc e0 H.size a0 a1 a2 a3 a4 a5 a6 a7) (cwV 1 hts (lw_V wq1582 wq1584 ws33 wq6 wq1585) rfl rfl rfl (by decide +kernel) ⟨(Nat.le_of_ble_eq_true rfl), (Nat.le_of_ble_eq_true rfl)⟩) (zk_pV hC hP hD hS hA [0] rfl rfl 0 13 rfl rfl) rfl rfl hl.1 rfl (lv_room (Nat.le_of_ble_eq_true rfl)) dX14_itemsToRest_18 ⟨(Nat.le_of_ble_eq_true rfl), (Nat.le_of_ble_eq_true rfl)⟩) hP hD hS hA [0] [] rfl rfl rfl (by decide) (fun u2 H locs hP hD hS => ?_)
  have hP : va_P D vwCl [(a0, .inr (13, [.int 0, .int 0, .ref a1, .ref a2, .ref a3, .ref a4, .ref a5, .ref a6, .ref a7, .int 1, .long 0]))] H := hP
  have hD : va_D A [(a0, .inr (13, [.int 0, .int 0, .ref a1, .ref a2, .ref a3, .ref a4, .ref a5, .ref a6, .ref a7, .int 1, .long 0]))] := hD
  refine W.widen (k := 0) (n := 0) (Nat.le_of_ble_eq_true rfl) (Nat.le_of_ble_eq_true rfl) ?_
  exact zk_ri (r0 := fun u => 0) (w1 := fun u => [(a0, .inr (13, [.int 0, .int 0, .ref a1, .ref a2, .ref a3, .ref a4, .ref a5, .ref a6, .ref a7, .int 1, .long 0]))]) hx hb hr hlk hP hD hS (fun _ _ => 0) rfl rfl [0] rfl rfl (Nat.le_of_ble_eq_true rfl) (Nat.le_of_ble_eq_true rfl) dX14_itemsToRest_21
set_option maxHeartbeats 4000000 in
set_option maxRecDepth 100000 in
theorem kX2_become_0 (l : Launch) (hst : l.stackTraces = false) (D : va_G) (yc : Nat → ClassId) (e0 sz : Nat) (a0 : Nat) (a1 : Nat) (a2 : Nat) (a3 : Nat)  : Met l yX2_become (ws_ yX2_become cX2_become 3 none) ({ frames := 1, cells := 0, slots := 0, locals := 20 }) (PR D yc e0 [(a0, .inr (2, [.int 1, .ref a2, .int 8, .int (-1), .int 0, .int 0, .int 0, .int 0])), (a1, .inr (2, [.int 0, .ref a3, .int 8, .int (-1), .int 0, .int 0, .int 0, .int 0])), (a2, .inr (0, [.int 0, .ref e0, .int 0]))] sz [.ref a0, .ref a1]) (va_Qv (fun _ => True) (WD D (va_A [(a0, .inr (2, [.int 1, .ref a2, .int 8, .int (-1), .int 0, .int 0, .int 0, .int 0])), (a1, .inr (2, [.int 0, .ref a3, .int 8, .int (-1), .int 0, .int 0, .int 0, .int 0])), (a2, .inr (0, [.int 0, .ref e0, .int 0]))] sz) (fun u => [(a0, .inr (2, [.int 1, .ref a2, .int 8, .int (-1), .int 0, .int 0, .int 0, .int 0])), (a1, .inr (2, [.int 0, .ref a3, .int 8, .int (-1), .int 0, .int 0, .int 0, .int 0])), (a2, .inr (0, [.int 0, .ref e0, .int 0]))])) (va_A [(a0, .inr (2, [.int 1, .ref a2, .int 8, .int (-1), .int 0, .int 0, .int 0, .int 0])), (a1, .inr (2, [.int 0, .ref a3, .int 8, .int (-1), .int 0, .int 0, .int 0, .int 0])), (a2, .inr (0, [.int 0, .ref e0, .int 0]))] sz)) 0 0 (va_A [(a0, .inr (2, [.int 1, .ref a2, .int 8, .int (-1), .int 0, .int 0, .int 0, .int 0])), (a1, .inr (2, [.int 0, .ref a3, .int 8, .int (-1), .int 0, .int 0, .int 0, .int 0])), (a2, .inr (0, [.int 0, .ref e0, .int 0]))] sz) := by
  refine zk_M (Qc := fun A => va_Qv (fun _ => True) (WD D A (fun u => [(a0, .inr (2, [.int 1, .ref a2, .int 8, .int (-1), .int 0, .int 0, .int 0, .int 0])), (a1, .inr (2, [.int 0, .ref a3, .int 8, .int (-1), .int 0, .int 0, .int 0, .int 0])), (a2, .inr (0, [.int 0, .ref e0, .int 0]))])) A) (by decide) (Nat.le_of_ble_eq_true rfl) ?_
  intro p e s m args below meth c A ls hx hb hml hr hlk hown hnm hts hP hD hS hA hC hl
  have hK := hC.1
  have hN := hC.2.1
  have hl : lv_has ls 3 [(0, .ref a0), (1, .ref a1)] := hl
  generalize hHH : s.heap = H at hP ⊢
  have hS : va_S A s.heap H [] := by rw [← hHH]; exact hS
  refine lv_aload_n hx hb dX2_become_0 rfl (lv_at hl 0 rfl) ?_
  refine lv_aload_n hx hb dX2_become_1 rfl (lv_at hl 1 rfl) ?_
  refine va_get (D := D) (ci := 2) (v := .int 8) (C := RX2) (T := TX2) (N := 8) hx hb hts iX2 hown hK hP 1 rfl rfl 2 (by decide) (hts _ wq73) (fun _ h9 => h9) rfl dX2_become_2 ?_
  refine va_put (D := D) (ci := 2) (v := .int 8) (ty := .int) (C := RX2) (T := TX2) (N := 8) hx hb hts iX2 tyX2 tyX2_ok nmX2 hown hK hP hD hS 0 rfl rfl 2 (by decide) (hts _ wq73) (fun _ h9 => h9) rfl (by decide +kernel) rfl rfl (Nat.le_of_ble_eq_true rfl) dX2_become_5 (fun H locs hP hD hS => ?_)
  have hP : va_P D vwCl [(a0, .inr (2, [.int 1, .ref a2, .int 8, .int (-1), .int 0, .int 0, .int 0, .int 0])), (a1, .inr (2, [.int 0, .ref a3, .int 8, .int (-1), .int 0, .int 0, .int 0, .int 0])), (a2, .inr (0, [.int 0, .ref e0, .int 0]))] H := hP
  have hD : va_D A [(a0, .inr (2, [.int 1, .ref a2, .int 8, .int (-1), .int 0, .int 0, .int 0, .int 0])), (a1, .inr (2, [.int 0, .ref a3, .int 8, .int (-1), .int 0, .int 0, .int 0, .int 0])), (a2, .inr (0, [.int 0, .ref e0, .int 0]))] := hD
  refine lv_aload_n hx hb dX2_become_8 rfl (lv_at hl 0 rfl) ?_
  refine lv_aload_n hx hb dX2_become_9 rfl (lv_at hl 1 rfl) ?_
  refine va_get (D := D) (ci := 2) (v := .int (-1)) (C := RX2) (T := TX2) (N := 8) hx hb hts iX2 hown hK hP 1 rfl rfl 3 (by decide) (hts _ wq75) (fun _ h9 => h9) rfl dX2_become_10 ?_
  refine va_put (D := D) (ci := 2) (v := .int (-1)) (ty := .int) (C := RX2) (T := TX2) (N := 8) hx hb hts iX2 tyX2 tyX2_ok nmX2 hown hK hP hD hS 0 rfl rfl 3 (by decide) (hts _ wq75) (fun _ h9 => h9) rfl (by decide +kernel) rfl rfl (Nat.le_of_ble_eq_true rfl) dX2_become_13 (fun H locs hP hD hS => ?_)
  have hP : va_P D vwCl [(a0, .inr (2, [.int 1, .ref a2, .int 8, .int (-1), .int 0, .int 0, .int 0, .int 0])), (a1, .inr (2, [.int 0, .ref a3, .int 8, .int (-1), .int 0, .int 0, .int 0, .int 0])), (a2, .inr (0, [.int 0, .ref e0, .int 0]))] H := hP
  have hD : va_D A [(a0, .inr (2, [.int 1, .ref a2, .int 8, .int (-1), .int 0, .int 0, .int 0, .int 0])), (a1, .inr (2, [.int 0, .ref a3, .int 8, .int (-1), .int 0, .int 0, .int 0, .int 0])), (a2, .inr (0, [.int 0, .ref e0, .int 0]))] := hD
  refine lv_iconst (v := 0) hx hb dX2_become_16 (by decide) ?_
  refine lv_istore_n (lv' := [(2, .int 0), (0, .ref a0), (1, .ref a1)]) hx hb dX2_become_17 rfl hl (by decide) rfl (fun ls hl => ?_)
  refine lv_iload_n hx hb dX2_become_18 rfl (lv_at hl 0 rfl) ?_
  refine lv_aload_n hx hb dX2_become_19 rfl (lv_at hl 1 rfl) ?_
  refine va_get (D := D) (ci := 2) (v := .ref a2) (C := RX2) (T := TX2) (N := 8) hx hb hts iX2 hown hK hP 0 rfl rfl 1 (by decide) (hts _ wq72) (fun _ h9 => h9) rfl dX2_become_20 ?_
  refine zk_i (wr := [(a0, .inr (2, [.int 1, .ref a2, .int 8, .int (-1), .int 0, .int 0, .int 0, .int 0])), (a1, .inr (2, [.int 0, .ref a3, .int 8, .int (-1), .int 0, .int 0, .int 0, .int 0]))]) (va_runV (As := []) (rest := [.int 0]) ⟨hx, hb, hml, hown, hts⟩ (kJx4a65c_size_8abf5_0 l hst D yc e0 H.size a2) (cwV 0 hts (lw_V wq123 wq124 wq125 wq5 wq126) rfl rfl rfl (by decide +kernel) ⟨(Nat.le_of_ble_eq_true rfl), (Nat.le_of_ble_eq_true rfl)⟩) (zk_pV hC hP hD hS hA [2] rfl rfl 2 0 rfl rfl) rfl rfl hl.1 rfl (lv_room (Nat.le_of_ble_eq_true rfl)) dX2_become_23 ⟨(Nat.le_of_ble_eq_true rfl), (Nat.le_of_ble_eq_true rfl)⟩) hP hD hS hA [2] [0, 1] rfl rfl rfl (by decide) (fun u1 H locs hP hD hS => ?_)
  have hP : va_P D vwCl [(a0, .inr (2, [.int 1, .ref a2, .int 8, .int (-1), .int 0, .int 0, .int 0, .int 0])), (a1, .inr (2, [.int 0, .ref a3, .int 8, .int (-1), .int 0, .int 0, .int 0, .int 0])), (a2, .inr (0, [.int 0, .ref e0, .int 0]))] H := hP
  have hD : va_D A [(a0, .inr (2, [.int 1, .ref a2, .int 8, .int (-1), .int 0, .int 0, .int 0, .int 0])), (a1, .inr (2, [.int 0, .ref a3, .int 8, .int (-1), .int 0, .int 0, .int 0, .int 0])), (a2, .inr (0, [.int 0, .ref e0, .int 0]))] := hD
  refine W.widen (k := 0) (n := 0) (Nat.le_of_ble_eq_true rfl) (Nat.le_of_ble_eq_true rfl) ?_
  refine lv_icmp_ge (tgt := 71) hx hb dX2_become_26 (by decide) (fun _ => ?_) (fun h9 => absurd (by decide) h9)
  exact zk_rv (w1 := fun u => [(a0, .inr (2, [.int 1, .ref a2, .int 8, .int (-1), .int 0, .int 0, .int 0, .int 0])), (a1, .inr (2, [.int 0, .ref a3, .int 8, .int (-1), .int 0, .int 0, .int 0, .int 0])), (a2, .inr (0, [.int 0, .ref e0, .int 0]))]) hx hb hr hlk hP hD hS (fun _ _ => 0) [0, 1, 2] rfl rfl (Nat.le_of_ble_eq_true rfl) (Nat.le_of_ble_eq_true rfl) dX2_become_71
set_option maxHeartbeats 4000000 in
set_option maxRecDepth 100000 in
theorem kX2_nextToWork_1 (l : Launch) (hst : l.stackTraces = false) (D : va_G) (yc : Nat → ClassId) (e0 sz : Nat) (a0 : Nat) (a1 : Nat)  : Met l yX2_nextToWork (ws_ yX2_nextToWork cX2_nextToWork 5 (some .int)) ({ frames := 1, cells := 0, slots := 0, locals := 20 }) (PR D yc e0 [(a0, .inr (2, [.int 1, .ref a1, .int 8, .int (-1), .int 0, .int 0, .int 0, .int 0])), (a1, .inr (0, [.int 0, .ref e0, .int 0]))] sz [.ref a0]) (va_Qi (fun r u => r = (fun u : Nat → Nat → Nat => (-1)) u) (WD D (va_A [(a0, .inr (2, [.int 1, .ref a1, .int 8, .int (-1), .int 0, .int 0, .int 0, .int 0])), (a1, .inr (0, [.int 0, .ref e0, .int 0]))] sz) (fun u => [(a0, .inr (2, [.int 1, .ref a1, .int 8, .int (-1), .int 0, .int 0, .int 0, .int 0])), (a1, .inr (0, [.int 0, .ref e0, .int 0]))])) (va_A [(a0, .inr (2, [.int 1, .ref a1, .int 8, .int (-1), .int 0, .int 0, .int 0, .int 0])), (a1, .inr (0, [.int 0, .ref e0, .int 0]))] sz)) 0 0 (va_A [(a0, .inr (2, [.int 1, .ref a1, .int 8, .int (-1), .int 0, .int 0, .int 0, .int 0])), (a1, .inr (0, [.int 0, .ref e0, .int 0]))] sz) := by
  refine zk_M (Qc := fun A => va_Qi (fun r u => r = (fun u : Nat → Nat → Nat => (-1)) u) (WD D A (fun u => [(a0, .inr (2, [.int 1, .ref a1, .int 8, .int (-1), .int 0, .int 0, .int 0, .int 0])), (a1, .inr (0, [.int 0, .ref e0, .int 0]))])) A) (by decide) (Nat.le_of_ble_eq_true rfl) ?_
  intro p e s m args below meth c A ls hx hb hml hr hlk hown hnm hts hP hD hS hA hC hl
  have hK := hC.1
  have hN := hC.2.1
  have hl : lv_has ls 5 [(0, .ref a0)] := hl
  generalize hHH : s.heap = H at hP ⊢
  have hS : va_S A s.heap H [] := by rw [← hHH]; exact hS
  refine lv_aload_n hx hb dX2_nextToWork_0 rfl (lv_at hl 0 rfl) ?_
  refine va_get (D := D) (ci := 2) (v := .ref a1) (C := RX2) (T := TX2) (N := 8) hx hb hts iX2 hown hK hP 0 rfl rfl 1 (by decide) (hts _ wq72) (fun _ h9 => h9) rfl dX2_nextToWork_1 ?_
  refine zk_i (wr := [(a0, .inr (2, [.int 1, .ref a1, .int 8, .int (-1), .int 0, .int 0, .int 0, .int 0]))]) (va_runV (As := []) (rest := []) ⟨hx, hb, hml, hown, hts⟩ (kJx4a65c_size_8abf5_0 l hst D yc e0 H.size a1) (cwV 0 hts (lw_V wq123 wq124 wq125 wq5 wq126) rfl rfl rfl (by decide +kernel) ⟨(Nat.le_of_ble_eq_true rfl), (Nat.le_of_ble_eq_true rfl)⟩) (zk_pV hC hP hD hS hA [1] rfl rfl 1 0 rfl rfl) rfl rfl hl.1 rfl (lv_room (Nat.le_of_ble_eq_true rfl)) dX2_nextToWork_4 ⟨(Nat.le_of_ble_eq_true rfl), (Nat.le_of_ble_eq_true rfl)⟩) hP hD hS hA [1] [0] rfl rfl rfl (by decide) (fun u1 H locs hP hD hS => ?_)
  have hP : va_P D vwCl [(a0, .inr (2, [.int 1, .ref a1, .int 8, .int (-1), .int 0, .int 0, .int 0, .int 0])), (a1, .inr (0, [.int 0, .ref e0, .int 0]))] H := hP
  have hD : va_D A [(a0, .inr (2, [.int 1, .ref a1, .int 8, .int (-1), .int 0, .int 0, .int 0, .int 0])), (a1, .inr (0, [.int 0, .ref e0, .int 0]))] := hD
  refine W.widen (k := 0) (n := 0) (Nat.le_of_ble_eq_true rfl) (Nat.le_of_ble_eq_true rfl) ?_
  refine lv_istore_n (lv' := [(1, .int 0), (0, .ref a0)]) hx hb dX2_nextToWork_7 rfl hl (by decide) rfl (fun ls hl => ?_)
  refine lv_iconst (v := 1) hx hb dX2_nextToWork_8 (by decide) ?_
  refine lv_istore_n (lv' := [(2, .int 1), (1, .int 0), (0, .ref a0)]) hx hb dX2_nextToWork_9 rfl hl (by decide) rfl (fun ls hl => ?_)
  refine lv_iload_n hx hb dX2_nextToWork_10 rfl (lv_at hl 0 rfl) ?_
  refine lv_iload_n hx hb dX2_nextToWork_11 rfl (lv_at hl 1 rfl) ?_
  refine lv_icmp_gt (tgt := 76) hx hb dX2_nextToWork_12 (by decide) (fun _ => ?_) (fun h9 => absurd (by decide) h9)
  refine lv_iconst (v := (-1)) hx hb dX2_nextToWork_76 (by decide) ?_
  exact zk_ri (r0 := fun u => (-1)) (w1 := fun u => [(a0, .inr (2, [.int 1, .ref a1, .int 8, .int (-1), .int 0, .int 0, .int 0, .int 0])), (a1, .inr (0, [.int 0, .ref e0, .int 0]))]) hx hb hr hlk hP hD hS (fun _ _ => 0) rfl rfl [0, 1] rfl rfl (Nat.le_of_ble_eq_true rfl) (Nat.le_of_ble_eq_true rfl) dX2_nextToWork_77
set_option maxHeartbeats 4000000 in
set_option maxRecDepth 100000 in
theorem kX2_step_0 (l : Launch) (hst : l.stackTraces = false) (D : va_G) (yc : Nat → ClassId) (e0 sz : Nat) (a0 : Nat) (a1 : Nat)  : Met l yX2_step (ws_ yX2_step cX2_step 8 (some .boolean)) ({ frames := 1, cells := 0, slots := 0, locals := 21 }) (PR D yc e0 [(a0, .inr (2, [.int 1, .ref a1, .int 8, .int (-1), .int 0, .int 0, .int 0, .int 0]))] sz [.ref a0, .int (-1)]) (va_Qi (fun r u => r = (fun u : Nat → Nat → Nat => 0) u) (WD D (va_A [(a0, .inr (2, [.int 1, .ref a1, .int 8, .int (-1), .int 0, .int 0, .int 0, .int 0]))] sz) (fun u => [(a0, .inr (2, [.int 1, .ref a1, .int 8, .int (-1), .int 0, .int 0, .int 0, .int 0]))])) (va_A [(a0, .inr (2, [.int 1, .ref a1, .int 8, .int (-1), .int 0, .int 0, .int 0, .int 0]))] sz)) 0 0 (va_A [(a0, .inr (2, [.int 1, .ref a1, .int 8, .int (-1), .int 0, .int 0, .int 0, .int 0]))] sz) := by
  refine zk_M (Qc := fun A => va_Qi (fun r u => r = (fun u : Nat → Nat → Nat => 0) u) (WD D A (fun u => [(a0, .inr (2, [.int 1, .ref a1, .int 8, .int (-1), .int 0, .int 0, .int 0, .int 0]))])) A) (by decide) (Nat.le_of_ble_eq_true rfl) ?_
  intro p e s m args below meth c A ls hx hb hml hr hlk hown hnm hts hP hD hS hA hC hl
  have hK := hC.1
  have hN := hC.2.1
  have hl : lv_has ls 8 [(0, .ref a0), (1, .int (-1))] := hl
  generalize hHH : s.heap = H at hP ⊢
  have hS : va_S A s.heap H [] := by rw [← hHH]; exact hS
  refine lv_aload_n hx hb dX2_step_0 rfl (lv_at hl 0 rfl) ?_
  refine lv_iload_n hx hb dX2_step_1 rfl (lv_at hl 1 rfl) ?_
  refine zk_q (wr := [(a0, .inr (2, [.int 1, .ref a1, .int 8, .int (-1), .int 0, .int 0, .int 0, .int 0]))]) (va_runV (As := [.int (-1)]) (rest := []) ⟨hx, hb, hml, hown, hts⟩ (kX2_at_0 l hst D yc e0 H.size a0) (cwV 1 hts (lw_V wq186 wq187 wq188 wq2 wq189) rfl rfl rfl (by decide +kernel) ⟨(Nat.le_of_ble_eq_true rfl), (Nat.le_of_ble_eq_true rfl)⟩) (zk_pV hC hP hD hS hA [] rfl rfl 0 2 rfl rfl) rfl rfl hl.1 rfl (lv_room (Nat.le_of_ble_eq_true rfl)) dX2_step_2 ⟨(Nat.le_of_ble_eq_true rfl), (Nat.le_of_ble_eq_true rfl)⟩) hP hD hS hA [] [0] rfl rfl rfl (by decide) (fun u1 H locs hP hD hS => ?_)
  have hP : va_P D vwCl [(a0, .inr (2, [.int 1, .ref a1, .int 8, .int (-1), .int 0, .int 0, .int 0, .int 0]))] H := hP
  have hD : va_D A [(a0, .inr (2, [.int 1, .ref a1, .int 8, .int (-1), .int 0, .int 0, .int 0, .int 0]))] := hD
  refine W.widen (k := 0) (n := 0) (Nat.le_of_ble_eq_true rfl) (Nat.le_of_ble_eq_true rfl) ?_
  refine zk_tv (y := .null) rfl ?_
  refine lv_astore_nN (lv' := [(2, .null), (0, .ref a0), (1, .int (-1))]) hx hb dX2_step_5 rfl hl (by decide) rfl (fun ls hl => ?_)
  refine lv_aload_nN hx hb dX2_step_6 rfl (lv_at hl 0 rfl) ?_
  refine lv_ifnonnullN hx hb dX2_step_7 ?_
  refine lv_iconst (v := 0) hx hb dX2_step_10 (by decide) ?_
  exact zk_ri (r0 := fun u => 0) (w1 := fun u => [(a0, .inr (2, [.int 1, .ref a1, .int 8, .int (-1), .int 0, .int 0, .int 0, .int 0]))]) hx hb hr hlk hP hD hS (fun _ _ => 0) rfl rfl [0] rfl rfl (Nat.le_of_ble_eq_true rfl) (Nat.le_of_ble_eq_true rfl) dX2_step_11
set_option maxHeartbeats 4000000 in
set_option maxRecDepth 100000 in
theorem kX10_itemsToRest_2 (l : Launch) (hst : l.stackTraces = false) (D : va_G) (yc : Nat → ClassId) (e0 sz : Nat) (a0 : Nat) (p0 : Int32) (a1 : Nat) (a2 : Nat) (a3 : Nat) (a4 : Nat) (h0 : ¬ p0 < 1) (h1 : ¬ 200 < p0) : Met l yX10_itemsToRest (ws_ yX10_itemsToRest cX10_itemsToRest 3 (some .int)) ({ frames := 2, cells := 0, slots := 0, locals := 48 }) (PR D yc e0 [(a0, .inr (9, [.ref a1, .ref a2, .int 0, .int 0, .int 0])), (a1, .inr (2, [.int 0, .ref a3, .int 8, .int (-1), .int 0, .int 0, .int 0, .int 0])), (a2, .inr (2, [.int 1, .ref a4, .int 8, .int (-1), .int 0, .int 0, .int 0, .int 0])), (a4, .inr (0, [.int 0, .ref e0, .int 0]))] sz [.ref a0, .int p0]) (va_Qi (fun r u => r = (fun u : Nat → Nat → Nat => 0) u) (WD D (va_A [(a0, .inr (9, [.ref a1, .ref a2, .int 0, .int 0, .int 0])), (a1, .inr (2, [.int 0, .ref a3, .int 8, .int (-1), .int 0, .int 0, .int 0, .int 0])), (a2, .inr (2, [.int 1, .ref a4, .int 8, .int (-1), .int 0, .int 0, .int 0, .int 0])), (a4, .inr (0, [.int 0, .ref e0, .int 0]))] sz) (fun u => [(a0, .inr (9, [.ref a1, .ref a2, .int 0, .int 0, .int 0])), (a1, .inr (2, [.int 0, .ref a3, .int 8, .int (-1), .int 0, .int 0, .int 0, .int 0])), (a2, .inr (2, [.int 1, .ref a4, .int 8, .int (-1), .int 0, .int 0, .int 0, .int 0])), (a4, .inr (0, [.int 0, .ref e0, .int 0]))])) (va_A [(a0, .inr (9, [.ref a1, .ref a2, .int 0, .int 0, .int 0])), (a1, .inr (2, [.int 0, .ref a3, .int 8, .int (-1), .int 0, .int 0, .int 0, .int 0])), (a2, .inr (2, [.int 1, .ref a4, .int 8, .int (-1), .int 0, .int 0, .int 0, .int 0])), (a4, .inr (0, [.int 0, .ref e0, .int 0]))] sz)) 0 0 (va_A [(a0, .inr (9, [.ref a1, .ref a2, .int 0, .int 0, .int 0])), (a1, .inr (2, [.int 0, .ref a3, .int 8, .int (-1), .int 0, .int 0, .int 0, .int 0])), (a2, .inr (2, [.int 1, .ref a4, .int 8, .int (-1), .int 0, .int 0, .int 0, .int 0])), (a4, .inr (0, [.int 0, .ref e0, .int 0]))] sz) := by
  refine zk_M (Qc := fun A => va_Qi (fun r u => r = (fun u : Nat → Nat → Nat => 0) u) (WD D A (fun u => [(a0, .inr (9, [.ref a1, .ref a2, .int 0, .int 0, .int 0])), (a1, .inr (2, [.int 0, .ref a3, .int 8, .int (-1), .int 0, .int 0, .int 0, .int 0])), (a2, .inr (2, [.int 1, .ref a4, .int 8, .int (-1), .int 0, .int 0, .int 0, .int 0])), (a4, .inr (0, [.int 0, .ref e0, .int 0]))])) A) (by decide) (Nat.le_of_ble_eq_true rfl) ?_
  intro p e s m args below meth c A ls hx hb hml hr hlk hown hnm hts hP hD hS hA hC hl
  have hK := hC.1
  have hN := hC.2.1
  have hl : lv_has ls 3 [(0, .ref a0), (1, .int p0)] := hl
  generalize hHH : s.heap = H at hP ⊢
  have hS : va_S A s.heap H [] := by rw [← hHH]; exact hS
  refine lv_iload_n hx hb dX10_itemsToRest_0 rfl (lv_at hl 1 rfl) ?_
  refine lv_iconst (v := 1) hx hb dX10_itemsToRest_1 (by decide) ?_
  refine lv_sipush (v := 200) hx hb dX10_itemsToRest_2 (by decide) ?_
  refine zk_i (wr := [(a0, .inr (9, [.ref a1, .ref a2, .int 0, .int 0, .int 0])), (a1, .inr (2, [.int 0, .ref a3, .int 8, .int (-1), .int 0, .int 0, .int 0, .int 0])), (a2, .inr (2, [.int 1, .ref a4, .int 8, .int (-1), .int 0, .int 0, .int 0, .int 0])), (a4, .inr (0, [.int 0, .ref e0, .int 0]))]) (va_runS (As := [.int p0, .int 1, .int 200]) (rest := []) ⟨hx, hb, hml, hown, hts⟩ (kX10_isWithin_8 l hst D yc e0 H.size p0 h0 h1) (va_cwS 3 hts (lw_S wq464 wq465 wq1 wq466) rfl rfl rfl (by decide +kernel) ⟨(Nat.le_of_ble_eq_true rfl), (Nat.le_of_ble_eq_true rfl)⟩) (zk_pS hC hP hD hS hA [] rfl rfl) rfl rfl hl.1 rfl (lv_room (Nat.le_of_ble_eq_true rfl)) dX10_itemsToRest_5 ⟨(Nat.le_of_ble_eq_true rfl), (Nat.le_of_ble_eq_true rfl)⟩) hP hD hS hA [] [0, 1, 2, 3] rfl rfl rfl (by decide) (fun u1 H locs hP hD hS => ?_)
  have hP : va_P D vwCl [(a0, .inr (9, [.ref a1, .ref a2, .int 0, .int 0, .int 0])), (a1, .inr (2, [.int 0, .ref a3, .int 8, .int (-1), .int 0, .int 0, .int 0, .int 0])), (a2, .inr (2, [.int 1, .ref a4, .int 8, .int (-1), .int 0, .int 0, .int 0, .int 0])), (a4, .inr (0, [.int 0, .ref e0, .int 0]))] H := hP
  have hD : va_D A [(a0, .inr (9, [.ref a1, .ref a2, .int 0, .int 0, .int 0])), (a1, .inr (2, [.int 0, .ref a3, .int 8, .int (-1), .int 0, .int 0, .int 0, .int 0])), (a2, .inr (2, [.int 1, .ref a4, .int 8, .int (-1), .int 0, .int 0, .int 0, .int 0])), (a4, .inr (0, [.int 0, .ref e0, .int 0]))] := hD
  refine W.widen (k := 0) (n := 0) (Nat.le_of_ble_eq_true rfl) (Nat.le_of_ble_eq_true rfl) ?_
  refine zk_v (wr := [(a0, .inr (9, [.ref a1, .ref a2, .int 0, .int 0, .int 0])), (a1, .inr (2, [.int 0, .ref a3, .int 8, .int (-1), .int 0, .int 0, .int 0, .int 0])), (a2, .inr (2, [.int 1, .ref a4, .int 8, .int (-1), .int 0, .int 0, .int 0, .int 0])), (a4, .inr (0, [.int 0, .ref e0, .int 0]))]) (va_runS (As := [.int 1]) (rest := []) ⟨hx, hb, hml, hown, hts⟩ (kX10_refuseUnless_1 l hst D yc e0 H.size) (va_cwS 1 hts (lw_S wq388 wq389 wq1 wq390) rfl rfl rfl (by decide +kernel) ⟨(Nat.le_of_ble_eq_true rfl), (Nat.le_of_ble_eq_true rfl)⟩) (zk_pS hC hP hD hS hA [] rfl rfl) rfl rfl hl.1 rfl (lv_room (Nat.le_of_ble_eq_true rfl)) dX10_itemsToRest_8 ⟨(Nat.le_of_ble_eq_true rfl), (Nat.le_of_ble_eq_true rfl)⟩) hP hD hS hA [] [0, 1, 2, 3] rfl rfl rfl (by decide) (fun u2 H locs hP hD hS => ?_)
  have hP : va_P D vwCl [(a0, .inr (9, [.ref a1, .ref a2, .int 0, .int 0, .int 0])), (a1, .inr (2, [.int 0, .ref a3, .int 8, .int (-1), .int 0, .int 0, .int 0, .int 0])), (a2, .inr (2, [.int 1, .ref a4, .int 8, .int (-1), .int 0, .int 0, .int 0, .int 0])), (a4, .inr (0, [.int 0, .ref e0, .int 0]))] H := hP
  have hD : va_D A [(a0, .inr (9, [.ref a1, .ref a2, .int 0, .int 0, .int 0])), (a1, .inr (2, [.int 0, .ref a3, .int 8, .int (-1), .int 0, .int 0, .int 0, .int 0])), (a2, .inr (2, [.int 1, .ref a4, .int 8, .int (-1), .int 0, .int 0, .int 0, .int 0])), (a4, .inr (0, [.int 0, .ref e0, .int 0]))] := hD
  refine W.widen (k := 0) (n := 0) (Nat.le_of_ble_eq_true rfl) (Nat.le_of_ble_eq_true rfl) ?_
  refine lv_aload_n hx hb dX10_itemsToRest_11 rfl (lv_at hl 0 rfl) ?_
  refine va_get (D := D) (ci := 9) (v := .ref a2) (C := RX10) (T := TX10) (N := 5) hx hb hts iX10 hown hK hP 0 rfl rfl 1 (by decide) (hts _ wq100) (fun _ h9 => h9) rfl dX10_itemsToRest_12 ?_
  refine lv_aload_n hx hb dX10_itemsToRest_15 rfl (lv_at hl 0 rfl) ?_
  refine va_get (D := D) (ci := 9) (v := .ref a1) (C := RX10) (T := TX10) (N := 5) hx hb hts iX10 hown hK hP 0 rfl rfl 0 (by decide) (hts _ wq99) (fun _ h9 => h9) rfl dX10_itemsToRest_16 ?_
  refine zk_v (wr := [(a0, .inr (9, [.ref a1, .ref a2, .int 0, .int 0, .int 0]))]) (va_runV (As := [.ref a1]) (rest := []) ⟨hx, hb, hml, hown, hts⟩ (kX2_become_0 l hst D yc e0 H.size a2 a1 a4 a3) (cwV 1 hts (lw_V wq1319 wq1320 wq1321 wq2 wq1322) rfl rfl rfl (by decide +kernel) ⟨(Nat.le_of_ble_eq_true rfl), (Nat.le_of_ble_eq_true rfl)⟩) (zk_pV hC hP hD hS hA [2, 1, 3] rfl rfl 2 2 rfl rfl) rfl rfl hl.1 rfl (lv_room (Nat.le_of_ble_eq_true rfl)) dX10_itemsToRest_19 ⟨(Nat.le_of_ble_eq_true rfl), (Nat.le_of_ble_eq_true rfl)⟩) hP hD hS hA [2, 1, 3] [0] rfl rfl rfl (by decide) (fun u3 H locs hP hD hS => ?_)
  have hP : va_P D vwCl [(a0, .inr (9, [.ref a1, .ref a2, .int 0, .int 0, .int 0])), (a2, .inr (2, [.int 1, .ref a4, .int 8, .int (-1), .int 0, .int 0, .int 0, .int 0])), (a1, .inr (2, [.int 0, .ref a3, .int 8, .int (-1), .int 0, .int 0, .int 0, .int 0])), (a4, .inr (0, [.int 0, .ref e0, .int 0]))] H := hP
  have hD : va_D A [(a0, .inr (9, [.ref a1, .ref a2, .int 0, .int 0, .int 0])), (a2, .inr (2, [.int 1, .ref a4, .int 8, .int (-1), .int 0, .int 0, .int 0, .int 0])), (a1, .inr (2, [.int 0, .ref a3, .int 8, .int (-1), .int 0, .int 0, .int 0, .int 0])), (a4, .inr (0, [.int 0, .ref e0, .int 0]))] := hD
  refine W.widen (k := 0) (n := 0) (Nat.le_of_ble_eq_true rfl) (Nat.le_of_ble_eq_true rfl) ?_
  refine lv_iconst (v := 0) hx hb dX10_itemsToRest_22 (by decide) ?_
  refine lv_istore_n (lv' := [(2, .int 0), (0, .ref a0), (1, .int p0)]) hx hb dX10_itemsToRest_23 rfl hl (by decide) rfl (fun ls hl => ?_)
  refine lv_iload_n hx hb dX10_itemsToRest_24 rfl (lv_at hl 0 rfl) ?_
  refine lv_iload_n hx hb dX10_itemsToRest_25 rfl (lv_at hl 2 rfl) ?_
  refine lv_icmp_ge (tgt := 52) hx hb dX10_itemsToRest_26 (by decide) (fun h9 => absurd h9 (zk_pos h0)) (fun _ => ?_)
  refine lv_aload_n hx hb dX10_itemsToRest_29 rfl (lv_at hl 1 rfl) ?_
  refine va_get (D := D) (ci := 9) (v := .ref a2) (C := RX10) (T := TX10) (N := 5) hx hb hts iX10 hown hK hP 0 rfl rfl 1 (by decide) (hts _ wq100) (fun _ h9 => h9) rfl dX10_itemsToRest_30 ?_
  refine lv_aload_n hx hb dX10_itemsToRest_33 rfl (lv_at hl 1 rfl) ?_
  refine va_get (D := D) (ci := 9) (v := .ref a2) (C := RX10) (T := TX10) (N := 5) hx hb hts iX10 hown hK hP 0 rfl rfl 1 (by decide) (hts _ wq100) (fun _ h9 => h9) rfl dX10_itemsToRest_34 ?_
  refine zk_i (wr := [(a0, .inr (9, [.ref a1, .ref a2, .int 0, .int 0, .int 0])), (a1, .inr (2, [.int 0, .ref a3, .int 8, .int (-1), .int 0, .int 0, .int 0, .int 0]))]) (va_runV (As := []) (rest := [.ref a2]) ⟨hx, hb, hml, hown, hts⟩ (kX2_nextToWork_1 l hst D yc e0 H.size a2 a4) (cwV 0 hts (lw_V wq182 wq183 wq184 wq2 wq185) rfl rfl rfl (by decide +kernel) ⟨(Nat.le_of_ble_eq_true rfl), (Nat.le_of_ble_eq_true rfl)⟩) (zk_pV hC hP hD hS hA [1, 3] rfl rfl 1 2 rfl rfl) rfl rfl hl.1 rfl (lv_room (Nat.le_of_ble_eq_true rfl)) dX10_itemsToRest_37 ⟨(Nat.le_of_ble_eq_true rfl), (Nat.le_of_ble_eq_true rfl)⟩) hP hD hS hA [1, 3] [0, 2] rfl rfl rfl (by decide) (fun u4 H locs hP hD hS => ?_)
  have hP : va_P D vwCl [(a0, .inr (9, [.ref a1, .ref a2, .int 0, .int 0, .int 0])), (a1, .inr (2, [.int 0, .ref a3, .int 8, .int (-1), .int 0, .int 0, .int 0, .int 0])), (a2, .inr (2, [.int 1, .ref a4, .int 8, .int (-1), .int 0, .int 0, .int 0, .int 0])), (a4, .inr (0, [.int 0, .ref e0, .int 0]))] H := hP
  have hD : va_D A [(a0, .inr (9, [.ref a1, .ref a2, .int 0, .int 0, .int 0])), (a1, .inr (2, [.int 0, .ref a3, .int 8, .int (-1), .int 0, .int 0, .int 0, .int 0])), (a2, .inr (2, [.int 1, .ref a4, .int 8, .int (-1), .int 0, .int 0, .int 0, .int 0])), (a4, .inr (0, [.int 0, .ref e0, .int 0]))] := hD
  refine W.widen (k := 0) (n := 0) (Nat.le_of_ble_eq_true rfl) (Nat.le_of_ble_eq_true rfl) ?_
  refine zk_i (wr := [(a0, .inr (9, [.ref a1, .ref a2, .int 0, .int 0, .int 0])), (a1, .inr (2, [.int 0, .ref a3, .int 8, .int (-1), .int 0, .int 0, .int 0, .int 0])), (a4, .inr (0, [.int 0, .ref e0, .int 0]))]) (va_runV (As := [.int (-1)]) (rest := []) ⟨hx, hb, hml, hown, hts⟩ (kX2_step_0 l hst D yc e0 H.size a2 a4) (cwV 1 hts (lw_V wq948 wq949 wq950 wq2 wq951) rfl rfl rfl (by decide +kernel) ⟨(Nat.le_of_ble_eq_true rfl), (Nat.le_of_ble_eq_true rfl)⟩) (zk_pV hC hP hD hS hA [2] rfl rfl 2 2 rfl rfl) rfl rfl hl.1 rfl (lv_room (Nat.le_of_ble_eq_true rfl)) dX10_itemsToRest_40 ⟨(Nat.le_of_ble_eq_true rfl), (Nat.le_of_ble_eq_true rfl)⟩) hP hD hS hA [2] [0, 1, 3] rfl rfl rfl (by decide) (fun u5 H locs hP hD hS => ?_)
  have hP : va_P D vwCl [(a0, .inr (9, [.ref a1, .ref a2, .int 0, .int 0, .int 0])), (a1, .inr (2, [.int 0, .ref a3, .int 8, .int (-1), .int 0, .int 0, .int 0, .int 0])), (a4, .inr (0, [.int 0, .ref e0, .int 0])), (a2, .inr (2, [.int 1, .ref a4, .int 8, .int (-1), .int 0, .int 0, .int 0, .int 0]))] H := hP
  have hD : va_D A [(a0, .inr (9, [.ref a1, .ref a2, .int 0, .int 0, .int 0])), (a1, .inr (2, [.int 0, .ref a3, .int 8, .int (-1), .int 0, .int 0, .int 0, .int 0])), (a4, .inr (0, [.int 0, .ref e0, .int 0])), (a2, .inr (2, [.int 1, .ref a4, .int 8, .int (-1), .int 0, .int 0, .int 0, .int 0]))] := hD
  refine W.widen (k := 0) (n := 0) (Nat.le_of_ble_eq_true rfl) (Nat.le_of_ble_eq_true rfl) ?_
  refine lv_if_eq (tgt := 52) hx hb dX10_itemsToRest_43 (by decide) (fun _ => ?_) (fun h9 => absurd (by decide) h9)
  refine lv_aload_n hx hb dX10_itemsToRest_52 rfl (lv_at hl 1 rfl) ?_
  refine va_get (D := D) (ci := 9) (v := .ref a2) (C := RX10) (T := TX10) (N := 5) hx hb hts iX10 hown hK hP 0 rfl rfl 1 (by decide) (hts _ wq100) (fun _ h9 => h9) rfl dX10_itemsToRest_53 ?_
  refine zk_i (wr := [(a0, .inr (9, [.ref a1, .ref a2, .int 0, .int 0, .int 0])), (a1, .inr (2, [.int 0, .ref a3, .int 8, .int (-1), .int 0, .int 0, .int 0, .int 0]))]) (va_runV (As := []) (rest := []) ⟨hx, hb, hml, hown, hts⟩ (kX2_nextToWork_1 l hst D yc e0 H.size a2 a4) (cwV 0 hts (lw_V wq182 wq183 wq184 wq2 wq185) rfl rfl rfl (by decide +kernel) ⟨(Nat.le_of_ble_eq_true rfl), (Nat.le_of_ble_eq_true rfl)⟩) (zk_pV hC hP hD hS hA [3, 2] rfl rfl 3 2 rfl rfl) rfl rfl hl.1 rfl (lv_room (Nat.le_of_ble_eq_true rfl)) dX10_itemsToRest_56 ⟨(Nat.le_of_ble_eq_true rfl), (Nat.le_of_ble_eq_true rfl)⟩) hP hD hS hA [3, 2] [0, 1] rfl rfl rfl (by decide) (fun u6 H locs hP hD hS => ?_)
  have hP : va_P D vwCl [(a0, .inr (9, [.ref a1, .ref a2, .int 0, .int 0, .int 0])), (a1, .inr (2, [.int 0, .ref a3, .int 8, .int (-1), .int 0, .int 0, .int 0, .int 0])), (a2, .inr (2, [.int 1, .ref a4, .int 8, .int (-1), .int 0, .int 0, .int 0, .int 0])), (a4, .inr (0, [.int 0, .ref e0, .int 0]))] H := hP
  have hD : va_D A [(a0, .inr (9, [.ref a1, .ref a2, .int 0, .int 0, .int 0])), (a1, .inr (2, [.int 0, .ref a3, .int 8, .int (-1), .int 0, .int 0, .int 0, .int 0])), (a2, .inr (2, [.int 1, .ref a4, .int 8, .int (-1), .int 0, .int 0, .int 0, .int 0])), (a4, .inr (0, [.int 0, .ref e0, .int 0]))] := hD
  refine W.widen (k := 0) (n := 0) (Nat.le_of_ble_eq_true rfl) (Nat.le_of_ble_eq_true rfl) ?_
  refine lv_iconst (v := (-1)) hx hb dX10_itemsToRest_59 (by decide) ?_
  refine lv_icmp_ne (tgt := 67) hx hb dX10_itemsToRest_60 (by decide) (fun h9 => absurd (by decide) h9) (fun _ => ?_)
  refine lv_iload_n hx hb dX10_itemsToRest_63 rfl (lv_at hl 0 rfl) ?_
  refine lv_goto (tgt := 68) hx hb dX10_itemsToRest_64 (by decide) ?_
  exact zk_ri (r0 := fun u => 0) (w1 := fun u => [(a0, .inr (9, [.ref a1, .ref a2, .int 0, .int 0, .int 0])), (a1, .inr (2, [.int 0, .ref a3, .int 8, .int (-1), .int 0, .int 0, .int 0, .int 0])), (a2, .inr (2, [.int 1, .ref a4, .int 8, .int (-1), .int 0, .int 0, .int 0, .int 0])), (a4, .inr (0, [.int 0, .ref e0, .int 0]))]) hx hb hr hlk hP hD hS (fun _ _ => 0) rfl rfl [0, 1, 2, 3] rfl rfl (Nat.le_of_ble_eq_true rfl) (Nat.le_of_ble_eq_true rfl) dX10_itemsToRest_68
set_option maxHeartbeats 4000000 in
set_option maxRecDepth 100000 in
theorem kL_itemsToRest_2 (l : Launch) (hst : l.stackTraces = false) (D : va_G) (yc : Nat → ClassId) (e0 sz : Nat) (a0 : Nat) (p0 : Int32) (a1 : Nat) (a2 : Nat) (a3 : Nat) (a4 : Nat) (a5 : Nat) (h0 : ¬ p0 < 1) (h1 : ¬ 200 < p0) : Met l yL_itemsToRest (ww_ yL_itemsToRest cL_itemsToRest 4 (some .int) [(0, 9, 12, 13)]) ({ frames := 3, cells := 0, slots := 0, locals := 70 }) (PR D yc e0 [(a0, .inr (9, [.ref a2, .ref a3, .int 0, .int 0, .int 0])), (a1, .inl (yc 1, 1, .inr (.inl (fun _ => 0)))), (a2, .inr (2, [.int 0, .ref a4, .int 8, .int (-1), .int 0, .int 0, .int 0, .int 0])), (a3, .inr (2, [.int 1, .ref a5, .int 8, .int (-1), .int 0, .int 0, .int 0, .int 0])), (a5, .inr (0, [.int 0, .ref e0, .int 0]))] sz [.ref a0, .int p0, .ref a1]) (va_Qi (fun r u => r = (fun u : Nat → Nat → Nat => 0) u) (WD D (va_A [(a0, .inr (9, [.ref a2, .ref a3, .int 0, .int 0, .int 0])), (a1, .inl (yc 1, 1, .inr (.inl (fun _ => 0)))), (a2, .inr (2, [.int 0, .ref a4, .int 8, .int (-1), .int 0, .int 0, .int 0, .int 0])), (a3, .inr (2, [.int 1, .ref a5, .int 8, .int (-1), .int 0, .int 0, .int 0, .int 0])), (a5, .inr (0, [.int 0, .ref e0, .int 0]))] sz) (fun u => [(a1, .inl (yc 1, 1, .inr (.inl (vp_updL (fun _ => 0) (0 : Int32).toNatClampNeg 0)))), (a0, .inr (9, [.ref a2, .ref a3, .int 0, .int 0, .int 0])), (a2, .inr (2, [.int 0, .ref a4, .int 8, .int (-1), .int 0, .int 0, .int 0, .int 0])), (a3, .inr (2, [.int 1, .ref a5, .int 8, .int (-1), .int 0, .int 0, .int 0, .int 0])), (a5, .inr (0, [.int 0, .ref e0, .int 0]))])) (va_A [(a0, .inr (9, [.ref a2, .ref a3, .int 0, .int 0, .int 0])), (a1, .inl (yc 1, 1, .inr (.inl (fun _ => 0)))), (a2, .inr (2, [.int 0, .ref a4, .int 8, .int (-1), .int 0, .int 0, .int 0, .int 0])), (a3, .inr (2, [.int 1, .ref a5, .int 8, .int (-1), .int 0, .int 0, .int 0, .int 0])), (a5, .inr (0, [.int 0, .ref e0, .int 0]))] sz)) 0 0 (va_A [(a0, .inr (9, [.ref a2, .ref a3, .int 0, .int 0, .int 0])), (a1, .inl (yc 1, 1, .inr (.inl (fun _ => 0)))), (a2, .inr (2, [.int 0, .ref a4, .int 8, .int (-1), .int 0, .int 0, .int 0, .int 0])), (a3, .inr (2, [.int 1, .ref a5, .int 8, .int (-1), .int 0, .int 0, .int 0, .int 0])), (a5, .inr (0, [.int 0, .ref e0, .int 0]))] sz) := by
  refine zk_MW (Qc := fun A => va_Qi (fun r u => r = (fun u : Nat → Nat → Nat => 0) u) (WD D A (fun u => [(a1, .inl (yc 1, 1, .inr (.inl (vp_updL (fun _ => 0) (0 : Int32).toNatClampNeg 0)))), (a0, .inr (9, [.ref a2, .ref a3, .int 0, .int 0, .int 0])), (a2, .inr (2, [.int 0, .ref a4, .int 8, .int (-1), .int 0, .int 0, .int 0, .int 0])), (a3, .inr (2, [.int 1, .ref a5, .int 8, .int (-1), .int 0, .int 0, .int 0, .int 0])), (a5, .inr (0, [.int 0, .ref e0, .int 0]))])) A) (by decide) (Nat.le_of_ble_eq_true rfl) ?_
  intro p e s m args below meth c A ls hx hb hml hr hlk hown hts hP hD hS hA hC hl hex
  have hK := hC.1
  have hN := hC.2.1
  have hl : lv_has ls 4 [(0, .ref a0), (1, .int p0), (2, .ref a1)] := hl
  generalize hHH : s.heap = H at hP ⊢
  have hS : va_S A s.heap H [] := by rw [← hHH]; exact hS
  refine lv_aload_n hx hb dL_itemsToRest_0 rfl (lv_at hl 2 rfl) ?_
  refine lv_iconst (v := 0) hx hb dL_itemsToRest_1 (by decide) ?_
  refine lv_aload_n hx hb dL_itemsToRest_2 rfl (lv_at hl 0 rfl) ?_
  refine lv_iload_n hx hb dL_itemsToRest_3 rfl (lv_at hl 1 rfl) ?_
  refine zk_i (wr := [(a1, .inl (yc 1, 1, .inr (.inl (fun _ => 0))))]) (va_runV (As := [.int p0]) (rest := [.int 0, .ref a1]) ⟨hx, hb, hml, hown, hts⟩ (kX10_itemsToRest_2 l hst D yc e0 H.size a0 p0 a2 a3 a4 a5 h0 h1) (cwV 1 hts (lw_V wq1315 wq1316 wq1317 wq1 wq1318) rfl rfl rfl (by decide +kernel) ⟨(Nat.le_of_ble_eq_true rfl), (Nat.le_of_ble_eq_true rfl)⟩) (zk_pV hC hP hD hS hA [0, 2, 3, 4] rfl rfl 0 9 rfl rfl) rfl rfl hl.1 rfl (lv_room (Nat.le_of_ble_eq_true rfl)) dL_itemsToRest_4 ⟨(Nat.le_of_ble_eq_true rfl), (Nat.le_of_ble_eq_true rfl)⟩) hP hD hS hA [0, 2, 3, 4] [1] rfl rfl rfl (by decide) (fun u1 H locs hP hD hS => ?_)
  have hP : va_P D vwCl [(a1, .inl (yc 1, 1, .inr (.inl (fun _ => 0)))), (a0, .inr (9, [.ref a2, .ref a3, .int 0, .int 0, .int 0])), (a2, .inr (2, [.int 0, .ref a4, .int 8, .int (-1), .int 0, .int 0, .int 0, .int 0])), (a3, .inr (2, [.int 1, .ref a5, .int 8, .int (-1), .int 0, .int 0, .int 0, .int 0])), (a5, .inr (0, [.int 0, .ref e0, .int 0]))] H := hP
  have hD : va_D A [(a1, .inl (yc 1, 1, .inr (.inl (fun _ => 0)))), (a0, .inr (9, [.ref a2, .ref a3, .int 0, .int 0, .int 0])), (a2, .inr (2, [.int 0, .ref a4, .int 8, .int (-1), .int 0, .int 0, .int 0, .int 0])), (a3, .inr (2, [.int 1, .ref a5, .int 8, .int (-1), .int 0, .int 0, .int 0, .int 0])), (a5, .inr (0, [.int 0, .ref e0, .int 0]))] := hD
  refine W.widen (k := 0) (n := 0) (Nat.le_of_ble_eq_true rfl) (Nat.le_of_ble_eq_true rfl) ?_
  refine lv_i2l (v := 0) hx hb dL_itemsToRest_7 (by decide) ?_
  refine va_last hx hb hK hP hD hS 0 1 rfl rfl (by unfold vp_in; decide) dL_itemsToRest_8 (fun H locs hP hD hS => ?_)
  have hP : va_P D vwCl [(a1, .inl (yc 1, 1, .inr (.inl (vp_updL (fun _ => 0) (0 : Int32).toNatClampNeg 0)))), (a0, .inr (9, [.ref a2, .ref a3, .int 0, .int 0, .int 0])), (a2, .inr (2, [.int 0, .ref a4, .int 8, .int (-1), .int 0, .int 0, .int 0, .int 0])), (a3, .inr (2, [.int 1, .ref a5, .int 8, .int (-1), .int 0, .int 0, .int 0, .int 0])), (a5, .inr (0, [.int 0, .ref e0, .int 0]))] H := hP
  have hD : va_D A [(a1, .inl (yc 1, 1, .inr (.inl (vp_updL (fun _ => 0) (0 : Int32).toNatClampNeg 0)))), (a0, .inr (9, [.ref a2, .ref a3, .int 0, .int 0, .int 0])), (a2, .inr (2, [.int 0, .ref a4, .int 8, .int (-1), .int 0, .int 0, .int 0, .int 0])), (a3, .inr (2, [.int 1, .ref a5, .int 8, .int (-1), .int 0, .int 0, .int 0, .int 0])), (a5, .inr (0, [.int 0, .ref e0, .int 0]))] := hD
  refine lv_goto (tgt := 15) hx hb dL_itemsToRest_9 (by decide) ?_
  refine lv_iconst (v := 0) hx hb dL_itemsToRest_15 (by decide) ?_
  exact zk_ri (r0 := fun u => 0) (w1 := fun u => [(a1, .inl (yc 1, 1, .inr (.inl (vp_updL (fun _ => 0) (0 : Int32).toNatClampNeg 0)))), (a0, .inr (9, [.ref a2, .ref a3, .int 0, .int 0, .int 0])), (a2, .inr (2, [.int 0, .ref a4, .int 8, .int (-1), .int 0, .int 0, .int 0, .int 0])), (a3, .inr (2, [.int 1, .ref a5, .int 8, .int (-1), .int 0, .int 0, .int 0, .int 0])), (a5, .inr (0, [.int 0, .ref e0, .int 0]))]) hx hb hr hlk hP hD hS (fun _ _ => 0) rfl rfl [0, 1, 2, 3, 4] rfl rfl (Nat.le_of_ble_eq_true rfl) (Nat.le_of_ble_eq_true rfl) dL_itemsToRest_16
set_option maxHeartbeats 4000000 in
set_option maxRecDepth 100000 in
theorem kX13_become_0 (l : Launch) (hst : l.stackTraces = false) (D : va_G) (yc : Nat → ClassId) (e0 sz : Nat) (a0 : Nat) (a1 : Nat) (a2 : Nat) (a3 : Nat) (a4 : Nat) (a5 : Nat) (a6 : Nat) (a7 : Nat) (a8 : Nat) (a9 : Nat) (a10 : Nat) (a11 : Nat) (a12 : Nat) (a13 : Nat) (a14 : Nat) (a15 : Nat) (a16 : Nat) (a17 : Nat) (a18 : Nat) (a19 : Nat) (a20 : Nat) (a21 : Nat) (a22 : Nat) (a23 : Nat) (a24 : Nat) (a25 : Nat)  : Met l yX13_become (ws_ yX13_become cX13_become 4 none) ({ frames := 0, cells := 0, slots := 0, locals := 0 }) (PR D yc e0 [(a0, .inr (12, [.int 8, .int (-1), .int 0, .int 0, .int 0, .int 0, .int 0, .ref a2, .ref a3, .ref a4, .ref a5, .ref a6, .ref a7, .ref a8, .ref a9, .ref a10, .ref a11])), (a1, .inr (12, [.int 8, .int (-1), .int 0, .int 0, .int 0, .int 0, .int 0, .ref a12, .ref a13, .ref a14, .ref a15, .ref a16, .ref a17, .ref a18, .ref a19, .ref a20, .ref a11])), (a11, .inr (13, [.int 0, .int 0, .ref a21, .ref a22, .ref a23, .ref a24, .ref a25, .ref a1, .ref a0, .int 0, .long 0]))] sz [.ref a0, .ref a1]) (va_Qv (fun _ => True) (WD D (va_A [(a0, .inr (12, [.int 8, .int (-1), .int 0, .int 0, .int 0, .int 0, .int 0, .ref a2, .ref a3, .ref a4, .ref a5, .ref a6, .ref a7, .ref a8, .ref a9, .ref a10, .ref a11])), (a1, .inr (12, [.int 8, .int (-1), .int 0, .int 0, .int 0, .int 0, .int 0, .ref a12, .ref a13, .ref a14, .ref a15, .ref a16, .ref a17, .ref a18, .ref a19, .ref a20, .ref a11])), (a11, .inr (13, [.int 0, .int 0, .ref a21, .ref a22, .ref a23, .ref a24, .ref a25, .ref a1, .ref a0, .int 0, .long 0]))] sz) (fun u => [(a0, .inr (12, [.int 8, .int (-1), .int 0, .int 0, .int 0, .int 0, .int 0, .ref a2, .ref a3, .ref a4, .ref a5, .ref a6, .ref a7, .ref a8, .ref a9, .ref a10, .ref a11])), (a1, .inr (12, [.int 8, .int (-1), .int 0, .int 0, .int 0, .int 0, .int 0, .ref a12, .ref a13, .ref a14, .ref a15, .ref a16, .ref a17, .ref a18, .ref a19, .ref a20, .ref a11])), (a11, .inr (13, [.int 0, .int 0, .ref a21, .ref a22, .ref a23, .ref a24, .ref a25, .ref a1, .ref a0, .int 0, .long 0]))])) (va_A [(a0, .inr (12, [.int 8, .int (-1), .int 0, .int 0, .int 0, .int 0, .int 0, .ref a2, .ref a3, .ref a4, .ref a5, .ref a6, .ref a7, .ref a8, .ref a9, .ref a10, .ref a11])), (a1, .inr (12, [.int 8, .int (-1), .int 0, .int 0, .int 0, .int 0, .int 0, .ref a12, .ref a13, .ref a14, .ref a15, .ref a16, .ref a17, .ref a18, .ref a19, .ref a20, .ref a11])), (a11, .inr (13, [.int 0, .int 0, .ref a21, .ref a22, .ref a23, .ref a24, .ref a25, .ref a1, .ref a0, .int 0, .long 0]))] sz)) 0 0 (va_A [(a0, .inr (12, [.int 8, .int (-1), .int 0, .int 0, .int 0, .int 0, .int 0, .ref a2, .ref a3, .ref a4, .ref a5, .ref a6, .ref a7, .ref a8, .ref a9, .ref a10, .ref a11])), (a1, .inr (12, [.int 8, .int (-1), .int 0, .int 0, .int 0, .int 0, .int 0, .ref a12, .ref a13, .ref a14, .ref a15, .ref a16, .ref a17, .ref a18, .ref a19, .ref a20, .ref a11])), (a11, .inr (13, [.int 0, .int 0, .ref a21, .ref a22, .ref a23, .ref a24, .ref a25, .ref a1, .ref a0, .int 0, .long 0]))] sz) := by
  refine zk_M (Qc := fun A => va_Qv (fun _ => True) (WD D A (fun u => [(a0, .inr (12, [.int 8, .int (-1), .int 0, .int 0, .int 0, .int 0, .int 0, .ref a2, .ref a3, .ref a4, .ref a5, .ref a6, .ref a7, .ref a8, .ref a9, .ref a10, .ref a11])), (a1, .inr (12, [.int 8, .int (-1), .int 0, .int 0, .int 0, .int 0, .int 0, .ref a12, .ref a13, .ref a14, .ref a15, .ref a16, .ref a17, .ref a18, .ref a19, .ref a20, .ref a11])), (a11, .inr (13, [.int 0, .int 0, .ref a21, .ref a22, .ref a23, .ref a24, .ref a25, .ref a1, .ref a0, .int 0, .long 0]))])) A) (by decide) (Nat.le_of_ble_eq_true rfl) ?_
  intro p e s m args below meth c A ls hx hb hml hr hlk hown hnm hts hP hD hS hA hC hl
  have hK := hC.1
  have hN := hC.2.1
  have hl : lv_has ls 4 [(0, .ref a0), (1, .ref a1)] := hl
  generalize hHH : s.heap = H at hP ⊢
  have hS : va_S A s.heap H [] := by rw [← hHH]; exact hS
  refine lv_aload_n hx hb dX13_become_0 rfl (lv_at hl 0 rfl) ?_
  refine lv_aload_n hx hb dX13_become_1 rfl (lv_at hl 1 rfl) ?_
  refine va_get (D := D) (ci := 12) (v := .int 8) (C := RX13) (T := TX13) (N := 17) hx hb hts iX13 hown hK hP 1 rfl rfl 0 (by decide) (hts _ wq1464) (fun _ h9 => h9) rfl dX13_become_2 ?_
  refine va_put (D := D) (ci := 12) (v := .int 8) (ty := .int) (C := RX13) (T := TX13) (N := 17) hx hb hts iX13 tyX13 tyX13_ok nmX13 hown hK hP hD hS 0 rfl rfl 0 (by decide) (hts _ wq1464) (fun _ h9 => h9) rfl (by decide +kernel) rfl rfl (Nat.le_of_ble_eq_true rfl) dX13_become_5 (fun H locs hP hD hS => ?_)
  have hP : va_P D vwCl [(a0, .inr (12, [.int 8, .int (-1), .int 0, .int 0, .int 0, .int 0, .int 0, .ref a2, .ref a3, .ref a4, .ref a5, .ref a6, .ref a7, .ref a8, .ref a9, .ref a10, .ref a11])), (a1, .inr (12, [.int 8, .int (-1), .int 0, .int 0, .int 0, .int 0, .int 0, .ref a12, .ref a13, .ref a14, .ref a15, .ref a16, .ref a17, .ref a18, .ref a19, .ref a20, .ref a11])), (a11, .inr (13, [.int 0, .int 0, .ref a21, .ref a22, .ref a23, .ref a24, .ref a25, .ref a1, .ref a0, .int 0, .long 0]))] H := hP
  have hD : va_D A [(a0, .inr (12, [.int 8, .int (-1), .int 0, .int 0, .int 0, .int 0, .int 0, .ref a2, .ref a3, .ref a4, .ref a5, .ref a6, .ref a7, .ref a8, .ref a9, .ref a10, .ref a11])), (a1, .inr (12, [.int 8, .int (-1), .int 0, .int 0, .int 0, .int 0, .int 0, .ref a12, .ref a13, .ref a14, .ref a15, .ref a16, .ref a17, .ref a18, .ref a19, .ref a20, .ref a11])), (a11, .inr (13, [.int 0, .int 0, .ref a21, .ref a22, .ref a23, .ref a24, .ref a25, .ref a1, .ref a0, .int 0, .long 0]))] := hD
  refine lv_aload_n hx hb dX13_become_8 rfl (lv_at hl 0 rfl) ?_
  refine lv_aload_n hx hb dX13_become_9 rfl (lv_at hl 1 rfl) ?_
  refine va_get (D := D) (ci := 12) (v := .int (-1)) (C := RX13) (T := TX13) (N := 17) hx hb hts iX13 hown hK hP 1 rfl rfl 1 (by decide) (hts _ wq1466) (fun _ h9 => h9) rfl dX13_become_10 ?_
  refine va_put (D := D) (ci := 12) (v := .int (-1)) (ty := .int) (C := RX13) (T := TX13) (N := 17) hx hb hts iX13 tyX13 tyX13_ok nmX13 hown hK hP hD hS 0 rfl rfl 1 (by decide) (hts _ wq1466) (fun _ h9 => h9) rfl (by decide +kernel) rfl rfl (Nat.le_of_ble_eq_true rfl) dX13_become_13 (fun H locs hP hD hS => ?_)
  have hP : va_P D vwCl [(a0, .inr (12, [.int 8, .int (-1), .int 0, .int 0, .int 0, .int 0, .int 0, .ref a2, .ref a3, .ref a4, .ref a5, .ref a6, .ref a7, .ref a8, .ref a9, .ref a10, .ref a11])), (a1, .inr (12, [.int 8, .int (-1), .int 0, .int 0, .int 0, .int 0, .int 0, .ref a12, .ref a13, .ref a14, .ref a15, .ref a16, .ref a17, .ref a18, .ref a19, .ref a20, .ref a11])), (a11, .inr (13, [.int 0, .int 0, .ref a21, .ref a22, .ref a23, .ref a24, .ref a25, .ref a1, .ref a0, .int 0, .long 0]))] H := hP
  have hD : va_D A [(a0, .inr (12, [.int 8, .int (-1), .int 0, .int 0, .int 0, .int 0, .int 0, .ref a2, .ref a3, .ref a4, .ref a5, .ref a6, .ref a7, .ref a8, .ref a9, .ref a10, .ref a11])), (a1, .inr (12, [.int 8, .int (-1), .int 0, .int 0, .int 0, .int 0, .int 0, .ref a12, .ref a13, .ref a14, .ref a15, .ref a16, .ref a17, .ref a18, .ref a19, .ref a20, .ref a11])), (a11, .inr (13, [.int 0, .int 0, .ref a21, .ref a22, .ref a23, .ref a24, .ref a25, .ref a1, .ref a0, .int 0, .long 0]))] := hD
  refine lv_aload_n hx hb dX13_become_16 rfl (lv_at hl 0 rfl) ?_
  refine lv_aload_n hx hb dX13_become_17 rfl (lv_at hl 1 rfl) ?_
  refine va_get (D := D) (ci := 12) (v := .int 0) (C := RX13) (T := TX13) (N := 17) hx hb hts iX13 hown hK hP 1 rfl rfl 2 (by decide) (hts _ wq1467) (fun _ h9 => h9) rfl dX13_become_18 ?_
  refine va_put (D := D) (ci := 12) (v := .int 0) (ty := .int) (C := RX13) (T := TX13) (N := 17) hx hb hts iX13 tyX13 tyX13_ok nmX13 hown hK hP hD hS 0 rfl rfl 2 (by decide) (hts _ wq1467) (fun _ h9 => h9) rfl (by decide +kernel) rfl rfl (Nat.le_of_ble_eq_true rfl) dX13_become_21 (fun H locs hP hD hS => ?_)
  have hP : va_P D vwCl [(a0, .inr (12, [.int 8, .int (-1), .int 0, .int 0, .int 0, .int 0, .int 0, .ref a2, .ref a3, .ref a4, .ref a5, .ref a6, .ref a7, .ref a8, .ref a9, .ref a10, .ref a11])), (a1, .inr (12, [.int 8, .int (-1), .int 0, .int 0, .int 0, .int 0, .int 0, .ref a12, .ref a13, .ref a14, .ref a15, .ref a16, .ref a17, .ref a18, .ref a19, .ref a20, .ref a11])), (a11, .inr (13, [.int 0, .int 0, .ref a21, .ref a22, .ref a23, .ref a24, .ref a25, .ref a1, .ref a0, .int 0, .long 0]))] H := hP
  have hD : va_D A [(a0, .inr (12, [.int 8, .int (-1), .int 0, .int 0, .int 0, .int 0, .int 0, .ref a2, .ref a3, .ref a4, .ref a5, .ref a6, .ref a7, .ref a8, .ref a9, .ref a10, .ref a11])), (a1, .inr (12, [.int 8, .int (-1), .int 0, .int 0, .int 0, .int 0, .int 0, .ref a12, .ref a13, .ref a14, .ref a15, .ref a16, .ref a17, .ref a18, .ref a19, .ref a20, .ref a11])), (a11, .inr (13, [.int 0, .int 0, .ref a21, .ref a22, .ref a23, .ref a24, .ref a25, .ref a1, .ref a0, .int 0, .long 0]))] := hD
  refine lv_aload_n hx hb dX13_become_24 rfl (lv_at hl 0 rfl) ?_
  refine lv_aload_n hx hb dX13_become_25 rfl (lv_at hl 1 rfl) ?_
  refine va_get (D := D) (ci := 12) (v := .int 0) (C := RX13) (T := TX13) (N := 17) hx hb hts iX13 hown hK hP 1 rfl rfl 3 (by decide) (hts _ wq1469) (fun _ h9 => h9) rfl dX13_become_26 ?_
  refine va_put (D := D) (ci := 12) (v := .int 0) (ty := .int) (C := RX13) (T := TX13) (N := 17) hx hb hts iX13 tyX13 tyX13_ok nmX13 hown hK hP hD hS 0 rfl rfl 3 (by decide) (hts _ wq1469) (fun _ h9 => h9) rfl (by decide +kernel) rfl rfl (Nat.le_of_ble_eq_true rfl) dX13_become_29 (fun H locs hP hD hS => ?_)
  have hP : va_P D vwCl [(a0, .inr (12, [.int 8, .int (-1), .int 0, .int 0, .int 0, .int 0, .int 0, .ref a2, .ref a3, .ref a4, .ref a5, .ref a6, .ref a7, .ref a8, .ref a9, .ref a10, .ref a11])), (a1, .inr (12, [.int 8, .int (-1), .int 0, .int 0, .int 0, .int 0, .int 0, .ref a12, .ref a13, .ref a14, .ref a15, .ref a16, .ref a17, .ref a18, .ref a19, .ref a20, .ref a11])), (a11, .inr (13, [.int 0, .int 0, .ref a21, .ref a22, .ref a23, .ref a24, .ref a25, .ref a1, .ref a0, .int 0, .long 0]))] H := hP
  have hD : va_D A [(a0, .inr (12, [.int 8, .int (-1), .int 0, .int 0, .int 0, .int 0, .int 0, .ref a2, .ref a3, .ref a4, .ref a5, .ref a6, .ref a7, .ref a8, .ref a9, .ref a10, .ref a11])), (a1, .inr (12, [.int 8, .int (-1), .int 0, .int 0, .int 0, .int 0, .int 0, .ref a12, .ref a13, .ref a14, .ref a15, .ref a16, .ref a17, .ref a18, .ref a19, .ref a20, .ref a11])), (a11, .inr (13, [.int 0, .int 0, .ref a21, .ref a22, .ref a23, .ref a24, .ref a25, .ref a1, .ref a0, .int 0, .long 0]))] := hD
  refine lv_aload_n hx hb dX13_become_32 rfl (lv_at hl 0 rfl) ?_
  refine lv_aload_n hx hb dX13_become_33 rfl (lv_at hl 1 rfl) ?_
  refine va_get (D := D) (ci := 12) (v := .int 0) (C := RX13) (T := TX13) (N := 17) hx hb hts iX13 hown hK hP 1 rfl rfl 4 (by decide) (hts _ wq1471) (fun _ h9 => h9) rfl dX13_become_34 ?_
  refine va_put (D := D) (ci := 12) (v := .int 0) (ty := .int) (C := RX13) (T := TX13) (N := 17) hx hb hts iX13 tyX13 tyX13_ok nmX13 hown hK hP hD hS 0 rfl rfl 4 (by decide) (hts _ wq1471) (fun _ h9 => h9) rfl (by decide +kernel) rfl rfl (Nat.le_of_ble_eq_true rfl) dX13_become_37 (fun H locs hP hD hS => ?_)
  have hP : va_P D vwCl [(a0, .inr (12, [.int 8, .int (-1), .int 0, .int 0, .int 0, .int 0, .int 0, .ref a2, .ref a3, .ref a4, .ref a5, .ref a6, .ref a7, .ref a8, .ref a9, .ref a10, .ref a11])), (a1, .inr (12, [.int 8, .int (-1), .int 0, .int 0, .int 0, .int 0, .int 0, .ref a12, .ref a13, .ref a14, .ref a15, .ref a16, .ref a17, .ref a18, .ref a19, .ref a20, .ref a11])), (a11, .inr (13, [.int 0, .int 0, .ref a21, .ref a22, .ref a23, .ref a24, .ref a25, .ref a1, .ref a0, .int 0, .long 0]))] H := hP
  have hD : va_D A [(a0, .inr (12, [.int 8, .int (-1), .int 0, .int 0, .int 0, .int 0, .int 0, .ref a2, .ref a3, .ref a4, .ref a5, .ref a6, .ref a7, .ref a8, .ref a9, .ref a10, .ref a11])), (a1, .inr (12, [.int 8, .int (-1), .int 0, .int 0, .int 0, .int 0, .int 0, .ref a12, .ref a13, .ref a14, .ref a15, .ref a16, .ref a17, .ref a18, .ref a19, .ref a20, .ref a11])), (a11, .inr (13, [.int 0, .int 0, .ref a21, .ref a22, .ref a23, .ref a24, .ref a25, .ref a1, .ref a0, .int 0, .long 0]))] := hD
  refine lv_aload_n hx hb dX13_become_40 rfl (lv_at hl 0 rfl) ?_
  refine lv_aload_n hx hb dX13_become_41 rfl (lv_at hl 1 rfl) ?_
  refine va_get (D := D) (ci := 12) (v := .int 0) (C := RX13) (T := TX13) (N := 17) hx hb hts iX13 hown hK hP 1 rfl rfl 5 (by decide) (hts _ wq1472) (fun _ h9 => h9) rfl dX13_become_42 ?_
  refine va_put (D := D) (ci := 12) (v := .int 0) (ty := .int) (C := RX13) (T := TX13) (N := 17) hx hb hts iX13 tyX13 tyX13_ok nmX13 hown hK hP hD hS 0 rfl rfl 5 (by decide) (hts _ wq1472) (fun _ h9 => h9) rfl (by decide +kernel) rfl rfl (Nat.le_of_ble_eq_true rfl) dX13_become_45 (fun H locs hP hD hS => ?_)
  have hP : va_P D vwCl [(a0, .inr (12, [.int 8, .int (-1), .int 0, .int 0, .int 0, .int 0, .int 0, .ref a2, .ref a3, .ref a4, .ref a5, .ref a6, .ref a7, .ref a8, .ref a9, .ref a10, .ref a11])), (a1, .inr (12, [.int 8, .int (-1), .int 0, .int 0, .int 0, .int 0, .int 0, .ref a12, .ref a13, .ref a14, .ref a15, .ref a16, .ref a17, .ref a18, .ref a19, .ref a20, .ref a11])), (a11, .inr (13, [.int 0, .int 0, .ref a21, .ref a22, .ref a23, .ref a24, .ref a25, .ref a1, .ref a0, .int 0, .long 0]))] H := hP
  have hD : va_D A [(a0, .inr (12, [.int 8, .int (-1), .int 0, .int 0, .int 0, .int 0, .int 0, .ref a2, .ref a3, .ref a4, .ref a5, .ref a6, .ref a7, .ref a8, .ref a9, .ref a10, .ref a11])), (a1, .inr (12, [.int 8, .int (-1), .int 0, .int 0, .int 0, .int 0, .int 0, .ref a12, .ref a13, .ref a14, .ref a15, .ref a16, .ref a17, .ref a18, .ref a19, .ref a20, .ref a11])), (a11, .inr (13, [.int 0, .int 0, .ref a21, .ref a22, .ref a23, .ref a24, .ref a25, .ref a1, .ref a0, .int 0, .long 0]))] := hD
  refine lv_aload_n hx hb dX13_become_48 rfl (lv_at hl 0 rfl) ?_
  refine lv_aload_n hx hb dX13_become_49 rfl (lv_at hl 1 rfl) ?_
  refine va_get (D := D) (ci := 12) (v := .int 0) (C := RX13) (T := TX13) (N := 17) hx hb hts iX13 hown hK hP 1 rfl rfl 6 (by decide) (hts _ wq1474) (fun _ h9 => h9) rfl dX13_become_50 ?_
  refine va_put (D := D) (ci := 12) (v := .int 0) (ty := .int) (C := RX13) (T := TX13) (N := 17) hx hb hts iX13 tyX13 tyX13_ok nmX13 hown hK hP hD hS 0 rfl rfl 6 (by decide) (hts _ wq1474) (fun _ h9 => h9) rfl (by decide +kernel) rfl rfl (Nat.le_of_ble_eq_true rfl) dX13_become_53 (fun H locs hP hD hS => ?_)
  have hP : va_P D vwCl [(a0, .inr (12, [.int 8, .int (-1), .int 0, .int 0, .int 0, .int 0, .int 0, .ref a2, .ref a3, .ref a4, .ref a5, .ref a6, .ref a7, .ref a8, .ref a9, .ref a10, .ref a11])), (a1, .inr (12, [.int 8, .int (-1), .int 0, .int 0, .int 0, .int 0, .int 0, .ref a12, .ref a13, .ref a14, .ref a15, .ref a16, .ref a17, .ref a18, .ref a19, .ref a20, .ref a11])), (a11, .inr (13, [.int 0, .int 0, .ref a21, .ref a22, .ref a23, .ref a24, .ref a25, .ref a1, .ref a0, .int 0, .long 0]))] H := hP
  have hD : va_D A [(a0, .inr (12, [.int 8, .int (-1), .int 0, .int 0, .int 0, .int 0, .int 0, .ref a2, .ref a3, .ref a4, .ref a5, .ref a6, .ref a7, .ref a8, .ref a9, .ref a10, .ref a11])), (a1, .inr (12, [.int 8, .int (-1), .int 0, .int 0, .int 0, .int 0, .int 0, .ref a12, .ref a13, .ref a14, .ref a15, .ref a16, .ref a17, .ref a18, .ref a19, .ref a20, .ref a11])), (a11, .inr (13, [.int 0, .int 0, .ref a21, .ref a22, .ref a23, .ref a24, .ref a25, .ref a1, .ref a0, .int 0, .long 0]))] := hD
  refine lv_iconst (v := 0) hx hb dX13_become_56 (by decide) ?_
  refine lv_istore_n (lv' := [(2, .int 0), (0, .ref a0), (1, .ref a1)]) hx hb dX13_become_57 rfl hl (by decide) rfl (fun ls hl => ?_)
  refine lv_iload_n hx hb dX13_become_58 rfl (lv_at hl 0 rfl) ?_
  refine lv_aload_n hx hb dX13_become_59 rfl (lv_at hl 1 rfl) ?_
  refine va_get (D := D) (ci := 12) (v := .ref a11) (C := RX13) (T := TX13) (N := 17) hx hb hts iX13 hown hK hP 0 rfl rfl 16 (by decide) (hts _ wq1491) (fun _ h9 => h9) rfl dX13_become_60 ?_
  refine va_getN (D := D) (ci := 13) (v := .int 0) (C := RX14) (T := TX14) (N := 11) hx hb hts iX14 hown hK hP 2 rfl rfl 0 (by decide) (zk_tab rfl (hN _ wr1527 rfl)) (fun _ h9 => h9) rfl dX13_become_63 ?_
  refine lv_icmp_ge (tgt := 219) hx hb dX13_become_66 (by decide) (fun _ => ?_) (fun h9 => absurd (by decide) h9)
  exact zk_rv (w1 := fun u => [(a0, .inr (12, [.int 8, .int (-1), .int 0, .int 0, .int 0, .int 0, .int 0, .ref a2, .ref a3, .ref a4, .ref a5, .ref a6, .ref a7, .ref a8, .ref a9, .ref a10, .ref a11])), (a1, .inr (12, [.int 8, .int (-1), .int 0, .int 0, .int 0, .int 0, .int 0, .ref a12, .ref a13, .ref a14, .ref a15, .ref a16, .ref a17, .ref a18, .ref a19, .ref a20, .ref a11])), (a11, .inr (13, [.int 0, .int 0, .ref a21, .ref a22, .ref a23, .ref a24, .ref a25, .ref a1, .ref a0, .int 0, .long 0]))]) hx hb hr hlk hP hD hS (fun _ _ => 0) [0, 1, 2] rfl rfl (Nat.le_of_ble_eq_true rfl) (Nat.le_of_ble_eq_true rfl) dX13_become_219
set_option maxHeartbeats 4000000 in
set_option maxRecDepth 100000 in
theorem kX14_itemsToRest_2 (l : Launch) (hst : l.stackTraces = false) (D : va_G) (yc : Nat → ClassId) (e0 sz : Nat) (a0 : Nat) (p0 : Int32) (a1 : Nat) (a2 : Nat) (a3 : Nat) (a4 : Nat) (a5 : Nat) (a6 : Nat) (a7 : Nat) (a8 : Nat) (a9 : Nat) (a10 : Nat) (a11 : Nat) (a12 : Nat) (a13 : Nat) (a14 : Nat) (a15 : Nat) (a16 : Nat) (a17 : Nat) (a18 : Nat) (a19 : Nat) (a20 : Nat) (a21 : Nat) (a22 : Nat) (a23 : Nat) (a24 : Nat) (a25 : Nat) (h0 : ¬ p0 < 1) (h1 : ¬ 200 < p0) : Met l yX14_itemsToRest (ws_ yX14_itemsToRest cX14_itemsToRest 3 (some .int)) ({ frames := 1, cells := 0, slots := 0, locals := 23 }) (PR D yc e0 [(a0, .inr (13, [.int 0, .int 0, .ref a1, .ref a2, .ref a3, .ref a4, .ref a5, .ref a6, .ref a7, .int 0, .long 0])), (a6, .inr (12, [.int 8, .int (-1), .int 0, .int 0, .int 0, .int 0, .int 0, .ref a8, .ref a9, .ref a10, .ref a11, .ref a12, .ref a13, .ref a14, .ref a15, .ref a16, .ref a0])), (a7, .inr (12, [.int 8, .int (-1), .int 0, .int 0, .int 0, .int 0, .int 0, .ref a17, .ref a18, .ref a19, .ref a20, .ref a21, .ref a22, .ref a23, .ref a24, .ref a25, .ref a0]))] sz [.ref a0, .int p0]) (va_Qi (fun r u => r = (fun u : Nat → Nat → Nat => 0) u) (WD D (va_A [(a0, .inr (13, [.int 0, .int 0, .ref a1, .ref a2, .ref a3, .ref a4, .ref a5, .ref a6, .ref a7, .int 0, .long 0])), (a6, .inr (12, [.int 8, .int (-1), .int 0, .int 0, .int 0, .int 0, .int 0, .ref a8, .ref a9, .ref a10, .ref a11, .ref a12, .ref a13, .ref a14, .ref a15, .ref a16, .ref a0])), (a7, .inr (12, [.int 8, .int (-1), .int 0, .int 0, .int 0, .int 0, .int 0, .ref a17, .ref a18, .ref a19, .ref a20, .ref a21, .ref a22, .ref a23, .ref a24, .ref a25, .ref a0]))] sz) (fun u => [(a7, .inr (12, [.int 8, .int (-1), .int 0, .int 0, .int 0, .int 0, .int 0, .ref a17, .ref a18, .ref a19, .ref a20, .ref a21, .ref a22, .ref a23, .ref a24, .ref a25, .ref a0])), (a6, .inr (12, [.int 8, .int (-1), .int 0, .int 0, .int 0, .int 0, .int 0, .ref a8, .ref a9, .ref a10, .ref a11, .ref a12, .ref a13, .ref a14, .ref a15, .ref a16, .ref a0])), (a0, .inr (13, [.int 0, .int 0, .ref a1, .ref a2, .ref a3, .ref a4, .ref a5, .ref a6, .ref a7, .int 0, .long 0]))])) (va_A [(a0, .inr (13, [.int 0, .int 0, .ref a1, .ref a2, .ref a3, .ref a4, .ref a5, .ref a6, .ref a7, .int 0, .long 0])), (a6, .inr (12, [.int 8, .int (-1), .int 0, .int 0, .int 0, .int 0, .int 0, .ref a8, .ref a9, .ref a10, .ref a11, .ref a12, .ref a13, .ref a14, .ref a15, .ref a16, .ref a0])), (a7, .inr (12, [.int 8, .int (-1), .int 0, .int 0, .int 0, .int 0, .int 0, .ref a17, .ref a18, .ref a19, .ref a20, .ref a21, .ref a22, .ref a23, .ref a24, .ref a25, .ref a0]))] sz)) 0 0 (va_A [(a0, .inr (13, [.int 0, .int 0, .ref a1, .ref a2, .ref a3, .ref a4, .ref a5, .ref a6, .ref a7, .int 0, .long 0])), (a6, .inr (12, [.int 8, .int (-1), .int 0, .int 0, .int 0, .int 0, .int 0, .ref a8, .ref a9, .ref a10, .ref a11, .ref a12, .ref a13, .ref a14, .ref a15, .ref a16, .ref a0])), (a7, .inr (12, [.int 8, .int (-1), .int 0, .int 0, .int 0, .int 0, .int 0, .ref a17, .ref a18, .ref a19, .ref a20, .ref a21, .ref a22, .ref a23, .ref a24, .ref a25, .ref a0]))] sz) := by
  refine zk_M (Qc := fun A => va_Qi (fun r u => r = (fun u : Nat → Nat → Nat => 0) u) (WD D A (fun u => [(a7, .inr (12, [.int 8, .int (-1), .int 0, .int 0, .int 0, .int 0, .int 0, .ref a17, .ref a18, .ref a19, .ref a20, .ref a21, .ref a22, .ref a23, .ref a24, .ref a25, .ref a0])), (a6, .inr (12, [.int 8, .int (-1), .int 0, .int 0, .int 0, .int 0, .int 0, .ref a8, .ref a9, .ref a10, .ref a11, .ref a12, .ref a13, .ref a14, .ref a15, .ref a16, .ref a0])), (a0, .inr (13, [.int 0, .int 0, .ref a1, .ref a2, .ref a3, .ref a4, .ref a5, .ref a6, .ref a7, .int 0, .long 0]))])) A) (by decide) (Nat.le_of_ble_eq_true rfl) ?_
  intro p e s m args below meth c A ls hx hb hml hr hlk hown hnm hts hP hD hS hA hC hl
  have hK := hC.1
  have hN := hC.2.1
  have hl : lv_has ls 3 [(0, .ref a0), (1, .int p0)] := hl
  generalize hHH : s.heap = H at hP ⊢
  have hS : va_S A s.heap H [] := by rw [← hHH]; exact hS
  refine lv_aload_n hx hb dX14_itemsToRest_0 rfl (lv_at hl 0 rfl) ?_
  refine lv_iconst (v := 0) hx hb dX14_itemsToRest_1 (by decide) ?_
  refine va_put (D := D) (ci := 13) (v := .int 0) (ty := .int) (C := RX14) (T := TX14) (N := 11) hx hb hts iX14 tyX14 tyX14_ok nmX14 hown hK hP hD hS 0 rfl rfl 9 (by decide) (hts _ wq1542) (fun _ h9 => h9) rfl (by decide +kernel) rfl rfl (Nat.le_of_ble_eq_true rfl) dX14_itemsToRest_2 (fun H locs hP hD hS => ?_)
  have hP : va_P D vwCl [(a0, .inr (13, [.int 0, .int 0, .ref a1, .ref a2, .ref a3, .ref a4, .ref a5, .ref a6, .ref a7, .int 0, .long 0])), (a6, .inr (12, [.int 8, .int (-1), .int 0, .int 0, .int 0, .int 0, .int 0, .ref a8, .ref a9, .ref a10, .ref a11, .ref a12, .ref a13, .ref a14, .ref a15, .ref a16, .ref a0])), (a7, .inr (12, [.int 8, .int (-1), .int 0, .int 0, .int 0, .int 0, .int 0, .ref a17, .ref a18, .ref a19, .ref a20, .ref a21, .ref a22, .ref a23, .ref a24, .ref a25, .ref a0]))] H := hP
  have hD : va_D A [(a0, .inr (13, [.int 0, .int 0, .ref a1, .ref a2, .ref a3, .ref a4, .ref a5, .ref a6, .ref a7, .int 0, .long 0])), (a6, .inr (12, [.int 8, .int (-1), .int 0, .int 0, .int 0, .int 0, .int 0, .ref a8, .ref a9, .ref a10, .ref a11, .ref a12, .ref a13, .ref a14, .ref a15, .ref a16, .ref a0])), (a7, .inr (12, [.int 8, .int (-1), .int 0, .int 0, .int 0, .int 0, .int 0, .ref a17, .ref a18, .ref a19, .ref a20, .ref a21, .ref a22, .ref a23, .ref a24, .ref a25, .ref a0]))] := hD
  refine lv_iload_n hx hb dX14_itemsToRest_5 rfl (lv_at hl 1 rfl) ?_
  refine lv_iconst (v := 1) hx hb dX14_itemsToRest_6 (by decide) ?_
  refine lv_sipush (v := 200) hx hb dX14_itemsToRest_7 (by decide) ?_
  refine zk_i (wr := [(a0, .inr (13, [.int 0, .int 0, .ref a1, .ref a2, .ref a3, .ref a4, .ref a5, .ref a6, .ref a7, .int 0, .long 0])), (a6, .inr (12, [.int 8, .int (-1), .int 0, .int 0, .int 0, .int 0, .int 0, .ref a8, .ref a9, .ref a10, .ref a11, .ref a12, .ref a13, .ref a14, .ref a15, .ref a16, .ref a0])), (a7, .inr (12, [.int 8, .int (-1), .int 0, .int 0, .int 0, .int 0, .int 0, .ref a17, .ref a18, .ref a19, .ref a20, .ref a21, .ref a22, .ref a23, .ref a24, .ref a25, .ref a0]))]) (va_runS (As := [.int p0, .int 1, .int 200]) (rest := []) ⟨hx, hb, hml, hown, hts⟩ (kX14_is_9 l hst D yc e0 H.size p0 h0 h1) (va_cwS 3 hts (lw_S wq1575 wq1576 wq6 wq1577) rfl rfl rfl (by decide +kernel) ⟨(Nat.le_of_ble_eq_true rfl), (Nat.le_of_ble_eq_true rfl)⟩) (zk_pS hC hP hD hS hA [] rfl rfl) rfl rfl hl.1 rfl (lv_room (Nat.le_of_ble_eq_true rfl)) dX14_itemsToRest_10 ⟨(Nat.le_of_ble_eq_true rfl), (Nat.le_of_ble_eq_true rfl)⟩) hP hD hS hA [] [0, 1, 2] rfl rfl rfl (by decide) (fun u1 H locs hP hD hS => ?_)
  have hP : va_P D vwCl [(a0, .inr (13, [.int 0, .int 0, .ref a1, .ref a2, .ref a3, .ref a4, .ref a5, .ref a6, .ref a7, .int 0, .long 0])), (a6, .inr (12, [.int 8, .int (-1), .int 0, .int 0, .int 0, .int 0, .int 0, .ref a8, .ref a9, .ref a10, .ref a11, .ref a12, .ref a13, .ref a14, .ref a15, .ref a16, .ref a0])), (a7, .inr (12, [.int 8, .int (-1), .int 0, .int 0, .int 0, .int 0, .int 0, .ref a17, .ref a18, .ref a19, .ref a20, .ref a21, .ref a22, .ref a23, .ref a24, .ref a25, .ref a0]))] H := hP
  have hD : va_D A [(a0, .inr (13, [.int 0, .int 0, .ref a1, .ref a2, .ref a3, .ref a4, .ref a5, .ref a6, .ref a7, .int 0, .long 0])), (a6, .inr (12, [.int 8, .int (-1), .int 0, .int 0, .int 0, .int 0, .int 0, .ref a8, .ref a9, .ref a10, .ref a11, .ref a12, .ref a13, .ref a14, .ref a15, .ref a16, .ref a0])), (a7, .inr (12, [.int 8, .int (-1), .int 0, .int 0, .int 0, .int 0, .int 0, .ref a17, .ref a18, .ref a19, .ref a20, .ref a21, .ref a22, .ref a23, .ref a24, .ref a25, .ref a0]))] := hD
  refine W.widen (k := 0) (n := 0) (Nat.le_of_ble_eq_true rfl) (Nat.le_of_ble_eq_true rfl) ?_
  refine lv_if_ne (tgt := 22) hx hb dX14_itemsToRest_13 (by decide) (fun _ => ?_) (fun h9 => absurd h9 (by decide))
  refine lv_aload_n hx hb dX14_itemsToRest_22 rfl (lv_at hl 0 rfl) ?_
  refine va_get (D := D) (ci := 13) (v := .ref a7) (C := RX14) (T := TX14) (N := 11) hx hb hts iX14 hown hK hP 0 rfl rfl 8 (by decide) (hts _ wq1541) (fun _ h9 => h9) rfl dX14_itemsToRest_23 ?_
  refine lv_aload_n hx hb dX14_itemsToRest_26 rfl (lv_at hl 0 rfl) ?_
  refine va_get (D := D) (ci := 13) (v := .ref a6) (C := RX14) (T := TX14) (N := 11) hx hb hts iX14 hown hK hP 0 rfl rfl 7 (by decide) (hts _ wq1540) (fun _ h9 => h9) rfl dX14_itemsToRest_27 ?_
  refine zk_v (wr := []) (va_runV (As := [.ref a6]) (rest := []) ⟨hx, hb, hml, hown, hts⟩ (kX13_become_0 l hst D yc e0 H.size a7 a6 a17 a18 a19 a20 a21 a22 a23 a24 a25 a0 a8 a9 a10 a11 a12 a13 a14 a15 a16 a1 a2 a3 a4 a5) (cwV 1 hts (lw_V wq2004 wq2005 wq2006 wq7 wq2007) rfl rfl rfl (by decide +kernel) ⟨(Nat.le_of_ble_eq_true rfl), (Nat.le_of_ble_eq_true rfl)⟩) (zk_pV hC hP hD hS hA [2, 1, 0] rfl rfl 2 12 rfl rfl) rfl rfl hl.1 rfl (lv_room (Nat.le_of_ble_eq_true rfl)) dX14_itemsToRest_30 ⟨(Nat.le_of_ble_eq_true rfl), (Nat.le_of_ble_eq_true rfl)⟩) hP hD hS hA [2, 1, 0] [] rfl rfl rfl (by decide) (fun u2 H locs hP hD hS => ?_)
  have hP : va_P D vwCl [(a7, .inr (12, [.int 8, .int (-1), .int 0, .int 0, .int 0, .int 0, .int 0, .ref a17, .ref a18, .ref a19, .ref a20, .ref a21, .ref a22, .ref a23, .ref a24, .ref a25, .ref a0])), (a6, .inr (12, [.int 8, .int (-1), .int 0, .int 0, .int 0, .int 0, .int 0, .ref a8, .ref a9, .ref a10, .ref a11, .ref a12, .ref a13, .ref a14, .ref a15, .ref a16, .ref a0])), (a0, .inr (13, [.int 0, .int 0, .ref a1, .ref a2, .ref a3, .ref a4, .ref a5, .ref a6, .ref a7, .int 0, .long 0]))] H := hP
  have hD : va_D A [(a7, .inr (12, [.int 8, .int (-1), .int 0, .int 0, .int 0, .int 0, .int 0, .ref a17, .ref a18, .ref a19, .ref a20, .ref a21, .ref a22, .ref a23, .ref a24, .ref a25, .ref a0])), (a6, .inr (12, [.int 8, .int (-1), .int 0, .int 0, .int 0, .int 0, .int 0, .ref a8, .ref a9, .ref a10, .ref a11, .ref a12, .ref a13, .ref a14, .ref a15, .ref a16, .ref a0])), (a0, .inr (13, [.int 0, .int 0, .ref a1, .ref a2, .ref a3, .ref a4, .ref a5, .ref a6, .ref a7, .int 0, .long 0]))] := hD
  refine W.widen (k := 0) (n := 0) (Nat.le_of_ble_eq_true rfl) (Nat.le_of_ble_eq_true rfl) ?_
  refine lv_aload_n hx hb dX14_itemsToRest_33 rfl (lv_at hl 0 rfl) ?_
  refine va_get (D := D) (ci := 13) (v := .int 0) (C := RX14) (T := TX14) (N := 11) hx hb hts iX14 hown hK hP 2 rfl rfl 1 (by decide) (hts _ wq1529) (fun _ h9 => h9) rfl dX14_itemsToRest_34 ?_
  refine lv_if_eq (tgt := 51) hx hb dX14_itemsToRest_37 (by decide) (fun _ => ?_) (fun h9 => absurd (by decide) h9)
  refine lv_iconst (v := 0) hx hb dX14_itemsToRest_51 (by decide) ?_
  refine lv_istore_n (lv' := [(2, .int 0), (0, .ref a0), (1, .int p0)]) hx hb dX14_itemsToRest_52 rfl hl (by decide) rfl (fun ls hl => ?_)
  refine lv_aload_n hx hb dX14_itemsToRest_53 rfl (lv_at hl 1 rfl) ?_
  refine va_get (D := D) (ci := 13) (v := .int 0) (C := RX14) (T := TX14) (N := 11) hx hb hts iX14 hown hK hP 2 rfl rfl 1 (by decide) (hts _ wq1529) (fun _ h9 => h9) rfl dX14_itemsToRest_54 ?_
  refine lv_if_eq (tgt := 75) hx hb dX14_itemsToRest_57 (by decide) (fun _ => ?_) (fun h9 => absurd (by decide) h9)
  refine lv_iload_n hx hb dX14_itemsToRest_75 rfl (lv_at hl 0 rfl) ?_
  exact zk_ri (r0 := fun u => 0) (w1 := fun u => [(a7, .inr (12, [.int 8, .int (-1), .int 0, .int 0, .int 0, .int 0, .int 0, .ref a17, .ref a18, .ref a19, .ref a20, .ref a21, .ref a22, .ref a23, .ref a24, .ref a25, .ref a0])), (a6, .inr (12, [.int 8, .int (-1), .int 0, .int 0, .int 0, .int 0, .int 0, .ref a8, .ref a9, .ref a10, .ref a11, .ref a12, .ref a13, .ref a14, .ref a15, .ref a16, .ref a0])), (a0, .inr (13, [.int 0, .int 0, .ref a1, .ref a2, .ref a3, .ref a4, .ref a5, .ref a6, .ref a7, .int 0, .long 0]))]) hx hb hr hlk hP hD hS (fun _ _ => 0) rfl rfl [0, 1, 2] rfl rfl (Nat.le_of_ble_eq_true rfl) (Nat.le_of_ble_eq_true rfl) dX14_itemsToRest_76
set_option maxHeartbeats 4000000 in
set_option maxRecDepth 100000 in
theorem kX10_outputsIn_0 (l : Launch) (hst : l.stackTraces = false) (D : va_G) (yc : Nat → ClassId) (e0 sz : Nat) (a0 : Nat) (p0 : Int32) (p1 : Int32) (a1 : Nat) (a2 : Nat) (a3 : Nat)  : vx_Met l yX10_outputsIn (ws_ yX10_outputsIn cX10_outputsIn 6 (some .int)) ({ frames := 8, cells := 1, slots := 6, locals := 125 }) (PR D yc e0 [(a0, .inr (9, [.ref a1, .ref a2, .int 0, .int 0, .int 0])), (a1, .inr (2, [.int 0, .ref a3, .int 8, .int (-1), .int 0, .int 0, .int 0, .int 0])), (a3, .inr (0, [.int 0, .ref e0, .int 0]))] sz [.ref a0, .int p0, .int p1]) (fun _ _ _ _ => False) (zk_X D (va_A [(a0, .inr (9, [.ref a1, .ref a2, .int 0, .int 0, .int 0])), (a1, .inr (2, [.int 0, .ref a3, .int 8, .int (-1), .int 0, .int 0, .int 0, .int 0])), (a3, .inr (0, [.int 0, .ref e0, .int 0]))] sz) "java/lang/IndexOutOfBoundsException" (fun u => [(a0, .inr (9, [.ref a1, .ref a2, .int 0, .int 0, .int 0])), (a1, .inr (2, [.int 0, .ref a3, .int 8, .int (-1), .int 0, .int 0, .int 0, .int 0])), (a3, .inr (0, [.int 0, .ref e0, .int 0]))])) 1 6 (va_A [(a0, .inr (9, [.ref a1, .ref a2, .int 0, .int 0, .int 0])), (a1, .inr (2, [.int 0, .ref a3, .int 8, .int (-1), .int 0, .int 0, .int 0, .int 0])), (a3, .inr (0, [.int 0, .ref e0, .int 0]))] sz) := by
  refine zk_MX (by decide) (Nat.le_of_ble_eq_true rfl) ?_
  intro p e s m args below meth c A ls hx hb hml hr hlk hown hnm hts hP hD hS hA hC hl hnx
  have hK := hC.1
  have hN := hC.2.1
  have hl : lv_has ls 6 [(0, .ref a0), (1, .int p0), (2, .int p1)] := hl
  generalize hHH : s.heap = H at hP ⊢
  have hS : va_S A s.heap H [] := by rw [← hHH]; exact hS
  refine W.widen (k := 0) (n := 0) (Nat.le_of_ble_eq_true rfl) (Nat.le_of_ble_eq_true rfl) ?_
  refine lv_aload_n hx hb dX10_outputsIn_0 rfl (lv_at hl 0 rfl) ?_
  refine lv_iload_n hx hb dX10_outputsIn_1 rfl (lv_at hl 1 rfl) ?_
  refine zk_x (wr := []) (vx_runV (As := [.int p0]) (rest := []) ⟨hx, hb, hml, hown, hts⟩ (kX10_sinkOf_0 l hst D yc e0 H.size a0 p0 a1 a2 a3) (cwV 1 hts (lw_V wq431 wq433 ws6 wq1 wq434) rfl rfl rfl (by decide +kernel) ⟨(Nat.le_of_ble_eq_true rfl), (Nat.le_of_ble_eq_true rfl)⟩) (zk_pV hC hP hD hS hA [0, 1, 2] rfl rfl 0 9 rfl rfl) rfl rfl hl.1 rfl (lv_room (Nat.le_of_ble_eq_true rfl)) dX10_outputsIn_2 ⟨(Nat.le_of_ble_eq_true rfl), (Nat.le_of_ble_eq_true rfl)⟩) hP hD hS hA [0, 1, 2] [] rfl rfl rfl (by decide) (fun u1 ce q9 H locs hP hD hS hce hcv hcl => ?_)
  have hP : va_P D vwCl [(a0, .inr (9, [.ref a1, .ref a2, .int 0, .int 0, .int 0])), (a1, .inr (2, [.int 0, .ref a3, .int 8, .int (-1), .int 0, .int 0, .int 0, .int 0])), (a3, .inr (0, [.int 0, .ref e0, .int 0]))] H := hP
  have hD : va_D A [(a0, .inr (9, [.ref a1, .ref a2, .int 0, .int 0, .int 0])), (a1, .inr (2, [.int 0, .ref a3, .int 8, .int (-1), .int 0, .int 0, .int 0, .int 0])), (a3, .inr (0, [.int 0, .ref e0, .int 0]))] := hD
  exact vx_out (fun x9 hx9 => (hnx x9 hx9).elim) hlk hce hcv hcl (zk_out hP hD hS (fun _ _ => 0) [0, 1, 2] rfl rfl) hS.2.2 (Nat.le_of_ble_eq_true rfl) (Nat.le_of_ble_eq_true rfl)
set_option maxHeartbeats 4000000 in
set_option maxRecDepth 100000 in
theorem kL_outputsIn_0 (l : Launch) (hst : l.stackTraces = false) (D : va_G) (yc : Nat → ClassId) (e0 sz : Nat) (a0 : Nat) (p0 : Int32) (p1 : Int32) (a1 : Nat) (a2 : Nat) (a3 : Nat) (a4 : Nat)  : Met l yL_outputsIn (ww_ yL_outputsIn cL_outputsIn 5 (some .int) [(0, 10, 13, 21), (0, 10, 17, 13)]) ({ frames := 9, cells := 1, slots := 6, locals := 150 }) (PR D yc e0 [(a0, .inr (9, [.ref a2, .ref a3, .int 0, .int 0, .int 0])), (a2, .inr (2, [.int 0, .ref a4, .int 8, .int (-1), .int 0, .int 0, .int 0, .int 0])), (a4, .inr (0, [.int 0, .ref e0, .int 0]))] sz [.ref a0, .int p0, .int p1, .ref a1]) (va_Qi (fun r u => r = (fun u : Nat → Nat → Nat => 1) u) (WD D (va_A [(a0, .inr (9, [.ref a2, .ref a3, .int 0, .int 0, .int 0])), (a2, .inr (2, [.int 0, .ref a4, .int 8, .int (-1), .int 0, .int 0, .int 0, .int 0])), (a4, .inr (0, [.int 0, .ref e0, .int 0]))] sz) (fun u => [(a0, .inr (9, [.ref a2, .ref a3, .int 0, .int 0, .int 0])), (a2, .inr (2, [.int 0, .ref a4, .int 8, .int (-1), .int 0, .int 0, .int 0, .int 0])), (a4, .inr (0, [.int 0, .ref e0, .int 0]))])) (va_A [(a0, .inr (9, [.ref a2, .ref a3, .int 0, .int 0, .int 0])), (a2, .inr (2, [.int 0, .ref a4, .int 8, .int (-1), .int 0, .int 0, .int 0, .int 0])), (a4, .inr (0, [.int 0, .ref e0, .int 0]))] sz)) 1 6 (va_A [(a0, .inr (9, [.ref a2, .ref a3, .int 0, .int 0, .int 0])), (a2, .inr (2, [.int 0, .ref a4, .int 8, .int (-1), .int 0, .int 0, .int 0, .int 0])), (a4, .inr (0, [.int 0, .ref e0, .int 0]))] sz) := by
  refine zk_MW (Qc := fun A => va_Qi (fun r u => r = (fun u : Nat → Nat → Nat => 1) u) (WD D A (fun u => [(a0, .inr (9, [.ref a2, .ref a3, .int 0, .int 0, .int 0])), (a2, .inr (2, [.int 0, .ref a4, .int 8, .int (-1), .int 0, .int 0, .int 0, .int 0])), (a4, .inr (0, [.int 0, .ref e0, .int 0]))])) A) (by decide) (Nat.le_of_ble_eq_true rfl) ?_
  intro p e s m args below meth c A ls hx hb hml hr hlk hown hts hP hD hS hA hC hl hex
  have hK := hC.1
  have hN := hC.2.1
  have hl : lv_has ls 5 [(0, .ref a0), (1, .int p0), (2, .int p1), (3, .ref a1)] := hl
  generalize hHH : s.heap = H at hP ⊢
  have hS : va_S A s.heap H [] := by rw [← hHH]; exact hS
  refine lv_aload_n hx hb dL_outputsIn_0 rfl (lv_at hl 3 rfl) ?_
  refine lv_iconst (v := 0) hx hb dL_outputsIn_1 (by decide) ?_
  refine lv_aload_n hx hb dL_outputsIn_2 rfl (lv_at hl 0 rfl) ?_
  refine lv_iload_n hx hb dL_outputsIn_3 rfl (lv_at hl 1 rfl) ?_
  refine lv_iload_n hx hb dL_outputsIn_4 rfl (lv_at hl 2 rfl) ?_
  refine zk_x (wr := []) (vx_runV (As := [.int p0, .int p1]) (rest := [.int 0, .ref a1]) ⟨hx, hb, hml, hown, hts⟩ (kX10_outputsIn_0 l hst D yc e0 H.size a0 p0 p1 a2 a3 a4) (cwV 2 hts (lw_V wq1335 wq1336 wq1337 wq1 wq1338) rfl rfl rfl (by decide +kernel) ⟨(Nat.le_of_ble_eq_true rfl), (Nat.le_of_ble_eq_true rfl)⟩) (zk_pV hC hP hD hS hA [0, 1, 2] rfl rfl 0 9 rfl rfl) rfl rfl hl.1 rfl (lv_room (Nat.le_of_ble_eq_true rfl)) dL_outputsIn_5 ⟨(Nat.le_of_ble_eq_true rfl), (Nat.le_of_ble_eq_true rfl)⟩) hP hD hS hA [0, 1, 2] [] rfl rfl rfl (by decide) (fun u1 ce q9 H locs hP hD hS hce hcv hcl => ?_)
  have hP : va_P D vwCl [(a0, .inr (9, [.ref a2, .ref a3, .int 0, .int 0, .int 0])), (a2, .inr (2, [.int 0, .ref a4, .int 8, .int (-1), .int 0, .int 0, .int 0, .int 0])), (a4, .inr (0, [.int 0, .ref e0, .int 0]))] H := hP
  have hD : va_D A [(a0, .inr (9, [.ref a2, .ref a3, .int 0, .int 0, .int 0])), (a2, .inr (2, [.int 0, .ref a4, .int 8, .int (-1), .int 0, .int 0, .int 0, .int 0])), (a4, .inr (0, [.int 0, .ref e0, .int 0]))] := hD
  refine vx_catch (own := RL) (name := "java/lang/IndexOutOfBoundsException") hown (tableOf []) ⟨0, 10, 13, 21⟩ (tableOf [(0, 10, 17, 13)]) hex (fun z hz => False.elim (List.not_mem_nil hz)) (by decide) (by decide) (hts _ wq833) (zk_tab rfl (hN _ wr261 rfl)) hce hcv hcl ?_
  refine W.widen (k := 1) (n := 6) (Nat.le_of_ble_eq_true rfl) (Nat.le_of_ble_eq_true rfl) ?_
  refine lv_astore (lv' := [(4, .ref q9), (0, .ref a0), (1, .int p0), (2, .int p1), (3, .ref a1)]) hx hb dL_outputsIn_13 hl (by decide) rfl (fun ls hl => ?_)
  refine lv_iconst (v := 1) hx hb dL_outputsIn_15 (by decide) ?_
  exact zk_ri (r0 := fun u => 1) (w1 := fun u => [(a0, .inr (9, [.ref a2, .ref a3, .int 0, .int 0, .int 0])), (a2, .inr (2, [.int 0, .ref a4, .int 8, .int (-1), .int 0, .int 0, .int 0, .int 0])), (a4, .inr (0, [.int 0, .ref e0, .int 0]))]) hx hb hr hlk hP hD hS (fun _ _ => 0) rfl rfl [0, 1, 2] rfl rfl (Nat.le_of_ble_eq_true rfl) (Nat.le_of_ble_eq_true rfl) dL_outputsIn_16
set_option maxHeartbeats 4000000 in
set_option maxRecDepth 100000 in
theorem kX14_outputsIn_0 (l : Launch) (hst : l.stackTraces = false) (D : va_G) (yc : Nat → ClassId) (e0 sz : Nat) (a0 : Nat) (p0 : Int32) (p1 : Int32) (a1 : Nat) (a2 : Nat) (a3 : Nat) (a4 : Nat) (a5 : Nat) (a6 : Nat) (a7 : Nat)  : Met l yX14_outputsIn (ws_ yX14_outputsIn cX14_outputsIn 3 (some .int)) ({ frames := 4, cells := 0, slots := 0, locals := 85 }) (PR D yc e0 [(a0, .inr (13, [.int 0, .int 0, .ref a1, .ref a2, .ref a3, .ref a4, .ref a5, .ref a6, .ref a7, .int 0, .long 0]))] sz [.ref a0, .int p0, .int p1]) (va_Qi (fun r u => r = (fun u : Nat → Nat → Nat => 0) u) (WD D (va_A [(a0, .inr (13, [.int 0, .int 0, .ref a1, .ref a2, .ref a3, .ref a4, .ref a5, .ref a6, .ref a7, .int 0, .long 0]))] sz) (fun u => [(a0, .inr (13, [.int 0, .int 0, .ref a1, .ref a2, .ref a3, .ref a4, .ref a5, .ref a6, .ref a7, .int 1, .long 0]))])) (va_A [(a0, .inr (13, [.int 0, .int 0, .ref a1, .ref a2, .ref a3, .ref a4, .ref a5, .ref a6, .ref a7, .int 0, .long 0]))] sz)) 0 0 (va_A [(a0, .inr (13, [.int 0, .int 0, .ref a1, .ref a2, .ref a3, .ref a4, .ref a5, .ref a6, .ref a7, .int 0, .long 0]))] sz) := by
  refine zk_M (Qc := fun A => va_Qi (fun r u => r = (fun u : Nat → Nat → Nat => 0) u) (WD D A (fun u => [(a0, .inr (13, [.int 0, .int 0, .ref a1, .ref a2, .ref a3, .ref a4, .ref a5, .ref a6, .ref a7, .int 1, .long 0]))])) A) (by decide) (Nat.le_of_ble_eq_true rfl) ?_
  intro p e s m args below meth c A ls hx hb hml hr hlk hown hnm hts hP hD hS hA hC hl
  have hK := hC.1
  have hN := hC.2.1
  have hl : lv_has ls 3 [(0, .ref a0), (1, .int p0), (2, .int p1)] := hl
  generalize hHH : s.heap = H at hP ⊢
  have hS : va_S A s.heap H [] := by rw [← hHH]; exact hS
  refine lv_aload_n hx hb dX14_outputsIn_0 rfl (lv_at hl 0 rfl) ?_
  refine lv_iload_n hx hb dX14_outputsIn_1 rfl (lv_at hl 1 rfl) ?_
  refine zk_i (wr := []) (va_runV (As := [.int p0]) (rest := []) ⟨hx, hb, hml, hown, hts⟩ (kX14_hasSink_0 l hst D yc e0 H.size a0 p0 a1 a2 a3 a4 a5 a6 a7) (cwV 1 hts (lw_V wq1939 wq1941 ws71 wq6 wq1942) rfl rfl rfl (by decide +kernel) ⟨(Nat.le_of_ble_eq_true rfl), (Nat.le_of_ble_eq_true rfl)⟩) (zk_pV hC hP hD hS hA [0] rfl rfl 0 13 rfl rfl) rfl rfl hl.1 rfl (lv_room (Nat.le_of_ble_eq_true rfl)) dX14_outputsIn_2 ⟨(Nat.le_of_ble_eq_true rfl), (Nat.le_of_ble_eq_true rfl)⟩) hP hD hS hA [0] [] rfl rfl rfl (by decide) (fun u1 H locs hP hD hS => ?_)
  have hP : va_P D vwCl [(a0, .inr (13, [.int 0, .int 0, .ref a1, .ref a2, .ref a3, .ref a4, .ref a5, .ref a6, .ref a7, .int 1, .long 0]))] H := hP
  have hD : va_D A [(a0, .inr (13, [.int 0, .int 0, .ref a1, .ref a2, .ref a3, .ref a4, .ref a5, .ref a6, .ref a7, .int 1, .long 0]))] := hD
  refine W.widen (k := 0) (n := 0) (Nat.le_of_ble_eq_true rfl) (Nat.le_of_ble_eq_true rfl) ?_
  refine lv_if_ne (tgt := 10) hx hb dX14_outputsIn_5 (by decide) (fun h9 => absurd (by decide) h9) (fun _ => ?_)
  refine lv_iconst (v := 0) hx hb dX14_outputsIn_8 (by decide) ?_
  exact zk_ri (r0 := fun u => 0) (w1 := fun u => [(a0, .inr (13, [.int 0, .int 0, .ref a1, .ref a2, .ref a3, .ref a4, .ref a5, .ref a6, .ref a7, .int 1, .long 0]))]) hx hb hr hlk hP hD hS (fun _ _ => 0) rfl rfl [0] rfl rfl (Nat.le_of_ble_eq_true rfl) (Nat.le_of_ble_eq_true rfl) dX14_outputsIn_9
set_option maxHeartbeats 4000000 in
set_option maxRecDepth 100000 in
theorem kX10_wouldLose_0 (l : Launch) (hst : l.stackTraces = false) (D : va_G) (yc : Nat → ClassId) (e0 sz : Nat) (a0 : Nat) (p0 : Int32) (a1 : Nat) (a2 : Nat) (a3 : Nat)  : vx_Met l yX10_wouldLose (ws_ yX10_wouldLose cX10_wouldLose 3 (some .int)) ({ frames := 8, cells := 1, slots := 6, locals := 125 }) (PR D yc e0 [(a0, .inr (9, [.ref a1, .ref a2, .int 0, .int 0, .int 0])), (a1, .inr (2, [.int 0, .ref a3, .int 8, .int (-1), .int 0, .int 0, .int 0, .int 0])), (a3, .inr (0, [.int 0, .ref e0, .int 0]))] sz [.ref a0, .int p0]) (fun _ _ _ _ => False) (zk_X D (va_A [(a0, .inr (9, [.ref a1, .ref a2, .int 0, .int 0, .int 0])), (a1, .inr (2, [.int 0, .ref a3, .int 8, .int (-1), .int 0, .int 0, .int 0, .int 0])), (a3, .inr (0, [.int 0, .ref e0, .int 0]))] sz) "java/lang/IndexOutOfBoundsException" (fun u => [(a0, .inr (9, [.ref a1, .ref a2, .int 0, .int 0, .int 0])), (a1, .inr (2, [.int 0, .ref a3, .int 8, .int (-1), .int 0, .int 0, .int 0, .int 0])), (a3, .inr (0, [.int 0, .ref e0, .int 0]))])) 1 6 (va_A [(a0, .inr (9, [.ref a1, .ref a2, .int 0, .int 0, .int 0])), (a1, .inr (2, [.int 0, .ref a3, .int 8, .int (-1), .int 0, .int 0, .int 0, .int 0])), (a3, .inr (0, [.int 0, .ref e0, .int 0]))] sz) := by
  refine zk_MX (by decide) (Nat.le_of_ble_eq_true rfl) ?_
  intro p e s m args below meth c A ls hx hb hml hr hlk hown hnm hts hP hD hS hA hC hl hnx
  have hK := hC.1
  have hN := hC.2.1
  have hl : lv_has ls 3 [(0, .ref a0), (1, .int p0)] := hl
  generalize hHH : s.heap = H at hP ⊢
  have hS : va_S A s.heap H [] := by rw [← hHH]; exact hS
  refine W.widen (k := 0) (n := 0) (Nat.le_of_ble_eq_true rfl) (Nat.le_of_ble_eq_true rfl) ?_
  refine lv_aload_n hx hb dX10_wouldLose_0 rfl (lv_at hl 0 rfl) ?_
  refine lv_iload_n hx hb dX10_wouldLose_1 rfl (lv_at hl 1 rfl) ?_
  refine zk_x (wr := []) (vx_runV (As := [.int p0]) (rest := []) ⟨hx, hb, hml, hown, hts⟩ (kX10_sinkOf_0 l hst D yc e0 H.size a0 p0 a1 a2 a3) (cwV 1 hts (lw_V wq431 wq433 ws6 wq1 wq434) rfl rfl rfl (by decide +kernel) ⟨(Nat.le_of_ble_eq_true rfl), (Nat.le_of_ble_eq_true rfl)⟩) (zk_pV hC hP hD hS hA [0, 1, 2] rfl rfl 0 9 rfl rfl) rfl rfl hl.1 rfl (lv_room (Nat.le_of_ble_eq_true rfl)) dX10_wouldLose_2 ⟨(Nat.le_of_ble_eq_true rfl), (Nat.le_of_ble_eq_true rfl)⟩) hP hD hS hA [0, 1, 2] [] rfl rfl rfl (by decide) (fun u1 ce q9 H locs hP hD hS hce hcv hcl => ?_)
  have hP : va_P D vwCl [(a0, .inr (9, [.ref a1, .ref a2, .int 0, .int 0, .int 0])), (a1, .inr (2, [.int 0, .ref a3, .int 8, .int (-1), .int 0, .int 0, .int 0, .int 0])), (a3, .inr (0, [.int 0, .ref e0, .int 0]))] H := hP
  have hD : va_D A [(a0, .inr (9, [.ref a1, .ref a2, .int 0, .int 0, .int 0])), (a1, .inr (2, [.int 0, .ref a3, .int 8, .int (-1), .int 0, .int 0, .int 0, .int 0])), (a3, .inr (0, [.int 0, .ref e0, .int 0]))] := hD
  exact vx_out (fun x9 hx9 => (hnx x9 hx9).elim) hlk hce hcv hcl (zk_out hP hD hS (fun _ _ => 0) [0, 1, 2] rfl rfl) hS.2.2 (Nat.le_of_ble_eq_true rfl) (Nat.le_of_ble_eq_true rfl)
set_option maxHeartbeats 4000000 in
set_option maxRecDepth 100000 in
theorem kL_wouldLose_0 (l : Launch) (hst : l.stackTraces = false) (D : va_G) (yc : Nat → ClassId) (e0 sz : Nat) (a0 : Nat) (p0 : Int32) (a1 : Nat) (a2 : Nat) (a3 : Nat) (a4 : Nat)  : Met l yL_wouldLose (ww_ yL_wouldLose cL_wouldLose 4 (some .int) [(0, 9, 12, 21), (0, 9, 15, 13)]) ({ frames := 9, cells := 1, slots := 6, locals := 147 }) (PR D yc e0 [(a0, .inr (9, [.ref a2, .ref a3, .int 0, .int 0, .int 0])), (a2, .inr (2, [.int 0, .ref a4, .int 8, .int (-1), .int 0, .int 0, .int 0, .int 0])), (a4, .inr (0, [.int 0, .ref e0, .int 0]))] sz [.ref a0, .int p0, .ref a1]) (va_Qi (fun r u => r = (fun u : Nat → Nat → Nat => 1) u) (WD D (va_A [(a0, .inr (9, [.ref a2, .ref a3, .int 0, .int 0, .int 0])), (a2, .inr (2, [.int 0, .ref a4, .int 8, .int (-1), .int 0, .int 0, .int 0, .int 0])), (a4, .inr (0, [.int 0, .ref e0, .int 0]))] sz) (fun u => [(a0, .inr (9, [.ref a2, .ref a3, .int 0, .int 0, .int 0])), (a2, .inr (2, [.int 0, .ref a4, .int 8, .int (-1), .int 0, .int 0, .int 0, .int 0])), (a4, .inr (0, [.int 0, .ref e0, .int 0]))])) (va_A [(a0, .inr (9, [.ref a2, .ref a3, .int 0, .int 0, .int 0])), (a2, .inr (2, [.int 0, .ref a4, .int 8, .int (-1), .int 0, .int 0, .int 0, .int 0])), (a4, .inr (0, [.int 0, .ref e0, .int 0]))] sz)) 1 6 (va_A [(a0, .inr (9, [.ref a2, .ref a3, .int 0, .int 0, .int 0])), (a2, .inr (2, [.int 0, .ref a4, .int 8, .int (-1), .int 0, .int 0, .int 0, .int 0])), (a4, .inr (0, [.int 0, .ref e0, .int 0]))] sz) := by
  refine zk_MW (Qc := fun A => va_Qi (fun r u => r = (fun u : Nat → Nat → Nat => 1) u) (WD D A (fun u => [(a0, .inr (9, [.ref a2, .ref a3, .int 0, .int 0, .int 0])), (a2, .inr (2, [.int 0, .ref a4, .int 8, .int (-1), .int 0, .int 0, .int 0, .int 0])), (a4, .inr (0, [.int 0, .ref e0, .int 0]))])) A) (by decide) (Nat.le_of_ble_eq_true rfl) ?_
  intro p e s m args below meth c A ls hx hb hml hr hlk hown hts hP hD hS hA hC hl hex
  have hK := hC.1
  have hN := hC.2.1
  have hl : lv_has ls 4 [(0, .ref a0), (1, .int p0), (2, .ref a1)] := hl
  generalize hHH : s.heap = H at hP ⊢
  have hS : va_S A s.heap H [] := by rw [← hHH]; exact hS
  refine lv_aload_n hx hb dL_wouldLose_0 rfl (lv_at hl 2 rfl) ?_
  refine lv_iconst (v := 0) hx hb dL_wouldLose_1 (by decide) ?_
  refine lv_aload_n hx hb dL_wouldLose_2 rfl (lv_at hl 0 rfl) ?_
  refine lv_iload_n hx hb dL_wouldLose_3 rfl (lv_at hl 1 rfl) ?_
  refine zk_x (wr := []) (vx_runV (As := [.int p0]) (rest := [.int 0, .ref a1]) ⟨hx, hb, hml, hown, hts⟩ (kX10_wouldLose_0 l hst D yc e0 H.size a0 p0 a2 a3 a4) (cwV 1 hts (lw_V wq1342 wq1343 wq1344 wq1 wq1345) rfl rfl rfl (by decide +kernel) ⟨(Nat.le_of_ble_eq_true rfl), (Nat.le_of_ble_eq_true rfl)⟩) (zk_pV hC hP hD hS hA [0, 1, 2] rfl rfl 0 9 rfl rfl) rfl rfl hl.1 rfl (lv_room (Nat.le_of_ble_eq_true rfl)) dL_wouldLose_4 ⟨(Nat.le_of_ble_eq_true rfl), (Nat.le_of_ble_eq_true rfl)⟩) hP hD hS hA [0, 1, 2] [] rfl rfl rfl (by decide) (fun u1 ce q9 H locs hP hD hS hce hcv hcl => ?_)
  have hP : va_P D vwCl [(a0, .inr (9, [.ref a2, .ref a3, .int 0, .int 0, .int 0])), (a2, .inr (2, [.int 0, .ref a4, .int 8, .int (-1), .int 0, .int 0, .int 0, .int 0])), (a4, .inr (0, [.int 0, .ref e0, .int 0]))] H := hP
  have hD : va_D A [(a0, .inr (9, [.ref a2, .ref a3, .int 0, .int 0, .int 0])), (a2, .inr (2, [.int 0, .ref a4, .int 8, .int (-1), .int 0, .int 0, .int 0, .int 0])), (a4, .inr (0, [.int 0, .ref e0, .int 0]))] := hD
  refine vx_catch (own := RL) (name := "java/lang/IndexOutOfBoundsException") hown (tableOf []) ⟨0, 9, 12, 21⟩ (tableOf [(0, 9, 15, 13)]) hex (fun z hz => False.elim (List.not_mem_nil hz)) (by decide) (by decide) (hts _ wq833) (zk_tab rfl (hN _ wr261 rfl)) hce hcv hcl ?_
  refine W.widen (k := 1) (n := 6) (Nat.le_of_ble_eq_true rfl) (Nat.le_of_ble_eq_true rfl) ?_
  refine lv_astore_n (lv' := [(3, .ref q9), (0, .ref a0), (1, .int p0), (2, .ref a1)]) hx hb dL_wouldLose_12 rfl hl (by decide) rfl (fun ls hl => ?_)
  refine lv_iconst (v := 1) hx hb dL_wouldLose_13 (by decide) ?_
  exact zk_ri (r0 := fun u => 1) (w1 := fun u => [(a0, .inr (9, [.ref a2, .ref a3, .int 0, .int 0, .int 0])), (a2, .inr (2, [.int 0, .ref a4, .int 8, .int (-1), .int 0, .int 0, .int 0, .int 0])), (a4, .inr (0, [.int 0, .ref e0, .int 0]))]) hx hb hr hlk hP hD hS (fun _ _ => 0) rfl rfl [0, 1, 2] rfl rfl (Nat.le_of_ble_eq_true rfl) (Nat.le_of_ble_eq_true rfl) dL_wouldLose_14
set_option maxHeartbeats 4000000 in
set_option maxRecDepth 100000 in
theorem kX14_wouldLose_0 (l : Launch) (hst : l.stackTraces = false) (D : va_G) (yc : Nat → ClassId) (e0 sz : Nat) (a0 : Nat) (p0 : Int32) (a1 : Nat) (a2 : Nat) (a3 : Nat) (a4 : Nat) (a5 : Nat) (a6 : Nat) (a7 : Nat)  : Met l yX14_wouldLose (ws_ yX14_wouldLose cX14_wouldLose 2 (some .int)) ({ frames := 4, cells := 0, slots := 0, locals := 85 }) (PR D yc e0 [(a0, .inr (13, [.int 0, .int 0, .ref a1, .ref a2, .ref a3, .ref a4, .ref a5, .ref a6, .ref a7, .int 0, .long 0]))] sz [.ref a0, .int p0]) (va_Qi (fun r u => r = (fun u : Nat → Nat → Nat => 0) u) (WD D (va_A [(a0, .inr (13, [.int 0, .int 0, .ref a1, .ref a2, .ref a3, .ref a4, .ref a5, .ref a6, .ref a7, .int 0, .long 0]))] sz) (fun u => [(a0, .inr (13, [.int 0, .int 0, .ref a1, .ref a2, .ref a3, .ref a4, .ref a5, .ref a6, .ref a7, .int 1, .long 0]))])) (va_A [(a0, .inr (13, [.int 0, .int 0, .ref a1, .ref a2, .ref a3, .ref a4, .ref a5, .ref a6, .ref a7, .int 0, .long 0]))] sz)) 0 0 (va_A [(a0, .inr (13, [.int 0, .int 0, .ref a1, .ref a2, .ref a3, .ref a4, .ref a5, .ref a6, .ref a7, .int 0, .long 0]))] sz) := by
  refine zk_M (Qc := fun A => va_Qi (fun r u => r = (fun u : Nat → Nat → Nat => 0) u) (WD D A (fun u => [(a0, .inr (13, [.int 0, .int 0, .ref a1, .ref a2, .ref a3, .ref a4, .ref a5, .ref a6, .ref a7, .int 1, .long 0]))])) A) (by decide) (Nat.le_of_ble_eq_true rfl) ?_
  intro p e s m args below meth c A ls hx hb hml hr hlk hown hnm hts hP hD hS hA hC hl
  have hK := hC.1
  have hN := hC.2.1
  have hl : lv_has ls 2 [(0, .ref a0), (1, .int p0)] := hl
  generalize hHH : s.heap = H at hP ⊢
  have hS : va_S A s.heap H [] := by rw [← hHH]; exact hS
  refine lv_aload_n hx hb dX14_wouldLose_0 rfl (lv_at hl 0 rfl) ?_
  refine lv_iload_n hx hb dX14_wouldLose_1 rfl (lv_at hl 1 rfl) ?_
  refine zk_i (wr := []) (va_runV (As := [.int p0]) (rest := []) ⟨hx, hb, hml, hown, hts⟩ (kX14_hasSink_0 l hst D yc e0 H.size a0 p0 a1 a2 a3 a4 a5 a6 a7) (cwV 1 hts (lw_V wq1939 wq1941 ws71 wq6 wq1942) rfl rfl rfl (by decide +kernel) ⟨(Nat.le_of_ble_eq_true rfl), (Nat.le_of_ble_eq_true rfl)⟩) (zk_pV hC hP hD hS hA [0] rfl rfl 0 13 rfl rfl) rfl rfl hl.1 rfl (lv_room (Nat.le_of_ble_eq_true rfl)) dX14_wouldLose_2 ⟨(Nat.le_of_ble_eq_true rfl), (Nat.le_of_ble_eq_true rfl)⟩) hP hD hS hA [0] [] rfl rfl rfl (by decide) (fun u1 H locs hP hD hS => ?_)
  have hP : va_P D vwCl [(a0, .inr (13, [.int 0, .int 0, .ref a1, .ref a2, .ref a3, .ref a4, .ref a5, .ref a6, .ref a7, .int 1, .long 0]))] H := hP
  have hD : va_D A [(a0, .inr (13, [.int 0, .int 0, .ref a1, .ref a2, .ref a3, .ref a4, .ref a5, .ref a6, .ref a7, .int 1, .long 0]))] := hD
  refine W.widen (k := 0) (n := 0) (Nat.le_of_ble_eq_true rfl) (Nat.le_of_ble_eq_true rfl) ?_
  refine lv_if_eq (tgt := 33) hx hb dX14_wouldLose_5 (by decide) (fun _ => ?_) (fun h9 => absurd (by decide) h9)
  refine lv_iconst (v := 0) hx hb dX14_wouldLose_33 (by decide) ?_
  exact zk_ri (r0 := fun u => 0) (w1 := fun u => [(a0, .inr (13, [.int 0, .int 0, .ref a1, .ref a2, .ref a3, .ref a4, .ref a5, .ref a6, .ref a7, .int 1, .long 0]))]) hx hb hr hlk hP hD hS (fun _ _ => 0) rfl rfl [0] rfl rfl (Nat.le_of_ble_eq_true rfl) (Nat.le_of_ble_eq_true rfl) dX14_wouldLose_34
set_option maxHeartbeats 4000000 in
set_option maxRecDepth 100000 in
theorem kX10_wouldReplay_0 (l : Launch) (hst : l.stackTraces = false) (D : va_G) (yc : Nat → ClassId) (e0 sz : Nat) (a0 : Nat) (p0 : Int32) (a1 : Nat) (a2 : Nat) (a3 : Nat)  : vx_Met l yX10_wouldReplay (ws_ yX10_wouldReplay cX10_wouldReplay 3 (some .int)) ({ frames := 8, cells := 1, slots := 6, locals := 125 }) (PR D yc e0 [(a0, .inr (9, [.ref a1, .ref a2, .int 0, .int 0, .int 0])), (a1, .inr (2, [.int 0, .ref a3, .int 8, .int (-1), .int 0, .int 0, .int 0, .int 0])), (a3, .inr (0, [.int 0, .ref e0, .int 0]))] sz [.ref a0, .int p0]) (fun _ _ _ _ => False) (zk_X D (va_A [(a0, .inr (9, [.ref a1, .ref a2, .int 0, .int 0, .int 0])), (a1, .inr (2, [.int 0, .ref a3, .int 8, .int (-1), .int 0, .int 0, .int 0, .int 0])), (a3, .inr (0, [.int 0, .ref e0, .int 0]))] sz) "java/lang/IndexOutOfBoundsException" (fun u => [(a0, .inr (9, [.ref a1, .ref a2, .int 0, .int 0, .int 0])), (a1, .inr (2, [.int 0, .ref a3, .int 8, .int (-1), .int 0, .int 0, .int 0, .int 0])), (a3, .inr (0, [.int 0, .ref e0, .int 0]))])) 1 6 (va_A [(a0, .inr (9, [.ref a1, .ref a2, .int 0, .int 0, .int 0])), (a1, .inr (2, [.int 0, .ref a3, .int 8, .int (-1), .int 0, .int 0, .int 0, .int 0])), (a3, .inr (0, [.int 0, .ref e0, .int 0]))] sz) := by
  refine zk_MX (by decide) (Nat.le_of_ble_eq_true rfl) ?_
  intro p e s m args below meth c A ls hx hb hml hr hlk hown hnm hts hP hD hS hA hC hl hnx
  have hK := hC.1
  have hN := hC.2.1
  have hl : lv_has ls 3 [(0, .ref a0), (1, .int p0)] := hl
  generalize hHH : s.heap = H at hP ⊢
  have hS : va_S A s.heap H [] := by rw [← hHH]; exact hS
  refine W.widen (k := 0) (n := 0) (Nat.le_of_ble_eq_true rfl) (Nat.le_of_ble_eq_true rfl) ?_
  refine lv_aload_n hx hb dX10_wouldReplay_0 rfl (lv_at hl 0 rfl) ?_
  refine lv_iload_n hx hb dX10_wouldReplay_1 rfl (lv_at hl 1 rfl) ?_
  refine zk_x (wr := []) (vx_runV (As := [.int p0]) (rest := []) ⟨hx, hb, hml, hown, hts⟩ (kX10_sourceOf_0 l hst D yc e0 H.size a0 p0 a1 a2 a3) (cwV 1 hts (lw_V wq901 wq903 ws15 wq1 wq904) rfl rfl rfl (by decide +kernel) ⟨(Nat.le_of_ble_eq_true rfl), (Nat.le_of_ble_eq_true rfl)⟩) (zk_pV hC hP hD hS hA [0, 1, 2] rfl rfl 0 9 rfl rfl) rfl rfl hl.1 rfl (lv_room (Nat.le_of_ble_eq_true rfl)) dX10_wouldReplay_2 ⟨(Nat.le_of_ble_eq_true rfl), (Nat.le_of_ble_eq_true rfl)⟩) hP hD hS hA [0, 1, 2] [] rfl rfl rfl (by decide) (fun u1 ce q9 H locs hP hD hS hce hcv hcl => ?_)
  have hP : va_P D vwCl [(a0, .inr (9, [.ref a1, .ref a2, .int 0, .int 0, .int 0])), (a1, .inr (2, [.int 0, .ref a3, .int 8, .int (-1), .int 0, .int 0, .int 0, .int 0])), (a3, .inr (0, [.int 0, .ref e0, .int 0]))] H := hP
  have hD : va_D A [(a0, .inr (9, [.ref a1, .ref a2, .int 0, .int 0, .int 0])), (a1, .inr (2, [.int 0, .ref a3, .int 8, .int (-1), .int 0, .int 0, .int 0, .int 0])), (a3, .inr (0, [.int 0, .ref e0, .int 0]))] := hD
  exact vx_out (fun x9 hx9 => (hnx x9 hx9).elim) hlk hce hcv hcl (zk_out hP hD hS (fun _ _ => 0) [0, 1, 2] rfl rfl) hS.2.2 (Nat.le_of_ble_eq_true rfl) (Nat.le_of_ble_eq_true rfl)
set_option maxHeartbeats 4000000 in
set_option maxRecDepth 100000 in
theorem kL_wouldReplay_0 (l : Launch) (hst : l.stackTraces = false) (D : va_G) (yc : Nat → ClassId) (e0 sz : Nat) (a0 : Nat) (p0 : Int32) (a1 : Nat) (a2 : Nat) (a3 : Nat) (a4 : Nat)  : Met l yL_wouldReplay (ww_ yL_wouldReplay cL_wouldReplay 4 (some .int) [(0, 9, 12, 21), (0, 9, 15, 13)]) ({ frames := 9, cells := 1, slots := 6, locals := 147 }) (PR D yc e0 [(a0, .inr (9, [.ref a2, .ref a3, .int 0, .int 0, .int 0])), (a2, .inr (2, [.int 0, .ref a4, .int 8, .int (-1), .int 0, .int 0, .int 0, .int 0])), (a4, .inr (0, [.int 0, .ref e0, .int 0]))] sz [.ref a0, .int p0, .ref a1]) (va_Qi (fun r u => r = (fun u : Nat → Nat → Nat => 1) u) (WD D (va_A [(a0, .inr (9, [.ref a2, .ref a3, .int 0, .int 0, .int 0])), (a2, .inr (2, [.int 0, .ref a4, .int 8, .int (-1), .int 0, .int 0, .int 0, .int 0])), (a4, .inr (0, [.int 0, .ref e0, .int 0]))] sz) (fun u => [(a0, .inr (9, [.ref a2, .ref a3, .int 0, .int 0, .int 0])), (a2, .inr (2, [.int 0, .ref a4, .int 8, .int (-1), .int 0, .int 0, .int 0, .int 0])), (a4, .inr (0, [.int 0, .ref e0, .int 0]))])) (va_A [(a0, .inr (9, [.ref a2, .ref a3, .int 0, .int 0, .int 0])), (a2, .inr (2, [.int 0, .ref a4, .int 8, .int (-1), .int 0, .int 0, .int 0, .int 0])), (a4, .inr (0, [.int 0, .ref e0, .int 0]))] sz)) 1 6 (va_A [(a0, .inr (9, [.ref a2, .ref a3, .int 0, .int 0, .int 0])), (a2, .inr (2, [.int 0, .ref a4, .int 8, .int (-1), .int 0, .int 0, .int 0, .int 0])), (a4, .inr (0, [.int 0, .ref e0, .int 0]))] sz) := by
  refine zk_MW (Qc := fun A => va_Qi (fun r u => r = (fun u : Nat → Nat → Nat => 1) u) (WD D A (fun u => [(a0, .inr (9, [.ref a2, .ref a3, .int 0, .int 0, .int 0])), (a2, .inr (2, [.int 0, .ref a4, .int 8, .int (-1), .int 0, .int 0, .int 0, .int 0])), (a4, .inr (0, [.int 0, .ref e0, .int 0]))])) A) (by decide) (Nat.le_of_ble_eq_true rfl) ?_
  intro p e s m args below meth c A ls hx hb hml hr hlk hown hts hP hD hS hA hC hl hex
  have hK := hC.1
  have hN := hC.2.1
  have hl : lv_has ls 4 [(0, .ref a0), (1, .int p0), (2, .ref a1)] := hl
  generalize hHH : s.heap = H at hP ⊢
  have hS : va_S A s.heap H [] := by rw [← hHH]; exact hS
  refine lv_aload_n hx hb dL_wouldReplay_0 rfl (lv_at hl 2 rfl) ?_
  refine lv_iconst (v := 0) hx hb dL_wouldReplay_1 (by decide) ?_
  refine lv_aload_n hx hb dL_wouldReplay_2 rfl (lv_at hl 0 rfl) ?_
  refine lv_iload_n hx hb dL_wouldReplay_3 rfl (lv_at hl 1 rfl) ?_
  refine zk_x (wr := []) (vx_runV (As := [.int p0]) (rest := [.int 0, .ref a1]) ⟨hx, hb, hml, hown, hts⟩ (kX10_wouldReplay_0 l hst D yc e0 H.size a0 p0 a2 a3 a4) (cwV 1 hts (lw_V wq1349 wq1350 wq1351 wq1 wq1352) rfl rfl rfl (by decide +kernel) ⟨(Nat.le_of_ble_eq_true rfl), (Nat.le_of_ble_eq_true rfl)⟩) (zk_pV hC hP hD hS hA [0, 1, 2] rfl rfl 0 9 rfl rfl) rfl rfl hl.1 rfl (lv_room (Nat.le_of_ble_eq_true rfl)) dL_wouldReplay_4 ⟨(Nat.le_of_ble_eq_true rfl), (Nat.le_of_ble_eq_true rfl)⟩) hP hD hS hA [0, 1, 2] [] rfl rfl rfl (by decide) (fun u1 ce q9 H locs hP hD hS hce hcv hcl => ?_)
  have hP : va_P D vwCl [(a0, .inr (9, [.ref a2, .ref a3, .int 0, .int 0, .int 0])), (a2, .inr (2, [.int 0, .ref a4, .int 8, .int (-1), .int 0, .int 0, .int 0, .int 0])), (a4, .inr (0, [.int 0, .ref e0, .int 0]))] H := hP
  have hD : va_D A [(a0, .inr (9, [.ref a2, .ref a3, .int 0, .int 0, .int 0])), (a2, .inr (2, [.int 0, .ref a4, .int 8, .int (-1), .int 0, .int 0, .int 0, .int 0])), (a4, .inr (0, [.int 0, .ref e0, .int 0]))] := hD
  refine vx_catch (own := RL) (name := "java/lang/IndexOutOfBoundsException") hown (tableOf []) ⟨0, 9, 12, 21⟩ (tableOf [(0, 9, 15, 13)]) hex (fun z hz => False.elim (List.not_mem_nil hz)) (by decide) (by decide) (hts _ wq833) (zk_tab rfl (hN _ wr261 rfl)) hce hcv hcl ?_
  refine W.widen (k := 1) (n := 6) (Nat.le_of_ble_eq_true rfl) (Nat.le_of_ble_eq_true rfl) ?_
  refine lv_astore_n (lv' := [(3, .ref q9), (0, .ref a0), (1, .int p0), (2, .ref a1)]) hx hb dL_wouldReplay_12 rfl hl (by decide) rfl (fun ls hl => ?_)
  refine lv_iconst (v := 1) hx hb dL_wouldReplay_13 (by decide) ?_
  exact zk_ri (r0 := fun u => 1) (w1 := fun u => [(a0, .inr (9, [.ref a2, .ref a3, .int 0, .int 0, .int 0])), (a2, .inr (2, [.int 0, .ref a4, .int 8, .int (-1), .int 0, .int 0, .int 0, .int 0])), (a4, .inr (0, [.int 0, .ref e0, .int 0]))]) hx hb hr hlk hP hD hS (fun _ _ => 0) rfl rfl [0, 1, 2] rfl rfl (Nat.le_of_ble_eq_true rfl) (Nat.le_of_ble_eq_true rfl) dL_wouldReplay_14
set_option maxHeartbeats 4000000 in
set_option maxRecDepth 100000 in
theorem kX14_wouldReplay_0 (l : Launch) (hst : l.stackTraces = false) (D : va_G) (yc : Nat → ClassId) (e0 sz : Nat) (a0 : Nat) (p0 : Int32) (a1 : Nat) (a2 : Nat) (a3 : Nat) (a4 : Nat) (a5 : Nat) (a6 : Nat) (a7 : Nat)  : Met l yX14_wouldReplay (ws_ yX14_wouldReplay cX14_wouldReplay 2 (some .int)) ({ frames := 3, cells := 0, slots := 0, locals := 64 }) (PR D yc e0 [(a0, .inr (13, [.int 0, .int 0, .ref a1, .ref a2, .ref a3, .ref a4, .ref a5, .ref a6, .ref a7, .int 0, .long 0]))] sz [.ref a0, .int p0]) (va_Qi (fun r u => r = (fun u : Nat → Nat → Nat => 0) u) (WD D (va_A [(a0, .inr (13, [.int 0, .int 0, .ref a1, .ref a2, .ref a3, .ref a4, .ref a5, .ref a6, .ref a7, .int 0, .long 0]))] sz) (fun u => [(a0, .inr (13, [.int 0, .int 0, .ref a1, .ref a2, .ref a3, .ref a4, .ref a5, .ref a6, .ref a7, .int 1, .long 0]))])) (va_A [(a0, .inr (13, [.int 0, .int 0, .ref a1, .ref a2, .ref a3, .ref a4, .ref a5, .ref a6, .ref a7, .int 0, .long 0]))] sz)) 0 0 (va_A [(a0, .inr (13, [.int 0, .int 0, .ref a1, .ref a2, .ref a3, .ref a4, .ref a5, .ref a6, .ref a7, .int 0, .long 0]))] sz) := by
  refine zk_M (Qc := fun A => va_Qi (fun r u => r = (fun u : Nat → Nat → Nat => 0) u) (WD D A (fun u => [(a0, .inr (13, [.int 0, .int 0, .ref a1, .ref a2, .ref a3, .ref a4, .ref a5, .ref a6, .ref a7, .int 1, .long 0]))])) A) (by decide) (Nat.le_of_ble_eq_true rfl) ?_
  intro p e s m args below meth c A ls hx hb hml hr hlk hown hnm hts hP hD hS hA hC hl
  have hK := hC.1
  have hN := hC.2.1
  have hl : lv_has ls 2 [(0, .ref a0), (1, .int p0)] := hl
  generalize hHH : s.heap = H at hP ⊢
  have hS : va_S A s.heap H [] := by rw [← hHH]; exact hS
  refine lv_aload_n hx hb dX14_wouldReplay_0 rfl (lv_at hl 0 rfl) ?_
  refine lv_iload_n hx hb dX14_wouldReplay_1 rfl (lv_at hl 1 rfl) ?_
  refine zk_i (wr := []) (va_runV (As := [.int p0]) (rest := []) ⟨hx, hb, hml, hown, hts⟩ (kX14_has_0 l hst D yc e0 H.size a0 p0 a1 a2 a3 a4 a5 a6 a7) (cwV 1 hts (lw_V wq1847 wq1849 ws63 wq6 wq1850) rfl rfl rfl (by decide +kernel) ⟨(Nat.le_of_ble_eq_true rfl), (Nat.le_of_ble_eq_true rfl)⟩) (zk_pV hC hP hD hS hA [0] rfl rfl 0 13 rfl rfl) rfl rfl hl.1 rfl (lv_room (Nat.le_of_ble_eq_true rfl)) dX14_wouldReplay_2 ⟨(Nat.le_of_ble_eq_true rfl), (Nat.le_of_ble_eq_true rfl)⟩) hP hD hS hA [0] [] rfl rfl rfl (by decide) (fun u1 H locs hP hD hS => ?_)
  have hP : va_P D vwCl [(a0, .inr (13, [.int 0, .int 0, .ref a1, .ref a2, .ref a3, .ref a4, .ref a5, .ref a6, .ref a7, .int 1, .long 0]))] H := hP
  have hD : va_D A [(a0, .inr (13, [.int 0, .int 0, .ref a1, .ref a2, .ref a3, .ref a4, .ref a5, .ref a6, .ref a7, .int 1, .long 0]))] := hD
  refine W.widen (k := 0) (n := 0) (Nat.le_of_ble_eq_true rfl) (Nat.le_of_ble_eq_true rfl) ?_
  refine lv_if_eq (tgt := 22) hx hb dX14_wouldReplay_5 (by decide) (fun _ => ?_) (fun h9 => absurd (by decide) h9)
  refine lv_aload_n hx hb dX14_wouldReplay_22 rfl (lv_at hl 0 rfl) ?_
  refine va_get (D := D) (ci := 13) (v := .int 1) (C := RX14) (T := TX14) (N := 11) hx hb hts iX14 hown hK hP 0 rfl rfl 9 (by decide) (hts _ wq1542) (fun _ h9 => h9) rfl dX14_wouldReplay_23 ?_
  refine lv_if_ne (tgt := 57) hx hb dX14_wouldReplay_26 (by decide) (fun _ => ?_) (fun h9 => absurd h9 (by decide))
  refine lv_iconst (v := 0) hx hb dX14_wouldReplay_57 (by decide) ?_
  exact zk_ri (r0 := fun u => 0) (w1 := fun u => [(a0, .inr (13, [.int 0, .int 0, .ref a1, .ref a2, .ref a3, .ref a4, .ref a5, .ref a6, .ref a7, .int 1, .long 0]))]) hx hb hr hlk hP hD hS (fun _ _ => 0) rfl rfl [0] rfl rfl (Nat.le_of_ble_eq_true rfl) (Nat.le_of_ble_eq_true rfl) dX14_wouldReplay_58
set_option maxHeartbeats 4000000 in
set_option maxRecDepth 100000 in
theorem kX10_bit_0 (l : Launch) (hst : l.stackTraces = false) (D : va_G) (yc : Nat → ClassId) (e0 sz : Nat)  : Met l yX10_bit (ws_ yX10_bit cX10_bit 1 (some .int)) ({ frames := 0, cells := 0, slots := 0, locals := 0 }) (PR D yc e0 [] sz [.int 0]) (va_Qi (fun r u => r = (fun u : Nat → Nat → Nat => 0) u) (WD D (va_A [] sz) (fun u => [])) (va_A [] sz)) 0 0 (va_A [] sz) := by
  refine zk_M (Qc := fun A => va_Qi (fun r u => r = (fun u : Nat → Nat → Nat => 0) u) (WD D A (fun u => [])) A) (by decide) (Nat.le_of_ble_eq_true rfl) ?_
  intro p e s m args below meth c A ls hx hb hml hr hlk hown hnm hts hP hD hS hA hC hl
  have hK := hC.1
  have hN := hC.2.1
  have hl : lv_has ls 1 [(0, .int 0)] := hl
  generalize hHH : s.heap = H at hP ⊢
  have hS : va_S A s.heap H [] := by rw [← hHH]; exact hS
  refine lv_iload_n hx hb dX10_bit_0 rfl (lv_at hl 0 rfl) ?_
  refine lv_if_eq (tgt := 8) hx hb dX10_bit_1 (by decide) (fun _ => ?_) (fun h9 => absurd (by decide) h9)
  refine lv_iconst (v := 0) hx hb dX10_bit_8 (by decide) ?_
  exact zk_ri (r0 := fun u => 0) (w1 := fun u => []) hx hb hr hlk hP hD hS (fun _ _ => 0) rfl rfl [] rfl rfl (Nat.le_of_ble_eq_true rfl) (Nat.le_of_ble_eq_true rfl) dX10_bit_9
set_option maxHeartbeats 4000000 in
set_option maxRecDepth 100000 in
theorem kX10_digest_0 (l : Launch) (hst : l.stackTraces = false) (D : va_G) (yc : Nat → ClassId) (e0 sz : Nat) (a0 : Nat) (a1 : Nat) (a2 : Nat) (a3 : Nat)  : Met l yX10_digest (ws_ yX10_digest cX10_digest 4 (some .long)) ({ frames := 3, cells := 0, slots := 0, locals := 64 }) (PR D yc e0 [(a0, .inr (9, [.ref a1, .ref a2, .int 0, .int 0, .int 0])), (a1, .inr (2, [.int 0, .ref a3, .int 8, .int (-1), .int 0, .int 0, .int 0, .int 0])), (a3, .inr (0, [.int 0, .ref e0, .int 0]))] sz [.ref a0]) (va_Ql (fun r u => r = (fun u : Nat → Nat → Nat => 49479620646102173) u) (WD D (va_A [(a0, .inr (9, [.ref a1, .ref a2, .int 0, .int 0, .int 0])), (a1, .inr (2, [.int 0, .ref a3, .int 8, .int (-1), .int 0, .int 0, .int 0, .int 0])), (a3, .inr (0, [.int 0, .ref e0, .int 0]))] sz) (fun u => [(a0, .inr (9, [.ref a1, .ref a2, .int 0, .int 0, .int 0])), (a1, .inr (2, [.int 0, .ref a3, .int 8, .int (-1), .int 0, .int 0, .int 0, .int 0])), (a3, .inr (0, [.int 0, .ref e0, .int 0]))])) (va_A [(a0, .inr (9, [.ref a1, .ref a2, .int 0, .int 0, .int 0])), (a1, .inr (2, [.int 0, .ref a3, .int 8, .int (-1), .int 0, .int 0, .int 0, .int 0])), (a3, .inr (0, [.int 0, .ref e0, .int 0]))] sz)) 0 0 (va_A [(a0, .inr (9, [.ref a1, .ref a2, .int 0, .int 0, .int 0])), (a1, .inr (2, [.int 0, .ref a3, .int 8, .int (-1), .int 0, .int 0, .int 0, .int 0])), (a3, .inr (0, [.int 0, .ref e0, .int 0]))] sz) := by
  refine zk_M (Qc := fun A => va_Ql (fun r u => r = (fun u : Nat → Nat → Nat => 49479620646102173) u) (WD D A (fun u => [(a0, .inr (9, [.ref a1, .ref a2, .int 0, .int 0, .int 0])), (a1, .inr (2, [.int 0, .ref a3, .int 8, .int (-1), .int 0, .int 0, .int 0, .int 0])), (a3, .inr (0, [.int 0, .ref e0, .int 0]))])) A) (by decide) (Nat.le_of_ble_eq_true rfl) ?_
  intro p e s m args below meth c A ls hx hb hml hr hlk hown hnm hts hP hD hS hA hC hl
  have hK := hC.1
  have hN := hC.2.1
  have hl : lv_has ls 4 [(0, .ref a0)] := hl
  generalize hHH : s.heap = H at hP ⊢
  have hS : va_S A s.heap H [] := by rw [← hHH]; exact hS
  refine lv_ldc2 hx hb hown (hts _ wq233) dX10_digest_0 ?_
  refine lv_lstore_n (lv' := [(1, .long 58014), (0, .ref a0)]) hx hb dX10_digest_3 rfl hl (by decide) rfl (fun ls hl => ?_)
  refine lv_lload_n hx hb dX10_digest_4 rfl (lv_at hl 0 rfl) ?_
  refine lv_ldc2 hx hb hown (hts _ wq234) dX10_digest_5 ?_
  refine lv_lmul hx hb dX10_digest_8 ?_
  refine zk_tl (y := 1798434) (by decide) ?_
  refine lv_aload_n hx hb dX10_digest_9 rfl (lv_at hl 1 rfl) ?_
  refine zk_i (wr := []) (va_runV (As := []) (rest := [.long 1798434]) ⟨hx, hb, hml, hown, hts⟩ (kX10_stages_0 l hst D yc e0 H.size a0 a1 a2 a3) (cwV 0 hts (lw_V wq235 wq116 wq117 wq1 wq118) rfl rfl rfl (by decide +kernel) ⟨(Nat.le_of_ble_eq_true rfl), (Nat.le_of_ble_eq_true rfl)⟩) (zk_pV hC hP hD hS hA [0, 1, 2] rfl rfl 0 9 rfl rfl) rfl rfl hl.1 rfl (lv_room (Nat.le_of_ble_eq_true rfl)) dX10_digest_10 ⟨(Nat.le_of_ble_eq_true rfl), (Nat.le_of_ble_eq_true rfl)⟩) hP hD hS hA [0, 1, 2] [] rfl rfl rfl (by decide) (fun u1 H locs hP hD hS => ?_)
  have hP : va_P D vwCl [(a0, .inr (9, [.ref a1, .ref a2, .int 0, .int 0, .int 0])), (a1, .inr (2, [.int 0, .ref a3, .int 8, .int (-1), .int 0, .int 0, .int 0, .int 0])), (a3, .inr (0, [.int 0, .ref e0, .int 0]))] H := hP
  have hD : va_D A [(a0, .inr (9, [.ref a1, .ref a2, .int 0, .int 0, .int 0])), (a1, .inr (2, [.int 0, .ref a3, .int 8, .int (-1), .int 0, .int 0, .int 0, .int 0])), (a3, .inr (0, [.int 0, .ref e0, .int 0]))] := hD
  refine W.widen (k := 0) (n := 0) (Nat.le_of_ble_eq_true rfl) (Nat.le_of_ble_eq_true rfl) ?_
  refine lv_i2l (v := 0) hx hb dX10_digest_13 (by decide) ?_
  refine lv_ladd hx hb dX10_digest_14 ?_
  refine zk_tl (y := 1798434) (by decide) ?_
  refine lv_lstore_n (lv' := [(1, .long 1798434), (0, .ref a0)]) hx hb dX10_digest_15 rfl hl (by decide) rfl (fun ls hl => ?_)
  refine lv_lload_n hx hb dX10_digest_16 rfl (lv_at hl 0 rfl) ?_
  refine lv_ldc2 hx hb hown (hts _ wq234) dX10_digest_17 ?_
  refine lv_lmul hx hb dX10_digest_20 ?_
  refine zk_tl (y := 55751454) (by decide) ?_
  refine lv_aload_n hx hb dX10_digest_21 rfl (lv_at hl 1 rfl) ?_
  refine zk_i (wr := [(a1, .inr (2, [.int 0, .ref a3, .int 8, .int (-1), .int 0, .int 0, .int 0, .int 0])), (a3, .inr (0, [.int 0, .ref e0, .int 0]))]) (va_runV (As := []) (rest := [.long 55751454]) ⟨hx, hb, hml, hown, hts⟩ (kX10_isStarted_0 l hst D yc e0 H.size a0 a1 a2) (cwV 0 hts (lw_V wq236 wq128 wq129 wq1 wq130) rfl rfl rfl (by decide +kernel) ⟨(Nat.le_of_ble_eq_true rfl), (Nat.le_of_ble_eq_true rfl)⟩) (zk_pV hC hP hD hS hA [0] rfl rfl 0 9 rfl rfl) rfl rfl hl.1 rfl (lv_room (Nat.le_of_ble_eq_true rfl)) dX10_digest_22 ⟨(Nat.le_of_ble_eq_true rfl), (Nat.le_of_ble_eq_true rfl)⟩) hP hD hS hA [0] [1, 2] rfl rfl rfl (by decide) (fun u2 H locs hP hD hS => ?_)
  have hP : va_P D vwCl [(a1, .inr (2, [.int 0, .ref a3, .int 8, .int (-1), .int 0, .int 0, .int 0, .int 0])), (a3, .inr (0, [.int 0, .ref e0, .int 0])), (a0, .inr (9, [.ref a1, .ref a2, .int 0, .int 0, .int 0]))] H := hP
  have hD : va_D A [(a1, .inr (2, [.int 0, .ref a3, .int 8, .int (-1), .int 0, .int 0, .int 0, .int 0])), (a3, .inr (0, [.int 0, .ref e0, .int 0])), (a0, .inr (9, [.ref a1, .ref a2, .int 0, .int 0, .int 0]))] := hD
  refine W.widen (k := 0) (n := 0) (Nat.le_of_ble_eq_true rfl) (Nat.le_of_ble_eq_true rfl) ?_
  refine zk_i (wr := [(a1, .inr (2, [.int 0, .ref a3, .int 8, .int (-1), .int 0, .int 0, .int 0, .int 0])), (a3, .inr (0, [.int 0, .ref e0, .int 0])), (a0, .inr (9, [.ref a1, .ref a2, .int 0, .int 0, .int 0]))]) (va_runS (As := [.int 0]) (rest := [.long 55751454]) ⟨hx, hb, hml, hown, hts⟩ (kX10_bit_0 l hst D yc e0 H.size) (va_cwS 1 hts (lw_S wq237 wq238 wq1 wq239) rfl rfl rfl (by decide +kernel) ⟨(Nat.le_of_ble_eq_true rfl), (Nat.le_of_ble_eq_true rfl)⟩) (zk_pS hC hP hD hS hA [] rfl rfl) rfl rfl hl.1 rfl (lv_room (Nat.le_of_ble_eq_true rfl)) dX10_digest_25 ⟨(Nat.le_of_ble_eq_true rfl), (Nat.le_of_ble_eq_true rfl)⟩) hP hD hS hA [] [0, 1, 2] rfl rfl rfl (by decide) (fun u3 H locs hP hD hS => ?_)
  have hP : va_P D vwCl [(a1, .inr (2, [.int 0, .ref a3, .int 8, .int (-1), .int 0, .int 0, .int 0, .int 0])), (a3, .inr (0, [.int 0, .ref e0, .int 0])), (a0, .inr (9, [.ref a1, .ref a2, .int 0, .int 0, .int 0]))] H := hP
  have hD : va_D A [(a1, .inr (2, [.int 0, .ref a3, .int 8, .int (-1), .int 0, .int 0, .int 0, .int 0])), (a3, .inr (0, [.int 0, .ref e0, .int 0])), (a0, .inr (9, [.ref a1, .ref a2, .int 0, .int 0, .int 0]))] := hD
  refine W.widen (k := 0) (n := 0) (Nat.le_of_ble_eq_true rfl) (Nat.le_of_ble_eq_true rfl) ?_
  refine lv_i2l (v := 0) hx hb dX10_digest_28 (by decide) ?_
  refine lv_ladd hx hb dX10_digest_29 ?_
  refine zk_tl (y := 55751454) (by decide) ?_
  refine lv_lstore_n (lv' := [(1, .long 55751454), (0, .ref a0)]) hx hb dX10_digest_30 rfl hl (by decide) rfl (fun ls hl => ?_)
  refine lv_lload_n hx hb dX10_digest_31 rfl (lv_at hl 0 rfl) ?_
  refine lv_ldc2 hx hb hown (hts _ wq234) dX10_digest_32 ?_
  refine lv_lmul hx hb dX10_digest_35 ?_
  refine zk_tl (y := 1728295074) (by decide) ?_
  refine lv_aload_n hx hb dX10_digest_36 rfl (lv_at hl 1 rfl) ?_
  refine zk_i (wr := [(a3, .inr (0, [.int 0, .ref e0, .int 0]))]) (va_runV (As := []) (rest := [.long 1728295074]) ⟨hx, hb, hml, hown, hts⟩ (kX10_complete_0 l hst D yc e0 H.size a0 a1 a2 a3) (cwV 0 hts (lw_V wq240 wq132 wq133 wq1 wq134) rfl rfl rfl (by decide +kernel) ⟨(Nat.le_of_ble_eq_true rfl), (Nat.le_of_ble_eq_true rfl)⟩) (zk_pV hC hP hD hS hA [2, 0] rfl rfl 2 9 rfl rfl) rfl rfl hl.1 rfl (lv_room (Nat.le_of_ble_eq_true rfl)) dX10_digest_37 ⟨(Nat.le_of_ble_eq_true rfl), (Nat.le_of_ble_eq_true rfl)⟩) hP hD hS hA [2, 0] [1] rfl rfl rfl (by decide) (fun u4 H locs hP hD hS => ?_)
  have hP : va_P D vwCl [(a3, .inr (0, [.int 0, .ref e0, .int 0])), (a0, .inr (9, [.ref a1, .ref a2, .int 0, .int 0, .int 0])), (a1, .inr (2, [.int 0, .ref a3, .int 8, .int (-1), .int 0, .int 0, .int 0, .int 0]))] H := hP
  have hD : va_D A [(a3, .inr (0, [.int 0, .ref e0, .int 0])), (a0, .inr (9, [.ref a1, .ref a2, .int 0, .int 0, .int 0])), (a1, .inr (2, [.int 0, .ref a3, .int 8, .int (-1), .int 0, .int 0, .int 0, .int 0]))] := hD
  refine W.widen (k := 0) (n := 0) (Nat.le_of_ble_eq_true rfl) (Nat.le_of_ble_eq_true rfl) ?_
  refine lv_i2l (v := 0) hx hb dX10_digest_40 (by decide) ?_
  refine lv_ladd hx hb dX10_digest_41 ?_
  refine zk_tl (y := 1728295074) (by decide) ?_
  refine lv_lstore_n (lv' := [(1, .long 1728295074), (0, .ref a0)]) hx hb dX10_digest_42 rfl hl (by decide) rfl (fun ls hl => ?_)
  refine lv_lload_n hx hb dX10_digest_43 rfl (lv_at hl 0 rfl) ?_
  refine lv_ldc2 hx hb hown (hts _ wq234) dX10_digest_44 ?_
  refine lv_lmul hx hb dX10_digest_47 ?_
  refine zk_tl (y := 53577147294) (by decide) ?_
  refine lv_aload_n hx hb dX10_digest_48 rfl (lv_at hl 1 rfl) ?_
  refine zk_i (wr := [(a3, .inr (0, [.int 0, .ref e0, .int 0]))]) (va_runV (As := []) (rest := [.long 53577147294]) ⟨hx, hb, hml, hown, hts⟩ (kX10_begun_0 l hst D yc e0 H.size a0 a1 a2 a3) (cwV 0 hts (lw_V wq241 wq136 wq137 wq1 wq138) rfl rfl rfl (by decide +kernel) ⟨(Nat.le_of_ble_eq_true rfl), (Nat.le_of_ble_eq_true rfl)⟩) (zk_pV hC hP hD hS hA [1, 2] rfl rfl 1 9 rfl rfl) rfl rfl hl.1 rfl (lv_room (Nat.le_of_ble_eq_true rfl)) dX10_digest_49 ⟨(Nat.le_of_ble_eq_true rfl), (Nat.le_of_ble_eq_true rfl)⟩) hP hD hS hA [1, 2] [0] rfl rfl rfl (by decide) (fun u5 H locs hP hD hS => ?_)
  have hP : va_P D vwCl [(a3, .inr (0, [.int 0, .ref e0, .int 0])), (a0, .inr (9, [.ref a1, .ref a2, .int 0, .int 0, .int 0])), (a1, .inr (2, [.int 0, .ref a3, .int 8, .int (-1), .int 0, .int 0, .int 0, .int 0]))] H := hP
  have hD : va_D A [(a3, .inr (0, [.int 0, .ref e0, .int 0])), (a0, .inr (9, [.ref a1, .ref a2, .int 0, .int 0, .int 0])), (a1, .inr (2, [.int 0, .ref a3, .int 8, .int (-1), .int 0, .int 0, .int 0, .int 0]))] := hD
  refine W.widen (k := 0) (n := 0) (Nat.le_of_ble_eq_true rfl) (Nat.le_of_ble_eq_true rfl) ?_
  refine lv_i2l (v := 0) hx hb dX10_digest_52 (by decide) ?_
  refine lv_ladd hx hb dX10_digest_53 ?_
  refine zk_tl (y := 53577147294) (by decide) ?_
  refine lv_lstore_n (lv' := [(1, .long 53577147294), (0, .ref a0)]) hx hb dX10_digest_54 rfl hl (by decide) rfl (fun ls hl => ?_)
  refine lv_lload_n hx hb dX10_digest_55 rfl (lv_at hl 0 rfl) ?_
  refine lv_ldc2 hx hb hown (hts _ wq234) dX10_digest_56 ?_
  refine lv_lmul hx hb dX10_digest_59 ?_
  refine zk_tl (y := 1660891566114) (by decide) ?_
  refine lv_aload_n hx hb dX10_digest_60 rfl (lv_at hl 1 rfl) ?_
  refine zk_i (wr := [(a3, .inr (0, [.int 0, .ref e0, .int 0])), (a1, .inr (2, [.int 0, .ref a3, .int 8, .int (-1), .int 0, .int 0, .int 0, .int 0]))]) (va_runV (As := []) (rest := [.long 1660891566114]) ⟨hx, hb, hml, hown, hts⟩ (kX10_crashes_0 l hst D yc e0 H.size a0 a1 a2) (cwV 0 hts (lw_V wq242 wq140 wq141 wq1 wq142) rfl rfl rfl (by decide +kernel) ⟨(Nat.le_of_ble_eq_true rfl), (Nat.le_of_ble_eq_true rfl)⟩) (zk_pV hC hP hD hS hA [1] rfl rfl 1 9 rfl rfl) rfl rfl hl.1 rfl (lv_room (Nat.le_of_ble_eq_true rfl)) dX10_digest_61 ⟨(Nat.le_of_ble_eq_true rfl), (Nat.le_of_ble_eq_true rfl)⟩) hP hD hS hA [1] [0, 2] rfl rfl rfl (by decide) (fun u6 H locs hP hD hS => ?_)
  have hP : va_P D vwCl [(a3, .inr (0, [.int 0, .ref e0, .int 0])), (a1, .inr (2, [.int 0, .ref a3, .int 8, .int (-1), .int 0, .int 0, .int 0, .int 0])), (a0, .inr (9, [.ref a1, .ref a2, .int 0, .int 0, .int 0]))] H := hP
  have hD : va_D A [(a3, .inr (0, [.int 0, .ref e0, .int 0])), (a1, .inr (2, [.int 0, .ref a3, .int 8, .int (-1), .int 0, .int 0, .int 0, .int 0])), (a0, .inr (9, [.ref a1, .ref a2, .int 0, .int 0, .int 0]))] := hD
  refine W.widen (k := 0) (n := 0) (Nat.le_of_ble_eq_true rfl) (Nat.le_of_ble_eq_true rfl) ?_
  refine lv_i2l (v := 0) hx hb dX10_digest_64 (by decide) ?_
  refine lv_ladd hx hb dX10_digest_65 ?_
  refine zk_tl (y := 1660891566114) (by decide) ?_
  refine lv_lstore_n (lv' := [(1, .long 1660891566114), (0, .ref a0)]) hx hb dX10_digest_66 rfl hl (by decide) rfl (fun ls hl => ?_)
  refine lv_lload_n hx hb dX10_digest_67 rfl (lv_at hl 0 rfl) ?_
  refine lv_ldc2 hx hb hown (hts _ wq234) dX10_digest_68 ?_
  refine lv_lmul hx hb dX10_digest_71 ?_
  refine zk_tl (y := 51487638549534) (by decide) ?_
  refine lv_aload_n hx hb dX10_digest_72 rfl (lv_at hl 1 rfl) ?_
  refine zk_i (wr := [(a3, .inr (0, [.int 0, .ref e0, .int 0])), (a1, .inr (2, [.int 0, .ref a3, .int 8, .int (-1), .int 0, .int 0, .int 0, .int 0]))]) (va_runV (As := []) (rest := [.long 51487638549534]) ⟨hx, hb, hml, hown, hts⟩ (kX10_worked_0 l hst D yc e0 H.size a0 a1 a2) (cwV 0 hts (lw_V wq243 wq144 wq145 wq1 wq146) rfl rfl rfl (by decide +kernel) ⟨(Nat.le_of_ble_eq_true rfl), (Nat.le_of_ble_eq_true rfl)⟩) (zk_pV hC hP hD hS hA [2] rfl rfl 2 9 rfl rfl) rfl rfl hl.1 rfl (lv_room (Nat.le_of_ble_eq_true rfl)) dX10_digest_73 ⟨(Nat.le_of_ble_eq_true rfl), (Nat.le_of_ble_eq_true rfl)⟩) hP hD hS hA [2] [0, 1] rfl rfl rfl (by decide) (fun u7 H locs hP hD hS => ?_)
  have hP : va_P D vwCl [(a3, .inr (0, [.int 0, .ref e0, .int 0])), (a1, .inr (2, [.int 0, .ref a3, .int 8, .int (-1), .int 0, .int 0, .int 0, .int 0])), (a0, .inr (9, [.ref a1, .ref a2, .int 0, .int 0, .int 0]))] H := hP
  have hD : va_D A [(a3, .inr (0, [.int 0, .ref e0, .int 0])), (a1, .inr (2, [.int 0, .ref a3, .int 8, .int (-1), .int 0, .int 0, .int 0, .int 0])), (a0, .inr (9, [.ref a1, .ref a2, .int 0, .int 0, .int 0]))] := hD
  refine W.widen (k := 0) (n := 0) (Nat.le_of_ble_eq_true rfl) (Nat.le_of_ble_eq_true rfl) ?_
  refine lv_i2l (v := 0) hx hb dX10_digest_76 (by decide) ?_
  refine lv_ladd hx hb dX10_digest_77 ?_
  refine zk_tl (y := 51487638549534) (by decide) ?_
  refine lv_lstore_n (lv' := [(1, .long 51487638549534), (0, .ref a0)]) hx hb dX10_digest_78 rfl hl (by decide) rfl (fun ls hl => ?_)
  refine lv_lload_n hx hb dX10_digest_79 rfl (lv_at hl 0 rfl) ?_
  refine lv_ldc2 hx hb hown (hts _ wq234) dX10_digest_80 ?_
  refine lv_lmul hx hb dX10_digest_83 ?_
  refine zk_tl (y := 1596116795035554) (by decide) ?_
  refine lv_aload_n hx hb dX10_digest_84 rfl (lv_at hl 1 rfl) ?_
  refine zk_i (wr := []) (va_runV (As := []) (rest := [.long 1596116795035554]) ⟨hx, hb, hml, hown, hts⟩ (kX10_inFlight_0 l hst D yc e0 H.size a0 a1 a2 a3) (cwV 0 hts (lw_V wq244 wq148 wq149 wq1 wq150) rfl rfl rfl (by decide +kernel) ⟨(Nat.le_of_ble_eq_true rfl), (Nat.le_of_ble_eq_true rfl)⟩) (zk_pV hC hP hD hS hA [2, 1, 0] rfl rfl 2 9 rfl rfl) rfl rfl hl.1 rfl (lv_room (Nat.le_of_ble_eq_true rfl)) dX10_digest_85 ⟨(Nat.le_of_ble_eq_true rfl), (Nat.le_of_ble_eq_true rfl)⟩) hP hD hS hA [2, 1, 0] [] rfl rfl rfl (by decide) (fun u8 H locs hP hD hS => ?_)
  have hP : va_P D vwCl [(a0, .inr (9, [.ref a1, .ref a2, .int 0, .int 0, .int 0])), (a1, .inr (2, [.int 0, .ref a3, .int 8, .int (-1), .int 0, .int 0, .int 0, .int 0])), (a3, .inr (0, [.int 0, .ref e0, .int 0]))] H := hP
  have hD : va_D A [(a0, .inr (9, [.ref a1, .ref a2, .int 0, .int 0, .int 0])), (a1, .inr (2, [.int 0, .ref a3, .int 8, .int (-1), .int 0, .int 0, .int 0, .int 0])), (a3, .inr (0, [.int 0, .ref e0, .int 0]))] := hD
  refine W.widen (k := 0) (n := 0) (Nat.le_of_ble_eq_true rfl) (Nat.le_of_ble_eq_true rfl) ?_
  refine lv_i2l (v := 0) hx hb dX10_digest_88 (by decide) ?_
  refine lv_ladd hx hb dX10_digest_89 ?_
  refine zk_tl (y := 1596116795035554) (by decide) ?_
  refine lv_lstore_n (lv' := [(1, .long 1596116795035554), (0, .ref a0)]) hx hb dX10_digest_90 rfl hl (by decide) rfl (fun ls hl => ?_)
  refine lv_lload_n hx hb dX10_digest_91 rfl (lv_at hl 0 rfl) ?_
  refine lv_ldc2 hx hb hown (hts _ wq234) dX10_digest_92 ?_
  refine lv_lmul hx hb dX10_digest_95 ?_
  refine zk_tl (y := 49479620646102174) (by decide) ?_
  refine lv_aload_n hx hb dX10_digest_96 rfl (lv_at hl 1 rfl) ?_
  refine zk_i (wr := []) (va_runV (As := []) (rest := [.long 49479620646102174]) ⟨hx, hb, hml, hown, hts⟩ (kX10_next_0 l hst D yc e0 H.size a0 a1 a2 a3) (cwV 0 hts (lw_V wq245 wq179 wq180 wq1 wq181) rfl rfl rfl (by decide +kernel) ⟨(Nat.le_of_ble_eq_true rfl), (Nat.le_of_ble_eq_true rfl)⟩) (zk_pV hC hP hD hS hA [0, 1, 2] rfl rfl 0 9 rfl rfl) rfl rfl hl.1 rfl (lv_room (Nat.le_of_ble_eq_true rfl)) dX10_digest_97 ⟨(Nat.le_of_ble_eq_true rfl), (Nat.le_of_ble_eq_true rfl)⟩) hP hD hS hA [0, 1, 2] [] rfl rfl rfl (by decide) (fun u9 H locs hP hD hS => ?_)
  have hP : va_P D vwCl [(a0, .inr (9, [.ref a1, .ref a2, .int 0, .int 0, .int 0])), (a1, .inr (2, [.int 0, .ref a3, .int 8, .int (-1), .int 0, .int 0, .int 0, .int 0])), (a3, .inr (0, [.int 0, .ref e0, .int 0]))] H := hP
  have hD : va_D A [(a0, .inr (9, [.ref a1, .ref a2, .int 0, .int 0, .int 0])), (a1, .inr (2, [.int 0, .ref a3, .int 8, .int (-1), .int 0, .int 0, .int 0, .int 0])), (a3, .inr (0, [.int 0, .ref e0, .int 0]))] := hD
  refine W.widen (k := 0) (n := 0) (Nat.le_of_ble_eq_true rfl) (Nat.le_of_ble_eq_true rfl) ?_
  refine lv_i2l (v := (-1)) hx hb dX10_digest_100 (by decide) ?_
  refine lv_ladd hx hb dX10_digest_101 ?_
  refine zk_tl (y := 49479620646102173) (by decide) ?_
  refine lv_lstore_n (lv' := [(1, .long 49479620646102173), (0, .ref a0)]) hx hb dX10_digest_102 rfl hl (by decide) rfl (fun ls hl => ?_)
  refine lv_iconst (v := 0) hx hb dX10_digest_103 (by decide) ?_
  refine lv_istore_n (lv' := [(3, .int 0), (1, .long 49479620646102173), (0, .ref a0)]) hx hb dX10_digest_104 rfl hl (by decide) rfl (fun ls hl => ?_)
  refine lv_iload_n hx hb dX10_digest_105 rfl (lv_at hl 0 rfl) ?_
  refine lv_aload_n hx hb dX10_digest_106 rfl (lv_at hl 2 rfl) ?_
  refine va_get (D := D) (ci := 9) (v := .ref a1) (C := RX10) (T := TX10) (N := 5) hx hb hts iX10 hown hK hP 0 rfl rfl 0 (by decide) (hts _ wq99) (fun _ h9 => h9) rfl dX10_digest_107 ?_
  refine zk_i (wr := [(a0, .inr (9, [.ref a1, .ref a2, .int 0, .int 0, .int 0]))]) (va_runV (As := []) (rest := [.int 0]) ⟨hx, hb, hml, hown, hts⟩ (kX2_size_0 l hst D yc e0 H.size a1 a3) (cwV 0 hts (lw_V wq119 wq120 wq121 wq2 wq122) rfl rfl rfl (by decide +kernel) ⟨(Nat.le_of_ble_eq_true rfl), (Nat.le_of_ble_eq_true rfl)⟩) (zk_pV hC hP hD hS hA [1, 2] rfl rfl 1 2 rfl rfl) rfl rfl hl.1 rfl (lv_room (Nat.le_of_ble_eq_true rfl)) dX10_digest_110 ⟨(Nat.le_of_ble_eq_true rfl), (Nat.le_of_ble_eq_true rfl)⟩) hP hD hS hA [1, 2] [0] rfl rfl rfl (by decide) (fun u10 H locs hP hD hS => ?_)
  have hP : va_P D vwCl [(a0, .inr (9, [.ref a1, .ref a2, .int 0, .int 0, .int 0])), (a1, .inr (2, [.int 0, .ref a3, .int 8, .int (-1), .int 0, .int 0, .int 0, .int 0])), (a3, .inr (0, [.int 0, .ref e0, .int 0]))] H := hP
  have hD : va_D A [(a0, .inr (9, [.ref a1, .ref a2, .int 0, .int 0, .int 0])), (a1, .inr (2, [.int 0, .ref a3, .int 8, .int (-1), .int 0, .int 0, .int 0, .int 0])), (a3, .inr (0, [.int 0, .ref e0, .int 0]))] := hD
  refine W.widen (k := 0) (n := 0) (Nat.le_of_ble_eq_true rfl) (Nat.le_of_ble_eq_true rfl) ?_
  refine lv_icmp_ge (tgt := 129) hx hb dX10_digest_113 (by decide) (fun _ => ?_) (fun h9 => absurd (by decide) h9)
  refine lv_lload_n hx hb dX10_digest_129 rfl (lv_at hl 1 rfl) ?_
  exact zk_rl (r0 := fun u => 49479620646102173) (w1 := fun u => [(a0, .inr (9, [.ref a1, .ref a2, .int 0, .int 0, .int 0])), (a1, .inr (2, [.int 0, .ref a3, .int 8, .int (-1), .int 0, .int 0, .int 0, .int 0])), (a3, .inr (0, [.int 0, .ref e0, .int 0]))]) hx hb hr hlk hP hD hS (fun _ _ => 0) rfl [0, 1, 2] rfl rfl (Nat.le_of_ble_eq_true rfl) (Nat.le_of_ble_eq_true rfl) dX10_digest_130
set_option maxHeartbeats 4000000 in
set_option maxRecDepth 100000 in
theorem kX14_flying_1 (l : Launch) (hst : l.stackTraces = false) (D : va_G) (yc : Nat → ClassId) (e0 sz : Nat) (a0 : Nat) (a1 : Nat) (a2 : Nat) (a3 : Nat) (a4 : Nat) (a5 : Nat) (a6 : Nat) (a7 : Nat)  : Met l yX14_flying (ws_ yX14_flying cX14_flying 3 (some .int)) ({ frames := 0, cells := 0, slots := 0, locals := 0 }) (PR D yc e0 [(a0, .inr (13, [.int 0, .int 0, .ref a1, .ref a2, .ref a3, .ref a4, .ref a5, .ref a6, .ref a7, .int 0, .long 58014]))] sz [.ref a0]) (va_Qi (fun r u => r = (fun u : Nat → Nat → Nat => 0) u) (WD D (va_A [(a0, .inr (13, [.int 0, .int 0, .ref a1, .ref a2, .ref a3, .ref a4, .ref a5, .ref a6, .ref a7, .int 0, .long 58014]))] sz) (fun u => [(a0, .inr (13, [.int 0, .int 0, .ref a1, .ref a2, .ref a3, .ref a4, .ref a5, .ref a6, .ref a7, .int 0, .long 58014]))])) (va_A [(a0, .inr (13, [.int 0, .int 0, .ref a1, .ref a2, .ref a3, .ref a4, .ref a5, .ref a6, .ref a7, .int 0, .long 58014]))] sz)) 0 0 (va_A [(a0, .inr (13, [.int 0, .int 0, .ref a1, .ref a2, .ref a3, .ref a4, .ref a5, .ref a6, .ref a7, .int 0, .long 58014]))] sz) := by
  refine zk_M (Qc := fun A => va_Qi (fun r u => r = (fun u : Nat → Nat → Nat => 0) u) (WD D A (fun u => [(a0, .inr (13, [.int 0, .int 0, .ref a1, .ref a2, .ref a3, .ref a4, .ref a5, .ref a6, .ref a7, .int 0, .long 58014]))])) A) (by decide) (Nat.le_of_ble_eq_true rfl) ?_
  intro p e s m args below meth c A ls hx hb hml hr hlk hown hnm hts hP hD hS hA hC hl
  have hK := hC.1
  have hN := hC.2.1
  have hl : lv_has ls 3 [(0, .ref a0)] := hl
  generalize hHH : s.heap = H at hP ⊢
  have hS : va_S A s.heap H [] := by rw [← hHH]; exact hS
  refine lv_iconst (v := 0) hx hb dX14_flying_0 (by decide) ?_
  refine lv_istore_n (lv' := [(1, .int 0), (0, .ref a0)]) hx hb dX14_flying_1 rfl hl (by decide) rfl (fun ls hl => ?_)
  refine lv_iconst (v := 0) hx hb dX14_flying_2 (by decide) ?_
  refine lv_istore_n (lv' := [(2, .int 0), (1, .int 0), (0, .ref a0)]) hx hb dX14_flying_3 rfl hl (by decide) rfl (fun ls hl => ?_)
  refine lv_iload_n hx hb dX14_flying_4 rfl (lv_at hl 0 rfl) ?_
  refine lv_aload_n hx hb dX14_flying_5 rfl (lv_at hl 2 rfl) ?_
  refine va_get (D := D) (ci := 13) (v := .int 0) (C := RX14) (T := TX14) (N := 11) hx hb hts iX14 hown hK hP 0 rfl rfl 0 (by decide) (hts _ wq1528) (fun _ h9 => h9) rfl dX14_flying_6 ?_
  refine lv_icmp_ge (tgt := 50) hx hb dX14_flying_9 (by decide) (fun _ => ?_) (fun h9 => absurd (by decide) h9)
  refine lv_iload_n hx hb dX14_flying_50 rfl (lv_at hl 1 rfl) ?_
  exact zk_ri (r0 := fun u => 0) (w1 := fun u => [(a0, .inr (13, [.int 0, .int 0, .ref a1, .ref a2, .ref a3, .ref a4, .ref a5, .ref a6, .ref a7, .int 0, .long 58014]))]) hx hb hr hlk hP hD hS (fun _ _ => 0) rfl rfl [0] rfl rfl (Nat.le_of_ble_eq_true rfl) (Nat.le_of_ble_eq_true rfl) dX14_flying_51
set_option maxHeartbeats 4000000 in
set_option maxRecDepth 100000 in
theorem kX13_next_1 (l : Launch) (hst : l.stackTraces = false) (D : va_G) (yc : Nat → ClassId) (e0 sz : Nat) (a0 : Nat) (a1 : Nat) (a2 : Nat) (a3 : Nat) (a4 : Nat) (a5 : Nat) (a6 : Nat) (a7 : Nat) (a8 : Nat) (a9 : Nat) (a10 : Nat) (a11 : Nat) (a12 : Nat) (a13 : Nat) (a14 : Nat) (a15 : Nat) (a16 : Nat)  : Met l yX13_next (ws_ yX13_next cX13_next 3 (some .int)) ({ frames := 0, cells := 0, slots := 0, locals := 0 }) (PR D yc e0 [(a0, .inr (12, [.int 8, .int (-1), .int 0, .int 0, .int 0, .int 0, .int 0, .ref a1, .ref a2, .ref a3, .ref a4, .ref a5, .ref a6, .ref a7, .ref a8, .ref a9, .ref a10])), (a10, .inr (13, [.int 0, .int 0, .ref a11, .ref a12, .ref a13, .ref a14, .ref a15, .ref a0, .ref a16, .int 0, .long 58014]))] sz [.ref a0]) (va_Qi (fun r u => r = (fun u : Nat → Nat → Nat => (-1)) u) (WD D (va_A [(a0, .inr (12, [.int 8, .int (-1), .int 0, .int 0, .int 0, .int 0, .int 0, .ref a1, .ref a2, .ref a3, .ref a4, .ref a5, .ref a6, .ref a7, .ref a8, .ref a9, .ref a10])), (a10, .inr (13, [.int 0, .int 0, .ref a11, .ref a12, .ref a13, .ref a14, .ref a15, .ref a0, .ref a16, .int 0, .long 58014]))] sz) (fun u => [(a0, .inr (12, [.int 8, .int (-1), .int 0, .int 0, .int 0, .int 0, .int 0, .ref a1, .ref a2, .ref a3, .ref a4, .ref a5, .ref a6, .ref a7, .ref a8, .ref a9, .ref a10])), (a10, .inr (13, [.int 0, .int 0, .ref a11, .ref a12, .ref a13, .ref a14, .ref a15, .ref a0, .ref a16, .int 0, .long 58014]))])) (va_A [(a0, .inr (12, [.int 8, .int (-1), .int 0, .int 0, .int 0, .int 0, .int 0, .ref a1, .ref a2, .ref a3, .ref a4, .ref a5, .ref a6, .ref a7, .ref a8, .ref a9, .ref a10])), (a10, .inr (13, [.int 0, .int 0, .ref a11, .ref a12, .ref a13, .ref a14, .ref a15, .ref a0, .ref a16, .int 0, .long 58014]))] sz)) 0 0 (va_A [(a0, .inr (12, [.int 8, .int (-1), .int 0, .int 0, .int 0, .int 0, .int 0, .ref a1, .ref a2, .ref a3, .ref a4, .ref a5, .ref a6, .ref a7, .ref a8, .ref a9, .ref a10])), (a10, .inr (13, [.int 0, .int 0, .ref a11, .ref a12, .ref a13, .ref a14, .ref a15, .ref a0, .ref a16, .int 0, .long 58014]))] sz) := by
  refine zk_M (Qc := fun A => va_Qi (fun r u => r = (fun u : Nat → Nat → Nat => (-1)) u) (WD D A (fun u => [(a0, .inr (12, [.int 8, .int (-1), .int 0, .int 0, .int 0, .int 0, .int 0, .ref a1, .ref a2, .ref a3, .ref a4, .ref a5, .ref a6, .ref a7, .ref a8, .ref a9, .ref a10])), (a10, .inr (13, [.int 0, .int 0, .ref a11, .ref a12, .ref a13, .ref a14, .ref a15, .ref a0, .ref a16, .int 0, .long 58014]))])) A) (by decide) (Nat.le_of_ble_eq_true rfl) ?_
  intro p e s m args below meth c A ls hx hb hml hr hlk hown hnm hts hP hD hS hA hC hl
  have hK := hC.1
  have hN := hC.2.1
  have hl : lv_has ls 3 [(0, .ref a0)] := hl
  generalize hHH : s.heap = H at hP ⊢
  have hS : va_S A s.heap H [] := by rw [← hHH]; exact hS
  refine lv_iconst (v := 1) hx hb dX13_next_0 (by decide) ?_
  refine lv_istore_n (lv' := [(1, .int 1), (0, .ref a0)]) hx hb dX13_next_1 rfl hl (by decide) rfl (fun ls hl => ?_)
  refine lv_iload_n hx hb dX13_next_2 rfl (lv_at hl 0 rfl) ?_
  refine lv_aload_n hx hb dX13_next_3 rfl (lv_at hl 1 rfl) ?_
  refine va_get (D := D) (ci := 12) (v := .ref a10) (C := RX13) (T := TX13) (N := 17) hx hb hts iX13 hown hK hP 0 rfl rfl 16 (by decide) (hts _ wq1491) (fun _ h9 => h9) rfl dX13_next_4 ?_
  refine va_getN (D := D) (ci := 13) (v := .int 0) (C := RX14) (T := TX14) (N := 11) hx hb hts iX14 hown hK hP 1 rfl rfl 0 (by decide) (zk_tab rfl (hN _ wr1527 rfl)) (fun _ h9 => h9) rfl dX13_next_7 ?_
  refine lv_icmp_gt (tgt := 44) hx hb dX13_next_10 (by decide) (fun _ => ?_) (fun h9 => absurd (by decide) h9)
  refine lv_iconst (v := (-1)) hx hb dX13_next_44 (by decide) ?_
  exact zk_ri (r0 := fun u => (-1)) (w1 := fun u => [(a0, .inr (12, [.int 8, .int (-1), .int 0, .int 0, .int 0, .int 0, .int 0, .ref a1, .ref a2, .ref a3, .ref a4, .ref a5, .ref a6, .ref a7, .ref a8, .ref a9, .ref a10])), (a10, .inr (13, [.int 0, .int 0, .ref a11, .ref a12, .ref a13, .ref a14, .ref a15, .ref a0, .ref a16, .int 0, .long 58014]))]) hx hb hr hlk hP hD hS (fun _ _ => 0) rfl rfl [0, 1] rfl rfl (Nat.le_of_ble_eq_true rfl) (Nat.le_of_ble_eq_true rfl) dX13_next_45
set_option maxHeartbeats 4000000 in
set_option maxRecDepth 100000 in
theorem kX14_add__0 (l : Launch) (hst : l.stackTraces = false) (D : va_G) (yc : Nat → ClassId) (e0 sz : Nat) (a0 : Nat) (a1 : Nat) (a2 : Nat) (a3 : Nat) (a4 : Nat) (a5 : Nat) (a6 : Nat) (a7 : Nat)  : Met l yX14_add_ (ws_ yX14_add_ cX14_add_ 2 none) ({ frames := 0, cells := 0, slots := 0, locals := 0 }) (PR D yc e0 [(a0, .inr (13, [.int 0, .int 0, .ref a1, .ref a2, .ref a3, .ref a4, .ref a5, .ref a6, .ref a7, .int 0, .long 58014]))] sz [.ref a0, .int 0]) (va_Qv (fun _ => True) (WD D (va_A [(a0, .inr (13, [.int 0, .int 0, .ref a1, .ref a2, .ref a3, .ref a4, .ref a5, .ref a6, .ref a7, .int 0, .long 58014]))] sz) (fun u => [(a0, .inr (13, [.int 0, .int 0, .ref a1, .ref a2, .ref a3, .ref a4, .ref a5, .ref a6, .ref a7, .int 0, .long 1798434]))])) (va_A [(a0, .inr (13, [.int 0, .int 0, .ref a1, .ref a2, .ref a3, .ref a4, .ref a5, .ref a6, .ref a7, .int 0, .long 58014]))] sz)) 0 0 (va_A [(a0, .inr (13, [.int 0, .int 0, .ref a1, .ref a2, .ref a3, .ref a4, .ref a5, .ref a6, .ref a7, .int 0, .long 58014]))] sz) := by
  refine zk_M (Qc := fun A => va_Qv (fun _ => True) (WD D A (fun u => [(a0, .inr (13, [.int 0, .int 0, .ref a1, .ref a2, .ref a3, .ref a4, .ref a5, .ref a6, .ref a7, .int 0, .long 1798434]))])) A) (by decide) (Nat.le_of_ble_eq_true rfl) ?_
  intro p e s m args below meth c A ls hx hb hml hr hlk hown hnm hts hP hD hS hA hC hl
  have hK := hC.1
  have hN := hC.2.1
  have hl : lv_has ls 2 [(0, .ref a0), (1, .int 0)] := hl
  generalize hHH : s.heap = H at hP ⊢
  have hS : va_S A s.heap H [] := by rw [← hHH]; exact hS
  refine lv_aload_n hx hb dX14_add__0 rfl (lv_at hl 0 rfl) ?_
  refine lv_aload_n hx hb dX14_add__1 rfl (lv_at hl 0 rfl) ?_
  refine va_get (D := D) (ci := 13) (v := .long 58014) (C := RX14) (T := TX14) (N := 11) hx hb hts iX14 hown hK hP 0 rfl rfl 10 (by decide) (hts _ wq1543) (fun _ h9 => h9) rfl dX14_add__2 ?_
  refine lv_ldc2 hx hb hown (hts _ wq2030) dX14_add__5 ?_
  refine lv_lmul hx hb dX14_add__8 ?_
  refine zk_tl (y := 1798434) (by decide) ?_
  refine lv_iload_n hx hb dX14_add__9 rfl (lv_at hl 1 rfl) ?_
  refine lv_i2l (v := 0) hx hb dX14_add__10 (by decide) ?_
  refine lv_ladd hx hb dX14_add__11 ?_
  refine zk_tl (y := 1798434) (by decide) ?_
  refine va_put (D := D) (ci := 13) (v := .long 1798434) (ty := .long) (C := RX14) (T := TX14) (N := 11) hx hb hts iX14 tyX14 tyX14_ok nmX14 hown hK hP hD hS 0 rfl rfl 10 (by decide) (hts _ wq1543) (fun _ h9 => h9) rfl (by decide +kernel) rfl rfl (Nat.le_of_ble_eq_true rfl) dX14_add__12 (fun H locs hP hD hS => ?_)
  have hP : va_P D vwCl [(a0, .inr (13, [.int 0, .int 0, .ref a1, .ref a2, .ref a3, .ref a4, .ref a5, .ref a6, .ref a7, .int 0, .long 1798434]))] H := hP
  have hD : va_D A [(a0, .inr (13, [.int 0, .int 0, .ref a1, .ref a2, .ref a3, .ref a4, .ref a5, .ref a6, .ref a7, .int 0, .long 1798434]))] := hD
  exact zk_rv (w1 := fun u => [(a0, .inr (13, [.int 0, .int 0, .ref a1, .ref a2, .ref a3, .ref a4, .ref a5, .ref a6, .ref a7, .int 0, .long 1798434]))]) hx hb hr hlk hP hD hS (fun _ _ => 0) [0] rfl rfl (Nat.le_of_ble_eq_true rfl) (Nat.le_of_ble_eq_true rfl) dX14_add__15
set_option maxHeartbeats 4000000 in
set_option maxRecDepth 100000 in
theorem kX14_add__1 (l : Launch) (hst : l.stackTraces = false) (D : va_G) (yc : Nat → ClassId) (e0 sz : Nat) (a0 : Nat) (a1 : Nat) (a2 : Nat) (a3 : Nat) (a4 : Nat) (a5 : Nat) (a6 : Nat) (a7 : Nat)  : Met l yX14_add_ (ws_ yX14_add_ cX14_add_ 2 none) ({ frames := 0, cells := 0, slots := 0, locals := 0 }) (PR D yc e0 [(a0, .inr (13, [.int 0, .int 0, .ref a1, .ref a2, .ref a3, .ref a4, .ref a5, .ref a6, .ref a7, .int 0, .long 1798434]))] sz [.ref a0, .int 0]) (va_Qv (fun _ => True) (WD D (va_A [(a0, .inr (13, [.int 0, .int 0, .ref a1, .ref a2, .ref a3, .ref a4, .ref a5, .ref a6, .ref a7, .int 0, .long 1798434]))] sz) (fun u => [(a0, .inr (13, [.int 0, .int 0, .ref a1, .ref a2, .ref a3, .ref a4, .ref a5, .ref a6, .ref a7, .int 0, .long 55751454]))])) (va_A [(a0, .inr (13, [.int 0, .int 0, .ref a1, .ref a2, .ref a3, .ref a4, .ref a5, .ref a6, .ref a7, .int 0, .long 1798434]))] sz)) 0 0 (va_A [(a0, .inr (13, [.int 0, .int 0, .ref a1, .ref a2, .ref a3, .ref a4, .ref a5, .ref a6, .ref a7, .int 0, .long 1798434]))] sz) := by
  refine zk_M (Qc := fun A => va_Qv (fun _ => True) (WD D A (fun u => [(a0, .inr (13, [.int 0, .int 0, .ref a1, .ref a2, .ref a3, .ref a4, .ref a5, .ref a6, .ref a7, .int 0, .long 55751454]))])) A) (by decide) (Nat.le_of_ble_eq_true rfl) ?_
  intro p e s m args below meth c A ls hx hb hml hr hlk hown hnm hts hP hD hS hA hC hl
  have hK := hC.1
  have hN := hC.2.1
  have hl : lv_has ls 2 [(0, .ref a0), (1, .int 0)] := hl
  generalize hHH : s.heap = H at hP ⊢
  have hS : va_S A s.heap H [] := by rw [← hHH]; exact hS
  refine lv_aload_n hx hb dX14_add__0 rfl (lv_at hl 0 rfl) ?_
  refine lv_aload_n hx hb dX14_add__1 rfl (lv_at hl 0 rfl) ?_
  refine va_get (D := D) (ci := 13) (v := .long 1798434) (C := RX14) (T := TX14) (N := 11) hx hb hts iX14 hown hK hP 0 rfl rfl 10 (by decide) (hts _ wq1543) (fun _ h9 => h9) rfl dX14_add__2 ?_
  refine lv_ldc2 hx hb hown (hts _ wq2030) dX14_add__5 ?_
  refine lv_lmul hx hb dX14_add__8 ?_
  refine zk_tl (y := 55751454) (by decide) ?_
  refine lv_iload_n hx hb dX14_add__9 rfl (lv_at hl 1 rfl) ?_
  refine lv_i2l (v := 0) hx hb dX14_add__10 (by decide) ?_
  refine lv_ladd hx hb dX14_add__11 ?_
  refine zk_tl (y := 55751454) (by decide) ?_
  refine va_put (D := D) (ci := 13) (v := .long 55751454) (ty := .long) (C := RX14) (T := TX14) (N := 11) hx hb hts iX14 tyX14 tyX14_ok nmX14 hown hK hP hD hS 0 rfl rfl 10 (by decide) (hts _ wq1543) (fun _ h9 => h9) rfl (by decide +kernel) rfl rfl (Nat.le_of_ble_eq_true rfl) dX14_add__12 (fun H locs hP hD hS => ?_)
  have hP : va_P D vwCl [(a0, .inr (13, [.int 0, .int 0, .ref a1, .ref a2, .ref a3, .ref a4, .ref a5, .ref a6, .ref a7, .int 0, .long 55751454]))] H := hP
  have hD : va_D A [(a0, .inr (13, [.int 0, .int 0, .ref a1, .ref a2, .ref a3, .ref a4, .ref a5, .ref a6, .ref a7, .int 0, .long 55751454]))] := hD
  exact zk_rv (w1 := fun u => [(a0, .inr (13, [.int 0, .int 0, .ref a1, .ref a2, .ref a3, .ref a4, .ref a5, .ref a6, .ref a7, .int 0, .long 55751454]))]) hx hb hr hlk hP hD hS (fun _ _ => 0) [0] rfl rfl (Nat.le_of_ble_eq_true rfl) (Nat.le_of_ble_eq_true rfl) dX14_add__15
set_option maxHeartbeats 4000000 in
set_option maxRecDepth 100000 in
theorem kX14_add__2 (l : Launch) (hst : l.stackTraces = false) (D : va_G) (yc : Nat → ClassId) (e0 sz : Nat) (a0 : Nat) (a1 : Nat) (a2 : Nat) (a3 : Nat) (a4 : Nat) (a5 : Nat) (a6 : Nat) (a7 : Nat)  : Met l yX14_add_ (ws_ yX14_add_ cX14_add_ 2 none) ({ frames := 0, cells := 0, slots := 0, locals := 0 }) (PR D yc e0 [(a0, .inr (13, [.int 0, .int 0, .ref a1, .ref a2, .ref a3, .ref a4, .ref a5, .ref a6, .ref a7, .int 0, .long 55751454]))] sz [.ref a0, .int 0]) (va_Qv (fun _ => True) (WD D (va_A [(a0, .inr (13, [.int 0, .int 0, .ref a1, .ref a2, .ref a3, .ref a4, .ref a5, .ref a6, .ref a7, .int 0, .long 55751454]))] sz) (fun u => [(a0, .inr (13, [.int 0, .int 0, .ref a1, .ref a2, .ref a3, .ref a4, .ref a5, .ref a6, .ref a7, .int 0, .long 1728295074]))])) (va_A [(a0, .inr (13, [.int 0, .int 0, .ref a1, .ref a2, .ref a3, .ref a4, .ref a5, .ref a6, .ref a7, .int 0, .long 55751454]))] sz)) 0 0 (va_A [(a0, .inr (13, [.int 0, .int 0, .ref a1, .ref a2, .ref a3, .ref a4, .ref a5, .ref a6, .ref a7, .int 0, .long 55751454]))] sz) := by
  refine zk_M (Qc := fun A => va_Qv (fun _ => True) (WD D A (fun u => [(a0, .inr (13, [.int 0, .int 0, .ref a1, .ref a2, .ref a3, .ref a4, .ref a5, .ref a6, .ref a7, .int 0, .long 1728295074]))])) A) (by decide) (Nat.le_of_ble_eq_true rfl) ?_
  intro p e s m args below meth c A ls hx hb hml hr hlk hown hnm hts hP hD hS hA hC hl
  have hK := hC.1
  have hN := hC.2.1
  have hl : lv_has ls 2 [(0, .ref a0), (1, .int 0)] := hl
  generalize hHH : s.heap = H at hP ⊢
  have hS : va_S A s.heap H [] := by rw [← hHH]; exact hS
  refine lv_aload_n hx hb dX14_add__0 rfl (lv_at hl 0 rfl) ?_
  refine lv_aload_n hx hb dX14_add__1 rfl (lv_at hl 0 rfl) ?_
  refine va_get (D := D) (ci := 13) (v := .long 55751454) (C := RX14) (T := TX14) (N := 11) hx hb hts iX14 hown hK hP 0 rfl rfl 10 (by decide) (hts _ wq1543) (fun _ h9 => h9) rfl dX14_add__2 ?_
  refine lv_ldc2 hx hb hown (hts _ wq2030) dX14_add__5 ?_
  refine lv_lmul hx hb dX14_add__8 ?_
  refine zk_tl (y := 1728295074) (by decide) ?_
  refine lv_iload_n hx hb dX14_add__9 rfl (lv_at hl 1 rfl) ?_
  refine lv_i2l (v := 0) hx hb dX14_add__10 (by decide) ?_
  refine lv_ladd hx hb dX14_add__11 ?_
  refine zk_tl (y := 1728295074) (by decide) ?_
  refine va_put (D := D) (ci := 13) (v := .long 1728295074) (ty := .long) (C := RX14) (T := TX14) (N := 11) hx hb hts iX14 tyX14 tyX14_ok nmX14 hown hK hP hD hS 0 rfl rfl 10 (by decide) (hts _ wq1543) (fun _ h9 => h9) rfl (by decide +kernel) rfl rfl (Nat.le_of_ble_eq_true rfl) dX14_add__12 (fun H locs hP hD hS => ?_)
  have hP : va_P D vwCl [(a0, .inr (13, [.int 0, .int 0, .ref a1, .ref a2, .ref a3, .ref a4, .ref a5, .ref a6, .ref a7, .int 0, .long 1728295074]))] H := hP
  have hD : va_D A [(a0, .inr (13, [.int 0, .int 0, .ref a1, .ref a2, .ref a3, .ref a4, .ref a5, .ref a6, .ref a7, .int 0, .long 1728295074]))] := hD
  exact zk_rv (w1 := fun u => [(a0, .inr (13, [.int 0, .int 0, .ref a1, .ref a2, .ref a3, .ref a4, .ref a5, .ref a6, .ref a7, .int 0, .long 1728295074]))]) hx hb hr hlk hP hD hS (fun _ _ => 0) [0] rfl rfl (Nat.le_of_ble_eq_true rfl) (Nat.le_of_ble_eq_true rfl) dX14_add__15
set_option maxHeartbeats 4000000 in
set_option maxRecDepth 100000 in
theorem kX14_add__3 (l : Launch) (hst : l.stackTraces = false) (D : va_G) (yc : Nat → ClassId) (e0 sz : Nat) (a0 : Nat) (a1 : Nat) (a2 : Nat) (a3 : Nat) (a4 : Nat) (a5 : Nat) (a6 : Nat) (a7 : Nat)  : Met l yX14_add_ (ws_ yX14_add_ cX14_add_ 2 none) ({ frames := 0, cells := 0, slots := 0, locals := 0 }) (PR D yc e0 [(a0, .inr (13, [.int 0, .int 0, .ref a1, .ref a2, .ref a3, .ref a4, .ref a5, .ref a6, .ref a7, .int 0, .long 1728295074]))] sz [.ref a0, .int 0]) (va_Qv (fun _ => True) (WD D (va_A [(a0, .inr (13, [.int 0, .int 0, .ref a1, .ref a2, .ref a3, .ref a4, .ref a5, .ref a6, .ref a7, .int 0, .long 1728295074]))] sz) (fun u => [(a0, .inr (13, [.int 0, .int 0, .ref a1, .ref a2, .ref a3, .ref a4, .ref a5, .ref a6, .ref a7, .int 0, .long 53577147294]))])) (va_A [(a0, .inr (13, [.int 0, .int 0, .ref a1, .ref a2, .ref a3, .ref a4, .ref a5, .ref a6, .ref a7, .int 0, .long 1728295074]))] sz)) 0 0 (va_A [(a0, .inr (13, [.int 0, .int 0, .ref a1, .ref a2, .ref a3, .ref a4, .ref a5, .ref a6, .ref a7, .int 0, .long 1728295074]))] sz) := by
  refine zk_M (Qc := fun A => va_Qv (fun _ => True) (WD D A (fun u => [(a0, .inr (13, [.int 0, .int 0, .ref a1, .ref a2, .ref a3, .ref a4, .ref a5, .ref a6, .ref a7, .int 0, .long 53577147294]))])) A) (by decide) (Nat.le_of_ble_eq_true rfl) ?_
  intro p e s m args below meth c A ls hx hb hml hr hlk hown hnm hts hP hD hS hA hC hl
  have hK := hC.1
  have hN := hC.2.1
  have hl : lv_has ls 2 [(0, .ref a0), (1, .int 0)] := hl
  generalize hHH : s.heap = H at hP ⊢
  have hS : va_S A s.heap H [] := by rw [← hHH]; exact hS
  refine lv_aload_n hx hb dX14_add__0 rfl (lv_at hl 0 rfl) ?_
  refine lv_aload_n hx hb dX14_add__1 rfl (lv_at hl 0 rfl) ?_
  refine va_get (D := D) (ci := 13) (v := .long 1728295074) (C := RX14) (T := TX14) (N := 11) hx hb hts iX14 hown hK hP 0 rfl rfl 10 (by decide) (hts _ wq1543) (fun _ h9 => h9) rfl dX14_add__2 ?_
  refine lv_ldc2 hx hb hown (hts _ wq2030) dX14_add__5 ?_
  refine lv_lmul hx hb dX14_add__8 ?_
  refine zk_tl (y := 53577147294) (by decide) ?_
  refine lv_iload_n hx hb dX14_add__9 rfl (lv_at hl 1 rfl) ?_
  refine lv_i2l (v := 0) hx hb dX14_add__10 (by decide) ?_
  refine lv_ladd hx hb dX14_add__11 ?_
  refine zk_tl (y := 53577147294) (by decide) ?_
  refine va_put (D := D) (ci := 13) (v := .long 53577147294) (ty := .long) (C := RX14) (T := TX14) (N := 11) hx hb hts iX14 tyX14 tyX14_ok nmX14 hown hK hP hD hS 0 rfl rfl 10 (by decide) (hts _ wq1543) (fun _ h9 => h9) rfl (by decide +kernel) rfl rfl (Nat.le_of_ble_eq_true rfl) dX14_add__12 (fun H locs hP hD hS => ?_)
  have hP : va_P D vwCl [(a0, .inr (13, [.int 0, .int 0, .ref a1, .ref a2, .ref a3, .ref a4, .ref a5, .ref a6, .ref a7, .int 0, .long 53577147294]))] H := hP
  have hD : va_D A [(a0, .inr (13, [.int 0, .int 0, .ref a1, .ref a2, .ref a3, .ref a4, .ref a5, .ref a6, .ref a7, .int 0, .long 53577147294]))] := hD
  exact zk_rv (w1 := fun u => [(a0, .inr (13, [.int 0, .int 0, .ref a1, .ref a2, .ref a3, .ref a4, .ref a5, .ref a6, .ref a7, .int 0, .long 53577147294]))]) hx hb hr hlk hP hD hS (fun _ _ => 0) [0] rfl rfl (Nat.le_of_ble_eq_true rfl) (Nat.le_of_ble_eq_true rfl) dX14_add__15
set_option maxHeartbeats 4000000 in
set_option maxRecDepth 100000 in
theorem kX14_add__4 (l : Launch) (hst : l.stackTraces = false) (D : va_G) (yc : Nat → ClassId) (e0 sz : Nat) (a0 : Nat) (a1 : Nat) (a2 : Nat) (a3 : Nat) (a4 : Nat) (a5 : Nat) (a6 : Nat) (a7 : Nat)  : Met l yX14_add_ (ws_ yX14_add_ cX14_add_ 2 none) ({ frames := 0, cells := 0, slots := 0, locals := 0 }) (PR D yc e0 [(a0, .inr (13, [.int 0, .int 0, .ref a1, .ref a2, .ref a3, .ref a4, .ref a5, .ref a6, .ref a7, .int 0, .long 53577147294]))] sz [.ref a0, .int 0]) (va_Qv (fun _ => True) (WD D (va_A [(a0, .inr (13, [.int 0, .int 0, .ref a1, .ref a2, .ref a3, .ref a4, .ref a5, .ref a6, .ref a7, .int 0, .long 53577147294]))] sz) (fun u => [(a0, .inr (13, [.int 0, .int 0, .ref a1, .ref a2, .ref a3, .ref a4, .ref a5, .ref a6, .ref a7, .int 0, .long 1660891566114]))])) (va_A [(a0, .inr (13, [.int 0, .int 0, .ref a1, .ref a2, .ref a3, .ref a4, .ref a5, .ref a6, .ref a7, .int 0, .long 53577147294]))] sz)) 0 0 (va_A [(a0, .inr (13, [.int 0, .int 0, .ref a1, .ref a2, .ref a3, .ref a4, .ref a5, .ref a6, .ref a7, .int 0, .long 53577147294]))] sz) := by
  refine zk_M (Qc := fun A => va_Qv (fun _ => True) (WD D A (fun u => [(a0, .inr (13, [.int 0, .int 0, .ref a1, .ref a2, .ref a3, .ref a4, .ref a5, .ref a6, .ref a7, .int 0, .long 1660891566114]))])) A) (by decide) (Nat.le_of_ble_eq_true rfl) ?_
  intro p e s m args below meth c A ls hx hb hml hr hlk hown hnm hts hP hD hS hA hC hl
  have hK := hC.1
  have hN := hC.2.1
  have hl : lv_has ls 2 [(0, .ref a0), (1, .int 0)] := hl
  generalize hHH : s.heap = H at hP ⊢
  have hS : va_S A s.heap H [] := by rw [← hHH]; exact hS
  refine lv_aload_n hx hb dX14_add__0 rfl (lv_at hl 0 rfl) ?_
  refine lv_aload_n hx hb dX14_add__1 rfl (lv_at hl 0 rfl) ?_
  refine va_get (D := D) (ci := 13) (v := .long 53577147294) (C := RX14) (T := TX14) (N := 11) hx hb hts iX14 hown hK hP 0 rfl rfl 10 (by decide) (hts _ wq1543) (fun _ h9 => h9) rfl dX14_add__2 ?_
  refine lv_ldc2 hx hb hown (hts _ wq2030) dX14_add__5 ?_
  refine lv_lmul hx hb dX14_add__8 ?_
  refine zk_tl (y := 1660891566114) (by decide) ?_
  refine lv_iload_n hx hb dX14_add__9 rfl (lv_at hl 1 rfl) ?_
  refine lv_i2l (v := 0) hx hb dX14_add__10 (by decide) ?_
  refine lv_ladd hx hb dX14_add__11 ?_
  refine zk_tl (y := 1660891566114) (by decide) ?_
  refine va_put (D := D) (ci := 13) (v := .long 1660891566114) (ty := .long) (C := RX14) (T := TX14) (N := 11) hx hb hts iX14 tyX14 tyX14_ok nmX14 hown hK hP hD hS 0 rfl rfl 10 (by decide) (hts _ wq1543) (fun _ h9 => h9) rfl (by decide +kernel) rfl rfl (Nat.le_of_ble_eq_true rfl) dX14_add__12 (fun H locs hP hD hS => ?_)
  have hP : va_P D vwCl [(a0, .inr (13, [.int 0, .int 0, .ref a1, .ref a2, .ref a3, .ref a4, .ref a5, .ref a6, .ref a7, .int 0, .long 1660891566114]))] H := hP
  have hD : va_D A [(a0, .inr (13, [.int 0, .int 0, .ref a1, .ref a2, .ref a3, .ref a4, .ref a5, .ref a6, .ref a7, .int 0, .long 1660891566114]))] := hD
  exact zk_rv (w1 := fun u => [(a0, .inr (13, [.int 0, .int 0, .ref a1, .ref a2, .ref a3, .ref a4, .ref a5, .ref a6, .ref a7, .int 0, .long 1660891566114]))]) hx hb hr hlk hP hD hS (fun _ _ => 0) [0] rfl rfl (Nat.le_of_ble_eq_true rfl) (Nat.le_of_ble_eq_true rfl) dX14_add__15
set_option maxHeartbeats 4000000 in
set_option maxRecDepth 100000 in
theorem kX14_add__5 (l : Launch) (hst : l.stackTraces = false) (D : va_G) (yc : Nat → ClassId) (e0 sz : Nat) (a0 : Nat) (a1 : Nat) (a2 : Nat) (a3 : Nat) (a4 : Nat) (a5 : Nat) (a6 : Nat) (a7 : Nat)  : Met l yX14_add_ (ws_ yX14_add_ cX14_add_ 2 none) ({ frames := 0, cells := 0, slots := 0, locals := 0 }) (PR D yc e0 [(a0, .inr (13, [.int 0, .int 0, .ref a1, .ref a2, .ref a3, .ref a4, .ref a5, .ref a6, .ref a7, .int 0, .long 1660891566114]))] sz [.ref a0, .int 0]) (va_Qv (fun _ => True) (WD D (va_A [(a0, .inr (13, [.int 0, .int 0, .ref a1, .ref a2, .ref a3, .ref a4, .ref a5, .ref a6, .ref a7, .int 0, .long 1660891566114]))] sz) (fun u => [(a0, .inr (13, [.int 0, .int 0, .ref a1, .ref a2, .ref a3, .ref a4, .ref a5, .ref a6, .ref a7, .int 0, .long 51487638549534]))])) (va_A [(a0, .inr (13, [.int 0, .int 0, .ref a1, .ref a2, .ref a3, .ref a4, .ref a5, .ref a6, .ref a7, .int 0, .long 1660891566114]))] sz)) 0 0 (va_A [(a0, .inr (13, [.int 0, .int 0, .ref a1, .ref a2, .ref a3, .ref a4, .ref a5, .ref a6, .ref a7, .int 0, .long 1660891566114]))] sz) := by
  refine zk_M (Qc := fun A => va_Qv (fun _ => True) (WD D A (fun u => [(a0, .inr (13, [.int 0, .int 0, .ref a1, .ref a2, .ref a3, .ref a4, .ref a5, .ref a6, .ref a7, .int 0, .long 51487638549534]))])) A) (by decide) (Nat.le_of_ble_eq_true rfl) ?_
  intro p e s m args below meth c A ls hx hb hml hr hlk hown hnm hts hP hD hS hA hC hl
  have hK := hC.1
  have hN := hC.2.1
  have hl : lv_has ls 2 [(0, .ref a0), (1, .int 0)] := hl
  generalize hHH : s.heap = H at hP ⊢
  have hS : va_S A s.heap H [] := by rw [← hHH]; exact hS
  refine lv_aload_n hx hb dX14_add__0 rfl (lv_at hl 0 rfl) ?_
  refine lv_aload_n hx hb dX14_add__1 rfl (lv_at hl 0 rfl) ?_
  refine va_get (D := D) (ci := 13) (v := .long 1660891566114) (C := RX14) (T := TX14) (N := 11) hx hb hts iX14 hown hK hP 0 rfl rfl 10 (by decide) (hts _ wq1543) (fun _ h9 => h9) rfl dX14_add__2 ?_
  refine lv_ldc2 hx hb hown (hts _ wq2030) dX14_add__5 ?_
  refine lv_lmul hx hb dX14_add__8 ?_
  refine zk_tl (y := 51487638549534) (by decide) ?_
  refine lv_iload_n hx hb dX14_add__9 rfl (lv_at hl 1 rfl) ?_
  refine lv_i2l (v := 0) hx hb dX14_add__10 (by decide) ?_
  refine lv_ladd hx hb dX14_add__11 ?_
  refine zk_tl (y := 51487638549534) (by decide) ?_
  refine va_put (D := D) (ci := 13) (v := .long 51487638549534) (ty := .long) (C := RX14) (T := TX14) (N := 11) hx hb hts iX14 tyX14 tyX14_ok nmX14 hown hK hP hD hS 0 rfl rfl 10 (by decide) (hts _ wq1543) (fun _ h9 => h9) rfl (by decide +kernel) rfl rfl (Nat.le_of_ble_eq_true rfl) dX14_add__12 (fun H locs hP hD hS => ?_)
  have hP : va_P D vwCl [(a0, .inr (13, [.int 0, .int 0, .ref a1, .ref a2, .ref a3, .ref a4, .ref a5, .ref a6, .ref a7, .int 0, .long 51487638549534]))] H := hP
  have hD : va_D A [(a0, .inr (13, [.int 0, .int 0, .ref a1, .ref a2, .ref a3, .ref a4, .ref a5, .ref a6, .ref a7, .int 0, .long 51487638549534]))] := hD
  exact zk_rv (w1 := fun u => [(a0, .inr (13, [.int 0, .int 0, .ref a1, .ref a2, .ref a3, .ref a4, .ref a5, .ref a6, .ref a7, .int 0, .long 51487638549534]))]) hx hb hr hlk hP hD hS (fun _ _ => 0) [0] rfl rfl (Nat.le_of_ble_eq_true rfl) (Nat.le_of_ble_eq_true rfl) dX14_add__15
set_option maxHeartbeats 4000000 in
set_option maxRecDepth 100000 in
theorem kX14_add__6 (l : Launch) (hst : l.stackTraces = false) (D : va_G) (yc : Nat → ClassId) (e0 sz : Nat) (a0 : Nat) (a1 : Nat) (a2 : Nat) (a3 : Nat) (a4 : Nat) (a5 : Nat) (a6 : Nat) (a7 : Nat)  : Met l yX14_add_ (ws_ yX14_add_ cX14_add_ 2 none) ({ frames := 0, cells := 0, slots := 0, locals := 0 }) (PR D yc e0 [(a0, .inr (13, [.int 0, .int 0, .ref a1, .ref a2, .ref a3, .ref a4, .ref a5, .ref a6, .ref a7, .int 0, .long 51487638549534]))] sz [.ref a0, .int 0]) (va_Qv (fun _ => True) (WD D (va_A [(a0, .inr (13, [.int 0, .int 0, .ref a1, .ref a2, .ref a3, .ref a4, .ref a5, .ref a6, .ref a7, .int 0, .long 51487638549534]))] sz) (fun u => [(a0, .inr (13, [.int 0, .int 0, .ref a1, .ref a2, .ref a3, .ref a4, .ref a5, .ref a6, .ref a7, .int 0, .long 1596116795035554]))])) (va_A [(a0, .inr (13, [.int 0, .int 0, .ref a1, .ref a2, .ref a3, .ref a4, .ref a5, .ref a6, .ref a7, .int 0, .long 51487638549534]))] sz)) 0 0 (va_A [(a0, .inr (13, [.int 0, .int 0, .ref a1, .ref a2, .ref a3, .ref a4, .ref a5, .ref a6, .ref a7, .int 0, .long 51487638549534]))] sz) := by
  refine zk_M (Qc := fun A => va_Qv (fun _ => True) (WD D A (fun u => [(a0, .inr (13, [.int 0, .int 0, .ref a1, .ref a2, .ref a3, .ref a4, .ref a5, .ref a6, .ref a7, .int 0, .long 1596116795035554]))])) A) (by decide) (Nat.le_of_ble_eq_true rfl) ?_
  intro p e s m args below meth c A ls hx hb hml hr hlk hown hnm hts hP hD hS hA hC hl
  have hK := hC.1
  have hN := hC.2.1
  have hl : lv_has ls 2 [(0, .ref a0), (1, .int 0)] := hl
  generalize hHH : s.heap = H at hP ⊢
  have hS : va_S A s.heap H [] := by rw [← hHH]; exact hS
  refine lv_aload_n hx hb dX14_add__0 rfl (lv_at hl 0 rfl) ?_
  refine lv_aload_n hx hb dX14_add__1 rfl (lv_at hl 0 rfl) ?_
  refine va_get (D := D) (ci := 13) (v := .long 51487638549534) (C := RX14) (T := TX14) (N := 11) hx hb hts iX14 hown hK hP 0 rfl rfl 10 (by decide) (hts _ wq1543) (fun _ h9 => h9) rfl dX14_add__2 ?_
  refine lv_ldc2 hx hb hown (hts _ wq2030) dX14_add__5 ?_
  refine lv_lmul hx hb dX14_add__8 ?_
  refine zk_tl (y := 1596116795035554) (by decide) ?_
  refine lv_iload_n hx hb dX14_add__9 rfl (lv_at hl 1 rfl) ?_
  refine lv_i2l (v := 0) hx hb dX14_add__10 (by decide) ?_
  refine lv_ladd hx hb dX14_add__11 ?_
  refine zk_tl (y := 1596116795035554) (by decide) ?_
  refine va_put (D := D) (ci := 13) (v := .long 1596116795035554) (ty := .long) (C := RX14) (T := TX14) (N := 11) hx hb hts iX14 tyX14 tyX14_ok nmX14 hown hK hP hD hS 0 rfl rfl 10 (by decide) (hts _ wq1543) (fun _ h9 => h9) rfl (by decide +kernel) rfl rfl (Nat.le_of_ble_eq_true rfl) dX14_add__12 (fun H locs hP hD hS => ?_)
  have hP : va_P D vwCl [(a0, .inr (13, [.int 0, .int 0, .ref a1, .ref a2, .ref a3, .ref a4, .ref a5, .ref a6, .ref a7, .int 0, .long 1596116795035554]))] H := hP
  have hD : va_D A [(a0, .inr (13, [.int 0, .int 0, .ref a1, .ref a2, .ref a3, .ref a4, .ref a5, .ref a6, .ref a7, .int 0, .long 1596116795035554]))] := hD
  exact zk_rv (w1 := fun u => [(a0, .inr (13, [.int 0, .int 0, .ref a1, .ref a2, .ref a3, .ref a4, .ref a5, .ref a6, .ref a7, .int 0, .long 1596116795035554]))]) hx hb hr hlk hP hD hS (fun _ _ => 0) [0] rfl rfl (Nat.le_of_ble_eq_true rfl) (Nat.le_of_ble_eq_true rfl) dX14_add__15
set_option maxHeartbeats 4000000 in
set_option maxRecDepth 100000 in
theorem kX14_add__7 (l : Launch) (hst : l.stackTraces = false) (D : va_G) (yc : Nat → ClassId) (e0 sz : Nat) (a0 : Nat) (a1 : Nat) (a2 : Nat) (a3 : Nat) (a4 : Nat) (a5 : Nat) (a6 : Nat) (a7 : Nat)  : Met l yX14_add_ (ws_ yX14_add_ cX14_add_ 2 none) ({ frames := 0, cells := 0, slots := 0, locals := 0 }) (PR D yc e0 [(a0, .inr (13, [.int 0, .int 0, .ref a1, .ref a2, .ref a3, .ref a4, .ref a5, .ref a6, .ref a7, .int 0, .long 1596116795035554]))] sz [.ref a0, .int (-1)]) (va_Qv (fun _ => True) (WD D (va_A [(a0, .inr (13, [.int 0, .int 0, .ref a1, .ref a2, .ref a3, .ref a4, .ref a5, .ref a6, .ref a7, .int 0, .long 1596116795035554]))] sz) (fun u => [(a0, .inr (13, [.int 0, .int 0, .ref a1, .ref a2, .ref a3, .ref a4, .ref a5, .ref a6, .ref a7, .int 0, .long 49479620646102173]))])) (va_A [(a0, .inr (13, [.int 0, .int 0, .ref a1, .ref a2, .ref a3, .ref a4, .ref a5, .ref a6, .ref a7, .int 0, .long 1596116795035554]))] sz)) 0 0 (va_A [(a0, .inr (13, [.int 0, .int 0, .ref a1, .ref a2, .ref a3, .ref a4, .ref a5, .ref a6, .ref a7, .int 0, .long 1596116795035554]))] sz) := by
  refine zk_M (Qc := fun A => va_Qv (fun _ => True) (WD D A (fun u => [(a0, .inr (13, [.int 0, .int 0, .ref a1, .ref a2, .ref a3, .ref a4, .ref a5, .ref a6, .ref a7, .int 0, .long 49479620646102173]))])) A) (by decide) (Nat.le_of_ble_eq_true rfl) ?_
  intro p e s m args below meth c A ls hx hb hml hr hlk hown hnm hts hP hD hS hA hC hl
  have hK := hC.1
  have hN := hC.2.1
  have hl : lv_has ls 2 [(0, .ref a0), (1, .int (-1))] := hl
  generalize hHH : s.heap = H at hP ⊢
  have hS : va_S A s.heap H [] := by rw [← hHH]; exact hS
  refine lv_aload_n hx hb dX14_add__0 rfl (lv_at hl 0 rfl) ?_
  refine lv_aload_n hx hb dX14_add__1 rfl (lv_at hl 0 rfl) ?_
  refine va_get (D := D) (ci := 13) (v := .long 1596116795035554) (C := RX14) (T := TX14) (N := 11) hx hb hts iX14 hown hK hP 0 rfl rfl 10 (by decide) (hts _ wq1543) (fun _ h9 => h9) rfl dX14_add__2 ?_
  refine lv_ldc2 hx hb hown (hts _ wq2030) dX14_add__5 ?_
  refine lv_lmul hx hb dX14_add__8 ?_
  refine zk_tl (y := 49479620646102174) (by decide) ?_
  refine lv_iload_n hx hb dX14_add__9 rfl (lv_at hl 1 rfl) ?_
  refine lv_i2l (v := (-1)) hx hb dX14_add__10 (by decide) ?_
  refine lv_ladd hx hb dX14_add__11 ?_
  refine zk_tl (y := 49479620646102173) (by decide) ?_
  refine va_put (D := D) (ci := 13) (v := .long 49479620646102173) (ty := .long) (C := RX14) (T := TX14) (N := 11) hx hb hts iX14 tyX14 tyX14_ok nmX14 hown hK hP hD hS 0 rfl rfl 10 (by decide) (hts _ wq1543) (fun _ h9 => h9) rfl (by decide +kernel) rfl rfl (Nat.le_of_ble_eq_true rfl) dX14_add__12 (fun H locs hP hD hS => ?_)
  have hP : va_P D vwCl [(a0, .inr (13, [.int 0, .int 0, .ref a1, .ref a2, .ref a3, .ref a4, .ref a5, .ref a6, .ref a7, .int 0, .long 49479620646102173]))] H := hP
  have hD : va_D A [(a0, .inr (13, [.int 0, .int 0, .ref a1, .ref a2, .ref a3, .ref a4, .ref a5, .ref a6, .ref a7, .int 0, .long 49479620646102173]))] := hD
  exact zk_rv (w1 := fun u => [(a0, .inr (13, [.int 0, .int 0, .ref a1, .ref a2, .ref a3, .ref a4, .ref a5, .ref a6, .ref a7, .int 0, .long 49479620646102173]))]) hx hb hr hlk hP hD hS (fun _ _ => 0) [0] rfl rfl (Nat.le_of_ble_eq_true rfl) (Nat.le_of_ble_eq_true rfl) dX14_add__15
set_option maxHeartbeats 4000000 in
set_option maxRecDepth 100000 in
theorem kX14_digest_0 (l : Launch) (hst : l.stackTraces = false) (D : va_G) (yc : Nat → ClassId) (e0 sz : Nat) (a0 : Nat) (a1 : Nat) (a2 : Nat) (a3 : Nat) (a4 : Nat) (a5 : Nat) (a6 : Nat) (a7 : Nat) (a8 : Nat) (a9 : Nat) (a10 : Nat) (a11 : Nat) (a12 : Nat) (a13 : Nat) (a14 : Nat) (a15 : Nat) (a16 : Nat)  : Met l yX14_digest (ws_ yX14_digest cX14_digest 6 (some .long)) ({ frames := 1, cells := 1, slots := 8, locals := 22 }) (PR D yc e0 [(a0, .inr (13, [.int 0, .int 0, .ref a1, .ref a2, .ref a3, .ref a4, .ref a5, .ref a6, .ref a7, .int 0, .long 0])), (a6, .inr (12, [.int 8, .int (-1), .int 0, .int 0, .int 0, .int 0, .int 0, .ref a8, .ref a9, .ref a10, .ref a11, .ref a12, .ref a13, .ref a14, .ref a15, .ref a16, .ref a0]))] sz [.ref a0]) (va_Ql (fun r u => r = (fun u : Nat → Nat → Nat => 49479620646102173) u) (WD D (va_A [(a0, .inr (13, [.int 0, .int 0, .ref a1, .ref a2, .ref a3, .ref a4, .ref a5, .ref a6, .ref a7, .int 0, .long 0])), (a6, .inr (12, [.int 8, .int (-1), .int 0, .int 0, .int 0, .int 0, .int 0, .ref a8, .ref a9, .ref a10, .ref a11, .ref a12, .ref a13, .ref a14, .ref a15, .ref a16, .ref a0]))] sz) (fun u => [(a6, .inr (12, [.int 8, .int (-1), .int 0, .int 0, .int 0, .int 0, .int 0, .ref a8, .ref a9, .ref a10, .ref a11, .ref a12, .ref a13, .ref a14, .ref a15, .ref a16, .ref a0])), (a0, .inr (13, [.int 0, .int 0, .ref a1, .ref a2, .ref a3, .ref a4, .ref a5, .ref a6, .ref a7, .int 0, .long 49479620646102173]))])) (va_A [(a0, .inr (13, [.int 0, .int 0, .ref a1, .ref a2, .ref a3, .ref a4, .ref a5, .ref a6, .ref a7, .int 0, .long 0])), (a6, .inr (12, [.int 8, .int (-1), .int 0, .int 0, .int 0, .int 0, .int 0, .ref a8, .ref a9, .ref a10, .ref a11, .ref a12, .ref a13, .ref a14, .ref a15, .ref a16, .ref a0]))] sz)) 1 8 (va_A [(a0, .inr (13, [.int 0, .int 0, .ref a1, .ref a2, .ref a3, .ref a4, .ref a5, .ref a6, .ref a7, .int 0, .long 0])), (a6, .inr (12, [.int 8, .int (-1), .int 0, .int 0, .int 0, .int 0, .int 0, .ref a8, .ref a9, .ref a10, .ref a11, .ref a12, .ref a13, .ref a14, .ref a15, .ref a16, .ref a0]))] sz) := by
  refine zk_M (Qc := fun A => va_Ql (fun r u => r = (fun u : Nat → Nat → Nat => 49479620646102173) u) (WD D A (fun u => [(a6, .inr (12, [.int 8, .int (-1), .int 0, .int 0, .int 0, .int 0, .int 0, .ref a8, .ref a9, .ref a10, .ref a11, .ref a12, .ref a13, .ref a14, .ref a15, .ref a16, .ref a0])), (a0, .inr (13, [.int 0, .int 0, .ref a1, .ref a2, .ref a3, .ref a4, .ref a5, .ref a6, .ref a7, .int 0, .long 49479620646102173]))])) A) (by decide) (Nat.le_of_ble_eq_true rfl) ?_
  intro p e s m args below meth c A ls hx hb hml hr hlk hown hnm hts hP hD hS hA hC hl
  have hK := hC.1
  have hN := hC.2.1
  have hl : lv_has ls 6 [(0, .ref a0)] := hl
  generalize hHH : s.heap = H at hP ⊢
  have hS : va_S A s.heap H [] := by rw [← hHH]; exact hS
  refine lv_aload_n hx hb dX14_digest_0 rfl (lv_at hl 0 rfl) ?_
  refine lv_iconst (v := 0) hx hb dX14_digest_1 (by decide) ?_
  refine va_put (D := D) (ci := 13) (v := .int 0) (ty := .int) (C := RX14) (T := TX14) (N := 11) hx hb hts iX14 tyX14 tyX14_ok nmX14 hown hK hP hD hS 0 rfl rfl 9 (by decide) (hts _ wq1542) (fun _ h9 => h9) rfl (by decide +kernel) rfl rfl (Nat.le_of_ble_eq_true rfl) dX14_digest_2 (fun H locs hP hD hS => ?_)
  have hP : va_P D vwCl [(a0, .inr (13, [.int 0, .int 0, .ref a1, .ref a2, .ref a3, .ref a4, .ref a5, .ref a6, .ref a7, .int 0, .long 0])), (a6, .inr (12, [.int 8, .int (-1), .int 0, .int 0, .int 0, .int 0, .int 0, .ref a8, .ref a9, .ref a10, .ref a11, .ref a12, .ref a13, .ref a14, .ref a15, .ref a16, .ref a0]))] H := hP
  have hD : va_D A [(a0, .inr (13, [.int 0, .int 0, .ref a1, .ref a2, .ref a3, .ref a4, .ref a5, .ref a6, .ref a7, .int 0, .long 0])), (a6, .inr (12, [.int 8, .int (-1), .int 0, .int 0, .int 0, .int 0, .int 0, .ref a8, .ref a9, .ref a10, .ref a11, .ref a12, .ref a13, .ref a14, .ref a15, .ref a16, .ref a0]))] := hD
  refine lv_aload_n hx hb dX14_digest_5 rfl (lv_at hl 0 rfl) ?_
  refine lv_ldc2 hx hb hown (hts _ wq2025) dX14_digest_6 ?_
  refine va_put (D := D) (ci := 13) (v := .long 58014) (ty := .long) (C := RX14) (T := TX14) (N := 11) hx hb hts iX14 tyX14 tyX14_ok nmX14 hown hK hP hD hS 0 rfl rfl 10 (by decide) (hts _ wq1543) (fun _ h9 => h9) rfl (by decide +kernel) rfl rfl (Nat.le_of_ble_eq_true rfl) dX14_digest_9 (fun H locs hP hD hS => ?_)
  have hP : va_P D vwCl [(a0, .inr (13, [.int 0, .int 0, .ref a1, .ref a2, .ref a3, .ref a4, .ref a5, .ref a6, .ref a7, .int 0, .long 58014])), (a6, .inr (12, [.int 8, .int (-1), .int 0, .int 0, .int 0, .int 0, .int 0, .ref a8, .ref a9, .ref a10, .ref a11, .ref a12, .ref a13, .ref a14, .ref a15, .ref a16, .ref a0]))] H := hP
  have hD : va_D A [(a0, .inr (13, [.int 0, .int 0, .ref a1, .ref a2, .ref a3, .ref a4, .ref a5, .ref a6, .ref a7, .int 0, .long 58014])), (a6, .inr (12, [.int 8, .int (-1), .int 0, .int 0, .int 0, .int 0, .int 0, .ref a8, .ref a9, .ref a10, .ref a11, .ref a12, .ref a13, .ref a14, .ref a15, .ref a16, .ref a0]))] := hD
  refine lv_bipush (v := 8) hx hb dX14_digest_12 (by decide) ?_
  refine va_newa (atype := .int) (a0 := (8, .inl (fun _ => 0))) hx hb (hts _ wq1400) rfl hK hP hD hS hA (fun cA => rfl) (by decide) (N' := 8) (by decide) (Nat.le_of_ble_eq_true rfl) (Nat.le_of_ble_eq_true rfl) (Nat.le_of_ble_eq_true rfl) dX14_digest_14 (fun q1 cA H hK1 hP hD hS => ?_)
  obtain rfl : cA = yc 0 := zk_same hK1 9 0 rfl rfl
  have hP : va_P D vwCl [(a0, .inr (13, [.int 0, .int 0, .ref a1, .ref a2, .ref a3, .ref a4, .ref a5, .ref a6, .ref a7, .int 0, .long 58014])), (a6, .inr (12, [.int 8, .int (-1), .int 0, .int 0, .int 0, .int 0, .int 0, .ref a8, .ref a9, .ref a10, .ref a11, .ref a12, .ref a13, .ref a14, .ref a15, .ref a16, .ref a0])), (q1, .inl (yc 0, 8, .inl (fun _ => 0)))] H := hP
  have hD : va_D A [(a0, .inr (13, [.int 0, .int 0, .ref a1, .ref a2, .ref a3, .ref a4, .ref a5, .ref a6, .ref a7, .int 0, .long 58014])), (a6, .inr (12, [.int 8, .int (-1), .int 0, .int 0, .int 0, .int 0, .int 0, .ref a8, .ref a9, .ref a10, .ref a11, .ref a12, .ref a13, .ref a14, .ref a15, .ref a16, .ref a0])), (q1, .inl (yc 0, 8, .inl (fun _ => 0)))] := hD
  refine W.widen (k := 1) (n := 8) (Nat.le_of_ble_eq_true rfl) (Nat.le_of_ble_eq_true rfl) ?_
  refine lv_dup hx hb dX14_digest_16 rfl ?_
  refine lv_iconst (v := 0) hx hb dX14_digest_17 (by decide) ?_
  refine lv_aload_n hx hb dX14_digest_18 rfl (lv_at hl 0 rfl) ?_
  refine va_get (D := D) (ci := 13) (v := .int 0) (C := RX14) (T := TX14) (N := 11) hx hb hts iX14 hown hK hP 0 rfl rfl 0 (by decide) (hts _ wq1528) (fun _ h9 => h9) rfl dX14_digest_19 ?_
  refine va_iast hx hb hK hP hD hS 2 0 rfl rfl (by unfold vp_in; decide) dX14_digest_22 (fun H locs hP hD hS => ?_)
  have hP : va_P D vwCl [(a0, .inr (13, [.int 0, .int 0, .ref a1, .ref a2, .ref a3, .ref a4, .ref a5, .ref a6, .ref a7, .int 0, .long 58014])), (a6, .inr (12, [.int 8, .int (-1), .int 0, .int 0, .int 0, .int 0, .int 0, .ref a8, .ref a9, .ref a10, .ref a11, .ref a12, .ref a13, .ref a14, .ref a15, .ref a16, .ref a0])), (q1, .inl (yc 0, 8, .inl (upd (fun _ => 0) (0 : Int32).toNatClampNeg 0)))] H := hP
  have hD : va_D A [(a0, .inr (13, [.int 0, .int 0, .ref a1, .ref a2, .ref a3, .ref a4, .ref a5, .ref a6, .ref a7, .int 0, .long 58014])), (a6, .inr (12, [.int 8, .int (-1), .int 0, .int 0, .int 0, .int 0, .int 0, .ref a8, .ref a9, .ref a10, .ref a11, .ref a12, .ref a13, .ref a14, .ref a15, .ref a16, .ref a0])), (q1, .inl (yc 0, 8, .inl (upd (fun _ => 0) (0 : Int32).toNatClampNeg 0)))] := hD
  refine lv_dup hx hb dX14_digest_23 rfl ?_
  refine lv_iconst (v := 1) hx hb dX14_digest_24 (by decide) ?_
  refine lv_aload_n hx hb dX14_digest_25 rfl (lv_at hl 0 rfl) ?_
  refine va_get (D := D) (ci := 13) (v := .int 0) (C := RX14) (T := TX14) (N := 11) hx hb hts iX14 hown hK hP 0 rfl rfl 1 (by decide) (hts _ wq1529) (fun _ h9 => h9) rfl dX14_digest_26 ?_
  refine lv_if_eq (tgt := 36) hx hb dX14_digest_29 (by decide) (fun _ => ?_) (fun h9 => absurd (by decide) h9)
  refine lv_iconst (v := 0) hx hb dX14_digest_36 (by decide) ?_
  refine va_iast hx hb hK hP hD hS 2 0 rfl rfl (by unfold vp_in; decide) dX14_digest_37 (fun H locs hP hD hS => ?_)
  have hP : va_P D vwCl [(a0, .inr (13, [.int 0, .int 0, .ref a1, .ref a2, .ref a3, .ref a4, .ref a5, .ref a6, .ref a7, .int 0, .long 58014])), (a6, .inr (12, [.int 8, .int (-1), .int 0, .int 0, .int 0, .int 0, .int 0, .ref a8, .ref a9, .ref a10, .ref a11, .ref a12, .ref a13, .ref a14, .ref a15, .ref a16, .ref a0])), (q1, .inl (yc 0, 8, .inl (upd (upd (fun _ => 0) (0 : Int32).toNatClampNeg 0) (1 : Int32).toNatClampNeg 0)))] H := hP
  have hD : va_D A [(a0, .inr (13, [.int 0, .int 0, .ref a1, .ref a2, .ref a3, .ref a4, .ref a5, .ref a6, .ref a7, .int 0, .long 58014])), (a6, .inr (12, [.int 8, .int (-1), .int 0, .int 0, .int 0, .int 0, .int 0, .ref a8, .ref a9, .ref a10, .ref a11, .ref a12, .ref a13, .ref a14, .ref a15, .ref a16, .ref a0])), (q1, .inl (yc 0, 8, .inl (upd (upd (fun _ => 0) (0 : Int32).toNatClampNeg 0) (1 : Int32).toNatClampNeg 0)))] := hD
  refine lv_dup hx hb dX14_digest_38 rfl ?_
  refine lv_iconst (v := 2) hx hb dX14_digest_39 (by decide) ?_
  refine lv_aload_n hx hb dX14_digest_40 rfl (lv_at hl 0 rfl) ?_
  refine va_get (D := D) (ci := 13) (v := .ref a6) (C := RX14) (T := TX14) (N := 11) hx hb hts iX14 hown hK hP 0 rfl rfl 7 (by decide) (hts _ wq1540) (fun _ h9 => h9) rfl dX14_digest_41 ?_
  refine va_getN (D := D) (ci := 12) (v := .int 0) (C := RX13) (T := TX13) (N := 17) hx hb hts iX13 hown hK hP 1 rfl rfl 3 (by decide) (zk_tab rfl (hN _ wr1470 rfl)) (fun _ h9 => h9) rfl dX14_digest_44 ?_
  refine va_iast hx hb hK hP hD hS 2 0 rfl rfl (by unfold vp_in; decide) dX14_digest_47 (fun H locs hP hD hS => ?_)
  have hP : va_P D vwCl [(a0, .inr (13, [.int 0, .int 0, .ref a1, .ref a2, .ref a3, .ref a4, .ref a5, .ref a6, .ref a7, .int 0, .long 58014])), (a6, .inr (12, [.int 8, .int (-1), .int 0, .int 0, .int 0, .int 0, .int 0, .ref a8, .ref a9, .ref a10, .ref a11, .ref a12, .ref a13, .ref a14, .ref a15, .ref a16, .ref a0])), (q1, .inl (yc 0, 8, .inl (upd (upd (upd (fun _ => 0) (0 : Int32).toNatClampNeg 0) (1 : Int32).toNatClampNeg 0) (2 : Int32).toNatClampNeg 0)))] H := hP
  have hD : va_D A [(a0, .inr (13, [.int 0, .int 0, .ref a1, .ref a2, .ref a3, .ref a4, .ref a5, .ref a6, .ref a7, .int 0, .long 58014])), (a6, .inr (12, [.int 8, .int (-1), .int 0, .int 0, .int 0, .int 0, .int 0, .ref a8, .ref a9, .ref a10, .ref a11, .ref a12, .ref a13, .ref a14, .ref a15, .ref a16, .ref a0])), (q1, .inl (yc 0, 8, .inl (upd (upd (upd (fun _ => 0) (0 : Int32).toNatClampNeg 0) (1 : Int32).toNatClampNeg 0) (2 : Int32).toNatClampNeg 0)))] := hD
  refine lv_dup hx hb dX14_digest_48 rfl ?_
  refine lv_iconst (v := 3) hx hb dX14_digest_49 (by decide) ?_
  refine lv_aload_n hx hb dX14_digest_50 rfl (lv_at hl 0 rfl) ?_
  refine va_get (D := D) (ci := 13) (v := .ref a6) (C := RX14) (T := TX14) (N := 11) hx hb hts iX14 hown hK hP 0 rfl rfl 7 (by decide) (hts _ wq1540) (fun _ h9 => h9) rfl dX14_digest_51 ?_
  refine va_getN (D := D) (ci := 12) (v := .int 0) (C := RX13) (T := TX13) (N := 17) hx hb hts iX13 hown hK hP 1 rfl rfl 2 (by decide) (zk_tab rfl (hN _ wr1468 rfl)) (fun _ h9 => h9) rfl dX14_digest_54 ?_
  refine va_iast hx hb hK hP hD hS 2 0 rfl rfl (by unfold vp_in; decide) dX14_digest_57 (fun H locs hP hD hS => ?_)
  have hP : va_P D vwCl [(a0, .inr (13, [.int 0, .int 0, .ref a1, .ref a2, .ref a3, .ref a4, .ref a5, .ref a6, .ref a7, .int 0, .long 58014])), (a6, .inr (12, [.int 8, .int (-1), .int 0, .int 0, .int 0, .int 0, .int 0, .ref a8, .ref a9, .ref a10, .ref a11, .ref a12, .ref a13, .ref a14, .ref a15, .ref a16, .ref a0])), (q1, .inl (yc 0, 8, .inl (upd (upd (upd (upd (fun _ => 0) (0 : Int32).toNatClampNeg 0) (1 : Int32).toNatClampNeg 0) (2 : Int32).toNatClampNeg 0) (3 : Int32).toNatClampNeg 0)))] H := hP
  have hD : va_D A [(a0, .inr (13, [.int 0, .int 0, .ref a1, .ref a2, .ref a3, .ref a4, .ref a5, .ref a6, .ref a7, .int 0, .long 58014])), (a6, .inr (12, [.int 8, .int (-1), .int 0, .int 0, .int 0, .int 0, .int 0, .ref a8, .ref a9, .ref a10, .ref a11, .ref a12, .ref a13, .ref a14, .ref a15, .ref a16, .ref a0])), (q1, .inl (yc 0, 8, .inl (upd (upd (upd (upd (fun _ => 0) (0 : Int32).toNatClampNeg 0) (1 : Int32).toNatClampNeg 0) (2 : Int32).toNatClampNeg 0) (3 : Int32).toNatClampNeg 0)))] := hD
  refine lv_dup hx hb dX14_digest_58 rfl ?_
  refine lv_iconst (v := 4) hx hb dX14_digest_59 (by decide) ?_
  refine lv_aload_n hx hb dX14_digest_60 rfl (lv_at hl 0 rfl) ?_
  refine va_get (D := D) (ci := 13) (v := .ref a6) (C := RX14) (T := TX14) (N := 11) hx hb hts iX14 hown hK hP 0 rfl rfl 7 (by decide) (hts _ wq1540) (fun _ h9 => h9) rfl dX14_digest_61 ?_
  refine va_getN (D := D) (ci := 12) (v := .int 0) (C := RX13) (T := TX13) (N := 17) hx hb hts iX13 hown hK hP 1 rfl rfl 5 (by decide) (zk_tab rfl (hN _ wr1473 rfl)) (fun _ h9 => h9) rfl dX14_digest_64 ?_
  refine va_iast hx hb hK hP hD hS 2 0 rfl rfl (by unfold vp_in; decide) dX14_digest_67 (fun H locs hP hD hS => ?_)
  have hP : va_P D vwCl [(a0, .inr (13, [.int 0, .int 0, .ref a1, .ref a2, .ref a3, .ref a4, .ref a5, .ref a6, .ref a7, .int 0, .long 58014])), (a6, .inr (12, [.int 8, .int (-1), .int 0, .int 0, .int 0, .int 0, .int 0, .ref a8, .ref a9, .ref a10, .ref a11, .ref a12, .ref a13, .ref a14, .ref a15, .ref a16, .ref a0])), (q1, .inl (yc 0, 8, .inl (upd (upd (upd (upd (upd (fun _ => 0) (0 : Int32).toNatClampNeg 0) (1 : Int32).toNatClampNeg 0) (2 : Int32).toNatClampNeg 0) (3 : Int32).toNatClampNeg 0) (4 : Int32).toNatClampNeg 0)))] H := hP
  have hD : va_D A [(a0, .inr (13, [.int 0, .int 0, .ref a1, .ref a2, .ref a3, .ref a4, .ref a5, .ref a6, .ref a7, .int 0, .long 58014])), (a6, .inr (12, [.int 8, .int (-1), .int 0, .int 0, .int 0, .int 0, .int 0, .ref a8, .ref a9, .ref a10, .ref a11, .ref a12, .ref a13, .ref a14, .ref a15, .ref a16, .ref a0])), (q1, .inl (yc 0, 8, .inl (upd (upd (upd (upd (upd (fun _ => 0) (0 : Int32).toNatClampNeg 0) (1 : Int32).toNatClampNeg 0) (2 : Int32).toNatClampNeg 0) (3 : Int32).toNatClampNeg 0) (4 : Int32).toNatClampNeg 0)))] := hD
  refine lv_dup hx hb dX14_digest_68 rfl ?_
  refine lv_iconst (v := 5) hx hb dX14_digest_69 (by decide) ?_
  refine lv_aload_n hx hb dX14_digest_70 rfl (lv_at hl 0 rfl) ?_
  refine va_get (D := D) (ci := 13) (v := .ref a6) (C := RX14) (T := TX14) (N := 11) hx hb hts iX14 hown hK hP 0 rfl rfl 7 (by decide) (hts _ wq1540) (fun _ h9 => h9) rfl dX14_digest_71 ?_
  refine va_getN (D := D) (ci := 12) (v := .int 0) (C := RX13) (T := TX13) (N := 17) hx hb hts iX13 hown hK hP 1 rfl rfl 6 (by decide) (zk_tab rfl (hN _ wr1475 rfl)) (fun _ h9 => h9) rfl dX14_digest_74 ?_
  refine va_iast hx hb hK hP hD hS 2 0 rfl rfl (by unfold vp_in; decide) dX14_digest_77 (fun H locs hP hD hS => ?_)
  have hP : va_P D vwCl [(a0, .inr (13, [.int 0, .int 0, .ref a1, .ref a2, .ref a3, .ref a4, .ref a5, .ref a6, .ref a7, .int 0, .long 58014])), (a6, .inr (12, [.int 8, .int (-1), .int 0, .int 0, .int 0, .int 0, .int 0, .ref a8, .ref a9, .ref a10, .ref a11, .ref a12, .ref a13, .ref a14, .ref a15, .ref a16, .ref a0])), (q1, .inl (yc 0, 8, .inl (upd (upd (upd (upd (upd (upd (fun _ => 0) (0 : Int32).toNatClampNeg 0) (1 : Int32).toNatClampNeg 0) (2 : Int32).toNatClampNeg 0) (3 : Int32).toNatClampNeg 0) (4 : Int32).toNatClampNeg 0) (5 : Int32).toNatClampNeg 0)))] H := hP
  have hD : va_D A [(a0, .inr (13, [.int 0, .int 0, .ref a1, .ref a2, .ref a3, .ref a4, .ref a5, .ref a6, .ref a7, .int 0, .long 58014])), (a6, .inr (12, [.int 8, .int (-1), .int 0, .int 0, .int 0, .int 0, .int 0, .ref a8, .ref a9, .ref a10, .ref a11, .ref a12, .ref a13, .ref a14, .ref a15, .ref a16, .ref a0])), (q1, .inl (yc 0, 8, .inl (upd (upd (upd (upd (upd (upd (fun _ => 0) (0 : Int32).toNatClampNeg 0) (1 : Int32).toNatClampNeg 0) (2 : Int32).toNatClampNeg 0) (3 : Int32).toNatClampNeg 0) (4 : Int32).toNatClampNeg 0) (5 : Int32).toNatClampNeg 0)))] := hD
  refine lv_dup hx hb dX14_digest_78 rfl ?_
  refine lv_bipush (v := 6) hx hb dX14_digest_79 (by decide) ?_
  refine lv_aload_n hx hb dX14_digest_81 rfl (lv_at hl 0 rfl) ?_
  refine zk_i (wr := [(a6, .inr (12, [.int 8, .int (-1), .int 0, .int 0, .int 0, .int 0, .int 0, .ref a8, .ref a9, .ref a10, .ref a11, .ref a12, .ref a13, .ref a14, .ref a15, .ref a16, .ref a0])), (q1, .inl (yc 0, 8, .inl (upd (upd (upd (upd (upd (upd (fun _ => 0) (0 : Int32).toNatClampNeg 0) (1 : Int32).toNatClampNeg 0) (2 : Int32).toNatClampNeg 0) (3 : Int32).toNatClampNeg 0) (4 : Int32).toNatClampNeg 0) (5 : Int32).toNatClampNeg 0)))]) (va_runV (As := []) (rest := [.int 6, .ref q1, .ref q1]) ⟨hx, hb, hml, hown, hts⟩ (kX14_flying_1 l hst D yc e0 H.size a0 a1 a2 a3 a4 a5 a6 a7) (cwV 0 hts (lw_V wq1983 wq1985 ws73 wq6 wq1986) rfl rfl rfl (by decide +kernel) ⟨(Nat.le_of_ble_eq_true rfl), (Nat.le_of_ble_eq_true rfl)⟩) (zk_pV hC hP hD hS hA [0] rfl rfl 0 13 rfl rfl) rfl rfl hl.1 rfl (lv_room (Nat.le_of_ble_eq_true rfl)) dX14_digest_82 ⟨(Nat.le_of_ble_eq_true rfl), (Nat.le_of_ble_eq_true rfl)⟩) hP hD hS hA [0] [1, 2] rfl rfl rfl (by decide) (fun u2 H locs hP hD hS => ?_)
  have hP : va_P D vwCl [(a6, .inr (12, [.int 8, .int (-1), .int 0, .int 0, .int 0, .int 0, .int 0, .ref a8, .ref a9, .ref a10, .ref a11, .ref a12, .ref a13, .ref a14, .ref a15, .ref a16, .ref a0])), (q1, .inl (yc 0, 8, .inl (upd (upd (upd (upd (upd (upd (fun _ => 0) (0 : Int32).toNatClampNeg 0) (1 : Int32).toNatClampNeg 0) (2 : Int32).toNatClampNeg 0) (3 : Int32).toNatClampNeg 0) (4 : Int32).toNatClampNeg 0) (5 : Int32).toNatClampNeg 0))), (a0, .inr (13, [.int 0, .int 0, .ref a1, .ref a2, .ref a3, .ref a4, .ref a5, .ref a6, .ref a7, .int 0, .long 58014]))] H := hP
  have hD : va_D A [(a6, .inr (12, [.int 8, .int (-1), .int 0, .int 0, .int 0, .int 0, .int 0, .ref a8, .ref a9, .ref a10, .ref a11, .ref a12, .ref a13, .ref a14, .ref a15, .ref a16, .ref a0])), (q1, .inl (yc 0, 8, .inl (upd (upd (upd (upd (upd (upd (fun _ => 0) (0 : Int32).toNatClampNeg 0) (1 : Int32).toNatClampNeg 0) (2 : Int32).toNatClampNeg 0) (3 : Int32).toNatClampNeg 0) (4 : Int32).toNatClampNeg 0) (5 : Int32).toNatClampNeg 0))), (a0, .inr (13, [.int 0, .int 0, .ref a1, .ref a2, .ref a3, .ref a4, .ref a5, .ref a6, .ref a7, .int 0, .long 58014]))] := hD
  refine W.widen (k := 1) (n := 8) (Nat.le_of_ble_eq_true rfl) (Nat.le_of_ble_eq_true rfl) ?_
  refine va_iast hx hb hK hP hD hS 1 0 rfl rfl (by unfold vp_in; decide) dX14_digest_85 (fun H locs hP hD hS => ?_)
  have hP : va_P D vwCl [(a6, .inr (12, [.int 8, .int (-1), .int 0, .int 0, .int 0, .int 0, .int 0, .ref a8, .ref a9, .ref a10, .ref a11, .ref a12, .ref a13, .ref a14, .ref a15, .ref a16, .ref a0])), (q1, .inl (yc 0, 8, .inl (upd (upd (upd (upd (upd (upd (upd (fun _ => 0) (0 : Int32).toNatClampNeg 0) (1 : Int32).toNatClampNeg 0) (2 : Int32).toNatClampNeg 0) (3 : Int32).toNatClampNeg 0) (4 : Int32).toNatClampNeg 0) (5 : Int32).toNatClampNeg 0) (6 : Int32).toNatClampNeg 0))), (a0, .inr (13, [.int 0, .int 0, .ref a1, .ref a2, .ref a3, .ref a4, .ref a5, .ref a6, .ref a7, .int 0, .long 58014]))] H := hP
  have hD : va_D A [(a6, .inr (12, [.int 8, .int (-1), .int 0, .int 0, .int 0, .int 0, .int 0, .ref a8, .ref a9, .ref a10, .ref a11, .ref a12, .ref a13, .ref a14, .ref a15, .ref a16, .ref a0])), (q1, .inl (yc 0, 8, .inl (upd (upd (upd (upd (upd (upd (upd (fun _ => 0) (0 : Int32).toNatClampNeg 0) (1 : Int32).toNatClampNeg 0) (2 : Int32).toNatClampNeg 0) (3 : Int32).toNatClampNeg 0) (4 : Int32).toNatClampNeg 0) (5 : Int32).toNatClampNeg 0) (6 : Int32).toNatClampNeg 0))), (a0, .inr (13, [.int 0, .int 0, .ref a1, .ref a2, .ref a3, .ref a4, .ref a5, .ref a6, .ref a7, .int 0, .long 58014]))] := hD
  refine lv_dup hx hb dX14_digest_86 rfl ?_
  refine lv_bipush (v := 7) hx hb dX14_digest_87 (by decide) ?_
  refine lv_aload_n hx hb dX14_digest_89 rfl (lv_at hl 0 rfl) ?_
  refine va_get (D := D) (ci := 13) (v := .ref a6) (C := RX14) (T := TX14) (N := 11) hx hb hts iX14 hown hK hP 2 rfl rfl 7 (by decide) (hts _ wq1540) (fun _ h9 => h9) rfl dX14_digest_90 ?_
  refine zk_i (wr := [(q1, .inl (yc 0, 8, .inl (upd (upd (upd (upd (upd (upd (upd (fun _ => 0) (0 : Int32).toNatClampNeg 0) (1 : Int32).toNatClampNeg 0) (2 : Int32).toNatClampNeg 0) (3 : Int32).toNatClampNeg 0) (4 : Int32).toNatClampNeg 0) (5 : Int32).toNatClampNeg 0) (6 : Int32).toNatClampNeg 0)))]) (va_runV (As := []) (rest := [.int 7, .ref q1, .ref q1]) ⟨hx, hb, hml, hown, hts⟩ (kX13_next_1 l hst D yc e0 H.size a6 a8 a9 a10 a11 a12 a13 a14 a15 a16 a0 a1 a2 a3 a4 a5 a7) (cwV 0 hts (lw_V wq1991 wq1671 wq1672 wq7 wq1673) rfl rfl rfl (by decide +kernel) ⟨(Nat.le_of_ble_eq_true rfl), (Nat.le_of_ble_eq_true rfl)⟩) (zk_pV hC hP hD hS hA [0, 2] rfl rfl 0 12 rfl rfl) rfl rfl hl.1 rfl (lv_room (Nat.le_of_ble_eq_true rfl)) dX14_digest_93 ⟨(Nat.le_of_ble_eq_true rfl), (Nat.le_of_ble_eq_true rfl)⟩) hP hD hS hA [0, 2] [1] rfl rfl rfl (by decide) (fun u3 H locs hP hD hS => ?_)
  have hP : va_P D vwCl [(q1, .inl (yc 0, 8, .inl (upd (upd (upd (upd (upd (upd (upd (fun _ => 0) (0 : Int32).toNatClampNeg 0) (1 : Int32).toNatClampNeg 0) (2 : Int32).toNatClampNeg 0) (3 : Int32).toNatClampNeg 0) (4 : Int32).toNatClampNeg 0) (5 : Int32).toNatClampNeg 0) (6 : Int32).toNatClampNeg 0))), (a6, .inr (12, [.int 8, .int (-1), .int 0, .int 0, .int 0, .int 0, .int 0, .ref a8, .ref a9, .ref a10, .ref a11, .ref a12, .ref a13, .ref a14, .ref a15, .ref a16, .ref a0])), (a0, .inr (13, [.int 0, .int 0, .ref a1, .ref a2, .ref a3, .ref a4, .ref a5, .ref a6, .ref a7, .int 0, .long 58014]))] H := hP
  have hD : va_D A [(q1, .inl (yc 0, 8, .inl (upd (upd (upd (upd (upd (upd (upd (fun _ => 0) (0 : Int32).toNatClampNeg 0) (1 : Int32).toNatClampNeg 0) (2 : Int32).toNatClampNeg 0) (3 : Int32).toNatClampNeg 0) (4 : Int32).toNatClampNeg 0) (5 : Int32).toNatClampNeg 0) (6 : Int32).toNatClampNeg 0))), (a6, .inr (12, [.int 8, .int (-1), .int 0, .int 0, .int 0, .int 0, .int 0, .ref a8, .ref a9, .ref a10, .ref a11, .ref a12, .ref a13, .ref a14, .ref a15, .ref a16, .ref a0])), (a0, .inr (13, [.int 0, .int 0, .ref a1, .ref a2, .ref a3, .ref a4, .ref a5, .ref a6, .ref a7, .int 0, .long 58014]))] := hD
  refine W.widen (k := 1) (n := 8) (Nat.le_of_ble_eq_true rfl) (Nat.le_of_ble_eq_true rfl) ?_
  refine va_iast hx hb hK hP hD hS 0 0 rfl rfl (by unfold vp_in; decide) dX14_digest_96 (fun H locs hP hD hS => ?_)
  have hP : va_P D vwCl [(q1, .inl (yc 0, 8, .inl (upd (upd (upd (upd (upd (upd (upd (upd (fun _ => 0) (0 : Int32).toNatClampNeg 0) (1 : Int32).toNatClampNeg 0) (2 : Int32).toNatClampNeg 0) (3 : Int32).toNatClampNeg 0) (4 : Int32).toNatClampNeg 0) (5 : Int32).toNatClampNeg 0) (6 : Int32).toNatClampNeg 0) (7 : Int32).toNatClampNeg (-1)))), (a6, .inr (12, [.int 8, .int (-1), .int 0, .int 0, .int 0, .int 0, .int 0, .ref a8, .ref a9, .ref a10, .ref a11, .ref a12, .ref a13, .ref a14, .ref a15, .ref a16, .ref a0])), (a0, .inr (13, [.int 0, .int 0, .ref a1, .ref a2, .ref a3, .ref a4, .ref a5, .ref a6, .ref a7, .int 0, .long 58014]))] H := hP
  have hD : va_D A [(q1, .inl (yc 0, 8, .inl (upd (upd (upd (upd (upd (upd (upd (upd (fun _ => 0) (0 : Int32).toNatClampNeg 0) (1 : Int32).toNatClampNeg 0) (2 : Int32).toNatClampNeg 0) (3 : Int32).toNatClampNeg 0) (4 : Int32).toNatClampNeg 0) (5 : Int32).toNatClampNeg 0) (6 : Int32).toNatClampNeg 0) (7 : Int32).toNatClampNeg (-1)))), (a6, .inr (12, [.int 8, .int (-1), .int 0, .int 0, .int 0, .int 0, .int 0, .ref a8, .ref a9, .ref a10, .ref a11, .ref a12, .ref a13, .ref a14, .ref a15, .ref a16, .ref a0])), (a0, .inr (13, [.int 0, .int 0, .ref a1, .ref a2, .ref a3, .ref a4, .ref a5, .ref a6, .ref a7, .int 0, .long 58014]))] := hD
  refine lv_astore_n (lv' := [(1, .ref q1), (0, .ref a0)]) hx hb dX14_digest_97 rfl hl (by decide) rfl (fun ls hl => ?_)
  refine lv_aload_n hx hb dX14_digest_98 rfl (lv_at hl 0 rfl) ?_
  refine lv_astore_n (lv' := [(2, .ref q1), (1, .ref q1), (0, .ref a0)]) hx hb dX14_digest_99 rfl hl (by decide) rfl (fun ls hl => ?_)
  refine lv_aload_n hx hb dX14_digest_100 rfl (lv_at hl 0 rfl) ?_
  refine va_alen hx hb hK hP 0 0 rfl rfl (v := 8) rfl dX14_digest_101 ?_
  refine lv_istore_n (lv' := [(3, .int 8), (2, .ref q1), (1, .ref q1), (0, .ref a0)]) hx hb dX14_digest_102 rfl hl (by decide) rfl (fun ls hl => ?_)
  refine lv_iconst (v := 0) hx hb dX14_digest_103 (by decide) ?_
  refine lv_istore (lv' := [(4, .int 0), (3, .int 8), (2, .ref q1), (1, .ref q1), (0, .ref a0)]) hx hb dX14_digest_104 hl (by decide) rfl (fun ls hl => ?_)
  refine lv_iload hx hb dX14_digest_106 (lv_at hl 0 rfl) ?_
  refine lv_iload_n hx hb dX14_digest_108 rfl (lv_at hl 1 rfl) ?_
  refine lv_icmp_ge (tgt := 130) hx hb dX14_digest_109 (by decide) (fun h9 => absurd h9 (by decide)) (fun _ => ?_)
  refine lv_aload_n hx hb dX14_digest_112 rfl (lv_at hl 2 rfl) ?_
  refine lv_iload hx hb dX14_digest_113 (lv_at hl 0 rfl) ?_
  refine va_iald hx hb hK hP 0 0 rfl rfl (by unfold vp_in; decide) dX14_digest_115 ?_
  refine zk_ti (y := 0) (by first | rfl | decide) ?_
  refine lv_istore (lv' := [(5, .int 0), (4, .int 0), (3, .int 8), (2, .ref q1), (1, .ref q1), (0, .ref a0)]) hx hb dX14_digest_116 hl (by decide) rfl (fun ls hl => ?_)
  refine lv_aload_n hx hb dX14_digest_118 rfl (lv_at hl 5 rfl) ?_
  refine lv_iload hx hb dX14_digest_119 (lv_at hl 0 rfl) ?_
  refine zk_v (wr := [(q1, .inl (yc 0, 8, .inl (upd (upd (upd (upd (upd (upd (upd (upd (fun _ => 0) (0 : Int32).toNatClampNeg 0) (1 : Int32).toNatClampNeg 0) (2 : Int32).toNatClampNeg 0) (3 : Int32).toNatClampNeg 0) (4 : Int32).toNatClampNeg 0) (5 : Int32).toNatClampNeg 0) (6 : Int32).toNatClampNeg 0) (7 : Int32).toNatClampNeg (-1)))), (a6, .inr (12, [.int 8, .int (-1), .int 0, .int 0, .int 0, .int 0, .int 0, .ref a8, .ref a9, .ref a10, .ref a11, .ref a12, .ref a13, .ref a14, .ref a15, .ref a16, .ref a0]))]) (va_runV (As := [.int 0]) (rest := []) ⟨hx, hb, hml, hown, hts⟩ (kX14_add__0 l hst D yc e0 H.size a0 a1 a2 a3 a4 a5 a6 a7) (cwV 1 hts (lw_V wq2026 wq2028 ws75 wq6 wq2029) rfl rfl rfl (by decide +kernel) ⟨(Nat.le_of_ble_eq_true rfl), (Nat.le_of_ble_eq_true rfl)⟩) (zk_pV hC hP hD hS hA [2] rfl rfl 2 13 rfl rfl) rfl rfl hl.1 rfl (lv_room (Nat.le_of_ble_eq_true rfl)) dX14_digest_121 ⟨(Nat.le_of_ble_eq_true rfl), (Nat.le_of_ble_eq_true rfl)⟩) hP hD hS hA [2] [0, 1] rfl rfl rfl (by decide) (fun u4 H locs hP hD hS => ?_)
  have hP : va_P D vwCl [(q1, .inl (yc 0, 8, .inl (upd (upd (upd (upd (upd (upd (upd (upd (fun _ => 0) (0 : Int32).toNatClampNeg 0) (1 : Int32).toNatClampNeg 0) (2 : Int32).toNatClampNeg 0) (3 : Int32).toNatClampNeg 0) (4 : Int32).toNatClampNeg 0) (5 : Int32).toNatClampNeg 0) (6 : Int32).toNatClampNeg 0) (7 : Int32).toNatClampNeg (-1)))), (a6, .inr (12, [.int 8, .int (-1), .int 0, .int 0, .int 0, .int 0, .int 0, .ref a8, .ref a9, .ref a10, .ref a11, .ref a12, .ref a13, .ref a14, .ref a15, .ref a16, .ref a0])), (a0, .inr (13, [.int 0, .int 0, .ref a1, .ref a2, .ref a3, .ref a4, .ref a5, .ref a6, .ref a7, .int 0, .long 1798434]))] H := hP
  have hD : va_D A [(q1, .inl (yc 0, 8, .inl (upd (upd (upd (upd (upd (upd (upd (upd (fun _ => 0) (0 : Int32).toNatClampNeg 0) (1 : Int32).toNatClampNeg 0) (2 : Int32).toNatClampNeg 0) (3 : Int32).toNatClampNeg 0) (4 : Int32).toNatClampNeg 0) (5 : Int32).toNatClampNeg 0) (6 : Int32).toNatClampNeg 0) (7 : Int32).toNatClampNeg (-1)))), (a6, .inr (12, [.int 8, .int (-1), .int 0, .int 0, .int 0, .int 0, .int 0, .ref a8, .ref a9, .ref a10, .ref a11, .ref a12, .ref a13, .ref a14, .ref a15, .ref a16, .ref a0])), (a0, .inr (13, [.int 0, .int 0, .ref a1, .ref a2, .ref a3, .ref a4, .ref a5, .ref a6, .ref a7, .int 0, .long 1798434]))] := hD
  refine W.widen (k := 1) (n := 8) (Nat.le_of_ble_eq_true rfl) (Nat.le_of_ble_eq_true rfl) ?_
  refine lv_iinc (v := 1) (lv' := [(4, .int 1), (5, .int 0), (3, .int 8), (2, .ref q1), (1, .ref q1), (0, .ref a0)]) hx hb dX14_digest_124 hl (k := 1) rfl (by decide) (by decide) rfl (fun ls hl => ?_)
  refine lv_goto (tgt := 106) hx hb dX14_digest_127 (by decide) ?_
  refine lv_iload hx hb dX14_digest_106 (lv_at hl 0 rfl) ?_
  refine lv_iload_n hx hb dX14_digest_108 rfl (lv_at hl 2 rfl) ?_
  refine lv_icmp_ge (tgt := 130) hx hb dX14_digest_109 (by decide) (fun h9 => absurd h9 (by decide)) (fun _ => ?_)
  refine lv_aload_n hx hb dX14_digest_112 rfl (lv_at hl 3 rfl) ?_
  refine lv_iload hx hb dX14_digest_113 (lv_at hl 0 rfl) ?_
  refine va_iald hx hb hK hP 0 0 rfl rfl (by unfold vp_in; decide) dX14_digest_115 ?_
  refine zk_ti (y := 0) (by first | rfl | decide) ?_
  refine lv_istore (lv' := [(5, .int 0), (4, .int 1), (3, .int 8), (2, .ref q1), (1, .ref q1), (0, .ref a0)]) hx hb dX14_digest_116 hl (by decide) rfl (fun ls hl => ?_)
  refine lv_aload_n hx hb dX14_digest_118 rfl (lv_at hl 5 rfl) ?_
  refine lv_iload hx hb dX14_digest_119 (lv_at hl 0 rfl) ?_
  refine zk_v (wr := [(q1, .inl (yc 0, 8, .inl (upd (upd (upd (upd (upd (upd (upd (upd (fun _ => 0) (0 : Int32).toNatClampNeg 0) (1 : Int32).toNatClampNeg 0) (2 : Int32).toNatClampNeg 0) (3 : Int32).toNatClampNeg 0) (4 : Int32).toNatClampNeg 0) (5 : Int32).toNatClampNeg 0) (6 : Int32).toNatClampNeg 0) (7 : Int32).toNatClampNeg (-1)))), (a6, .inr (12, [.int 8, .int (-1), .int 0, .int 0, .int 0, .int 0, .int 0, .ref a8, .ref a9, .ref a10, .ref a11, .ref a12, .ref a13, .ref a14, .ref a15, .ref a16, .ref a0]))]) (va_runV (As := [.int 0]) (rest := []) ⟨hx, hb, hml, hown, hts⟩ (kX14_add__1 l hst D yc e0 H.size a0 a1 a2 a3 a4 a5 a6 a7) (cwV 1 hts (lw_V wq2026 wq2028 ws75 wq6 wq2029) rfl rfl rfl (by decide +kernel) ⟨(Nat.le_of_ble_eq_true rfl), (Nat.le_of_ble_eq_true rfl)⟩) (zk_pV hC hP hD hS hA [2] rfl rfl 2 13 rfl rfl) rfl rfl hl.1 rfl (lv_room (Nat.le_of_ble_eq_true rfl)) dX14_digest_121 ⟨(Nat.le_of_ble_eq_true rfl), (Nat.le_of_ble_eq_true rfl)⟩) hP hD hS hA [2] [0, 1] rfl rfl rfl (by decide) (fun u5 H locs hP hD hS => ?_)
  have hP : va_P D vwCl [(q1, .inl (yc 0, 8, .inl (upd (upd (upd (upd (upd (upd (upd (upd (fun _ => 0) (0 : Int32).toNatClampNeg 0) (1 : Int32).toNatClampNeg 0) (2 : Int32).toNatClampNeg 0) (3 : Int32).toNatClampNeg 0) (4 : Int32).toNatClampNeg 0) (5 : Int32).toNatClampNeg 0) (6 : Int32).toNatClampNeg 0) (7 : Int32).toNatClampNeg (-1)))), (a6, .inr (12, [.int 8, .int (-1), .int 0, .int 0, .int 0, .int 0, .int 0, .ref a8, .ref a9, .ref a10, .ref a11, .ref a12, .ref a13, .ref a14, .ref a15, .ref a16, .ref a0])), (a0, .inr (13, [.int 0, .int 0, .ref a1, .ref a2, .ref a3, .ref a4, .ref a5, .ref a6, .ref a7, .int 0, .long 55751454]))] H := hP
  have hD : va_D A [(q1, .inl (yc 0, 8, .inl (upd (upd (upd (upd (upd (upd (upd (upd (fun _ => 0) (0 : Int32).toNatClampNeg 0) (1 : Int32).toNatClampNeg 0) (2 : Int32).toNatClampNeg 0) (3 : Int32).toNatClampNeg 0) (4 : Int32).toNatClampNeg 0) (5 : Int32).toNatClampNeg 0) (6 : Int32).toNatClampNeg 0) (7 : Int32).toNatClampNeg (-1)))), (a6, .inr (12, [.int 8, .int (-1), .int 0, .int 0, .int 0, .int 0, .int 0, .ref a8, .ref a9, .ref a10, .ref a11, .ref a12, .ref a13, .ref a14, .ref a15, .ref a16, .ref a0])), (a0, .inr (13, [.int 0, .int 0, .ref a1, .ref a2, .ref a3, .ref a4, .ref a5, .ref a6, .ref a7, .int 0, .long 55751454]))] := hD
  refine W.widen (k := 1) (n := 8) (Nat.le_of_ble_eq_true rfl) (Nat.le_of_ble_eq_true rfl) ?_
  refine lv_iinc (v := 2) (lv' := [(4, .int 2), (5, .int 0), (3, .int 8), (2, .ref q1), (1, .ref q1), (0, .ref a0)]) hx hb dX14_digest_124 hl (k := 1) rfl (by decide) (by decide) rfl (fun ls hl => ?_)
  refine lv_goto (tgt := 106) hx hb dX14_digest_127 (by decide) ?_
  refine lv_iload hx hb dX14_digest_106 (lv_at hl 0 rfl) ?_
  refine lv_iload_n hx hb dX14_digest_108 rfl (lv_at hl 2 rfl) ?_
  refine lv_icmp_ge (tgt := 130) hx hb dX14_digest_109 (by decide) (fun h9 => absurd h9 (by decide)) (fun _ => ?_)
  refine lv_aload_n hx hb dX14_digest_112 rfl (lv_at hl 3 rfl) ?_
  refine lv_iload hx hb dX14_digest_113 (lv_at hl 0 rfl) ?_
  refine va_iald hx hb hK hP 0 0 rfl rfl (by unfold vp_in; decide) dX14_digest_115 ?_
  refine zk_ti (y := 0) (by first | rfl | decide) ?_
  refine lv_istore (lv' := [(5, .int 0), (4, .int 2), (3, .int 8), (2, .ref q1), (1, .ref q1), (0, .ref a0)]) hx hb dX14_digest_116 hl (by decide) rfl (fun ls hl => ?_)
  refine lv_aload_n hx hb dX14_digest_118 rfl (lv_at hl 5 rfl) ?_
  refine lv_iload hx hb dX14_digest_119 (lv_at hl 0 rfl) ?_
  refine zk_v (wr := [(q1, .inl (yc 0, 8, .inl (upd (upd (upd (upd (upd (upd (upd (upd (fun _ => 0) (0 : Int32).toNatClampNeg 0) (1 : Int32).toNatClampNeg 0) (2 : Int32).toNatClampNeg 0) (3 : Int32).toNatClampNeg 0) (4 : Int32).toNatClampNeg 0) (5 : Int32).toNatClampNeg 0) (6 : Int32).toNatClampNeg 0) (7 : Int32).toNatClampNeg (-1)))), (a6, .inr (12, [.int 8, .int (-1), .int 0, .int 0, .int 0, .int 0, .int 0, .ref a8, .ref a9, .ref a10, .ref a11, .ref a12, .ref a13, .ref a14, .ref a15, .ref a16, .ref a0]))]) (va_runV (As := [.int 0]) (rest := []) ⟨hx, hb, hml, hown, hts⟩ (kX14_add__2 l hst D yc e0 H.size a0 a1 a2 a3 a4 a5 a6 a7) (cwV 1 hts (lw_V wq2026 wq2028 ws75 wq6 wq2029) rfl rfl rfl (by decide +kernel) ⟨(Nat.le_of_ble_eq_true rfl), (Nat.le_of_ble_eq_true rfl)⟩) (zk_pV hC hP hD hS hA [2] rfl rfl 2 13 rfl rfl) rfl rfl hl.1 rfl (lv_room (Nat.le_of_ble_eq_true rfl)) dX14_digest_121 ⟨(Nat.le_of_ble_eq_true rfl), (Nat.le_of_ble_eq_true rfl)⟩) hP hD hS hA [2] [0, 1] rfl rfl rfl (by decide) (fun u6 H locs hP hD hS => ?_)
  have hP : va_P D vwCl [(q1, .inl (yc 0, 8, .inl (upd (upd (upd (upd (upd (upd (upd (upd (fun _ => 0) (0 : Int32).toNatClampNeg 0) (1 : Int32).toNatClampNeg 0) (2 : Int32).toNatClampNeg 0) (3 : Int32).toNatClampNeg 0) (4 : Int32).toNatClampNeg 0) (5 : Int32).toNatClampNeg 0) (6 : Int32).toNatClampNeg 0) (7 : Int32).toNatClampNeg (-1)))), (a6, .inr (12, [.int 8, .int (-1), .int 0, .int 0, .int 0, .int 0, .int 0, .ref a8, .ref a9, .ref a10, .ref a11, .ref a12, .ref a13, .ref a14, .ref a15, .ref a16, .ref a0])), (a0, .inr (13, [.int 0, .int 0, .ref a1, .ref a2, .ref a3, .ref a4, .ref a5, .ref a6, .ref a7, .int 0, .long 1728295074]))] H := hP
  have hD : va_D A [(q1, .inl (yc 0, 8, .inl (upd (upd (upd (upd (upd (upd (upd (upd (fun _ => 0) (0 : Int32).toNatClampNeg 0) (1 : Int32).toNatClampNeg 0) (2 : Int32).toNatClampNeg 0) (3 : Int32).toNatClampNeg 0) (4 : Int32).toNatClampNeg 0) (5 : Int32).toNatClampNeg 0) (6 : Int32).toNatClampNeg 0) (7 : Int32).toNatClampNeg (-1)))), (a6, .inr (12, [.int 8, .int (-1), .int 0, .int 0, .int 0, .int 0, .int 0, .ref a8, .ref a9, .ref a10, .ref a11, .ref a12, .ref a13, .ref a14, .ref a15, .ref a16, .ref a0])), (a0, .inr (13, [.int 0, .int 0, .ref a1, .ref a2, .ref a3, .ref a4, .ref a5, .ref a6, .ref a7, .int 0, .long 1728295074]))] := hD
  refine W.widen (k := 1) (n := 8) (Nat.le_of_ble_eq_true rfl) (Nat.le_of_ble_eq_true rfl) ?_
  refine lv_iinc (v := 3) (lv' := [(4, .int 3), (5, .int 0), (3, .int 8), (2, .ref q1), (1, .ref q1), (0, .ref a0)]) hx hb dX14_digest_124 hl (k := 1) rfl (by decide) (by decide) rfl (fun ls hl => ?_)
  refine lv_goto (tgt := 106) hx hb dX14_digest_127 (by decide) ?_
  refine lv_iload hx hb dX14_digest_106 (lv_at hl 0 rfl) ?_
  refine lv_iload_n hx hb dX14_digest_108 rfl (lv_at hl 2 rfl) ?_
  refine lv_icmp_ge (tgt := 130) hx hb dX14_digest_109 (by decide) (fun h9 => absurd h9 (by decide)) (fun _ => ?_)
  refine lv_aload_n hx hb dX14_digest_112 rfl (lv_at hl 3 rfl) ?_
  refine lv_iload hx hb dX14_digest_113 (lv_at hl 0 rfl) ?_
  refine va_iald hx hb hK hP 0 0 rfl rfl (by unfold vp_in; decide) dX14_digest_115 ?_
  refine zk_ti (y := 0) (by first | rfl | decide) ?_
  refine lv_istore (lv' := [(5, .int 0), (4, .int 3), (3, .int 8), (2, .ref q1), (1, .ref q1), (0, .ref a0)]) hx hb dX14_digest_116 hl (by decide) rfl (fun ls hl => ?_)
  refine lv_aload_n hx hb dX14_digest_118 rfl (lv_at hl 5 rfl) ?_
  refine lv_iload hx hb dX14_digest_119 (lv_at hl 0 rfl) ?_
  refine zk_v (wr := [(q1, .inl (yc 0, 8, .inl (upd (upd (upd (upd (upd (upd (upd (upd (fun _ => 0) (0 : Int32).toNatClampNeg 0) (1 : Int32).toNatClampNeg 0) (2 : Int32).toNatClampNeg 0) (3 : Int32).toNatClampNeg 0) (4 : Int32).toNatClampNeg 0) (5 : Int32).toNatClampNeg 0) (6 : Int32).toNatClampNeg 0) (7 : Int32).toNatClampNeg (-1)))), (a6, .inr (12, [.int 8, .int (-1), .int 0, .int 0, .int 0, .int 0, .int 0, .ref a8, .ref a9, .ref a10, .ref a11, .ref a12, .ref a13, .ref a14, .ref a15, .ref a16, .ref a0]))]) (va_runV (As := [.int 0]) (rest := []) ⟨hx, hb, hml, hown, hts⟩ (kX14_add__3 l hst D yc e0 H.size a0 a1 a2 a3 a4 a5 a6 a7) (cwV 1 hts (lw_V wq2026 wq2028 ws75 wq6 wq2029) rfl rfl rfl (by decide +kernel) ⟨(Nat.le_of_ble_eq_true rfl), (Nat.le_of_ble_eq_true rfl)⟩) (zk_pV hC hP hD hS hA [2] rfl rfl 2 13 rfl rfl) rfl rfl hl.1 rfl (lv_room (Nat.le_of_ble_eq_true rfl)) dX14_digest_121 ⟨(Nat.le_of_ble_eq_true rfl), (Nat.le_of_ble_eq_true rfl)⟩) hP hD hS hA [2] [0, 1] rfl rfl rfl (by decide) (fun u7 H locs hP hD hS => ?_)
  have hP : va_P D vwCl [(q1, .inl (yc 0, 8, .inl (upd (upd (upd (upd (upd (upd (upd (upd (fun _ => 0) (0 : Int32).toNatClampNeg 0) (1 : Int32).toNatClampNeg 0) (2 : Int32).toNatClampNeg 0) (3 : Int32).toNatClampNeg 0) (4 : Int32).toNatClampNeg 0) (5 : Int32).toNatClampNeg 0) (6 : Int32).toNatClampNeg 0) (7 : Int32).toNatClampNeg (-1)))), (a6, .inr (12, [.int 8, .int (-1), .int 0, .int 0, .int 0, .int 0, .int 0, .ref a8, .ref a9, .ref a10, .ref a11, .ref a12, .ref a13, .ref a14, .ref a15, .ref a16, .ref a0])), (a0, .inr (13, [.int 0, .int 0, .ref a1, .ref a2, .ref a3, .ref a4, .ref a5, .ref a6, .ref a7, .int 0, .long 53577147294]))] H := hP
  have hD : va_D A [(q1, .inl (yc 0, 8, .inl (upd (upd (upd (upd (upd (upd (upd (upd (fun _ => 0) (0 : Int32).toNatClampNeg 0) (1 : Int32).toNatClampNeg 0) (2 : Int32).toNatClampNeg 0) (3 : Int32).toNatClampNeg 0) (4 : Int32).toNatClampNeg 0) (5 : Int32).toNatClampNeg 0) (6 : Int32).toNatClampNeg 0) (7 : Int32).toNatClampNeg (-1)))), (a6, .inr (12, [.int 8, .int (-1), .int 0, .int 0, .int 0, .int 0, .int 0, .ref a8, .ref a9, .ref a10, .ref a11, .ref a12, .ref a13, .ref a14, .ref a15, .ref a16, .ref a0])), (a0, .inr (13, [.int 0, .int 0, .ref a1, .ref a2, .ref a3, .ref a4, .ref a5, .ref a6, .ref a7, .int 0, .long 53577147294]))] := hD
  refine W.widen (k := 1) (n := 8) (Nat.le_of_ble_eq_true rfl) (Nat.le_of_ble_eq_true rfl) ?_
  refine lv_iinc (v := 4) (lv' := [(4, .int 4), (5, .int 0), (3, .int 8), (2, .ref q1), (1, .ref q1), (0, .ref a0)]) hx hb dX14_digest_124 hl (k := 1) rfl (by decide) (by decide) rfl (fun ls hl => ?_)
  refine lv_goto (tgt := 106) hx hb dX14_digest_127 (by decide) ?_
  refine lv_iload hx hb dX14_digest_106 (lv_at hl 0 rfl) ?_
  refine lv_iload_n hx hb dX14_digest_108 rfl (lv_at hl 2 rfl) ?_
  refine lv_icmp_ge (tgt := 130) hx hb dX14_digest_109 (by decide) (fun h9 => absurd h9 (by decide)) (fun _ => ?_)
  refine lv_aload_n hx hb dX14_digest_112 rfl (lv_at hl 3 rfl) ?_
  refine lv_iload hx hb dX14_digest_113 (lv_at hl 0 rfl) ?_
  refine va_iald hx hb hK hP 0 0 rfl rfl (by unfold vp_in; decide) dX14_digest_115 ?_
  refine zk_ti (y := 0) (by first | rfl | decide) ?_
  refine lv_istore (lv' := [(5, .int 0), (4, .int 4), (3, .int 8), (2, .ref q1), (1, .ref q1), (0, .ref a0)]) hx hb dX14_digest_116 hl (by decide) rfl (fun ls hl => ?_)
  refine lv_aload_n hx hb dX14_digest_118 rfl (lv_at hl 5 rfl) ?_
  refine lv_iload hx hb dX14_digest_119 (lv_at hl 0 rfl) ?_
  refine zk_v (wr := [(q1, .inl (yc 0, 8, .inl (upd (upd (upd (upd (upd (upd (upd (upd (fun _ => 0) (0 : Int32).toNatClampNeg 0) (1 : Int32).toNatClampNeg 0) (2 : Int32).toNatClampNeg 0) (3 : Int32).toNatClampNeg 0) (4 : Int32).toNatClampNeg 0) (5 : Int32).toNatClampNeg 0) (6 : Int32).toNatClampNeg 0) (7 : Int32).toNatClampNeg (-1)))), (a6, .inr (12, [.int 8, .int (-1), .int 0, .int 0, .int 0, .int 0, .int 0, .ref a8, .ref a9, .ref a10, .ref a11, .ref a12, .ref a13, .ref a14, .ref a15, .ref a16, .ref a0]))]) (va_runV (As := [.int 0]) (rest := []) ⟨hx, hb, hml, hown, hts⟩ (kX14_add__4 l hst D yc e0 H.size a0 a1 a2 a3 a4 a5 a6 a7) (cwV 1 hts (lw_V wq2026 wq2028 ws75 wq6 wq2029) rfl rfl rfl (by decide +kernel) ⟨(Nat.le_of_ble_eq_true rfl), (Nat.le_of_ble_eq_true rfl)⟩) (zk_pV hC hP hD hS hA [2] rfl rfl 2 13 rfl rfl) rfl rfl hl.1 rfl (lv_room (Nat.le_of_ble_eq_true rfl)) dX14_digest_121 ⟨(Nat.le_of_ble_eq_true rfl), (Nat.le_of_ble_eq_true rfl)⟩) hP hD hS hA [2] [0, 1] rfl rfl rfl (by decide) (fun u8 H locs hP hD hS => ?_)
  have hP : va_P D vwCl [(q1, .inl (yc 0, 8, .inl (upd (upd (upd (upd (upd (upd (upd (upd (fun _ => 0) (0 : Int32).toNatClampNeg 0) (1 : Int32).toNatClampNeg 0) (2 : Int32).toNatClampNeg 0) (3 : Int32).toNatClampNeg 0) (4 : Int32).toNatClampNeg 0) (5 : Int32).toNatClampNeg 0) (6 : Int32).toNatClampNeg 0) (7 : Int32).toNatClampNeg (-1)))), (a6, .inr (12, [.int 8, .int (-1), .int 0, .int 0, .int 0, .int 0, .int 0, .ref a8, .ref a9, .ref a10, .ref a11, .ref a12, .ref a13, .ref a14, .ref a15, .ref a16, .ref a0])), (a0, .inr (13, [.int 0, .int 0, .ref a1, .ref a2, .ref a3, .ref a4, .ref a5, .ref a6, .ref a7, .int 0, .long 1660891566114]))] H := hP
  have hD : va_D A [(q1, .inl (yc 0, 8, .inl (upd (upd (upd (upd (upd (upd (upd (upd (fun _ => 0) (0 : Int32).toNatClampNeg 0) (1 : Int32).toNatClampNeg 0) (2 : Int32).toNatClampNeg 0) (3 : Int32).toNatClampNeg 0) (4 : Int32).toNatClampNeg 0) (5 : Int32).toNatClampNeg 0) (6 : Int32).toNatClampNeg 0) (7 : Int32).toNatClampNeg (-1)))), (a6, .inr (12, [.int 8, .int (-1), .int 0, .int 0, .int 0, .int 0, .int 0, .ref a8, .ref a9, .ref a10, .ref a11, .ref a12, .ref a13, .ref a14, .ref a15, .ref a16, .ref a0])), (a0, .inr (13, [.int 0, .int 0, .ref a1, .ref a2, .ref a3, .ref a4, .ref a5, .ref a6, .ref a7, .int 0, .long 1660891566114]))] := hD
  refine W.widen (k := 1) (n := 8) (Nat.le_of_ble_eq_true rfl) (Nat.le_of_ble_eq_true rfl) ?_
  refine lv_iinc (v := 5) (lv' := [(4, .int 5), (5, .int 0), (3, .int 8), (2, .ref q1), (1, .ref q1), (0, .ref a0)]) hx hb dX14_digest_124 hl (k := 1) rfl (by decide) (by decide) rfl (fun ls hl => ?_)
  refine lv_goto (tgt := 106) hx hb dX14_digest_127 (by decide) ?_
  refine lv_iload hx hb dX14_digest_106 (lv_at hl 0 rfl) ?_
  refine lv_iload_n hx hb dX14_digest_108 rfl (lv_at hl 2 rfl) ?_
  refine lv_icmp_ge (tgt := 130) hx hb dX14_digest_109 (by decide) (fun h9 => absurd h9 (by decide)) (fun _ => ?_)
  refine lv_aload_n hx hb dX14_digest_112 rfl (lv_at hl 3 rfl) ?_
  refine lv_iload hx hb dX14_digest_113 (lv_at hl 0 rfl) ?_
  refine va_iald hx hb hK hP 0 0 rfl rfl (by unfold vp_in; decide) dX14_digest_115 ?_
  refine zk_ti (y := 0) (by first | rfl | decide) ?_
  refine lv_istore (lv' := [(5, .int 0), (4, .int 5), (3, .int 8), (2, .ref q1), (1, .ref q1), (0, .ref a0)]) hx hb dX14_digest_116 hl (by decide) rfl (fun ls hl => ?_)
  refine lv_aload_n hx hb dX14_digest_118 rfl (lv_at hl 5 rfl) ?_
  refine lv_iload hx hb dX14_digest_119 (lv_at hl 0 rfl) ?_
  refine zk_v (wr := [(q1, .inl (yc 0, 8, .inl (upd (upd (upd (upd (upd (upd (upd (upd (fun _ => 0) (0 : Int32).toNatClampNeg 0) (1 : Int32).toNatClampNeg 0) (2 : Int32).toNatClampNeg 0) (3 : Int32).toNatClampNeg 0) (4 : Int32).toNatClampNeg 0) (5 : Int32).toNatClampNeg 0) (6 : Int32).toNatClampNeg 0) (7 : Int32).toNatClampNeg (-1)))), (a6, .inr (12, [.int 8, .int (-1), .int 0, .int 0, .int 0, .int 0, .int 0, .ref a8, .ref a9, .ref a10, .ref a11, .ref a12, .ref a13, .ref a14, .ref a15, .ref a16, .ref a0]))]) (va_runV (As := [.int 0]) (rest := []) ⟨hx, hb, hml, hown, hts⟩ (kX14_add__5 l hst D yc e0 H.size a0 a1 a2 a3 a4 a5 a6 a7) (cwV 1 hts (lw_V wq2026 wq2028 ws75 wq6 wq2029) rfl rfl rfl (by decide +kernel) ⟨(Nat.le_of_ble_eq_true rfl), (Nat.le_of_ble_eq_true rfl)⟩) (zk_pV hC hP hD hS hA [2] rfl rfl 2 13 rfl rfl) rfl rfl hl.1 rfl (lv_room (Nat.le_of_ble_eq_true rfl)) dX14_digest_121 ⟨(Nat.le_of_ble_eq_true rfl), (Nat.le_of_ble_eq_true rfl)⟩) hP hD hS hA [2] [0, 1] rfl rfl rfl (by decide) (fun u9 H locs hP hD hS => ?_)
  have hP : va_P D vwCl [(q1, .inl (yc 0, 8, .inl (upd (upd (upd (upd (upd (upd (upd (upd (fun _ => 0) (0 : Int32).toNatClampNeg 0) (1 : Int32).toNatClampNeg 0) (2 : Int32).toNatClampNeg 0) (3 : Int32).toNatClampNeg 0) (4 : Int32).toNatClampNeg 0) (5 : Int32).toNatClampNeg 0) (6 : Int32).toNatClampNeg 0) (7 : Int32).toNatClampNeg (-1)))), (a6, .inr (12, [.int 8, .int (-1), .int 0, .int 0, .int 0, .int 0, .int 0, .ref a8, .ref a9, .ref a10, .ref a11, .ref a12, .ref a13, .ref a14, .ref a15, .ref a16, .ref a0])), (a0, .inr (13, [.int 0, .int 0, .ref a1, .ref a2, .ref a3, .ref a4, .ref a5, .ref a6, .ref a7, .int 0, .long 51487638549534]))] H := hP
  have hD : va_D A [(q1, .inl (yc 0, 8, .inl (upd (upd (upd (upd (upd (upd (upd (upd (fun _ => 0) (0 : Int32).toNatClampNeg 0) (1 : Int32).toNatClampNeg 0) (2 : Int32).toNatClampNeg 0) (3 : Int32).toNatClampNeg 0) (4 : Int32).toNatClampNeg 0) (5 : Int32).toNatClampNeg 0) (6 : Int32).toNatClampNeg 0) (7 : Int32).toNatClampNeg (-1)))), (a6, .inr (12, [.int 8, .int (-1), .int 0, .int 0, .int 0, .int 0, .int 0, .ref a8, .ref a9, .ref a10, .ref a11, .ref a12, .ref a13, .ref a14, .ref a15, .ref a16, .ref a0])), (a0, .inr (13, [.int 0, .int 0, .ref a1, .ref a2, .ref a3, .ref a4, .ref a5, .ref a6, .ref a7, .int 0, .long 51487638549534]))] := hD
  refine W.widen (k := 1) (n := 8) (Nat.le_of_ble_eq_true rfl) (Nat.le_of_ble_eq_true rfl) ?_
  refine lv_iinc (v := 6) (lv' := [(4, .int 6), (5, .int 0), (3, .int 8), (2, .ref q1), (1, .ref q1), (0, .ref a0)]) hx hb dX14_digest_124 hl (k := 1) rfl (by decide) (by decide) rfl (fun ls hl => ?_)
  refine lv_goto (tgt := 106) hx hb dX14_digest_127 (by decide) ?_
  refine lv_iload hx hb dX14_digest_106 (lv_at hl 0 rfl) ?_
  refine lv_iload_n hx hb dX14_digest_108 rfl (lv_at hl 2 rfl) ?_
  refine lv_icmp_ge (tgt := 130) hx hb dX14_digest_109 (by decide) (fun h9 => absurd h9 (by decide)) (fun _ => ?_)
  refine lv_aload_n hx hb dX14_digest_112 rfl (lv_at hl 3 rfl) ?_
  refine lv_iload hx hb dX14_digest_113 (lv_at hl 0 rfl) ?_
  refine va_iald hx hb hK hP 0 0 rfl rfl (by unfold vp_in; decide) dX14_digest_115 ?_
  refine zk_ti (y := 0) (by first | rfl | decide) ?_
  refine lv_istore (lv' := [(5, .int 0), (4, .int 6), (3, .int 8), (2, .ref q1), (1, .ref q1), (0, .ref a0)]) hx hb dX14_digest_116 hl (by decide) rfl (fun ls hl => ?_)
  refine lv_aload_n hx hb dX14_digest_118 rfl (lv_at hl 5 rfl) ?_
  refine lv_iload hx hb dX14_digest_119 (lv_at hl 0 rfl) ?_
  refine zk_v (wr := [(q1, .inl (yc 0, 8, .inl (upd (upd (upd (upd (upd (upd (upd (upd (fun _ => 0) (0 : Int32).toNatClampNeg 0) (1 : Int32).toNatClampNeg 0) (2 : Int32).toNatClampNeg 0) (3 : Int32).toNatClampNeg 0) (4 : Int32).toNatClampNeg 0) (5 : Int32).toNatClampNeg 0) (6 : Int32).toNatClampNeg 0) (7 : Int32).toNatClampNeg (-1)))), (a6, .inr (12, [.int 8, .int (-1), .int 0, .int 0, .int 0, .int 0, .int 0, .ref a8, .ref a9, .ref a10, .ref a11, .ref a12, .ref a13, .ref a14, .ref a15, .ref a16, .ref a0]))]) (va_runV (As := [.int 0]) (rest := []) ⟨hx, hb, hml, hown, hts⟩ (kX14_add__6 l hst D yc e0 H.size a0 a1 a2 a3 a4 a5 a6 a7) (cwV 1 hts (lw_V wq2026 wq2028 ws75 wq6 wq2029) rfl rfl rfl (by decide +kernel) ⟨(Nat.le_of_ble_eq_true rfl), (Nat.le_of_ble_eq_true rfl)⟩) (zk_pV hC hP hD hS hA [2] rfl rfl 2 13 rfl rfl) rfl rfl hl.1 rfl (lv_room (Nat.le_of_ble_eq_true rfl)) dX14_digest_121 ⟨(Nat.le_of_ble_eq_true rfl), (Nat.le_of_ble_eq_true rfl)⟩) hP hD hS hA [2] [0, 1] rfl rfl rfl (by decide) (fun u10 H locs hP hD hS => ?_)
  have hP : va_P D vwCl [(q1, .inl (yc 0, 8, .inl (upd (upd (upd (upd (upd (upd (upd (upd (fun _ => 0) (0 : Int32).toNatClampNeg 0) (1 : Int32).toNatClampNeg 0) (2 : Int32).toNatClampNeg 0) (3 : Int32).toNatClampNeg 0) (4 : Int32).toNatClampNeg 0) (5 : Int32).toNatClampNeg 0) (6 : Int32).toNatClampNeg 0) (7 : Int32).toNatClampNeg (-1)))), (a6, .inr (12, [.int 8, .int (-1), .int 0, .int 0, .int 0, .int 0, .int 0, .ref a8, .ref a9, .ref a10, .ref a11, .ref a12, .ref a13, .ref a14, .ref a15, .ref a16, .ref a0])), (a0, .inr (13, [.int 0, .int 0, .ref a1, .ref a2, .ref a3, .ref a4, .ref a5, .ref a6, .ref a7, .int 0, .long 1596116795035554]))] H := hP
  have hD : va_D A [(q1, .inl (yc 0, 8, .inl (upd (upd (upd (upd (upd (upd (upd (upd (fun _ => 0) (0 : Int32).toNatClampNeg 0) (1 : Int32).toNatClampNeg 0) (2 : Int32).toNatClampNeg 0) (3 : Int32).toNatClampNeg 0) (4 : Int32).toNatClampNeg 0) (5 : Int32).toNatClampNeg 0) (6 : Int32).toNatClampNeg 0) (7 : Int32).toNatClampNeg (-1)))), (a6, .inr (12, [.int 8, .int (-1), .int 0, .int 0, .int 0, .int 0, .int 0, .ref a8, .ref a9, .ref a10, .ref a11, .ref a12, .ref a13, .ref a14, .ref a15, .ref a16, .ref a0])), (a0, .inr (13, [.int 0, .int 0, .ref a1, .ref a2, .ref a3, .ref a4, .ref a5, .ref a6, .ref a7, .int 0, .long 1596116795035554]))] := hD
  refine W.widen (k := 1) (n := 8) (Nat.le_of_ble_eq_true rfl) (Nat.le_of_ble_eq_true rfl) ?_
  refine lv_iinc (v := 7) (lv' := [(4, .int 7), (5, .int 0), (3, .int 8), (2, .ref q1), (1, .ref q1), (0, .ref a0)]) hx hb dX14_digest_124 hl (k := 1) rfl (by decide) (by decide) rfl (fun ls hl => ?_)
  refine lv_goto (tgt := 106) hx hb dX14_digest_127 (by decide) ?_
  refine lv_iload hx hb dX14_digest_106 (lv_at hl 0 rfl) ?_
  refine lv_iload_n hx hb dX14_digest_108 rfl (lv_at hl 2 rfl) ?_
  refine lv_icmp_ge (tgt := 130) hx hb dX14_digest_109 (by decide) (fun h9 => absurd h9 (by decide)) (fun _ => ?_)
  refine lv_aload_n hx hb dX14_digest_112 rfl (lv_at hl 3 rfl) ?_
  refine lv_iload hx hb dX14_digest_113 (lv_at hl 0 rfl) ?_
  refine va_iald hx hb hK hP 0 0 rfl rfl (by unfold vp_in; decide) dX14_digest_115 ?_
  refine zk_ti (y := (-1)) (by first | rfl | decide) ?_
  refine lv_istore (lv' := [(5, .int (-1)), (4, .int 7), (3, .int 8), (2, .ref q1), (1, .ref q1), (0, .ref a0)]) hx hb dX14_digest_116 hl (by decide) rfl (fun ls hl => ?_)
  refine lv_aload_n hx hb dX14_digest_118 rfl (lv_at hl 5 rfl) ?_
  refine lv_iload hx hb dX14_digest_119 (lv_at hl 0 rfl) ?_
  refine zk_v (wr := [(q1, .inl (yc 0, 8, .inl (upd (upd (upd (upd (upd (upd (upd (upd (fun _ => 0) (0 : Int32).toNatClampNeg 0) (1 : Int32).toNatClampNeg 0) (2 : Int32).toNatClampNeg 0) (3 : Int32).toNatClampNeg 0) (4 : Int32).toNatClampNeg 0) (5 : Int32).toNatClampNeg 0) (6 : Int32).toNatClampNeg 0) (7 : Int32).toNatClampNeg (-1)))), (a6, .inr (12, [.int 8, .int (-1), .int 0, .int 0, .int 0, .int 0, .int 0, .ref a8, .ref a9, .ref a10, .ref a11, .ref a12, .ref a13, .ref a14, .ref a15, .ref a16, .ref a0]))]) (va_runV (As := [.int (-1)]) (rest := []) ⟨hx, hb, hml, hown, hts⟩ (kX14_add__7 l hst D yc e0 H.size a0 a1 a2 a3 a4 a5 a6 a7) (cwV 1 hts (lw_V wq2026 wq2028 ws75 wq6 wq2029) rfl rfl rfl (by decide +kernel) ⟨(Nat.le_of_ble_eq_true rfl), (Nat.le_of_ble_eq_true rfl)⟩) (zk_pV hC hP hD hS hA [2] rfl rfl 2 13 rfl rfl) rfl rfl hl.1 rfl (lv_room (Nat.le_of_ble_eq_true rfl)) dX14_digest_121 ⟨(Nat.le_of_ble_eq_true rfl), (Nat.le_of_ble_eq_true rfl)⟩) hP hD hS hA [2] [0, 1] rfl rfl rfl (by decide) (fun u11 H locs hP hD hS => ?_)
  have hP : va_P D vwCl [(q1, .inl (yc 0, 8, .inl (upd (upd (upd (upd (upd (upd (upd (upd (fun _ => 0) (0 : Int32).toNatClampNeg 0) (1 : Int32).toNatClampNeg 0) (2 : Int32).toNatClampNeg 0) (3 : Int32).toNatClampNeg 0) (4 : Int32).toNatClampNeg 0) (5 : Int32).toNatClampNeg 0) (6 : Int32).toNatClampNeg 0) (7 : Int32).toNatClampNeg (-1)))), (a6, .inr (12, [.int 8, .int (-1), .int 0, .int 0, .int 0, .int 0, .int 0, .ref a8, .ref a9, .ref a10, .ref a11, .ref a12, .ref a13, .ref a14, .ref a15, .ref a16, .ref a0])), (a0, .inr (13, [.int 0, .int 0, .ref a1, .ref a2, .ref a3, .ref a4, .ref a5, .ref a6, .ref a7, .int 0, .long 49479620646102173]))] H := hP
  have hD : va_D A [(q1, .inl (yc 0, 8, .inl (upd (upd (upd (upd (upd (upd (upd (upd (fun _ => 0) (0 : Int32).toNatClampNeg 0) (1 : Int32).toNatClampNeg 0) (2 : Int32).toNatClampNeg 0) (3 : Int32).toNatClampNeg 0) (4 : Int32).toNatClampNeg 0) (5 : Int32).toNatClampNeg 0) (6 : Int32).toNatClampNeg 0) (7 : Int32).toNatClampNeg (-1)))), (a6, .inr (12, [.int 8, .int (-1), .int 0, .int 0, .int 0, .int 0, .int 0, .ref a8, .ref a9, .ref a10, .ref a11, .ref a12, .ref a13, .ref a14, .ref a15, .ref a16, .ref a0])), (a0, .inr (13, [.int 0, .int 0, .ref a1, .ref a2, .ref a3, .ref a4, .ref a5, .ref a6, .ref a7, .int 0, .long 49479620646102173]))] := hD
  refine W.widen (k := 1) (n := 8) (Nat.le_of_ble_eq_true rfl) (Nat.le_of_ble_eq_true rfl) ?_
  refine lv_iinc (v := 8) (lv' := [(4, .int 8), (5, .int (-1)), (3, .int 8), (2, .ref q1), (1, .ref q1), (0, .ref a0)]) hx hb dX14_digest_124 hl (k := 1) rfl (by decide) (by decide) rfl (fun ls hl => ?_)
  refine lv_goto (tgt := 106) hx hb dX14_digest_127 (by decide) ?_
  refine lv_iload hx hb dX14_digest_106 (lv_at hl 0 rfl) ?_
  refine lv_iload_n hx hb dX14_digest_108 rfl (lv_at hl 2 rfl) ?_
  refine lv_icmp_ge (tgt := 130) hx hb dX14_digest_109 (by decide) (fun _ => ?_) (fun h9 => absurd (by decide) h9)
  refine lv_iconst (v := 0) hx hb dX14_digest_130 (by decide) ?_
  refine lv_istore_n (lv' := [(2, .int 0), (4, .int 8), (5, .int (-1)), (3, .int 8), (1, .ref q1), (0, .ref a0)]) hx hb dX14_digest_131 rfl hl (by decide) rfl (fun ls hl => ?_)
  refine lv_iload_n hx hb dX14_digest_132 rfl (lv_at hl 0 rfl) ?_
  refine lv_aload_n hx hb dX14_digest_133 rfl (lv_at hl 5 rfl) ?_
  refine va_get (D := D) (ci := 13) (v := .int 0) (C := RX14) (T := TX14) (N := 11) hx hb hts iX14 hown hK hP 2 rfl rfl 0 (by decide) (hts _ wq1528) (fun _ h9 => h9) rfl dX14_digest_134 ?_
  refine lv_icmp_ge (tgt := 151) hx hb dX14_digest_137 (by decide) (fun _ => ?_) (fun h9 => absurd (by decide) h9)
  refine lv_aload_n hx hb dX14_digest_151 rfl (lv_at hl 5 rfl) ?_
  refine va_get (D := D) (ci := 13) (v := .long 49479620646102173) (C := RX14) (T := TX14) (N := 11) hx hb hts iX14 hown hK hP 2 rfl rfl 10 (by decide) (hts _ wq1543) (fun _ h9 => h9) rfl dX14_digest_152 ?_
  exact zk_rl (r0 := fun u => 49479620646102173) (w1 := fun u => [(a6, .inr (12, [.int 8, .int (-1), .int 0, .int 0, .int 0, .int 0, .int 0, .ref a8, .ref a9, .ref a10, .ref a11, .ref a12, .ref a13, .ref a14, .ref a15, .ref a16, .ref a0])), (a0, .inr (13, [.int 0, .int 0, .ref a1, .ref a2, .ref a3, .ref a4, .ref a5, .ref a6, .ref a7, .int 0, .long 49479620646102173]))]) hx hb hr hlk hP hD hS (fun _ _ => 0) rfl [1, 2] rfl rfl (Nat.le_of_ble_eq_true rfl) (Nat.le_of_ble_eq_true rfl) dX14_digest_155
