set_option maxHeartbeats 4000000 in
set_option maxRecDepth 100000 in
theorem kX14_checkpoint_0 (l : Launch) (hst : l.stackTraces = false) (D : va_G) (yc : Nat → ClassId) (e0 sz : Nat) (a0 : Nat) (a1 : Nat) (a2 : Nat) (a3 : Nat) (a4 : Nat) (a5 : Nat) (a6 : Nat) (a7 : Nat)  : Met l yX14_checkpoint (ws_ yX14_checkpoint cX14_checkpoint 1 (some .int)) ({ frames := 1, cells := 0, slots := 0, locals := 21 }) (PR D yc e0 [(a0, .inr (13, [.int 0, .int 0, .ref a1, .ref a2, .ref a3, .ref a4, .ref a5, .ref a6, .ref a7, .int 0, .long 0]))] sz [.ref a0]) (va_Qi (fun r u => r = (fun u : Nat → Nat → Nat => 0) u) (WD D (va_A [(a0, .inr (13, [.int 0, .int 0, .ref a1, .ref a2, .ref a3, .ref a4, .ref a5, .ref a6, .ref a7, .int 0, .long 0]))] sz) (fun u => [(a0, .inr (13, [.int 0, .int 0, .ref a1, .ref a2, .ref a3, .ref a4, .ref a5, .ref a6, .ref a7, .int 1, .long 0]))])) (va_A [(a0, .inr (13, [.int 0, .int 0, .ref a1, .ref a2, .ref a3, .ref a4, .ref a5, .ref a6, .ref a7, .int 0, .long 0]))] sz)) 0 0 (va_A [(a0, .inr (13, [.int 0, .int 0, .ref a1, .ref a2, .ref a3, .ref a4, .ref a5, .ref a6, .ref a7, .int 0, .long 0]))] sz) := by
  refine zk_M (Qc := fun A => va_Qi (fun r u => r = (fun u : Nat → Nat → Nat => 0) u) (WD D A (fun u => [(a0, .inr (13, [.int 0, .int 0, .ref a1, .ref a2, .ref a3, .ref a4, .ref a5, .ref a6, .ref a7, .int 1, .long 0]))])) A) (by decide) (Nat.le_of_ble_eq_true rfl) ?_
  intro p e s m args below meth c A ls hx hb hml hr hlk hown hnm hts hP hD hS hA hC hl
  have hK := hC.1
  have hN := hC.2.1
  have hl : lv_has ls 1 [(0, .ref a0)] := hl
  generalize hHH : s.heap = H at hP ⊢
  have hS : va_S A s.heap H [] := by rw [← hHH]; exact hS
  refine lv_aload_n hx hb dX14_checkpoint_0 rfl (lv_at hl 0 rfl) ?_
  refine lv_iconst (v := 0) hx hb dX14_checkpoint_1 (by decide) ?_
  refine va_put (D := D) (ci := 13) (v := .int 0) (ty := .int) (C := RX14) (T := TX14) (N := 11) hx hb hts iX14 tyX14 tyX14_ok nmX14 hown hK hP hD hS 0 rfl rfl 9 (by decide) (hts _ wq1542) (fun _ h9 => h9) rfl (by decide +kernel) rfl rfl (Nat.le_of_ble_eq_true rfl) dX14_checkpoint_2 (fun H locs hP hD hS => ?_)
  have hP : va_P D vwCl [(a0, .inr (13, [.int 0, .int 0, .ref a1, .ref a2, .ref a3, .ref a4, .ref a5, .ref a6, .ref a7, .int 0, .long 0]))] H := hP
  have hD : va_D A [(a0, .inr (13, [.int 0, .int 0, .ref a1, .ref a2, .ref a3, .ref a4, .ref a5, .ref a6, .ref a7, .int 0, .long 0]))] := hD
  refine lv_aload_n hx hb dX14_checkpoint_5 rfl (lv_at hl 0 rfl) ?_
  refine va_get (D := D) (ci := 13) (v := .int 0) (C := RX14) (T := TX14) (N := 11) hx hb hts iX14 hown hK hP 0 rfl rfl 1 (by decide) (hts _ wq1529) (fun _ h9 => h9) rfl dX14_checkpoint_6 ?_
  refine lv_if_eq (tgt := 32) hx hb dX14_checkpoint_9 (by decide) (fun _ => ?_) (fun h9 => absurd (by decide) h9)
  refine lv_aload_n hx hb dX14_checkpoint_32 rfl (lv_at hl 0 rfl) ?_
  refine lv_iconst (v := 1) hx hb dX14_checkpoint_33 (by decide) ?_
  refine zk_i (wr := []) (va_runV (As := [.int 1]) (rest := []) ⟨hx, hb, hml, hown, hts⟩ (kX14_refuse_0 l hst D yc e0 H.size a0 a1 a2 a3 a4 a5 a6 a7) (cwV 1 hts (lw_V wq1582 wq1584 ws33 wq6 wq1585) rfl rfl rfl (by decide +kernel) ⟨(Nat.le_of_ble_eq_true rfl), (Nat.le_of_ble_eq_true rfl)⟩) (zk_pV hC hP hD hS hA [0] rfl rfl 0 13 rfl rfl) rfl rfl hl.1 rfl (lv_room (Nat.le_of_ble_eq_true rfl)) dX14_checkpoint_34 ⟨(Nat.le_of_ble_eq_true rfl), (Nat.le_of_ble_eq_true rfl)⟩) hP hD hS hA [0] [] rfl rfl rfl (by decide) (fun u1 H locs hP hD hS => ?_)
  have hP : va_P D vwCl [(a0, .inr (13, [.int 0, .int 0, .ref a1, .ref a2, .ref a3, .ref a4, .ref a5, .ref a6, .ref a7, .int 1, .long 0]))] H := hP
  have hD : va_D A [(a0, .inr (13, [.int 0, .int 0, .ref a1, .ref a2, .ref a3, .ref a4, .ref a5, .ref a6, .ref a7, .int 1, .long 0]))] := hD
  refine W.widen (k := 0) (n := 0) (Nat.le_of_ble_eq_true rfl) (Nat.le_of_ble_eq_true rfl) ?_
  exact zk_ri (r0 := fun u => 0) (w1 := fun u => [(a0, .inr (13, [.int 0, .int 0, .ref a1, .ref a2, .ref a3, .ref a4, .ref a5, .ref a6, .ref a7, .int 1, .long 0]))]) hx hb hr hlk hP hD hS (fun _ _ => 0) rfl rfl [0] rfl rfl (Nat.le_of_ble_eq_true rfl) (Nat.le_of_ble_eq_true rfl) dX14_checkpoint_37
set_option maxHeartbeats 4000000 in
set_option maxRecDepth 100000 in
theorem kX10_crash_0 (l : Launch) (hst : l.stackTraces = false) (D : va_G) (yc : Nat → ClassId) (e0 sz : Nat) (a0 : Nat) (a1 : Nat) (a2 : Nat)  : vx_Met l yX10_crash (ws_ yX10_crash cX10_crash 1 (some .int)) ({ frames := 7, cells := 1, slots := 6, locals := 101 }) (PR D yc e0 [(a0, .inr (9, [.ref a1, .ref a2, .int 0, .int 0, .int 0]))] sz [.ref a0]) (fun _ _ _ _ => False) (zk_X D (va_A [(a0, .inr (9, [.ref a1, .ref a2, .int 0, .int 0, .int 0]))] sz) "java/lang/IllegalStateException" (fun u => [(a0, .inr (9, [.ref a1, .ref a2, .int 0, .int 0, .int 0]))])) 1 6 (va_A [(a0, .inr (9, [.ref a1, .ref a2, .int 0, .int 0, .int 0]))] sz) := by
  refine zk_MX (by decide) (Nat.le_of_ble_eq_true rfl) ?_
  intro p e s m args below meth c A ls hx hb hml hr hlk hown hnm hts hP hD hS hA hC hl hnx
  have hK := hC.1
  have hN := hC.2.1
  have hl : lv_has ls 1 [(0, .ref a0)] := hl
  generalize hHH : s.heap = H at hP ⊢
  have hS : va_S A s.heap H [] := by rw [← hHH]; exact hS
  refine W.widen (k := 0) (n := 0) (Nat.le_of_ble_eq_true rfl) (Nat.le_of_ble_eq_true rfl) ?_
  refine lv_aload_n hx hb dX10_crash_0 rfl (lv_at hl 0 rfl) ?_
  refine zk_x (wr := []) (vx_runV (As := []) (rest := []) ⟨hx, hb, hml, hown, hts⟩ (kX10_refuseUnlessStarted_0 l hst D yc e0 H.size a0 a1 a2) (cwV 0 hts (lw_V wq944 wq946 ws17 wq1 wq947) rfl rfl rfl (by decide +kernel) ⟨(Nat.le_of_ble_eq_true rfl), (Nat.le_of_ble_eq_true rfl)⟩) (zk_pV hC hP hD hS hA [0] rfl rfl 0 9 rfl rfl) rfl rfl hl.1 rfl (lv_room (Nat.le_of_ble_eq_true rfl)) dX10_crash_1 ⟨(Nat.le_of_ble_eq_true rfl), (Nat.le_of_ble_eq_true rfl)⟩) hP hD hS hA [0] [] rfl rfl rfl (by decide) (fun u1 ce q9 H locs hP hD hS hce hcv hcl => ?_)
  have hP : va_P D vwCl [(a0, .inr (9, [.ref a1, .ref a2, .int 0, .int 0, .int 0]))] H := hP
  have hD : va_D A [(a0, .inr (9, [.ref a1, .ref a2, .int 0, .int 0, .int 0]))] := hD
  exact vx_out (fun x9 hx9 => (hnx x9 hx9).elim) hlk hce hcv hcl (zk_out hP hD hS (fun _ _ => 0) [0] rfl rfl) hS.2.2 (Nat.le_of_ble_eq_true rfl) (Nat.le_of_ble_eq_true rfl)
set_option maxHeartbeats 4000000 in
set_option maxRecDepth 100000 in
theorem kL_crash_0 (l : Launch) (hst : l.stackTraces = false) (D : va_G) (yc : Nat → ClassId) (e0 sz : Nat) (a0 : Nat) (a1 : Nat) (a2 : Nat) (a3 : Nat)  : Met l yL_crash (ww_ yL_crash cL_crash 3 (some .int) [(0, 8, 11, 15)]) ({ frames := 8, cells := 1, slots := 6, locals := 121 }) (PR D yc e0 [(a0, .inr (9, [.ref a2, .ref a3, .int 0, .int 0, .int 0]))] sz [.ref a0, .ref a1]) (va_Qi (fun r u => r = (fun u : Nat → Nat → Nat => 1) u) (WD D (va_A [(a0, .inr (9, [.ref a2, .ref a3, .int 0, .int 0, .int 0]))] sz) (fun u => [(a0, .inr (9, [.ref a2, .ref a3, .int 0, .int 0, .int 0]))])) (va_A [(a0, .inr (9, [.ref a2, .ref a3, .int 0, .int 0, .int 0]))] sz)) 1 6 (va_A [(a0, .inr (9, [.ref a2, .ref a3, .int 0, .int 0, .int 0]))] sz) := by
  refine zk_MW (Qc := fun A => va_Qi (fun r u => r = (fun u : Nat → Nat → Nat => 1) u) (WD D A (fun u => [(a0, .inr (9, [.ref a2, .ref a3, .int 0, .int 0, .int 0]))])) A) (by decide) (Nat.le_of_ble_eq_true rfl) ?_
  intro p e s m args below meth c A ls hx hb hml hr hlk hown hts hP hD hS hA hC hl hex
  have hK := hC.1
  have hN := hC.2.1
  have hl : lv_has ls 3 [(0, .ref a0), (1, .ref a1)] := hl
  generalize hHH : s.heap = H at hP ⊢
  have hS : va_S A s.heap H [] := by rw [← hHH]; exact hS
  refine lv_aload_n hx hb dL_crash_0 rfl (lv_at hl 1 rfl) ?_
  refine lv_iconst (v := 0) hx hb dL_crash_1 (by decide) ?_
  refine lv_aload_n hx hb dL_crash_2 rfl (lv_at hl 0 rfl) ?_
  refine zk_x (wr := []) (vx_runV (As := []) (rest := [.int 0, .ref a1]) ⟨hx, hb, hml, hown, hts⟩ (kX10_crash_0 l hst D yc e0 H.size a0 a2 a3) (cwV 0 hts (lw_V wq1190 wq1191 wq1192 wq1 wq1193) rfl rfl rfl (by decide +kernel) ⟨(Nat.le_of_ble_eq_true rfl), (Nat.le_of_ble_eq_true rfl)⟩) (zk_pV hC hP hD hS hA [0] rfl rfl 0 9 rfl rfl) rfl rfl hl.1 rfl (lv_room (Nat.le_of_ble_eq_true rfl)) dL_crash_3 ⟨(Nat.le_of_ble_eq_true rfl), (Nat.le_of_ble_eq_true rfl)⟩) hP hD hS hA [0] [] rfl rfl rfl (by decide) (fun u1 ce q9 H locs hP hD hS hce hcv hcl => ?_)
  have hP : va_P D vwCl [(a0, .inr (9, [.ref a2, .ref a3, .int 0, .int 0, .int 0]))] H := hP
  have hD : va_D A [(a0, .inr (9, [.ref a2, .ref a3, .int 0, .int 0, .int 0]))] := hD
  refine vx_catch (own := RL) (name := "java/lang/IllegalStateException") hown (tableOf []) ⟨0, 8, 11, 15⟩ (tableOf []) hex (fun z hz => False.elim (List.not_mem_nil hz)) (by decide) (by decide) (hts _ wq459) (zk_tab rfl (hN _ wr473 rfl)) hce hcv hcl ?_
  refine W.widen (k := 1) (n := 6) (Nat.le_of_ble_eq_true rfl) (Nat.le_of_ble_eq_true rfl) ?_
  refine lv_astore_n (lv' := [(2, .ref q9), (0, .ref a0), (1, .ref a1)]) hx hb dL_crash_11 rfl hl (by decide) rfl (fun ls hl => ?_)
  refine lv_iconst (v := 1) hx hb dL_crash_12 (by decide) ?_
  exact zk_ri (r0 := fun u => 1) (w1 := fun u => [(a0, .inr (9, [.ref a2, .ref a3, .int 0, .int 0, .int 0]))]) hx hb hr hlk hP hD hS (fun _ _ => 0) rfl rfl [0] rfl rfl (Nat.le_of_ble_eq_true rfl) (Nat.le_of_ble_eq_true rfl) dL_crash_13
set_option maxHeartbeats 4000000 in
set_option maxRecDepth 100000 in
theorem kX14_crash_0 (l : Launch) (hst : l.stackTraces = false) (D : va_G) (yc : Nat → ClassId) (e0 sz : Nat) (a0 : Nat) (a1 : Nat) (a2 : Nat) (a3 : Nat) (a4 : Nat) (a5 : Nat) (a6 : Nat) (a7 : Nat)  : Met l yX14_crash (ws_ yX14_crash cX14_crash 1 (some .int)) ({ frames := 1, cells := 0, slots := 0, locals := 21 }) (PR D yc e0 [(a0, .inr (13, [.int 0, .int 0, .ref a1, .ref a2, .ref a3, .ref a4, .ref a5, .ref a6, .ref a7, .int 0, .long 0]))] sz [.ref a0]) (va_Qi (fun r u => r = (fun u : Nat → Nat → Nat => 0) u) (WD D (va_A [(a0, .inr (13, [.int 0, .int 0, .ref a1, .ref a2, .ref a3, .ref a4, .ref a5, .ref a6, .ref a7, .int 0, .long 0]))] sz) (fun u => [(a0, .inr (13, [.int 0, .int 0, .ref a1, .ref a2, .ref a3, .ref a4, .ref a5, .ref a6, .ref a7, .int 1, .long 0]))])) (va_A [(a0, .inr (13, [.int 0, .int 0, .ref a1, .ref a2, .ref a3, .ref a4, .ref a5, .ref a6, .ref a7, .int 0, .long 0]))] sz)) 0 0 (va_A [(a0, .inr (13, [.int 0, .int 0, .ref a1, .ref a2, .ref a3, .ref a4, .ref a5, .ref a6, .ref a7, .int 0, .long 0]))] sz) := by
  refine zk_M (Qc := fun A => va_Qi (fun r u => r = (fun u : Nat → Nat → Nat => 0) u) (WD D A (fun u => [(a0, .inr (13, [.int 0, .int 0, .ref a1, .ref a2, .ref a3, .ref a4, .ref a5, .ref a6, .ref a7, .int 1, .long 0]))])) A) (by decide) (Nat.le_of_ble_eq_true rfl) ?_
  intro p e s m args below meth c A ls hx hb hml hr hlk hown hnm hts hP hD hS hA hC hl
  have hK := hC.1
  have hN := hC.2.1
  have hl : lv_has ls 1 [(0, .ref a0)] := hl
  generalize hHH : s.heap = H at hP ⊢
  have hS : va_S A s.heap H [] := by rw [← hHH]; exact hS
  refine lv_aload_n hx hb dX14_crash_0 rfl (lv_at hl 0 rfl) ?_
  refine lv_iconst (v := 0) hx hb dX14_crash_1 (by decide) ?_
  refine va_put (D := D) (ci := 13) (v := .int 0) (ty := .int) (C := RX14) (T := TX14) (N := 11) hx hb hts iX14 tyX14 tyX14_ok nmX14 hown hK hP hD hS 0 rfl rfl 9 (by decide) (hts _ wq1542) (fun _ h9 => h9) rfl (by decide +kernel) rfl rfl (Nat.le_of_ble_eq_true rfl) dX14_crash_2 (fun H locs hP hD hS => ?_)
  have hP : va_P D vwCl [(a0, .inr (13, [.int 0, .int 0, .ref a1, .ref a2, .ref a3, .ref a4, .ref a5, .ref a6, .ref a7, .int 0, .long 0]))] H := hP
  have hD : va_D A [(a0, .inr (13, [.int 0, .int 0, .ref a1, .ref a2, .ref a3, .ref a4, .ref a5, .ref a6, .ref a7, .int 0, .long 0]))] := hD
  refine lv_aload_n hx hb dX14_crash_5 rfl (lv_at hl 0 rfl) ?_
  refine va_get (D := D) (ci := 13) (v := .int 0) (C := RX14) (T := TX14) (N := 11) hx hb hts iX14 hown hK hP 0 rfl rfl 1 (by decide) (hts _ wq1529) (fun _ h9 => h9) rfl dX14_crash_6 ?_
  refine lv_if_eq (tgt := 22) hx hb dX14_crash_9 (by decide) (fun _ => ?_) (fun h9 => absurd (by decide) h9)
  refine lv_aload_n hx hb dX14_crash_22 rfl (lv_at hl 0 rfl) ?_
  refine lv_iconst (v := 1) hx hb dX14_crash_23 (by decide) ?_
  refine zk_i (wr := []) (va_runV (As := [.int 1]) (rest := []) ⟨hx, hb, hml, hown, hts⟩ (kX14_refuse_0 l hst D yc e0 H.size a0 a1 a2 a3 a4 a5 a6 a7) (cwV 1 hts (lw_V wq1582 wq1584 ws33 wq6 wq1585) rfl rfl rfl (by decide +kernel) ⟨(Nat.le_of_ble_eq_true rfl), (Nat.le_of_ble_eq_true rfl)⟩) (zk_pV hC hP hD hS hA [0] rfl rfl 0 13 rfl rfl) rfl rfl hl.1 rfl (lv_room (Nat.le_of_ble_eq_true rfl)) dX14_crash_24 ⟨(Nat.le_of_ble_eq_true rfl), (Nat.le_of_ble_eq_true rfl)⟩) hP hD hS hA [0] [] rfl rfl rfl (by decide) (fun u1 H locs hP hD hS => ?_)
  have hP : va_P D vwCl [(a0, .inr (13, [.int 0, .int 0, .ref a1, .ref a2, .ref a3, .ref a4, .ref a5, .ref a6, .ref a7, .int 1, .long 0]))] H := hP
  have hD : va_D A [(a0, .inr (13, [.int 0, .int 0, .ref a1, .ref a2, .ref a3, .ref a4, .ref a5, .ref a6, .ref a7, .int 1, .long 0]))] := hD
  refine W.widen (k := 0) (n := 0) (Nat.le_of_ble_eq_true rfl) (Nat.le_of_ble_eq_true rfl) ?_
  exact zk_ri (r0 := fun u => 0) (w1 := fun u => [(a0, .inr (13, [.int 0, .int 0, .ref a1, .ref a2, .ref a3, .ref a4, .ref a5, .ref a6, .ref a7, .int 1, .long 0]))]) hx hb hr hlk hP hD hS (fun _ _ => 0) rfl rfl [0] rfl rfl (Nat.le_of_ble_eq_true rfl) (Nat.le_of_ble_eq_true rfl) dX14_crash_27
set_option maxHeartbeats 4000000 in
set_option maxRecDepth 100000 in
theorem kX10_stages_0 (l : Launch) (hst : l.stackTraces = false) (D : va_G) (yc : Nat → ClassId) (e0 sz : Nat) (a0 : Nat) (a1 : Nat) (a2 : Nat) (a3 : Nat)  : Met l yX10_stages (ws_ yX10_stages cX10_stages 1 (some .int)) ({ frames := 2, cells := 0, slots := 0, locals := 40 }) (PR D yc e0 [(a0, .inr (9, [.ref a1, .ref a2, .int 0, .int 0, .int 0])), (a1, .inr (2, [.int 0, .ref a3, .int 8, .int (-1), .int 0, .int 0, .int 0, .int 0])), (a3, .inr (0, [.int 0, .ref e0, .int 0]))] sz [.ref a0]) (va_Qi (fun r u => r = (fun u : Nat → Nat → Nat => 0) u) (WD D (va_A [(a0, .inr (9, [.ref a1, .ref a2, .int 0, .int 0, .int 0])), (a1, .inr (2, [.int 0, .ref a3, .int 8, .int (-1), .int 0, .int 0, .int 0, .int 0])), (a3, .inr (0, [.int 0, .ref e0, .int 0]))] sz) (fun u => [(a0, .inr (9, [.ref a1, .ref a2, .int 0, .int 0, .int 0])), (a1, .inr (2, [.int 0, .ref a3, .int 8, .int (-1), .int 0, .int 0, .int 0, .int 0])), (a3, .inr (0, [.int 0, .ref e0, .int 0]))])) (va_A [(a0, .inr (9, [.ref a1, .ref a2, .int 0, .int 0, .int 0])), (a1, .inr (2, [.int 0, .ref a3, .int 8, .int (-1), .int 0, .int 0, .int 0, .int 0])), (a3, .inr (0, [.int 0, .ref e0, .int 0]))] sz)) 0 0 (va_A [(a0, .inr (9, [.ref a1, .ref a2, .int 0, .int 0, .int 0])), (a1, .inr (2, [.int 0, .ref a3, .int 8, .int (-1), .int 0, .int 0, .int 0, .int 0])), (a3, .inr (0, [.int 0, .ref e0, .int 0]))] sz) := by
  refine zk_M (Qc := fun A => va_Qi (fun r u => r = (fun u : Nat → Nat → Nat => 0) u) (WD D A (fun u => [(a0, .inr (9, [.ref a1, .ref a2, .int 0, .int 0, .int 0])), (a1, .inr (2, [.int 0, .ref a3, .int 8, .int (-1), .int 0, .int 0, .int 0, .int 0])), (a3, .inr (0, [.int 0, .ref e0, .int 0]))])) A) (by decide) (Nat.le_of_ble_eq_true rfl) ?_
  intro p e s m args below meth c A ls hx hb hml hr hlk hown hnm hts hP hD hS hA hC hl
  have hK := hC.1
  have hN := hC.2.1
  have hl : lv_has ls 1 [(0, .ref a0)] := hl
  generalize hHH : s.heap = H at hP ⊢
  have hS : va_S A s.heap H [] := by rw [← hHH]; exact hS
  refine lv_aload_n hx hb dX10_stages_0 rfl (lv_at hl 0 rfl) ?_
  refine va_get (D := D) (ci := 9) (v := .ref a1) (C := RX10) (T := TX10) (N := 5) hx hb hts iX10 hown hK hP 0 rfl rfl 0 (by decide) (hts _ wq99) (fun _ h9 => h9) rfl dX10_stages_1 ?_
  refine zk_i (wr := [(a0, .inr (9, [.ref a1, .ref a2, .int 0, .int 0, .int 0]))]) (va_runV (As := []) (rest := []) ⟨hx, hb, hml, hown, hts⟩ (kX2_size_0 l hst D yc e0 H.size a1 a3) (cwV 0 hts (lw_V wq119 wq120 wq121 wq2 wq122) rfl rfl rfl (by decide +kernel) ⟨(Nat.le_of_ble_eq_true rfl), (Nat.le_of_ble_eq_true rfl)⟩) (zk_pV hC hP hD hS hA [1, 2] rfl rfl 1 2 rfl rfl) rfl rfl hl.1 rfl (lv_room (Nat.le_of_ble_eq_true rfl)) dX10_stages_4 ⟨(Nat.le_of_ble_eq_true rfl), (Nat.le_of_ble_eq_true rfl)⟩) hP hD hS hA [1, 2] [0] rfl rfl rfl (by decide) (fun u1 H locs hP hD hS => ?_)
  have hP : va_P D vwCl [(a0, .inr (9, [.ref a1, .ref a2, .int 0, .int 0, .int 0])), (a1, .inr (2, [.int 0, .ref a3, .int 8, .int (-1), .int 0, .int 0, .int 0, .int 0])), (a3, .inr (0, [.int 0, .ref e0, .int 0]))] H := hP
  have hD : va_D A [(a0, .inr (9, [.ref a1, .ref a2, .int 0, .int 0, .int 0])), (a1, .inr (2, [.int 0, .ref a3, .int 8, .int (-1), .int 0, .int 0, .int 0, .int 0])), (a3, .inr (0, [.int 0, .ref e0, .int 0]))] := hD
  refine W.widen (k := 0) (n := 0) (Nat.le_of_ble_eq_true rfl) (Nat.le_of_ble_eq_true rfl) ?_
  exact zk_ri (r0 := fun u => 0) (w1 := fun u => [(a0, .inr (9, [.ref a1, .ref a2, .int 0, .int 0, .int 0])), (a1, .inr (2, [.int 0, .ref a3, .int 8, .int (-1), .int 0, .int 0, .int 0, .int 0])), (a3, .inr (0, [.int 0, .ref e0, .int 0]))]) hx hb hr hlk hP hD hS (fun _ _ => 0) rfl rfl [0, 1, 2] rfl rfl (Nat.le_of_ble_eq_true rfl) (Nat.le_of_ble_eq_true rfl) dX10_stages_7
set_option maxHeartbeats 4000000 in
set_option maxRecDepth 100000 in
theorem kX14_stages_0 (l : Launch) (hst : l.stackTraces = false) (D : va_G) (yc : Nat → ClassId) (e0 sz : Nat) (a0 : Nat) (a1 : Nat) (a2 : Nat) (a3 : Nat) (a4 : Nat) (a5 : Nat) (a6 : Nat) (a7 : Nat)  : Met l yX14_stages (ws_ yX14_stages cX14_stages 1 (some .int)) ({ frames := 0, cells := 0, slots := 0, locals := 0 }) (PR D yc e0 [(a0, .inr (13, [.int 0, .int 0, .ref a1, .ref a2, .ref a3, .ref a4, .ref a5, .ref a6, .ref a7, .int 0, .long 0]))] sz [.ref a0]) (va_Qi (fun r u => r = (fun u : Nat → Nat → Nat => 0) u) (WD D (va_A [(a0, .inr (13, [.int 0, .int 0, .ref a1, .ref a2, .ref a3, .ref a4, .ref a5, .ref a6, .ref a7, .int 0, .long 0]))] sz) (fun u => [(a0, .inr (13, [.int 0, .int 0, .ref a1, .ref a2, .ref a3, .ref a4, .ref a5, .ref a6, .ref a7, .int 0, .long 0]))])) (va_A [(a0, .inr (13, [.int 0, .int 0, .ref a1, .ref a2, .ref a3, .ref a4, .ref a5, .ref a6, .ref a7, .int 0, .long 0]))] sz)) 0 0 (va_A [(a0, .inr (13, [.int 0, .int 0, .ref a1, .ref a2, .ref a3, .ref a4, .ref a5, .ref a6, .ref a7, .int 0, .long 0]))] sz) := by
  refine zk_M (Qc := fun A => va_Qi (fun r u => r = (fun u : Nat → Nat → Nat => 0) u) (WD D A (fun u => [(a0, .inr (13, [.int 0, .int 0, .ref a1, .ref a2, .ref a3, .ref a4, .ref a5, .ref a6, .ref a7, .int 0, .long 0]))])) A) (by decide) (Nat.le_of_ble_eq_true rfl) ?_
  intro p e s m args below meth c A ls hx hb hml hr hlk hown hnm hts hP hD hS hA hC hl
  have hK := hC.1
  have hN := hC.2.1
  have hl : lv_has ls 1 [(0, .ref a0)] := hl
  generalize hHH : s.heap = H at hP ⊢
  have hS : va_S A s.heap H [] := by rw [← hHH]; exact hS
  refine lv_aload_n hx hb dX14_stages_0 rfl (lv_at hl 0 rfl) ?_
  refine lv_iconst (v := 0) hx hb dX14_stages_1 (by decide) ?_
  refine va_put (D := D) (ci := 13) (v := .int 0) (ty := .int) (C := RX14) (T := TX14) (N := 11) hx hb hts iX14 tyX14 tyX14_ok nmX14 hown hK hP hD hS 0 rfl rfl 9 (by decide) (hts _ wq1542) (fun _ h9 => h9) rfl (by decide +kernel) rfl rfl (Nat.le_of_ble_eq_true rfl) dX14_stages_2 (fun H locs hP hD hS => ?_)
  have hP : va_P D vwCl [(a0, .inr (13, [.int 0, .int 0, .ref a1, .ref a2, .ref a3, .ref a4, .ref a5, .ref a6, .ref a7, .int 0, .long 0]))] H := hP
  have hD : va_D A [(a0, .inr (13, [.int 0, .int 0, .ref a1, .ref a2, .ref a3, .ref a4, .ref a5, .ref a6, .ref a7, .int 0, .long 0]))] := hD
  refine lv_aload_n hx hb dX14_stages_5 rfl (lv_at hl 0 rfl) ?_
  refine va_get (D := D) (ci := 13) (v := .int 0) (C := RX14) (T := TX14) (N := 11) hx hb hts iX14 hown hK hP 0 rfl rfl 0 (by decide) (hts _ wq1528) (fun _ h9 => h9) rfl dX14_stages_6 ?_
  exact zk_ri (r0 := fun u => 0) (w1 := fun u => [(a0, .inr (13, [.int 0, .int 0, .ref a1, .ref a2, .ref a3, .ref a4, .ref a5, .ref a6, .ref a7, .int 0, .long 0]))]) hx hb hr hlk hP hD hS (fun _ _ => 0) rfl rfl [0] rfl rfl (Nat.le_of_ble_eq_true rfl) (Nat.le_of_ble_eq_true rfl) dX14_stages_9
set_option maxHeartbeats 4000000 in
set_option maxRecDepth 100000 in
theorem kX10_isStarted_0 (l : Launch) (hst : l.stackTraces = false) (D : va_G) (yc : Nat → ClassId) (e0 sz : Nat) (a0 : Nat) (a1 : Nat) (a2 : Nat)  : Met l yX10_isStarted (ws_ yX10_isStarted cX10_isStarted 1 (some .boolean)) ({ frames := 0, cells := 0, slots := 0, locals := 0 }) (PR D yc e0 [(a0, .inr (9, [.ref a1, .ref a2, .int 0, .int 0, .int 0]))] sz [.ref a0]) (va_Qi (fun r u => r = (fun u : Nat → Nat → Nat => 0) u) (WD D (va_A [(a0, .inr (9, [.ref a1, .ref a2, .int 0, .int 0, .int 0]))] sz) (fun u => [(a0, .inr (9, [.ref a1, .ref a2, .int 0, .int 0, .int 0]))])) (va_A [(a0, .inr (9, [.ref a1, .ref a2, .int 0, .int 0, .int 0]))] sz)) 0 0 (va_A [(a0, .inr (9, [.ref a1, .ref a2, .int 0, .int 0, .int 0]))] sz) := by
  refine zk_M (Qc := fun A => va_Qi (fun r u => r = (fun u : Nat → Nat → Nat => 0) u) (WD D A (fun u => [(a0, .inr (9, [.ref a1, .ref a2, .int 0, .int 0, .int 0]))])) A) (by decide) (Nat.le_of_ble_eq_true rfl) ?_
  intro p e s m args below meth c A ls hx hb hml hr hlk hown hnm hts hP hD hS hA hC hl
  have hK := hC.1
  have hN := hC.2.1
  have hl : lv_has ls 1 [(0, .ref a0)] := hl
  generalize hHH : s.heap = H at hP ⊢
  have hS : va_S A s.heap H [] := by rw [← hHH]; exact hS
  refine lv_aload_n hx hb dX10_isStarted_0 rfl (lv_at hl 0 rfl) ?_
  refine va_get (D := D) (ci := 9) (v := .int 0) (C := RX10) (T := TX10) (N := 5) hx hb hts iX10 hown hK hP 0 rfl rfl 2 (by decide) (hts _ wq101) (fun _ h9 => h9) rfl dX10_isStarted_1 ?_
  exact zk_ri (r0 := fun u => 0) (w1 := fun u => [(a0, .inr (9, [.ref a1, .ref a2, .int 0, .int 0, .int 0]))]) hx hb hr hlk hP hD hS (fun _ _ => 0) rfl rfl [0] rfl rfl (Nat.le_of_ble_eq_true rfl) (Nat.le_of_ble_eq_true rfl) dX10_isStarted_4
set_option maxHeartbeats 4000000 in
set_option maxRecDepth 100000 in
theorem kX14_isStarted_0 (l : Launch) (hst : l.stackTraces = false) (D : va_G) (yc : Nat → ClassId) (e0 sz : Nat) (a0 : Nat) (a1 : Nat) (a2 : Nat) (a3 : Nat) (a4 : Nat) (a5 : Nat) (a6 : Nat) (a7 : Nat)  : Met l yX14_isStarted (ws_ yX14_isStarted cX14_isStarted 1 (some .boolean)) ({ frames := 0, cells := 0, slots := 0, locals := 0 }) (PR D yc e0 [(a0, .inr (13, [.int 0, .int 0, .ref a1, .ref a2, .ref a3, .ref a4, .ref a5, .ref a6, .ref a7, .int 0, .long 0]))] sz [.ref a0]) (va_Qi (fun r u => r = (fun u : Nat → Nat → Nat => 0) u) (WD D (va_A [(a0, .inr (13, [.int 0, .int 0, .ref a1, .ref a2, .ref a3, .ref a4, .ref a5, .ref a6, .ref a7, .int 0, .long 0]))] sz) (fun u => [(a0, .inr (13, [.int 0, .int 0, .ref a1, .ref a2, .ref a3, .ref a4, .ref a5, .ref a6, .ref a7, .int 0, .long 0]))])) (va_A [(a0, .inr (13, [.int 0, .int 0, .ref a1, .ref a2, .ref a3, .ref a4, .ref a5, .ref a6, .ref a7, .int 0, .long 0]))] sz)) 0 0 (va_A [(a0, .inr (13, [.int 0, .int 0, .ref a1, .ref a2, .ref a3, .ref a4, .ref a5, .ref a6, .ref a7, .int 0, .long 0]))] sz) := by
  refine zk_M (Qc := fun A => va_Qi (fun r u => r = (fun u : Nat → Nat → Nat => 0) u) (WD D A (fun u => [(a0, .inr (13, [.int 0, .int 0, .ref a1, .ref a2, .ref a3, .ref a4, .ref a5, .ref a6, .ref a7, .int 0, .long 0]))])) A) (by decide) (Nat.le_of_ble_eq_true rfl) ?_
  intro p e s m args below meth c A ls hx hb hml hr hlk hown hnm hts hP hD hS hA hC hl
  have hK := hC.1
  have hN := hC.2.1
  have hl : lv_has ls 1 [(0, .ref a0)] := hl
  generalize hHH : s.heap = H at hP ⊢
  have hS : va_S A s.heap H [] := by rw [← hHH]; exact hS
  refine lv_aload_n hx hb dX14_isStarted_0 rfl (lv_at hl 0 rfl) ?_
  refine lv_iconst (v := 0) hx hb dX14_isStarted_1 (by decide) ?_
  refine va_put (D := D) (ci := 13) (v := .int 0) (ty := .int) (C := RX14) (T := TX14) (N := 11) hx hb hts iX14 tyX14 tyX14_ok nmX14 hown hK hP hD hS 0 rfl rfl 9 (by decide) (hts _ wq1542) (fun _ h9 => h9) rfl (by decide +kernel) rfl rfl (Nat.le_of_ble_eq_true rfl) dX14_isStarted_2 (fun H locs hP hD hS => ?_)
  have hP : va_P D vwCl [(a0, .inr (13, [.int 0, .int 0, .ref a1, .ref a2, .ref a3, .ref a4, .ref a5, .ref a6, .ref a7, .int 0, .long 0]))] H := hP
  have hD : va_D A [(a0, .inr (13, [.int 0, .int 0, .ref a1, .ref a2, .ref a3, .ref a4, .ref a5, .ref a6, .ref a7, .int 0, .long 0]))] := hD
  refine lv_aload_n hx hb dX14_isStarted_5 rfl (lv_at hl 0 rfl) ?_
  refine va_get (D := D) (ci := 13) (v := .int 0) (C := RX14) (T := TX14) (N := 11) hx hb hts iX14 hown hK hP 0 rfl rfl 1 (by decide) (hts _ wq1529) (fun _ h9 => h9) rfl dX14_isStarted_6 ?_
  exact zk_ri (r0 := fun u => 0) (w1 := fun u => [(a0, .inr (13, [.int 0, .int 0, .ref a1, .ref a2, .ref a3, .ref a4, .ref a5, .ref a6, .ref a7, .int 0, .long 0]))]) hx hb hr hlk hP hD hS (fun _ _ => 0) rfl rfl [0] rfl rfl (Nat.le_of_ble_eq_true rfl) (Nat.le_of_ble_eq_true rfl) dX14_isStarted_9
set_option maxHeartbeats 4000000 in
set_option maxRecDepth 100000 in
theorem kX10_sortOf_0 (l : Launch) (hst : l.stackTraces = false) (D : va_G) (yc : Nat → ClassId) (e0 sz : Nat) (a0 : Nat) (p0 : Int32) (a1 : Nat) (a2 : Nat) (a3 : Nat)  : vx_Met l yX10_sortOf (ws_ yX10_sortOf cX10_sortOf 2 (some .int)) ({ frames := 7, cells := 1, slots := 6, locals := 103 }) (PR D yc e0 [(a0, .inr (9, [.ref a1, .ref a2, .int 0, .int 0, .int 0])), (a1, .inr (2, [.int 0, .ref a3, .int 8, .int (-1), .int 0, .int 0, .int 0, .int 0])), (a3, .inr (0, [.int 0, .ref e0, .int 0]))] sz [.ref a0, .int p0]) (fun _ _ _ _ => False) (zk_X D (va_A [(a0, .inr (9, [.ref a1, .ref a2, .int 0, .int 0, .int 0])), (a1, .inr (2, [.int 0, .ref a3, .int 8, .int (-1), .int 0, .int 0, .int 0, .int 0])), (a3, .inr (0, [.int 0, .ref e0, .int 0]))] sz) "java/lang/IndexOutOfBoundsException" (fun u => [(a0, .inr (9, [.ref a1, .ref a2, .int 0, .int 0, .int 0])), (a1, .inr (2, [.int 0, .ref a3, .int 8, .int (-1), .int 0, .int 0, .int 0, .int 0])), (a3, .inr (0, [.int 0, .ref e0, .int 0]))])) 1 6 (va_A [(a0, .inr (9, [.ref a1, .ref a2, .int 0, .int 0, .int 0])), (a1, .inr (2, [.int 0, .ref a3, .int 8, .int (-1), .int 0, .int 0, .int 0, .int 0])), (a3, .inr (0, [.int 0, .ref e0, .int 0]))] sz) := by
  refine zk_MX (by decide) (Nat.le_of_ble_eq_true rfl) ?_
  intro p e s m args below meth c A ls hx hb hml hr hlk hown hnm hts hP hD hS hA hC hl hnx
  have hK := hC.1
  have hN := hC.2.1
  have hl : lv_has ls 2 [(0, .ref a0), (1, .int p0)] := hl
  generalize hHH : s.heap = H at hP ⊢
  have hS : va_S A s.heap H [] := by rw [← hHH]; exact hS
  refine W.widen (k := 0) (n := 0) (Nat.le_of_ble_eq_true rfl) (Nat.le_of_ble_eq_true rfl) ?_
  refine lv_aload_n hx hb dX10_sortOf_0 rfl (lv_at hl 0 rfl) ?_
  refine lv_iload_n hx hb dX10_sortOf_1 rfl (lv_at hl 1 rfl) ?_
  refine zk_x (wr := []) (vx_runV (As := [.int p0]) (rest := []) ⟨hx, hb, hml, hown, hts⟩ (kX10_stageOf_0 l hst D yc e0 H.size a0 p0 a1 a2 a3) (cwV 1 hts (lw_V wq254 wq256 ws2 wq1 wq257) rfl rfl rfl (by decide +kernel) ⟨(Nat.le_of_ble_eq_true rfl), (Nat.le_of_ble_eq_true rfl)⟩) (zk_pV hC hP hD hS hA [0, 1, 2] rfl rfl 0 9 rfl rfl) rfl rfl hl.1 rfl (lv_room (Nat.le_of_ble_eq_true rfl)) dX10_sortOf_2 ⟨(Nat.le_of_ble_eq_true rfl), (Nat.le_of_ble_eq_true rfl)⟩) hP hD hS hA [0, 1, 2] [] rfl rfl rfl (by decide) (fun u1 ce q9 H locs hP hD hS hce hcv hcl => ?_)
  have hP : va_P D vwCl [(a0, .inr (9, [.ref a1, .ref a2, .int 0, .int 0, .int 0])), (a1, .inr (2, [.int 0, .ref a3, .int 8, .int (-1), .int 0, .int 0, .int 0, .int 0])), (a3, .inr (0, [.int 0, .ref e0, .int 0]))] H := hP
  have hD : va_D A [(a0, .inr (9, [.ref a1, .ref a2, .int 0, .int 0, .int 0])), (a1, .inr (2, [.int 0, .ref a3, .int 8, .int (-1), .int 0, .int 0, .int 0, .int 0])), (a3, .inr (0, [.int 0, .ref e0, .int 0]))] := hD
  exact vx_out (fun x9 hx9 => (hnx x9 hx9).elim) hlk hce hcv hcl (zk_out hP hD hS (fun _ _ => 0) [0, 1, 2] rfl rfl) hS.2.2 (Nat.le_of_ble_eq_true rfl) (Nat.le_of_ble_eq_true rfl)
set_option maxHeartbeats 4000000 in
set_option maxRecDepth 100000 in
theorem kL_sortOf_0 (l : Launch) (hst : l.stackTraces = false) (D : va_G) (yc : Nat → ClassId) (e0 sz : Nat) (a0 : Nat) (p0 : Int32) (a1 : Nat) (a2 : Nat) (a3 : Nat) (a4 : Nat)  : Met l yL_sortOf (ww_ yL_sortOf cL_sortOf 4 (some .int) [(0, 9, 12, 21)]) ({ frames := 8, cells := 1, slots := 6, locals := 124 }) (PR D yc e0 [(a0, .inr (9, [.ref a2, .ref a3, .int 0, .int 0, .int 0])), (a2, .inr (2, [.int 0, .ref a4, .int 8, .int (-1), .int 0, .int 0, .int 0, .int 0])), (a4, .inr (0, [.int 0, .ref e0, .int 0]))] sz [.ref a0, .int p0, .ref a1]) (va_Qi (fun r u => r = (fun u : Nat → Nat → Nat => 1) u) (WD D (va_A [(a0, .inr (9, [.ref a2, .ref a3, .int 0, .int 0, .int 0])), (a2, .inr (2, [.int 0, .ref a4, .int 8, .int (-1), .int 0, .int 0, .int 0, .int 0])), (a4, .inr (0, [.int 0, .ref e0, .int 0]))] sz) (fun u => [(a0, .inr (9, [.ref a2, .ref a3, .int 0, .int 0, .int 0])), (a2, .inr (2, [.int 0, .ref a4, .int 8, .int (-1), .int 0, .int 0, .int 0, .int 0])), (a4, .inr (0, [.int 0, .ref e0, .int 0]))])) (va_A [(a0, .inr (9, [.ref a2, .ref a3, .int 0, .int 0, .int 0])), (a2, .inr (2, [.int 0, .ref a4, .int 8, .int (-1), .int 0, .int 0, .int 0, .int 0])), (a4, .inr (0, [.int 0, .ref e0, .int 0]))] sz)) 1 6 (va_A [(a0, .inr (9, [.ref a2, .ref a3, .int 0, .int 0, .int 0])), (a2, .inr (2, [.int 0, .ref a4, .int 8, .int (-1), .int 0, .int 0, .int 0, .int 0])), (a4, .inr (0, [.int 0, .ref e0, .int 0]))] sz) := by
  refine zk_MW (Qc := fun A => va_Qi (fun r u => r = (fun u : Nat → Nat → Nat => 1) u) (WD D A (fun u => [(a0, .inr (9, [.ref a2, .ref a3, .int 0, .int 0, .int 0])), (a2, .inr (2, [.int 0, .ref a4, .int 8, .int (-1), .int 0, .int 0, .int 0, .int 0])), (a4, .inr (0, [.int 0, .ref e0, .int 0]))])) A) (by decide) (Nat.le_of_ble_eq_true rfl) ?_
  intro p e s m args below meth c A ls hx hb hml hr hlk hown hts hP hD hS hA hC hl hex
  have hK := hC.1
  have hN := hC.2.1
  have hl : lv_has ls 4 [(0, .ref a0), (1, .int p0), (2, .ref a1)] := hl
  generalize hHH : s.heap = H at hP ⊢
  have hS : va_S A s.heap H [] := by rw [← hHH]; exact hS
  refine lv_aload_n hx hb dL_sortOf_0 rfl (lv_at hl 2 rfl) ?_
  refine lv_iconst (v := 0) hx hb dL_sortOf_1 (by decide) ?_
  refine lv_aload_n hx hb dL_sortOf_2 rfl (lv_at hl 0 rfl) ?_
  refine lv_iload_n hx hb dL_sortOf_3 rfl (lv_at hl 1 rfl) ?_
  refine zk_x (wr := []) (vx_runV (As := [.int p0]) (rest := [.int 0, .ref a1]) ⟨hx, hb, hml, hown, hts⟩ (kX10_sortOf_0 l hst D yc e0 H.size a0 p0 a2 a3 a4) (cwV 1 hts (lw_V wq1215 wq251 wq252 wq1 wq253) rfl rfl rfl (by decide +kernel) ⟨(Nat.le_of_ble_eq_true rfl), (Nat.le_of_ble_eq_true rfl)⟩) (zk_pV hC hP hD hS hA [0, 1, 2] rfl rfl 0 9 rfl rfl) rfl rfl hl.1 rfl (lv_room (Nat.le_of_ble_eq_true rfl)) dL_sortOf_4 ⟨(Nat.le_of_ble_eq_true rfl), (Nat.le_of_ble_eq_true rfl)⟩) hP hD hS hA [0, 1, 2] [] rfl rfl rfl (by decide) (fun u1 ce q9 H locs hP hD hS hce hcv hcl => ?_)
  have hP : va_P D vwCl [(a0, .inr (9, [.ref a2, .ref a3, .int 0, .int 0, .int 0])), (a2, .inr (2, [.int 0, .ref a4, .int 8, .int (-1), .int 0, .int 0, .int 0, .int 0])), (a4, .inr (0, [.int 0, .ref e0, .int 0]))] H := hP
  have hD : va_D A [(a0, .inr (9, [.ref a2, .ref a3, .int 0, .int 0, .int 0])), (a2, .inr (2, [.int 0, .ref a4, .int 8, .int (-1), .int 0, .int 0, .int 0, .int 0])), (a4, .inr (0, [.int 0, .ref e0, .int 0]))] := hD
  refine vx_catch (own := RL) (name := "java/lang/IndexOutOfBoundsException") hown (tableOf []) ⟨0, 9, 12, 21⟩ (tableOf []) hex (fun z hz => False.elim (List.not_mem_nil hz)) (by decide) (by decide) (hts _ wq833) (zk_tab rfl (hN _ wr261 rfl)) hce hcv hcl ?_
  refine W.widen (k := 1) (n := 6) (Nat.le_of_ble_eq_true rfl) (Nat.le_of_ble_eq_true rfl) ?_
  refine lv_astore_n (lv' := [(3, .ref q9), (0, .ref a0), (1, .int p0), (2, .ref a1)]) hx hb dL_sortOf_12 rfl hl (by decide) rfl (fun ls hl => ?_)
  refine lv_iconst (v := 1) hx hb dL_sortOf_13 (by decide) ?_
  exact zk_ri (r0 := fun u => 1) (w1 := fun u => [(a0, .inr (9, [.ref a2, .ref a3, .int 0, .int 0, .int 0])), (a2, .inr (2, [.int 0, .ref a4, .int 8, .int (-1), .int 0, .int 0, .int 0, .int 0])), (a4, .inr (0, [.int 0, .ref e0, .int 0]))]) hx hb hr hlk hP hD hS (fun _ _ => 0) rfl rfl [0, 1, 2] rfl rfl (Nat.le_of_ble_eq_true rfl) (Nat.le_of_ble_eq_true rfl) dL_sortOf_14
set_option maxHeartbeats 4000000 in
set_option maxRecDepth 100000 in
theorem kX14_has_0 (l : Launch) (hst : l.stackTraces = false) (D : va_G) (yc : Nat → ClassId) (e0 sz : Nat) (a0 : Nat) (p0 : Int32) (a1 : Nat) (a2 : Nat) (a3 : Nat) (a4 : Nat) (a5 : Nat) (a6 : Nat) (a7 : Nat)  : Met l yX14_has (ws_ yX14_has cX14_has 2 (some .boolean)) ({ frames := 2, cells := 0, slots := 0, locals := 43 }) (PR D yc e0 [(a0, .inr (13, [.int 0, .int 0, .ref a1, .ref a2, .ref a3, .ref a4, .ref a5, .ref a6, .ref a7, .int 0, .long 0]))] sz [.ref a0, .int p0]) (va_Qi (fun r u => r = (fun u : Nat → Nat → Nat => 0) u) (WD D (va_A [(a0, .inr (13, [.int 0, .int 0, .ref a1, .ref a2, .ref a3, .ref a4, .ref a5, .ref a6, .ref a7, .int 0, .long 0]))] sz) (fun u => [(a0, .inr (13, [.int 0, .int 0, .ref a1, .ref a2, .ref a3, .ref a4, .ref a5, .ref a6, .ref a7, .int 1, .long 0]))])) (va_A [(a0, .inr (13, [.int 0, .int 0, .ref a1, .ref a2, .ref a3, .ref a4, .ref a5, .ref a6, .ref a7, .int 0, .long 0]))] sz)) 0 0 (va_A [(a0, .inr (13, [.int 0, .int 0, .ref a1, .ref a2, .ref a3, .ref a4, .ref a5, .ref a6, .ref a7, .int 0, .long 0]))] sz) := by
  refine zk_M (Qc := fun A => va_Qi (fun r u => r = (fun u : Nat → Nat → Nat => 0) u) (WD D A (fun u => [(a0, .inr (13, [.int 0, .int 0, .ref a1, .ref a2, .ref a3, .ref a4, .ref a5, .ref a6, .ref a7, .int 1, .long 0]))])) A) (by decide) (Nat.le_of_ble_eq_true rfl) ?_
  intro p e s m args below meth c A ls hx hb hml hr hlk hown hnm hts hP hD hS hA hC hl
  have hK := hC.1
  have hN := hC.2.1
  have hl : lv_has ls 2 [(0, .ref a0), (1, .int p0)] := hl
  generalize hHH : s.heap = H at hP ⊢
  have hS : va_S A s.heap H [] := by rw [← hHH]; exact hS
  refine lv_aload_n hx hb dX14_has_0 rfl (lv_at hl 0 rfl) ?_
  refine lv_aload_n hx hb dX14_has_1 rfl (lv_at hl 0 rfl) ?_
  refine lv_iload_n hx hb dX14_has_2 rfl (lv_at hl 1 rfl) ?_
  refine zk_i (wr := []) (va_runV (As := [.int p0]) (rest := [.ref a0]) ⟨hx, hb, hml, hown, hts⟩ (kX14_isStage_0 l hst D yc e0 H.size a0 p0 a1 a2 a3 a4 a5 a6 a7) (cwV 1 hts (lw_V wq1596 wq1598 ws35 wq6 wq1599) rfl rfl rfl (by decide +kernel) ⟨(Nat.le_of_ble_eq_true rfl), (Nat.le_of_ble_eq_true rfl)⟩) (zk_pV hC hP hD hS hA [0] rfl rfl 0 13 rfl rfl) rfl rfl hl.1 rfl (lv_room (Nat.le_of_ble_eq_true rfl)) dX14_has_3 ⟨(Nat.le_of_ble_eq_true rfl), (Nat.le_of_ble_eq_true rfl)⟩) hP hD hS hA [0] [] rfl rfl rfl (by decide) (fun u1 H locs hP hD hS => ?_)
  have hP : va_P D vwCl [(a0, .inr (13, [.int 0, .int 0, .ref a1, .ref a2, .ref a3, .ref a4, .ref a5, .ref a6, .ref a7, .int 0, .long 0]))] H := hP
  have hD : va_D A [(a0, .inr (13, [.int 0, .int 0, .ref a1, .ref a2, .ref a3, .ref a4, .ref a5, .ref a6, .ref a7, .int 0, .long 0]))] := hD
  refine W.widen (k := 0) (n := 0) (Nat.le_of_ble_eq_true rfl) (Nat.le_of_ble_eq_true rfl) ?_
  refine lv_if_eq (tgt := 13) hx hb dX14_has_6 (by decide) (fun _ => ?_) (fun h9 => absurd (by decide) h9)
  refine lv_iconst (v := 1) hx hb dX14_has_13 (by decide) ?_
  refine va_put (D := D) (ci := 13) (v := .int 1) (ty := .int) (C := RX14) (T := TX14) (N := 11) hx hb hts iX14 tyX14 tyX14_ok nmX14 hown hK hP hD hS 0 rfl rfl 9 (by decide) (hts _ wq1542) (fun _ h9 => h9) rfl (by decide +kernel) rfl rfl (Nat.le_of_ble_eq_true rfl) dX14_has_14 (fun H locs hP hD hS => ?_)
  have hP : va_P D vwCl [(a0, .inr (13, [.int 0, .int 0, .ref a1, .ref a2, .ref a3, .ref a4, .ref a5, .ref a6, .ref a7, .int 1, .long 0]))] H := hP
  have hD : va_D A [(a0, .inr (13, [.int 0, .int 0, .ref a1, .ref a2, .ref a3, .ref a4, .ref a5, .ref a6, .ref a7, .int 1, .long 0]))] := hD
  refine lv_aload_n hx hb dX14_has_17 rfl (lv_at hl 0 rfl) ?_
  refine va_get (D := D) (ci := 13) (v := .int 1) (C := RX14) (T := TX14) (N := 11) hx hb hts iX14 hown hK hP 0 rfl rfl 9 (by decide) (hts _ wq1542) (fun _ h9 => h9) rfl dX14_has_18 ?_
  refine lv_if_ne (tgt := 28) hx hb dX14_has_21 (by decide) (fun _ => ?_) (fun h9 => absurd h9 (by decide))
  refine lv_iconst (v := 0) hx hb dX14_has_28 (by decide) ?_
  exact zk_ri (r0 := fun u => 0) (w1 := fun u => [(a0, .inr (13, [.int 0, .int 0, .ref a1, .ref a2, .ref a3, .ref a4, .ref a5, .ref a6, .ref a7, .int 1, .long 0]))]) hx hb hr hlk hP hD hS (fun _ _ => 0) rfl rfl [0] rfl rfl (Nat.le_of_ble_eq_true rfl) (Nat.le_of_ble_eq_true rfl) dX14_has_29
set_option maxHeartbeats 4000000 in
set_option maxRecDepth 100000 in
theorem kX14_sortOf_0 (l : Launch) (hst : l.stackTraces = false) (D : va_G) (yc : Nat → ClassId) (e0 sz : Nat) (a0 : Nat) (p0 : Int32) (a1 : Nat) (a2 : Nat) (a3 : Nat) (a4 : Nat) (a5 : Nat) (a6 : Nat) (a7 : Nat)  : Met l yX14_sortOf (ws_ yX14_sortOf cX14_sortOf 2 (some .int)) ({ frames := 3, cells := 0, slots := 0, locals := 64 }) (PR D yc e0 [(a0, .inr (13, [.int 0, .int 0, .ref a1, .ref a2, .ref a3, .ref a4, .ref a5, .ref a6, .ref a7, .int 0, .long 0]))] sz [.ref a0, .int p0]) (va_Qi (fun r u => r = (fun u : Nat → Nat → Nat => 0) u) (WD D (va_A [(a0, .inr (13, [.int 0, .int 0, .ref a1, .ref a2, .ref a3, .ref a4, .ref a5, .ref a6, .ref a7, .int 0, .long 0]))] sz) (fun u => [(a0, .inr (13, [.int 0, .int 0, .ref a1, .ref a2, .ref a3, .ref a4, .ref a5, .ref a6, .ref a7, .int 1, .long 0]))])) (va_A [(a0, .inr (13, [.int 0, .int 0, .ref a1, .ref a2, .ref a3, .ref a4, .ref a5, .ref a6, .ref a7, .int 0, .long 0]))] sz)) 0 0 (va_A [(a0, .inr (13, [.int 0, .int 0, .ref a1, .ref a2, .ref a3, .ref a4, .ref a5, .ref a6, .ref a7, .int 0, .long 0]))] sz) := by
  refine zk_M (Qc := fun A => va_Qi (fun r u => r = (fun u : Nat → Nat → Nat => 0) u) (WD D A (fun u => [(a0, .inr (13, [.int 0, .int 0, .ref a1, .ref a2, .ref a3, .ref a4, .ref a5, .ref a6, .ref a7, .int 1, .long 0]))])) A) (by decide) (Nat.le_of_ble_eq_true rfl) ?_
  intro p e s m args below meth c A ls hx hb hml hr hlk hown hnm hts hP hD hS hA hC hl
  have hK := hC.1
  have hN := hC.2.1
  have hl : lv_has ls 2 [(0, .ref a0), (1, .int p0)] := hl
  generalize hHH : s.heap = H at hP ⊢
  have hS : va_S A s.heap H [] := by rw [← hHH]; exact hS
  refine lv_aload_n hx hb dX14_sortOf_0 rfl (lv_at hl 0 rfl) ?_
  refine lv_iload_n hx hb dX14_sortOf_1 rfl (lv_at hl 1 rfl) ?_
  refine zk_i (wr := []) (va_runV (As := [.int p0]) (rest := []) ⟨hx, hb, hml, hown, hts⟩ (kX14_has_0 l hst D yc e0 H.size a0 p0 a1 a2 a3 a4 a5 a6 a7) (cwV 1 hts (lw_V wq1847 wq1849 ws63 wq6 wq1850) rfl rfl rfl (by decide +kernel) ⟨(Nat.le_of_ble_eq_true rfl), (Nat.le_of_ble_eq_true rfl)⟩) (zk_pV hC hP hD hS hA [0] rfl rfl 0 13 rfl rfl) rfl rfl hl.1 rfl (lv_room (Nat.le_of_ble_eq_true rfl)) dX14_sortOf_2 ⟨(Nat.le_of_ble_eq_true rfl), (Nat.le_of_ble_eq_true rfl)⟩) hP hD hS hA [0] [] rfl rfl rfl (by decide) (fun u1 H locs hP hD hS => ?_)
  have hP : va_P D vwCl [(a0, .inr (13, [.int 0, .int 0, .ref a1, .ref a2, .ref a3, .ref a4, .ref a5, .ref a6, .ref a7, .int 1, .long 0]))] H := hP
  have hD : va_D A [(a0, .inr (13, [.int 0, .int 0, .ref a1, .ref a2, .ref a3, .ref a4, .ref a5, .ref a6, .ref a7, .int 1, .long 0]))] := hD
  refine W.widen (k := 0) (n := 0) (Nat.le_of_ble_eq_true rfl) (Nat.le_of_ble_eq_true rfl) ?_
  refine lv_if_eq (tgt := 17) hx hb dX14_sortOf_5 (by decide) (fun _ => ?_) (fun h9 => absurd (by decide) h9)
  refine lv_iconst (v := 0) hx hb dX14_sortOf_17 (by decide) ?_
  exact zk_ri (r0 := fun u => 0) (w1 := fun u => [(a0, .inr (13, [.int 0, .int 0, .ref a1, .ref a2, .ref a3, .ref a4, .ref a5, .ref a6, .ref a7, .int 1, .long 0]))]) hx hb hr hlk hP hD hS (fun _ _ => 0) rfl rfl [0] rfl rfl (Nat.le_of_ble_eq_true rfl) (Nat.le_of_ble_eq_true rfl) dX14_sortOf_18
set_option maxHeartbeats 4000000 in
set_option maxRecDepth 100000 in
theorem kX10_markOf_0 (l : Launch) (hst : l.stackTraces = false) (D : va_G) (yc : Nat → ClassId) (e0 sz : Nat) (a0 : Nat) (p0 : Int32) (a1 : Nat) (a2 : Nat) (a3 : Nat)  : vx_Met l yX10_markOf (ws_ yX10_markOf cX10_markOf 2 (some .int)) ({ frames := 7, cells := 1, slots := 6, locals := 103 }) (PR D yc e0 [(a0, .inr (9, [.ref a1, .ref a2, .int 0, .int 0, .int 0])), (a1, .inr (2, [.int 0, .ref a3, .int 8, .int (-1), .int 0, .int 0, .int 0, .int 0])), (a3, .inr (0, [.int 0, .ref e0, .int 0]))] sz [.ref a0, .int p0]) (fun _ _ _ _ => False) (zk_X D (va_A [(a0, .inr (9, [.ref a1, .ref a2, .int 0, .int 0, .int 0])), (a1, .inr (2, [.int 0, .ref a3, .int 8, .int (-1), .int 0, .int 0, .int 0, .int 0])), (a3, .inr (0, [.int 0, .ref e0, .int 0]))] sz) "java/lang/IndexOutOfBoundsException" (fun u => [(a0, .inr (9, [.ref a1, .ref a2, .int 0, .int 0, .int 0])), (a1, .inr (2, [.int 0, .ref a3, .int 8, .int (-1), .int 0, .int 0, .int 0, .int 0])), (a3, .inr (0, [.int 0, .ref e0, .int 0]))])) 1 6 (va_A [(a0, .inr (9, [.ref a1, .ref a2, .int 0, .int 0, .int 0])), (a1, .inr (2, [.int 0, .ref a3, .int 8, .int (-1), .int 0, .int 0, .int 0, .int 0])), (a3, .inr (0, [.int 0, .ref e0, .int 0]))] sz) := by
  refine zk_MX (by decide) (Nat.le_of_ble_eq_true rfl) ?_
  intro p e s m args below meth c A ls hx hb hml hr hlk hown hnm hts hP hD hS hA hC hl hnx
  have hK := hC.1
  have hN := hC.2.1
  have hl : lv_has ls 2 [(0, .ref a0), (1, .int p0)] := hl
  generalize hHH : s.heap = H at hP ⊢
  have hS : va_S A s.heap H [] := by rw [← hHH]; exact hS
  refine W.widen (k := 0) (n := 0) (Nat.le_of_ble_eq_true rfl) (Nat.le_of_ble_eq_true rfl) ?_
  refine lv_aload_n hx hb dX10_markOf_0 rfl (lv_at hl 0 rfl) ?_
  refine lv_iload_n hx hb dX10_markOf_1 rfl (lv_at hl 1 rfl) ?_
  refine zk_x (wr := []) (vx_runV (As := [.int p0]) (rest := []) ⟨hx, hb, hml, hown, hts⟩ (kX10_stageOf_0 l hst D yc e0 H.size a0 p0 a1 a2 a3) (cwV 1 hts (lw_V wq254 wq256 ws2 wq1 wq257) rfl rfl rfl (by decide +kernel) ⟨(Nat.le_of_ble_eq_true rfl), (Nat.le_of_ble_eq_true rfl)⟩) (zk_pV hC hP hD hS hA [0, 1, 2] rfl rfl 0 9 rfl rfl) rfl rfl hl.1 rfl (lv_room (Nat.le_of_ble_eq_true rfl)) dX10_markOf_2 ⟨(Nat.le_of_ble_eq_true rfl), (Nat.le_of_ble_eq_true rfl)⟩) hP hD hS hA [0, 1, 2] [] rfl rfl rfl (by decide) (fun u1 ce q9 H locs hP hD hS hce hcv hcl => ?_)
  have hP : va_P D vwCl [(a0, .inr (9, [.ref a1, .ref a2, .int 0, .int 0, .int 0])), (a1, .inr (2, [.int 0, .ref a3, .int 8, .int (-1), .int 0, .int 0, .int 0, .int 0])), (a3, .inr (0, [.int 0, .ref e0, .int 0]))] H := hP
  have hD : va_D A [(a0, .inr (9, [.ref a1, .ref a2, .int 0, .int 0, .int 0])), (a1, .inr (2, [.int 0, .ref a3, .int 8, .int (-1), .int 0, .int 0, .int 0, .int 0])), (a3, .inr (0, [.int 0, .ref e0, .int 0]))] := hD
  exact vx_out (fun x9 hx9 => (hnx x9 hx9).elim) hlk hce hcv hcl (zk_out hP hD hS (fun _ _ => 0) [0, 1, 2] rfl rfl) hS.2.2 (Nat.le_of_ble_eq_true rfl) (Nat.le_of_ble_eq_true rfl)
set_option maxHeartbeats 4000000 in
set_option maxRecDepth 100000 in
theorem kL_markOf_0 (l : Launch) (hst : l.stackTraces = false) (D : va_G) (yc : Nat → ClassId) (e0 sz : Nat) (a0 : Nat) (p0 : Int32) (a1 : Nat) (a2 : Nat) (a3 : Nat) (a4 : Nat)  : Met l yL_markOf (ww_ yL_markOf cL_markOf 4 (some .int) [(0, 9, 12, 21)]) ({ frames := 8, cells := 1, slots := 6, locals := 124 }) (PR D yc e0 [(a0, .inr (9, [.ref a2, .ref a3, .int 0, .int 0, .int 0])), (a2, .inr (2, [.int 0, .ref a4, .int 8, .int (-1), .int 0, .int 0, .int 0, .int 0])), (a4, .inr (0, [.int 0, .ref e0, .int 0]))] sz [.ref a0, .int p0, .ref a1]) (va_Qi (fun r u => r = (fun u : Nat → Nat → Nat => 1) u) (WD D (va_A [(a0, .inr (9, [.ref a2, .ref a3, .int 0, .int 0, .int 0])), (a2, .inr (2, [.int 0, .ref a4, .int 8, .int (-1), .int 0, .int 0, .int 0, .int 0])), (a4, .inr (0, [.int 0, .ref e0, .int 0]))] sz) (fun u => [(a0, .inr (9, [.ref a2, .ref a3, .int 0, .int 0, .int 0])), (a2, .inr (2, [.int 0, .ref a4, .int 8, .int (-1), .int 0, .int 0, .int 0, .int 0])), (a4, .inr (0, [.int 0, .ref e0, .int 0]))])) (va_A [(a0, .inr (9, [.ref a2, .ref a3, .int 0, .int 0, .int 0])), (a2, .inr (2, [.int 0, .ref a4, .int 8, .int (-1), .int 0, .int 0, .int 0, .int 0])), (a4, .inr (0, [.int 0, .ref e0, .int 0]))] sz)) 1 6 (va_A [(a0, .inr (9, [.ref a2, .ref a3, .int 0, .int 0, .int 0])), (a2, .inr (2, [.int 0, .ref a4, .int 8, .int (-1), .int 0, .int 0, .int 0, .int 0])), (a4, .inr (0, [.int 0, .ref e0, .int 0]))] sz) := by
  refine zk_MW (Qc := fun A => va_Qi (fun r u => r = (fun u : Nat → Nat → Nat => 1) u) (WD D A (fun u => [(a0, .inr (9, [.ref a2, .ref a3, .int 0, .int 0, .int 0])), (a2, .inr (2, [.int 0, .ref a4, .int 8, .int (-1), .int 0, .int 0, .int 0, .int 0])), (a4, .inr (0, [.int 0, .ref e0, .int 0]))])) A) (by decide) (Nat.le_of_ble_eq_true rfl) ?_
  intro p e s m args below meth c A ls hx hb hml hr hlk hown hts hP hD hS hA hC hl hex
  have hK := hC.1
  have hN := hC.2.1
  have hl : lv_has ls 4 [(0, .ref a0), (1, .int p0), (2, .ref a1)] := hl
  generalize hHH : s.heap = H at hP ⊢
  have hS : va_S A s.heap H [] := by rw [← hHH]; exact hS
  refine lv_aload_n hx hb dL_markOf_0 rfl (lv_at hl 2 rfl) ?_
  refine lv_iconst (v := 0) hx hb dL_markOf_1 (by decide) ?_
  refine lv_aload_n hx hb dL_markOf_2 rfl (lv_at hl 0 rfl) ?_
  refine lv_iload_n hx hb dL_markOf_3 rfl (lv_at hl 1 rfl) ?_
  refine zk_x (wr := []) (vx_runV (As := [.int p0]) (rest := [.int 0, .ref a1]) ⟨hx, hb, hml, hown, hts⟩ (kX10_markOf_0 l hst D yc e0 H.size a0 p0 a2 a3 a4) (cwV 1 hts (lw_V wq1219 wq323 wq324 wq1 wq325) rfl rfl rfl (by decide +kernel) ⟨(Nat.le_of_ble_eq_true rfl), (Nat.le_of_ble_eq_true rfl)⟩) (zk_pV hC hP hD hS hA [0, 1, 2] rfl rfl 0 9 rfl rfl) rfl rfl hl.1 rfl (lv_room (Nat.le_of_ble_eq_true rfl)) dL_markOf_4 ⟨(Nat.le_of_ble_eq_true rfl), (Nat.le_of_ble_eq_true rfl)⟩) hP hD hS hA [0, 1, 2] [] rfl rfl rfl (by decide) (fun u1 ce q9 H locs hP hD hS hce hcv hcl => ?_)
  have hP : va_P D vwCl [(a0, .inr (9, [.ref a2, .ref a3, .int 0, .int 0, .int 0])), (a2, .inr (2, [.int 0, .ref a4, .int 8, .int (-1), .int 0, .int 0, .int 0, .int 0])), (a4, .inr (0, [.int 0, .ref e0, .int 0]))] H := hP
  have hD : va_D A [(a0, .inr (9, [.ref a2, .ref a3, .int 0, .int 0, .int 0])), (a2, .inr (2, [.int 0, .ref a4, .int 8, .int (-1), .int 0, .int 0, .int 0, .int 0])), (a4, .inr (0, [.int 0, .ref e0, .int 0]))] := hD
  refine vx_catch (own := RL) (name := "java/lang/IndexOutOfBoundsException") hown (tableOf []) ⟨0, 9, 12, 21⟩ (tableOf []) hex (fun z hz => False.elim (List.not_mem_nil hz)) (by decide) (by decide) (hts _ wq833) (zk_tab rfl (hN _ wr261 rfl)) hce hcv hcl ?_
  refine W.widen (k := 1) (n := 6) (Nat.le_of_ble_eq_true rfl) (Nat.le_of_ble_eq_true rfl) ?_
  refine lv_astore_n (lv' := [(3, .ref q9), (0, .ref a0), (1, .int p0), (2, .ref a1)]) hx hb dL_markOf_12 rfl hl (by decide) rfl (fun ls hl => ?_)
  refine lv_iconst (v := 1) hx hb dL_markOf_13 (by decide) ?_
  exact zk_ri (r0 := fun u => 1) (w1 := fun u => [(a0, .inr (9, [.ref a2, .ref a3, .int 0, .int 0, .int 0])), (a2, .inr (2, [.int 0, .ref a4, .int 8, .int (-1), .int 0, .int 0, .int 0, .int 0])), (a4, .inr (0, [.int 0, .ref e0, .int 0]))]) hx hb hr hlk hP hD hS (fun _ _ => 0) rfl rfl [0, 1, 2] rfl rfl (Nat.le_of_ble_eq_true rfl) (Nat.le_of_ble_eq_true rfl) dL_markOf_14
set_option maxHeartbeats 4000000 in
set_option maxRecDepth 100000 in
theorem kX14_markOf_0 (l : Launch) (hst : l.stackTraces = false) (D : va_G) (yc : Nat → ClassId) (e0 sz : Nat) (a0 : Nat) (p0 : Int32) (a1 : Nat) (a2 : Nat) (a3 : Nat) (a4 : Nat) (a5 : Nat) (a6 : Nat) (a7 : Nat)  : Met l yX14_markOf (ws_ yX14_markOf cX14_markOf 2 (some .int)) ({ frames := 3, cells := 0, slots := 0, locals := 64 }) (PR D yc e0 [(a0, .inr (13, [.int 0, .int 0, .ref a1, .ref a2, .ref a3, .ref a4, .ref a5, .ref a6, .ref a7, .int 0, .long 0]))] sz [.ref a0, .int p0]) (va_Qi (fun r u => r = (fun u : Nat → Nat → Nat => 0) u) (WD D (va_A [(a0, .inr (13, [.int 0, .int 0, .ref a1, .ref a2, .ref a3, .ref a4, .ref a5, .ref a6, .ref a7, .int 0, .long 0]))] sz) (fun u => [(a0, .inr (13, [.int 0, .int 0, .ref a1, .ref a2, .ref a3, .ref a4, .ref a5, .ref a6, .ref a7, .int 1, .long 0]))])) (va_A [(a0, .inr (13, [.int 0, .int 0, .ref a1, .ref a2, .ref a3, .ref a4, .ref a5, .ref a6, .ref a7, .int 0, .long 0]))] sz)) 0 0 (va_A [(a0, .inr (13, [.int 0, .int 0, .ref a1, .ref a2, .ref a3, .ref a4, .ref a5, .ref a6, .ref a7, .int 0, .long 0]))] sz) := by
  refine zk_M (Qc := fun A => va_Qi (fun r u => r = (fun u : Nat → Nat → Nat => 0) u) (WD D A (fun u => [(a0, .inr (13, [.int 0, .int 0, .ref a1, .ref a2, .ref a3, .ref a4, .ref a5, .ref a6, .ref a7, .int 1, .long 0]))])) A) (by decide) (Nat.le_of_ble_eq_true rfl) ?_
  intro p e s m args below meth c A ls hx hb hml hr hlk hown hnm hts hP hD hS hA hC hl
  have hK := hC.1
  have hN := hC.2.1
  have hl : lv_has ls 2 [(0, .ref a0), (1, .int p0)] := hl
  generalize hHH : s.heap = H at hP ⊢
  have hS : va_S A s.heap H [] := by rw [← hHH]; exact hS
  refine lv_aload_n hx hb dX14_markOf_0 rfl (lv_at hl 0 rfl) ?_
  refine lv_iload_n hx hb dX14_markOf_1 rfl (lv_at hl 1 rfl) ?_
  refine zk_i (wr := []) (va_runV (As := [.int p0]) (rest := []) ⟨hx, hb, hml, hown, hts⟩ (kX14_has_0 l hst D yc e0 H.size a0 p0 a1 a2 a3 a4 a5 a6 a7) (cwV 1 hts (lw_V wq1847 wq1849 ws63 wq6 wq1850) rfl rfl rfl (by decide +kernel) ⟨(Nat.le_of_ble_eq_true rfl), (Nat.le_of_ble_eq_true rfl)⟩) (zk_pV hC hP hD hS hA [0] rfl rfl 0 13 rfl rfl) rfl rfl hl.1 rfl (lv_room (Nat.le_of_ble_eq_true rfl)) dX14_markOf_2 ⟨(Nat.le_of_ble_eq_true rfl), (Nat.le_of_ble_eq_true rfl)⟩) hP hD hS hA [0] [] rfl rfl rfl (by decide) (fun u1 H locs hP hD hS => ?_)
  have hP : va_P D vwCl [(a0, .inr (13, [.int 0, .int 0, .ref a1, .ref a2, .ref a3, .ref a4, .ref a5, .ref a6, .ref a7, .int 1, .long 0]))] H := hP
  have hD : va_D A [(a0, .inr (13, [.int 0, .int 0, .ref a1, .ref a2, .ref a3, .ref a4, .ref a5, .ref a6, .ref a7, .int 1, .long 0]))] := hD
  refine W.widen (k := 0) (n := 0) (Nat.le_of_ble_eq_true rfl) (Nat.le_of_ble_eq_true rfl) ?_
  refine lv_if_eq (tgt := 23) hx hb dX14_markOf_5 (by decide) (fun _ => ?_) (fun h9 => absurd (by decide) h9)
  refine lv_iconst (v := 0) hx hb dX14_markOf_23 (by decide) ?_
  exact zk_ri (r0 := fun u => 0) (w1 := fun u => [(a0, .inr (13, [.int 0, .int 0, .ref a1, .ref a2, .ref a3, .ref a4, .ref a5, .ref a6, .ref a7, .int 1, .long 0]))]) hx hb hr hlk hP hD hS (fun _ _ => 0) rfl rfl [0] rfl rfl (Nat.le_of_ble_eq_true rfl) (Nat.le_of_ble_eq_true rfl) dX14_markOf_24
set_option maxHeartbeats 4000000 in
set_option maxRecDepth 100000 in
theorem kX10_taken_0 (l : Launch) (hst : l.stackTraces = false) (D : va_G) (yc : Nat → ClassId) (e0 sz : Nat) (a0 : Nat) (p0 : Int32) (a1 : Nat) (a2 : Nat) (a3 : Nat)  : vx_Met l yX10_taken (ws_ yX10_taken cX10_taken 2 (some .int)) ({ frames := 7, cells := 1, slots := 6, locals := 103 }) (PR D yc e0 [(a0, .inr (9, [.ref a1, .ref a2, .int 0, .int 0, .int 0])), (a1, .inr (2, [.int 0, .ref a3, .int 8, .int (-1), .int 0, .int 0, .int 0, .int 0])), (a3, .inr (0, [.int 0, .ref e0, .int 0]))] sz [.ref a0, .int p0]) (fun _ _ _ _ => False) (zk_X D (va_A [(a0, .inr (9, [.ref a1, .ref a2, .int 0, .int 0, .int 0])), (a1, .inr (2, [.int 0, .ref a3, .int 8, .int (-1), .int 0, .int 0, .int 0, .int 0])), (a3, .inr (0, [.int 0, .ref e0, .int 0]))] sz) "java/lang/IndexOutOfBoundsException" (fun u => [(a0, .inr (9, [.ref a1, .ref a2, .int 0, .int 0, .int 0])), (a1, .inr (2, [.int 0, .ref a3, .int 8, .int (-1), .int 0, .int 0, .int 0, .int 0])), (a3, .inr (0, [.int 0, .ref e0, .int 0]))])) 1 6 (va_A [(a0, .inr (9, [.ref a1, .ref a2, .int 0, .int 0, .int 0])), (a1, .inr (2, [.int 0, .ref a3, .int 8, .int (-1), .int 0, .int 0, .int 0, .int 0])), (a3, .inr (0, [.int 0, .ref e0, .int 0]))] sz) := by
  refine zk_MX (by decide) (Nat.le_of_ble_eq_true rfl) ?_
  intro p e s m args below meth c A ls hx hb hml hr hlk hown hnm hts hP hD hS hA hC hl hnx
  have hK := hC.1
  have hN := hC.2.1
  have hl : lv_has ls 2 [(0, .ref a0), (1, .int p0)] := hl
  generalize hHH : s.heap = H at hP ⊢
  have hS : va_S A s.heap H [] := by rw [← hHH]; exact hS
  refine W.widen (k := 0) (n := 0) (Nat.le_of_ble_eq_true rfl) (Nat.le_of_ble_eq_true rfl) ?_
  refine lv_aload_n hx hb dX10_taken_0 rfl (lv_at hl 0 rfl) ?_
  refine lv_iload_n hx hb dX10_taken_1 rfl (lv_at hl 1 rfl) ?_
  refine zk_x (wr := []) (vx_runV (As := [.int p0]) (rest := []) ⟨hx, hb, hml, hown, hts⟩ (kX10_stageOf_0 l hst D yc e0 H.size a0 p0 a1 a2 a3) (cwV 1 hts (lw_V wq254 wq256 ws2 wq1 wq257) rfl rfl rfl (by decide +kernel) ⟨(Nat.le_of_ble_eq_true rfl), (Nat.le_of_ble_eq_true rfl)⟩) (zk_pV hC hP hD hS hA [0, 1, 2] rfl rfl 0 9 rfl rfl) rfl rfl hl.1 rfl (lv_room (Nat.le_of_ble_eq_true rfl)) dX10_taken_2 ⟨(Nat.le_of_ble_eq_true rfl), (Nat.le_of_ble_eq_true rfl)⟩) hP hD hS hA [0, 1, 2] [] rfl rfl rfl (by decide) (fun u1 ce q9 H locs hP hD hS hce hcv hcl => ?_)
  have hP : va_P D vwCl [(a0, .inr (9, [.ref a1, .ref a2, .int 0, .int 0, .int 0])), (a1, .inr (2, [.int 0, .ref a3, .int 8, .int (-1), .int 0, .int 0, .int 0, .int 0])), (a3, .inr (0, [.int 0, .ref e0, .int 0]))] H := hP
  have hD : va_D A [(a0, .inr (9, [.ref a1, .ref a2, .int 0, .int 0, .int 0])), (a1, .inr (2, [.int 0, .ref a3, .int 8, .int (-1), .int 0, .int 0, .int 0, .int 0])), (a3, .inr (0, [.int 0, .ref e0, .int 0]))] := hD
  exact vx_out (fun x9 hx9 => (hnx x9 hx9).elim) hlk hce hcv hcl (zk_out hP hD hS (fun _ _ => 0) [0, 1, 2] rfl rfl) hS.2.2 (Nat.le_of_ble_eq_true rfl) (Nat.le_of_ble_eq_true rfl)
set_option maxHeartbeats 4000000 in
set_option maxRecDepth 100000 in
theorem kL_taken_0 (l : Launch) (hst : l.stackTraces = false) (D : va_G) (yc : Nat → ClassId) (e0 sz : Nat) (a0 : Nat) (p0 : Int32) (a1 : Nat) (a2 : Nat) (a3 : Nat) (a4 : Nat)  : Met l yL_taken (ww_ yL_taken cL_taken 4 (some .int) [(0, 9, 12, 21)]) ({ frames := 8, cells := 1, slots := 6, locals := 124 }) (PR D yc e0 [(a0, .inr (9, [.ref a2, .ref a3, .int 0, .int 0, .int 0])), (a2, .inr (2, [.int 0, .ref a4, .int 8, .int (-1), .int 0, .int 0, .int 0, .int 0])), (a4, .inr (0, [.int 0, .ref e0, .int 0]))] sz [.ref a0, .int p0, .ref a1]) (va_Qi (fun r u => r = (fun u : Nat → Nat → Nat => 1) u) (WD D (va_A [(a0, .inr (9, [.ref a2, .ref a3, .int 0, .int 0, .int 0])), (a2, .inr (2, [.int 0, .ref a4, .int 8, .int (-1), .int 0, .int 0, .int 0, .int 0])), (a4, .inr (0, [.int 0, .ref e0, .int 0]))] sz) (fun u => [(a0, .inr (9, [.ref a2, .ref a3, .int 0, .int 0, .int 0])), (a2, .inr (2, [.int 0, .ref a4, .int 8, .int (-1), .int 0, .int 0, .int 0, .int 0])), (a4, .inr (0, [.int 0, .ref e0, .int 0]))])) (va_A [(a0, .inr (9, [.ref a2, .ref a3, .int 0, .int 0, .int 0])), (a2, .inr (2, [.int 0, .ref a4, .int 8, .int (-1), .int 0, .int 0, .int 0, .int 0])), (a4, .inr (0, [.int 0, .ref e0, .int 0]))] sz)) 1 6 (va_A [(a0, .inr (9, [.ref a2, .ref a3, .int 0, .int 0, .int 0])), (a2, .inr (2, [.int 0, .ref a4, .int 8, .int (-1), .int 0, .int 0, .int 0, .int 0])), (a4, .inr (0, [.int 0, .ref e0, .int 0]))] sz) := by
  refine zk_MW (Qc := fun A => va_Qi (fun r u => r = (fun u : Nat → Nat → Nat => 1) u) (WD D A (fun u => [(a0, .inr (9, [.ref a2, .ref a3, .int 0, .int 0, .int 0])), (a2, .inr (2, [.int 0, .ref a4, .int 8, .int (-1), .int 0, .int 0, .int 0, .int 0])), (a4, .inr (0, [.int 0, .ref e0, .int 0]))])) A) (by decide) (Nat.le_of_ble_eq_true rfl) ?_
  intro p e s m args below meth c A ls hx hb hml hr hlk hown hts hP hD hS hA hC hl hex
  have hK := hC.1
  have hN := hC.2.1
  have hl : lv_has ls 4 [(0, .ref a0), (1, .int p0), (2, .ref a1)] := hl
  generalize hHH : s.heap = H at hP ⊢
  have hS : va_S A s.heap H [] := by rw [← hHH]; exact hS
  refine lv_aload_n hx hb dL_taken_0 rfl (lv_at hl 2 rfl) ?_
  refine lv_iconst (v := 0) hx hb dL_taken_1 (by decide) ?_
  refine lv_aload_n hx hb dL_taken_2 rfl (lv_at hl 0 rfl) ?_
  refine lv_iload_n hx hb dL_taken_3 rfl (lv_at hl 1 rfl) ?_
  refine zk_x (wr := []) (vx_runV (As := [.int p0]) (rest := [.int 0, .ref a1]) ⟨hx, hb, hml, hown, hts⟩ (kX10_taken_0 l hst D yc e0 H.size a0 p0 a2 a3 a4) (cwV 1 hts (lw_V wq1223 wq327 wq328 wq1 wq329) rfl rfl rfl (by decide +kernel) ⟨(Nat.le_of_ble_eq_true rfl), (Nat.le_of_ble_eq_true rfl)⟩) (zk_pV hC hP hD hS hA [0, 1, 2] rfl rfl 0 9 rfl rfl) rfl rfl hl.1 rfl (lv_room (Nat.le_of_ble_eq_true rfl)) dL_taken_4 ⟨(Nat.le_of_ble_eq_true rfl), (Nat.le_of_ble_eq_true rfl)⟩) hP hD hS hA [0, 1, 2] [] rfl rfl rfl (by decide) (fun u1 ce q9 H locs hP hD hS hce hcv hcl => ?_)
  have hP : va_P D vwCl [(a0, .inr (9, [.ref a2, .ref a3, .int 0, .int 0, .int 0])), (a2, .inr (2, [.int 0, .ref a4, .int 8, .int (-1), .int 0, .int 0, .int 0, .int 0])), (a4, .inr (0, [.int 0, .ref e0, .int 0]))] H := hP
  have hD : va_D A [(a0, .inr (9, [.ref a2, .ref a3, .int 0, .int 0, .int 0])), (a2, .inr (2, [.int 0, .ref a4, .int 8, .int (-1), .int 0, .int 0, .int 0, .int 0])), (a4, .inr (0, [.int 0, .ref e0, .int 0]))] := hD
  refine vx_catch (own := RL) (name := "java/lang/IndexOutOfBoundsException") hown (tableOf []) ⟨0, 9, 12, 21⟩ (tableOf []) hex (fun z hz => False.elim (List.not_mem_nil hz)) (by decide) (by decide) (hts _ wq833) (zk_tab rfl (hN _ wr261 rfl)) hce hcv hcl ?_
  refine W.widen (k := 1) (n := 6) (Nat.le_of_ble_eq_true rfl) (Nat.le_of_ble_eq_true rfl) ?_
  refine lv_astore_n (lv' := [(3, .ref q9), (0, .ref a0), (1, .int p0), (2, .ref a1)]) hx hb dL_taken_12 rfl hl (by decide) rfl (fun ls hl => ?_)
  refine lv_iconst (v := 1) hx hb dL_taken_13 (by decide) ?_
  exact zk_ri (r0 := fun u => 1) (w1 := fun u => [(a0, .inr (9, [.ref a2, .ref a3, .int 0, .int 0, .int 0])), (a2, .inr (2, [.int 0, .ref a4, .int 8, .int (-1), .int 0, .int 0, .int 0, .int 0])), (a4, .inr (0, [.int 0, .ref e0, .int 0]))]) hx hb hr hlk hP hD hS (fun _ _ => 0) rfl rfl [0, 1, 2] rfl rfl (Nat.le_of_ble_eq_true rfl) (Nat.le_of_ble_eq_true rfl) dL_taken_14
set_option maxHeartbeats 4000000 in
set_option maxRecDepth 100000 in
theorem kX14_taken_0 (l : Launch) (hst : l.stackTraces = false) (D : va_G) (yc : Nat → ClassId) (e0 sz : Nat) (a0 : Nat) (p0 : Int32) (a1 : Nat) (a2 : Nat) (a3 : Nat) (a4 : Nat) (a5 : Nat) (a6 : Nat) (a7 : Nat)  : Met l yX14_taken (ws_ yX14_taken cX14_taken 2 (some .int)) ({ frames := 3, cells := 0, slots := 0, locals := 64 }) (PR D yc e0 [(a0, .inr (13, [.int 0, .int 0, .ref a1, .ref a2, .ref a3, .ref a4, .ref a5, .ref a6, .ref a7, .int 0, .long 0]))] sz [.ref a0, .int p0]) (va_Qi (fun r u => r = (fun u : Nat → Nat → Nat => 0) u) (WD D (va_A [(a0, .inr (13, [.int 0, .int 0, .ref a1, .ref a2, .ref a3, .ref a4, .ref a5, .ref a6, .ref a7, .int 0, .long 0]))] sz) (fun u => [(a0, .inr (13, [.int 0, .int 0, .ref a1, .ref a2, .ref a3, .ref a4, .ref a5, .ref a6, .ref a7, .int 1, .long 0]))])) (va_A [(a0, .inr (13, [.int 0, .int 0, .ref a1, .ref a2, .ref a3, .ref a4, .ref a5, .ref a6, .ref a7, .int 0, .long 0]))] sz)) 0 0 (va_A [(a0, .inr (13, [.int 0, .int 0, .ref a1, .ref a2, .ref a3, .ref a4, .ref a5, .ref a6, .ref a7, .int 0, .long 0]))] sz) := by
  refine zk_M (Qc := fun A => va_Qi (fun r u => r = (fun u : Nat → Nat → Nat => 0) u) (WD D A (fun u => [(a0, .inr (13, [.int 0, .int 0, .ref a1, .ref a2, .ref a3, .ref a4, .ref a5, .ref a6, .ref a7, .int 1, .long 0]))])) A) (by decide) (Nat.le_of_ble_eq_true rfl) ?_
  intro p e s m args below meth c A ls hx hb hml hr hlk hown hnm hts hP hD hS hA hC hl
  have hK := hC.1
  have hN := hC.2.1
  have hl : lv_has ls 2 [(0, .ref a0), (1, .int p0)] := hl
  generalize hHH : s.heap = H at hP ⊢
  have hS : va_S A s.heap H [] := by rw [← hHH]; exact hS
  refine lv_aload_n hx hb dX14_taken_0 rfl (lv_at hl 0 rfl) ?_
  refine lv_iload_n hx hb dX14_taken_1 rfl (lv_at hl 1 rfl) ?_
  refine zk_i (wr := []) (va_runV (As := [.int p0]) (rest := []) ⟨hx, hb, hml, hown, hts⟩ (kX14_has_0 l hst D yc e0 H.size a0 p0 a1 a2 a3 a4 a5 a6 a7) (cwV 1 hts (lw_V wq1847 wq1849 ws63 wq6 wq1850) rfl rfl rfl (by decide +kernel) ⟨(Nat.le_of_ble_eq_true rfl), (Nat.le_of_ble_eq_true rfl)⟩) (zk_pV hC hP hD hS hA [0] rfl rfl 0 13 rfl rfl) rfl rfl hl.1 rfl (lv_room (Nat.le_of_ble_eq_true rfl)) dX14_taken_2 ⟨(Nat.le_of_ble_eq_true rfl), (Nat.le_of_ble_eq_true rfl)⟩) hP hD hS hA [0] [] rfl rfl rfl (by decide) (fun u1 H locs hP hD hS => ?_)
  have hP : va_P D vwCl [(a0, .inr (13, [.int 0, .int 0, .ref a1, .ref a2, .ref a3, .ref a4, .ref a5, .ref a6, .ref a7, .int 1, .long 0]))] H := hP
  have hD : va_D A [(a0, .inr (13, [.int 0, .int 0, .ref a1, .ref a2, .ref a3, .ref a4, .ref a5, .ref a6, .ref a7, .int 1, .long 0]))] := hD
  refine W.widen (k := 0) (n := 0) (Nat.le_of_ble_eq_true rfl) (Nat.le_of_ble_eq_true rfl) ?_
  refine lv_if_eq (tgt := 16) hx hb dX14_taken_5 (by decide) (fun _ => ?_) (fun h9 => absurd (by decide) h9)
  refine lv_iconst (v := 0) hx hb dX14_taken_16 (by decide) ?_
  exact zk_ri (r0 := fun u => 0) (w1 := fun u => [(a0, .inr (13, [.int 0, .int 0, .ref a1, .ref a2, .ref a3, .ref a4, .ref a5, .ref a6, .ref a7, .int 1, .long 0]))]) hx hb hr hlk hP hD hS (fun _ _ => 0) rfl rfl [0] rfl rfl (Nat.le_of_ble_eq_true rfl) (Nat.le_of_ble_eq_true rfl) dX14_taken_17
set_option maxHeartbeats 4000000 in
set_option maxRecDepth 100000 in
theorem kX10_emitted_0 (l : Launch) (hst : l.stackTraces = false) (D : va_G) (yc : Nat → ClassId) (e0 sz : Nat) (a0 : Nat) (p0 : Int32) (a1 : Nat) (a2 : Nat) (a3 : Nat)  : vx_Met l yX10_emitted (ws_ yX10_emitted cX10_emitted 2 (some .int)) ({ frames := 7, cells := 1, slots := 6, locals := 103 }) (PR D yc e0 [(a0, .inr (9, [.ref a1, .ref a2, .int 0, .int 0, .int 0])), (a1, .inr (2, [.int 0, .ref a3, .int 8, .int (-1), .int 0, .int 0, .int 0, .int 0])), (a3, .inr (0, [.int 0, .ref e0, .int 0]))] sz [.ref a0, .int p0]) (fun _ _ _ _ => False) (zk_X D (va_A [(a0, .inr (9, [.ref a1, .ref a2, .int 0, .int 0, .int 0])), (a1, .inr (2, [.int 0, .ref a3, .int 8, .int (-1), .int 0, .int 0, .int 0, .int 0])), (a3, .inr (0, [.int 0, .ref e0, .int 0]))] sz) "java/lang/IndexOutOfBoundsException" (fun u => [(a0, .inr (9, [.ref a1, .ref a2, .int 0, .int 0, .int 0])), (a1, .inr (2, [.int 0, .ref a3, .int 8, .int (-1), .int 0, .int 0, .int 0, .int 0])), (a3, .inr (0, [.int 0, .ref e0, .int 0]))])) 1 6 (va_A [(a0, .inr (9, [.ref a1, .ref a2, .int 0, .int 0, .int 0])), (a1, .inr (2, [.int 0, .ref a3, .int 8, .int (-1), .int 0, .int 0, .int 0, .int 0])), (a3, .inr (0, [.int 0, .ref e0, .int 0]))] sz) := by
  refine zk_MX (by decide) (Nat.le_of_ble_eq_true rfl) ?_
  intro p e s m args below meth c A ls hx hb hml hr hlk hown hnm hts hP hD hS hA hC hl hnx
  have hK := hC.1
  have hN := hC.2.1
  have hl : lv_has ls 2 [(0, .ref a0), (1, .int p0)] := hl
  generalize hHH : s.heap = H at hP ⊢
  have hS : va_S A s.heap H [] := by rw [← hHH]; exact hS
  refine W.widen (k := 0) (n := 0) (Nat.le_of_ble_eq_true rfl) (Nat.le_of_ble_eq_true rfl) ?_
  refine lv_aload_n hx hb dX10_emitted_0 rfl (lv_at hl 0 rfl) ?_
  refine lv_iload_n hx hb dX10_emitted_1 rfl (lv_at hl 1 rfl) ?_
  refine zk_x (wr := []) (vx_runV (As := [.int p0]) (rest := []) ⟨hx, hb, hml, hown, hts⟩ (kX10_stageOf_0 l hst D yc e0 H.size a0 p0 a1 a2 a3) (cwV 1 hts (lw_V wq254 wq256 ws2 wq1 wq257) rfl rfl rfl (by decide +kernel) ⟨(Nat.le_of_ble_eq_true rfl), (Nat.le_of_ble_eq_true rfl)⟩) (zk_pV hC hP hD hS hA [0, 1, 2] rfl rfl 0 9 rfl rfl) rfl rfl hl.1 rfl (lv_room (Nat.le_of_ble_eq_true rfl)) dX10_emitted_2 ⟨(Nat.le_of_ble_eq_true rfl), (Nat.le_of_ble_eq_true rfl)⟩) hP hD hS hA [0, 1, 2] [] rfl rfl rfl (by decide) (fun u1 ce q9 H locs hP hD hS hce hcv hcl => ?_)
  have hP : va_P D vwCl [(a0, .inr (9, [.ref a1, .ref a2, .int 0, .int 0, .int 0])), (a1, .inr (2, [.int 0, .ref a3, .int 8, .int (-1), .int 0, .int 0, .int 0, .int 0])), (a3, .inr (0, [.int 0, .ref e0, .int 0]))] H := hP
  have hD : va_D A [(a0, .inr (9, [.ref a1, .ref a2, .int 0, .int 0, .int 0])), (a1, .inr (2, [.int 0, .ref a3, .int 8, .int (-1), .int 0, .int 0, .int 0, .int 0])), (a3, .inr (0, [.int 0, .ref e0, .int 0]))] := hD
  exact vx_out (fun x9 hx9 => (hnx x9 hx9).elim) hlk hce hcv hcl (zk_out hP hD hS (fun _ _ => 0) [0, 1, 2] rfl rfl) hS.2.2 (Nat.le_of_ble_eq_true rfl) (Nat.le_of_ble_eq_true rfl)
set_option maxHeartbeats 4000000 in
set_option maxRecDepth 100000 in
theorem kL_emitted_0 (l : Launch) (hst : l.stackTraces = false) (D : va_G) (yc : Nat → ClassId) (e0 sz : Nat) (a0 : Nat) (p0 : Int32) (a1 : Nat) (a2 : Nat) (a3 : Nat) (a4 : Nat)  : Met l yL_emitted (ww_ yL_emitted cL_emitted 4 (some .int) [(0, 9, 12, 21)]) ({ frames := 8, cells := 1, slots := 6, locals := 124 }) (PR D yc e0 [(a0, .inr (9, [.ref a2, .ref a3, .int 0, .int 0, .int 0])), (a2, .inr (2, [.int 0, .ref a4, .int 8, .int (-1), .int 0, .int 0, .int 0, .int 0])), (a4, .inr (0, [.int 0, .ref e0, .int 0]))] sz [.ref a0, .int p0, .ref a1]) (va_Qi (fun r u => r = (fun u : Nat → Nat → Nat => 1) u) (WD D (va_A [(a0, .inr (9, [.ref a2, .ref a3, .int 0, .int 0, .int 0])), (a2, .inr (2, [.int 0, .ref a4, .int 8, .int (-1), .int 0, .int 0, .int 0, .int 0])), (a4, .inr (0, [.int 0, .ref e0, .int 0]))] sz) (fun u => [(a0, .inr (9, [.ref a2, .ref a3, .int 0, .int 0, .int 0])), (a2, .inr (2, [.int 0, .ref a4, .int 8, .int (-1), .int 0, .int 0, .int 0, .int 0])), (a4, .inr (0, [.int 0, .ref e0, .int 0]))])) (va_A [(a0, .inr (9, [.ref a2, .ref a3, .int 0, .int 0, .int 0])), (a2, .inr (2, [.int 0, .ref a4, .int 8, .int (-1), .int 0, .int 0, .int 0, .int 0])), (a4, .inr (0, [.int 0, .ref e0, .int 0]))] sz)) 1 6 (va_A [(a0, .inr (9, [.ref a2, .ref a3, .int 0, .int 0, .int 0])), (a2, .inr (2, [.int 0, .ref a4, .int 8, .int (-1), .int 0, .int 0, .int 0, .int 0])), (a4, .inr (0, [.int 0, .ref e0, .int 0]))] sz) := by
  refine zk_MW (Qc := fun A => va_Qi (fun r u => r = (fun u : Nat → Nat → Nat => 1) u) (WD D A (fun u => [(a0, .inr (9, [.ref a2, .ref a3, .int 0, .int 0, .int 0])), (a2, .inr (2, [.int 0, .ref a4, .int 8, .int (-1), .int 0, .int 0, .int 0, .int 0])), (a4, .inr (0, [.int 0, .ref e0, .int 0]))])) A) (by decide) (Nat.le_of_ble_eq_true rfl) ?_
  intro p e s m args below meth c A ls hx hb hml hr hlk hown hts hP hD hS hA hC hl hex
  have hK := hC.1
  have hN := hC.2.1
  have hl : lv_has ls 4 [(0, .ref a0), (1, .int p0), (2, .ref a1)] := hl
  generalize hHH : s.heap = H at hP ⊢
  have hS : va_S A s.heap H [] := by rw [← hHH]; exact hS
  refine lv_aload_n hx hb dL_emitted_0 rfl (lv_at hl 2 rfl) ?_
  refine lv_iconst (v := 0) hx hb dL_emitted_1 (by decide) ?_
  refine lv_aload_n hx hb dL_emitted_2 rfl (lv_at hl 0 rfl) ?_
  refine lv_iload_n hx hb dL_emitted_3 rfl (lv_at hl 1 rfl) ?_
  refine zk_x (wr := []) (vx_runV (As := [.int p0]) (rest := [.int 0, .ref a1]) ⟨hx, hb, hml, hown, hts⟩ (kX10_emitted_0 l hst D yc e0 H.size a0 p0 a2 a3 a4) (cwV 1 hts (lw_V wq1227 wq331 wq332 wq1 wq333) rfl rfl rfl (by decide +kernel) ⟨(Nat.le_of_ble_eq_true rfl), (Nat.le_of_ble_eq_true rfl)⟩) (zk_pV hC hP hD hS hA [0, 1, 2] rfl rfl 0 9 rfl rfl) rfl rfl hl.1 rfl (lv_room (Nat.le_of_ble_eq_true rfl)) dL_emitted_4 ⟨(Nat.le_of_ble_eq_true rfl), (Nat.le_of_ble_eq_true rfl)⟩) hP hD hS hA [0, 1, 2] [] rfl rfl rfl (by decide) (fun u1 ce q9 H locs hP hD hS hce hcv hcl => ?_)
  have hP : va_P D vwCl [(a0, .inr (9, [.ref a2, .ref a3, .int 0, .int 0, .int 0])), (a2, .inr (2, [.int 0, .ref a4, .int 8, .int (-1), .int 0, .int 0, .int 0, .int 0])), (a4, .inr (0, [.int 0, .ref e0, .int 0]))] H := hP
  have hD : va_D A [(a0, .inr (9, [.ref a2, .ref a3, .int 0, .int 0, .int 0])), (a2, .inr (2, [.int 0, .ref a4, .int 8, .int (-1), .int 0, .int 0, .int 0, .int 0])), (a4, .inr (0, [.int 0, .ref e0, .int 0]))] := hD
  refine vx_catch (own := RL) (name := "java/lang/IndexOutOfBoundsException") hown (tableOf []) ⟨0, 9, 12, 21⟩ (tableOf []) hex (fun z hz => False.elim (List.not_mem_nil hz)) (by decide) (by decide) (hts _ wq833) (zk_tab rfl (hN _ wr261 rfl)) hce hcv hcl ?_
  refine W.widen (k := 1) (n := 6) (Nat.le_of_ble_eq_true rfl) (Nat.le_of_ble_eq_true rfl) ?_
  refine lv_astore_n (lv' := [(3, .ref q9), (0, .ref a0), (1, .int p0), (2, .ref a1)]) hx hb dL_emitted_12 rfl hl (by decide) rfl (fun ls hl => ?_)
  refine lv_iconst (v := 1) hx hb dL_emitted_13 (by decide) ?_
  exact zk_ri (r0 := fun u => 1) (w1 := fun u => [(a0, .inr (9, [.ref a2, .ref a3, .int 0, .int 0, .int 0])), (a2, .inr (2, [.int 0, .ref a4, .int 8, .int (-1), .int 0, .int 0, .int 0, .int 0])), (a4, .inr (0, [.int 0, .ref e0, .int 0]))]) hx hb hr hlk hP hD hS (fun _ _ => 0) rfl rfl [0, 1, 2] rfl rfl (Nat.le_of_ble_eq_true rfl) (Nat.le_of_ble_eq_true rfl) dL_emitted_14
set_option maxHeartbeats 4000000 in
set_option maxRecDepth 100000 in
theorem kX14_emitted_0 (l : Launch) (hst : l.stackTraces = false) (D : va_G) (yc : Nat → ClassId) (e0 sz : Nat) (a0 : Nat) (p0 : Int32) (a1 : Nat) (a2 : Nat) (a3 : Nat) (a4 : Nat) (a5 : Nat) (a6 : Nat) (a7 : Nat)  : Met l yX14_emitted (ws_ yX14_emitted cX14_emitted 2 (some .int)) ({ frames := 3, cells := 0, slots := 0, locals := 64 }) (PR D yc e0 [(a0, .inr (13, [.int 0, .int 0, .ref a1, .ref a2, .ref a3, .ref a4, .ref a5, .ref a6, .ref a7, .int 0, .long 0]))] sz [.ref a0, .int p0]) (va_Qi (fun r u => r = (fun u : Nat → Nat → Nat => 0) u) (WD D (va_A [(a0, .inr (13, [.int 0, .int 0, .ref a1, .ref a2, .ref a3, .ref a4, .ref a5, .ref a6, .ref a7, .int 0, .long 0]))] sz) (fun u => [(a0, .inr (13, [.int 0, .int 0, .ref a1, .ref a2, .ref a3, .ref a4, .ref a5, .ref a6, .ref a7, .int 1, .long 0]))])) (va_A [(a0, .inr (13, [.int 0, .int 0, .ref a1, .ref a2, .ref a3, .ref a4, .ref a5, .ref a6, .ref a7, .int 0, .long 0]))] sz)) 0 0 (va_A [(a0, .inr (13, [.int 0, .int 0, .ref a1, .ref a2, .ref a3, .ref a4, .ref a5, .ref a6, .ref a7, .int 0, .long 0]))] sz) := by
  refine zk_M (Qc := fun A => va_Qi (fun r u => r = (fun u : Nat → Nat → Nat => 0) u) (WD D A (fun u => [(a0, .inr (13, [.int 0, .int 0, .ref a1, .ref a2, .ref a3, .ref a4, .ref a5, .ref a6, .ref a7, .int 1, .long 0]))])) A) (by decide) (Nat.le_of_ble_eq_true rfl) ?_
  intro p e s m args below meth c A ls hx hb hml hr hlk hown hnm hts hP hD hS hA hC hl
  have hK := hC.1
  have hN := hC.2.1
  have hl : lv_has ls 2 [(0, .ref a0), (1, .int p0)] := hl
  generalize hHH : s.heap = H at hP ⊢
  have hS : va_S A s.heap H [] := by rw [← hHH]; exact hS
  refine lv_aload_n hx hb dX14_emitted_0 rfl (lv_at hl 0 rfl) ?_
  refine lv_iload_n hx hb dX14_emitted_1 rfl (lv_at hl 1 rfl) ?_
  refine zk_i (wr := []) (va_runV (As := [.int p0]) (rest := []) ⟨hx, hb, hml, hown, hts⟩ (kX14_has_0 l hst D yc e0 H.size a0 p0 a1 a2 a3 a4 a5 a6 a7) (cwV 1 hts (lw_V wq1847 wq1849 ws63 wq6 wq1850) rfl rfl rfl (by decide +kernel) ⟨(Nat.le_of_ble_eq_true rfl), (Nat.le_of_ble_eq_true rfl)⟩) (zk_pV hC hP hD hS hA [0] rfl rfl 0 13 rfl rfl) rfl rfl hl.1 rfl (lv_room (Nat.le_of_ble_eq_true rfl)) dX14_emitted_2 ⟨(Nat.le_of_ble_eq_true rfl), (Nat.le_of_ble_eq_true rfl)⟩) hP hD hS hA [0] [] rfl rfl rfl (by decide) (fun u1 H locs hP hD hS => ?_)
  have hP : va_P D vwCl [(a0, .inr (13, [.int 0, .int 0, .ref a1, .ref a2, .ref a3, .ref a4, .ref a5, .ref a6, .ref a7, .int 1, .long 0]))] H := hP
  have hD : va_D A [(a0, .inr (13, [.int 0, .int 0, .ref a1, .ref a2, .ref a3, .ref a4, .ref a5, .ref a6, .ref a7, .int 1, .long 0]))] := hD
  refine W.widen (k := 0) (n := 0) (Nat.le_of_ble_eq_true rfl) (Nat.le_of_ble_eq_true rfl) ?_
  refine lv_if_eq (tgt := 23) hx hb dX14_emitted_5 (by decide) (fun _ => ?_) (fun h9 => absurd (by decide) h9)
  refine lv_iconst (v := 0) hx hb dX14_emitted_23 (by decide) ?_
  exact zk_ri (r0 := fun u => 0) (w1 := fun u => [(a0, .inr (13, [.int 0, .int 0, .ref a1, .ref a2, .ref a3, .ref a4, .ref a5, .ref a6, .ref a7, .int 1, .long 0]))]) hx hb hr hlk hP hD hS (fun _ _ => 0) rfl rfl [0] rfl rfl (Nat.le_of_ble_eq_true rfl) (Nat.le_of_ble_eq_true rfl) dX14_emitted_24
set_option maxHeartbeats 4000000 in
set_option maxRecDepth 100000 in
theorem kX10_late_0 (l : Launch) (hst : l.stackTraces = false) (D : va_G) (yc : Nat → ClassId) (e0 sz : Nat) (a0 : Nat) (p0 : Int32) (a1 : Nat) (a2 : Nat) (a3 : Nat)  : vx_Met l yX10_late (ws_ yX10_late cX10_late 2 (some .int)) ({ frames := 7, cells := 1, slots := 6, locals := 103 }) (PR D yc e0 [(a0, .inr (9, [.ref a1, .ref a2, .int 0, .int 0, .int 0])), (a1, .inr (2, [.int 0, .ref a3, .int 8, .int (-1), .int 0, .int 0, .int 0, .int 0])), (a3, .inr (0, [.int 0, .ref e0, .int 0]))] sz [.ref a0, .int p0]) (fun _ _ _ _ => False) (zk_X D (va_A [(a0, .inr (9, [.ref a1, .ref a2, .int 0, .int 0, .int 0])), (a1, .inr (2, [.int 0, .ref a3, .int 8, .int (-1), .int 0, .int 0, .int 0, .int 0])), (a3, .inr (0, [.int 0, .ref e0, .int 0]))] sz) "java/lang/IndexOutOfBoundsException" (fun u => [(a0, .inr (9, [.ref a1, .ref a2, .int 0, .int 0, .int 0])), (a1, .inr (2, [.int 0, .ref a3, .int 8, .int (-1), .int 0, .int 0, .int 0, .int 0])), (a3, .inr (0, [.int 0, .ref e0, .int 0]))])) 1 6 (va_A [(a0, .inr (9, [.ref a1, .ref a2, .int 0, .int 0, .int 0])), (a1, .inr (2, [.int 0, .ref a3, .int 8, .int (-1), .int 0, .int 0, .int 0, .int 0])), (a3, .inr (0, [.int 0, .ref e0, .int 0]))] sz) := by
  refine zk_MX (by decide) (Nat.le_of_ble_eq_true rfl) ?_
  intro p e s m args below meth c A ls hx hb hml hr hlk hown hnm hts hP hD hS hA hC hl hnx
  have hK := hC.1
  have hN := hC.2.1
  have hl : lv_has ls 2 [(0, .ref a0), (1, .int p0)] := hl
  generalize hHH : s.heap = H at hP ⊢
  have hS : va_S A s.heap H [] := by rw [← hHH]; exact hS
  refine W.widen (k := 0) (n := 0) (Nat.le_of_ble_eq_true rfl) (Nat.le_of_ble_eq_true rfl) ?_
  refine lv_aload_n hx hb dX10_late_0 rfl (lv_at hl 0 rfl) ?_
  refine lv_iload_n hx hb dX10_late_1 rfl (lv_at hl 1 rfl) ?_
  refine zk_x (wr := []) (vx_runV (As := [.int p0]) (rest := []) ⟨hx, hb, hml, hown, hts⟩ (kX10_stageOf_0 l hst D yc e0 H.size a0 p0 a1 a2 a3) (cwV 1 hts (lw_V wq254 wq256 ws2 wq1 wq257) rfl rfl rfl (by decide +kernel) ⟨(Nat.le_of_ble_eq_true rfl), (Nat.le_of_ble_eq_true rfl)⟩) (zk_pV hC hP hD hS hA [0, 1, 2] rfl rfl 0 9 rfl rfl) rfl rfl hl.1 rfl (lv_room (Nat.le_of_ble_eq_true rfl)) dX10_late_2 ⟨(Nat.le_of_ble_eq_true rfl), (Nat.le_of_ble_eq_true rfl)⟩) hP hD hS hA [0, 1, 2] [] rfl rfl rfl (by decide) (fun u1 ce q9 H locs hP hD hS hce hcv hcl => ?_)
  have hP : va_P D vwCl [(a0, .inr (9, [.ref a1, .ref a2, .int 0, .int 0, .int 0])), (a1, .inr (2, [.int 0, .ref a3, .int 8, .int (-1), .int 0, .int 0, .int 0, .int 0])), (a3, .inr (0, [.int 0, .ref e0, .int 0]))] H := hP
  have hD : va_D A [(a0, .inr (9, [.ref a1, .ref a2, .int 0, .int 0, .int 0])), (a1, .inr (2, [.int 0, .ref a3, .int 8, .int (-1), .int 0, .int 0, .int 0, .int 0])), (a3, .inr (0, [.int 0, .ref e0, .int 0]))] := hD
  exact vx_out (fun x9 hx9 => (hnx x9 hx9).elim) hlk hce hcv hcl (zk_out hP hD hS (fun _ _ => 0) [0, 1, 2] rfl rfl) hS.2.2 (Nat.le_of_ble_eq_true rfl) (Nat.le_of_ble_eq_true rfl)
set_option maxHeartbeats 4000000 in
set_option maxRecDepth 100000 in
theorem kL_late_0 (l : Launch) (hst : l.stackTraces = false) (D : va_G) (yc : Nat → ClassId) (e0 sz : Nat) (a0 : Nat) (p0 : Int32) (a1 : Nat) (a2 : Nat) (a3 : Nat) (a4 : Nat)  : Met l yL_late (ww_ yL_late cL_late 4 (some .int) [(0, 9, 12, 21)]) ({ frames := 8, cells := 1, slots := 6, locals := 124 }) (PR D yc e0 [(a0, .inr (9, [.ref a2, .ref a3, .int 0, .int 0, .int 0])), (a2, .inr (2, [.int 0, .ref a4, .int 8, .int (-1), .int 0, .int 0, .int 0, .int 0])), (a4, .inr (0, [.int 0, .ref e0, .int 0]))] sz [.ref a0, .int p0, .ref a1]) (va_Qi (fun r u => r = (fun u : Nat → Nat → Nat => 1) u) (WD D (va_A [(a0, .inr (9, [.ref a2, .ref a3, .int 0, .int 0, .int 0])), (a2, .inr (2, [.int 0, .ref a4, .int 8, .int (-1), .int 0, .int 0, .int 0, .int 0])), (a4, .inr (0, [.int 0, .ref e0, .int 0]))] sz) (fun u => [(a0, .inr (9, [.ref a2, .ref a3, .int 0, .int 0, .int 0])), (a2, .inr (2, [.int 0, .ref a4, .int 8, .int (-1), .int 0, .int 0, .int 0, .int 0])), (a4, .inr (0, [.int 0, .ref e0, .int 0]))])) (va_A [(a0, .inr (9, [.ref a2, .ref a3, .int 0, .int 0, .int 0])), (a2, .inr (2, [.int 0, .ref a4, .int 8, .int (-1), .int 0, .int 0, .int 0, .int 0])), (a4, .inr (0, [.int 0, .ref e0, .int 0]))] sz)) 1 6 (va_A [(a0, .inr (9, [.ref a2, .ref a3, .int 0, .int 0, .int 0])), (a2, .inr (2, [.int 0, .ref a4, .int 8, .int (-1), .int 0, .int 0, .int 0, .int 0])), (a4, .inr (0, [.int 0, .ref e0, .int 0]))] sz) := by
  refine zk_MW (Qc := fun A => va_Qi (fun r u => r = (fun u : Nat → Nat → Nat => 1) u) (WD D A (fun u => [(a0, .inr (9, [.ref a2, .ref a3, .int 0, .int 0, .int 0])), (a2, .inr (2, [.int 0, .ref a4, .int 8, .int (-1), .int 0, .int 0, .int 0, .int 0])), (a4, .inr (0, [.int 0, .ref e0, .int 0]))])) A) (by decide) (Nat.le_of_ble_eq_true rfl) ?_
  intro p e s m args below meth c A ls hx hb hml hr hlk hown hts hP hD hS hA hC hl hex
  have hK := hC.1
  have hN := hC.2.1
  have hl : lv_has ls 4 [(0, .ref a0), (1, .int p0), (2, .ref a1)] := hl
  generalize hHH : s.heap = H at hP ⊢
  have hS : va_S A s.heap H [] := by rw [← hHH]; exact hS
  refine lv_aload_n hx hb dL_late_0 rfl (lv_at hl 2 rfl) ?_
  refine lv_iconst (v := 0) hx hb dL_late_1 (by decide) ?_
  refine lv_aload_n hx hb dL_late_2 rfl (lv_at hl 0 rfl) ?_
  refine lv_iload_n hx hb dL_late_3 rfl (lv_at hl 1 rfl) ?_
  refine zk_x (wr := []) (vx_runV (As := [.int p0]) (rest := [.int 0, .ref a1]) ⟨hx, hb, hml, hown, hts⟩ (kX10_late_0 l hst D yc e0 H.size a0 p0 a2 a3 a4) (cwV 1 hts (lw_V wq1231 wq335 wq336 wq1 wq337) rfl rfl rfl (by decide +kernel) ⟨(Nat.le_of_ble_eq_true rfl), (Nat.le_of_ble_eq_true rfl)⟩) (zk_pV hC hP hD hS hA [0, 1, 2] rfl rfl 0 9 rfl rfl) rfl rfl hl.1 rfl (lv_room (Nat.le_of_ble_eq_true rfl)) dL_late_4 ⟨(Nat.le_of_ble_eq_true rfl), (Nat.le_of_ble_eq_true rfl)⟩) hP hD hS hA [0, 1, 2] [] rfl rfl rfl (by decide) (fun u1 ce q9 H locs hP hD hS hce hcv hcl => ?_)
  have hP : va_P D vwCl [(a0, .inr (9, [.ref a2, .ref a3, .int 0, .int 0, .int 0])), (a2, .inr (2, [.int 0, .ref a4, .int 8, .int (-1), .int 0, .int 0, .int 0, .int 0])), (a4, .inr (0, [.int 0, .ref e0, .int 0]))] H := hP
  have hD : va_D A [(a0, .inr (9, [.ref a2, .ref a3, .int 0, .int 0, .int 0])), (a2, .inr (2, [.int 0, .ref a4, .int 8, .int (-1), .int 0, .int 0, .int 0, .int 0])), (a4, .inr (0, [.int 0, .ref e0, .int 0]))] := hD
  refine vx_catch (own := RL) (name := "java/lang/IndexOutOfBoundsException") hown (tableOf []) ⟨0, 9, 12, 21⟩ (tableOf []) hex (fun z hz => False.elim (List.not_mem_nil hz)) (by decide) (by decide) (hts _ wq833) (zk_tab rfl (hN _ wr261 rfl)) hce hcv hcl ?_
  refine W.widen (k := 1) (n := 6) (Nat.le_of_ble_eq_true rfl) (Nat.le_of_ble_eq_true rfl) ?_
  refine lv_astore_n (lv' := [(3, .ref q9), (0, .ref a0), (1, .int p0), (2, .ref a1)]) hx hb dL_late_12 rfl hl (by decide) rfl (fun ls hl => ?_)
  refine lv_iconst (v := 1) hx hb dL_late_13 (by decide) ?_
  exact zk_ri (r0 := fun u => 1) (w1 := fun u => [(a0, .inr (9, [.ref a2, .ref a3, .int 0, .int 0, .int 0])), (a2, .inr (2, [.int 0, .ref a4, .int 8, .int (-1), .int 0, .int 0, .int 0, .int 0])), (a4, .inr (0, [.int 0, .ref e0, .int 0]))]) hx hb hr hlk hP hD hS (fun _ _ => 0) rfl rfl [0, 1, 2] rfl rfl (Nat.le_of_ble_eq_true rfl) (Nat.le_of_ble_eq_true rfl) dL_late_14
set_option maxHeartbeats 4000000 in
set_option maxRecDepth 100000 in
theorem kX14_late_0 (l : Launch) (hst : l.stackTraces = false) (D : va_G) (yc : Nat → ClassId) (e0 sz : Nat) (a0 : Nat) (p0 : Int32) (a1 : Nat) (a2 : Nat) (a3 : Nat) (a4 : Nat) (a5 : Nat) (a6 : Nat) (a7 : Nat)  : Met l yX14_late (ws_ yX14_late cX14_late 2 (some .int)) ({ frames := 3, cells := 0, slots := 0, locals := 64 }) (PR D yc e0 [(a0, .inr (13, [.int 0, .int 0, .ref a1, .ref a2, .ref a3, .ref a4, .ref a5, .ref a6, .ref a7, .int 0, .long 0]))] sz [.ref a0, .int p0]) (va_Qi (fun r u => r = (fun u : Nat → Nat → Nat => 0) u) (WD D (va_A [(a0, .inr (13, [.int 0, .int 0, .ref a1, .ref a2, .ref a3, .ref a4, .ref a5, .ref a6, .ref a7, .int 0, .long 0]))] sz) (fun u => [(a0, .inr (13, [.int 0, .int 0, .ref a1, .ref a2, .ref a3, .ref a4, .ref a5, .ref a6, .ref a7, .int 1, .long 0]))])) (va_A [(a0, .inr (13, [.int 0, .int 0, .ref a1, .ref a2, .ref a3, .ref a4, .ref a5, .ref a6, .ref a7, .int 0, .long 0]))] sz)) 0 0 (va_A [(a0, .inr (13, [.int 0, .int 0, .ref a1, .ref a2, .ref a3, .ref a4, .ref a5, .ref a6, .ref a7, .int 0, .long 0]))] sz) := by
  refine zk_M (Qc := fun A => va_Qi (fun r u => r = (fun u : Nat → Nat → Nat => 0) u) (WD D A (fun u => [(a0, .inr (13, [.int 0, .int 0, .ref a1, .ref a2, .ref a3, .ref a4, .ref a5, .ref a6, .ref a7, .int 1, .long 0]))])) A) (by decide) (Nat.le_of_ble_eq_true rfl) ?_
  intro p e s m args below meth c A ls hx hb hml hr hlk hown hnm hts hP hD hS hA hC hl
  have hK := hC.1
  have hN := hC.2.1
  have hl : lv_has ls 2 [(0, .ref a0), (1, .int p0)] := hl
  generalize hHH : s.heap = H at hP ⊢
  have hS : va_S A s.heap H [] := by rw [← hHH]; exact hS
  refine lv_aload_n hx hb dX14_late_0 rfl (lv_at hl 0 rfl) ?_
  refine lv_iload_n hx hb dX14_late_1 rfl (lv_at hl 1 rfl) ?_
  refine zk_i (wr := []) (va_runV (As := [.int p0]) (rest := []) ⟨hx, hb, hml, hown, hts⟩ (kX14_has_0 l hst D yc e0 H.size a0 p0 a1 a2 a3 a4 a5 a6 a7) (cwV 1 hts (lw_V wq1847 wq1849 ws63 wq6 wq1850) rfl rfl rfl (by decide +kernel) ⟨(Nat.le_of_ble_eq_true rfl), (Nat.le_of_ble_eq_true rfl)⟩) (zk_pV hC hP hD hS hA [0] rfl rfl 0 13 rfl rfl) rfl rfl hl.1 rfl (lv_room (Nat.le_of_ble_eq_true rfl)) dX14_late_2 ⟨(Nat.le_of_ble_eq_true rfl), (Nat.le_of_ble_eq_true rfl)⟩) hP hD hS hA [0] [] rfl rfl rfl (by decide) (fun u1 H locs hP hD hS => ?_)
  have hP : va_P D vwCl [(a0, .inr (13, [.int 0, .int 0, .ref a1, .ref a2, .ref a3, .ref a4, .ref a5, .ref a6, .ref a7, .int 1, .long 0]))] H := hP
  have hD : va_D A [(a0, .inr (13, [.int 0, .int 0, .ref a1, .ref a2, .ref a3, .ref a4, .ref a5, .ref a6, .ref a7, .int 1, .long 0]))] := hD
  refine W.widen (k := 0) (n := 0) (Nat.le_of_ble_eq_true rfl) (Nat.le_of_ble_eq_true rfl) ?_
  refine lv_if_eq (tgt := 23) hx hb dX14_late_5 (by decide) (fun _ => ?_) (fun h9 => absurd (by decide) h9)
  refine lv_iconst (v := 0) hx hb dX14_late_23 (by decide) ?_
  exact zk_ri (r0 := fun u => 0) (w1 := fun u => [(a0, .inr (13, [.int 0, .int 0, .ref a1, .ref a2, .ref a3, .ref a4, .ref a5, .ref a6, .ref a7, .int 1, .long 0]))]) hx hb hr hlk hP hD hS (fun _ _ => 0) rfl rfl [0] rfl rfl (Nat.le_of_ble_eq_true rfl) (Nat.le_of_ble_eq_true rfl) dX14_late_24
set_option maxHeartbeats 4000000 in
set_option maxRecDepth 100000 in
theorem kX10_kept_0 (l : Launch) (hst : l.stackTraces = false) (D : va_G) (yc : Nat → ClassId) (e0 sz : Nat) (a0 : Nat) (p0 : Int32) (a1 : Nat) (a2 : Nat) (a3 : Nat)  : vx_Met l yX10_kept (ws_ yX10_kept cX10_kept 3 (some .int)) ({ frames := 7, cells := 1, slots := 6, locals := 103 }) (PR D yc e0 [(a0, .inr (9, [.ref a1, .ref a2, .int 0, .int 0, .int 0])), (a1, .inr (2, [.int 0, .ref a3, .int 8, .int (-1), .int 0, .int 0, .int 0, .int 0])), (a3, .inr (0, [.int 0, .ref e0, .int 0]))] sz [.ref a0, .int p0]) (fun _ _ _ _ => False) (zk_X D (va_A [(a0, .inr (9, [.ref a1, .ref a2, .int 0, .int 0, .int 0])), (a1, .inr (2, [.int 0, .ref a3, .int 8, .int (-1), .int 0, .int 0, .int 0, .int 0])), (a3, .inr (0, [.int 0, .ref e0, .int 0]))] sz) "java/lang/IndexOutOfBoundsException" (fun u => [(a0, .inr (9, [.ref a1, .ref a2, .int 0, .int 0, .int 0])), (a1, .inr (2, [.int 0, .ref a3, .int 8, .int (-1), .int 0, .int 0, .int 0, .int 0])), (a3, .inr (0, [.int 0, .ref e0, .int 0]))])) 1 6 (va_A [(a0, .inr (9, [.ref a1, .ref a2, .int 0, .int 0, .int 0])), (a1, .inr (2, [.int 0, .ref a3, .int 8, .int (-1), .int 0, .int 0, .int 0, .int 0])), (a3, .inr (0, [.int 0, .ref e0, .int 0]))] sz) := by
  refine zk_MX (by decide) (Nat.le_of_ble_eq_true rfl) ?_
  intro p e s m args below meth c A ls hx hb hml hr hlk hown hnm hts hP hD hS hA hC hl hnx
  have hK := hC.1
  have hN := hC.2.1
  have hl : lv_has ls 3 [(0, .ref a0), (1, .int p0)] := hl
  generalize hHH : s.heap = H at hP ⊢
  have hS : va_S A s.heap H [] := by rw [← hHH]; exact hS
  refine W.widen (k := 0) (n := 0) (Nat.le_of_ble_eq_true rfl) (Nat.le_of_ble_eq_true rfl) ?_
  refine lv_aload_n hx hb dX10_kept_0 rfl (lv_at hl 0 rfl) ?_
  refine lv_iload_n hx hb dX10_kept_1 rfl (lv_at hl 1 rfl) ?_
  refine zk_x (wr := []) (vx_runV (As := [.int p0]) (rest := []) ⟨hx, hb, hml, hown, hts⟩ (kX10_stageOf_0 l hst D yc e0 H.size a0 p0 a1 a2 a3) (cwV 1 hts (lw_V wq254 wq256 ws2 wq1 wq257) rfl rfl rfl (by decide +kernel) ⟨(Nat.le_of_ble_eq_true rfl), (Nat.le_of_ble_eq_true rfl)⟩) (zk_pV hC hP hD hS hA [0, 1, 2] rfl rfl 0 9 rfl rfl) rfl rfl hl.1 rfl (lv_room (Nat.le_of_ble_eq_true rfl)) dX10_kept_2 ⟨(Nat.le_of_ble_eq_true rfl), (Nat.le_of_ble_eq_true rfl)⟩) hP hD hS hA [0, 1, 2] [] rfl rfl rfl (by decide) (fun u1 ce q9 H locs hP hD hS hce hcv hcl => ?_)
  have hP : va_P D vwCl [(a0, .inr (9, [.ref a1, .ref a2, .int 0, .int 0, .int 0])), (a1, .inr (2, [.int 0, .ref a3, .int 8, .int (-1), .int 0, .int 0, .int 0, .int 0])), (a3, .inr (0, [.int 0, .ref e0, .int 0]))] H := hP
  have hD : va_D A [(a0, .inr (9, [.ref a1, .ref a2, .int 0, .int 0, .int 0])), (a1, .inr (2, [.int 0, .ref a3, .int 8, .int (-1), .int 0, .int 0, .int 0, .int 0])), (a3, .inr (0, [.int 0, .ref e0, .int 0]))] := hD
  exact vx_out (fun x9 hx9 => (hnx x9 hx9).elim) hlk hce hcv hcl (zk_out hP hD hS (fun _ _ => 0) [0, 1, 2] rfl rfl) hS.2.2 (Nat.le_of_ble_eq_true rfl) (Nat.le_of_ble_eq_true rfl)
set_option maxHeartbeats 4000000 in
set_option maxRecDepth 100000 in
theorem kL_kept_0 (l : Launch) (hst : l.stackTraces = false) (D : va_G) (yc : Nat → ClassId) (e0 sz : Nat) (a0 : Nat) (p0 : Int32) (a1 : Nat) (a2 : Nat) (a3 : Nat) (a4 : Nat)  : Met l yL_kept (ww_ yL_kept cL_kept 4 (some .int) [(0, 9, 12, 21)]) ({ frames := 8, cells := 1, slots := 6, locals := 125 }) (PR D yc e0 [(a0, .inr (9, [.ref a2, .ref a3, .int 0, .int 0, .int 0])), (a2, .inr (2, [.int 0, .ref a4, .int 8, .int (-1), .int 0, .int 0, .int 0, .int 0])), (a4, .inr (0, [.int 0, .ref e0, .int 0]))] sz [.ref a0, .int p0, .ref a1]) (va_Qi (fun r u => r = (fun u : Nat → Nat → Nat => 1) u) (WD D (va_A [(a0, .inr (9, [.ref a2, .ref a3, .int 0, .int 0, .int 0])), (a2, .inr (2, [.int 0, .ref a4, .int 8, .int (-1), .int 0, .int 0, .int 0, .int 0])), (a4, .inr (0, [.int 0, .ref e0, .int 0]))] sz) (fun u => [(a0, .inr (9, [.ref a2, .ref a3, .int 0, .int 0, .int 0])), (a2, .inr (2, [.int 0, .ref a4, .int 8, .int (-1), .int 0, .int 0, .int 0, .int 0])), (a4, .inr (0, [.int 0, .ref e0, .int 0]))])) (va_A [(a0, .inr (9, [.ref a2, .ref a3, .int 0, .int 0, .int 0])), (a2, .inr (2, [.int 0, .ref a4, .int 8, .int (-1), .int 0, .int 0, .int 0, .int 0])), (a4, .inr (0, [.int 0, .ref e0, .int 0]))] sz)) 1 6 (va_A [(a0, .inr (9, [.ref a2, .ref a3, .int 0, .int 0, .int 0])), (a2, .inr (2, [.int 0, .ref a4, .int 8, .int (-1), .int 0, .int 0, .int 0, .int 0])), (a4, .inr (0, [.int 0, .ref e0, .int 0]))] sz) := by
  refine zk_MW (Qc := fun A => va_Qi (fun r u => r = (fun u : Nat → Nat → Nat => 1) u) (WD D A (fun u => [(a0, .inr (9, [.ref a2, .ref a3, .int 0, .int 0, .int 0])), (a2, .inr (2, [.int 0, .ref a4, .int 8, .int (-1), .int 0, .int 0, .int 0, .int 0])), (a4, .inr (0, [.int 0, .ref e0, .int 0]))])) A) (by decide) (Nat.le_of_ble_eq_true rfl) ?_
  intro p e s m args below meth c A ls hx hb hml hr hlk hown hts hP hD hS hA hC hl hex
  have hK := hC.1
  have hN := hC.2.1
  have hl : lv_has ls 4 [(0, .ref a0), (1, .int p0), (2, .ref a1)] := hl
  generalize hHH : s.heap = H at hP ⊢
  have hS : va_S A s.heap H [] := by rw [← hHH]; exact hS
  refine lv_aload_n hx hb dL_kept_0 rfl (lv_at hl 2 rfl) ?_
  refine lv_iconst (v := 0) hx hb dL_kept_1 (by decide) ?_
  refine lv_aload_n hx hb dL_kept_2 rfl (lv_at hl 0 rfl) ?_
  refine lv_iload_n hx hb dL_kept_3 rfl (lv_at hl 1 rfl) ?_
  refine zk_x (wr := []) (vx_runV (As := [.int p0]) (rest := [.int 0, .ref a1]) ⟨hx, hb, hml, hown, hts⟩ (kX10_kept_0 l hst D yc e0 H.size a0 p0 a2 a3 a4) (cwV 1 hts (lw_V wq1235 wq339 wq340 wq1 wq341) rfl rfl rfl (by decide +kernel) ⟨(Nat.le_of_ble_eq_true rfl), (Nat.le_of_ble_eq_true rfl)⟩) (zk_pV hC hP hD hS hA [0, 1, 2] rfl rfl 0 9 rfl rfl) rfl rfl hl.1 rfl (lv_room (Nat.le_of_ble_eq_true rfl)) dL_kept_4 ⟨(Nat.le_of_ble_eq_true rfl), (Nat.le_of_ble_eq_true rfl)⟩) hP hD hS hA [0, 1, 2] [] rfl rfl rfl (by decide) (fun u1 ce q9 H locs hP hD hS hce hcv hcl => ?_)
  have hP : va_P D vwCl [(a0, .inr (9, [.ref a2, .ref a3, .int 0, .int 0, .int 0])), (a2, .inr (2, [.int 0, .ref a4, .int 8, .int (-1), .int 0, .int 0, .int 0, .int 0])), (a4, .inr (0, [.int 0, .ref e0, .int 0]))] H := hP
  have hD : va_D A [(a0, .inr (9, [.ref a2, .ref a3, .int 0, .int 0, .int 0])), (a2, .inr (2, [.int 0, .ref a4, .int 8, .int (-1), .int 0, .int 0, .int 0, .int 0])), (a4, .inr (0, [.int 0, .ref e0, .int 0]))] := hD
  refine vx_catch (own := RL) (name := "java/lang/IndexOutOfBoundsException") hown (tableOf []) ⟨0, 9, 12, 21⟩ (tableOf []) hex (fun z hz => False.elim (List.not_mem_nil hz)) (by decide) (by decide) (hts _ wq833) (zk_tab rfl (hN _ wr261 rfl)) hce hcv hcl ?_
  refine W.widen (k := 1) (n := 6) (Nat.le_of_ble_eq_true rfl) (Nat.le_of_ble_eq_true rfl) ?_
  refine lv_astore_n (lv' := [(3, .ref q9), (0, .ref a0), (1, .int p0), (2, .ref a1)]) hx hb dL_kept_12 rfl hl (by decide) rfl (fun ls hl => ?_)
  refine lv_iconst (v := 1) hx hb dL_kept_13 (by decide) ?_
  exact zk_ri (r0 := fun u => 1) (w1 := fun u => [(a0, .inr (9, [.ref a2, .ref a3, .int 0, .int 0, .int 0])), (a2, .inr (2, [.int 0, .ref a4, .int 8, .int (-1), .int 0, .int 0, .int 0, .int 0])), (a4, .inr (0, [.int 0, .ref e0, .int 0]))]) hx hb hr hlk hP hD hS (fun _ _ => 0) rfl rfl [0, 1, 2] rfl rfl (Nat.le_of_ble_eq_true rfl) (Nat.le_of_ble_eq_true rfl) dL_kept_14
set_option maxHeartbeats 4000000 in
set_option maxRecDepth 100000 in
theorem kX14_kept_0 (l : Launch) (hst : l.stackTraces = false) (D : va_G) (yc : Nat → ClassId) (e0 sz : Nat) (a0 : Nat) (p0 : Int32) (a1 : Nat) (a2 : Nat) (a3 : Nat) (a4 : Nat) (a5 : Nat) (a6 : Nat) (a7 : Nat)  : Met l yX14_kept (ws_ yX14_kept cX14_kept 2 (some .int)) ({ frames := 3, cells := 0, slots := 0, locals := 64 }) (PR D yc e0 [(a0, .inr (13, [.int 0, .int 0, .ref a1, .ref a2, .ref a3, .ref a4, .ref a5, .ref a6, .ref a7, .int 0, .long 0]))] sz [.ref a0, .int p0]) (va_Qi (fun r u => r = (fun u : Nat → Nat → Nat => 0) u) (WD D (va_A [(a0, .inr (13, [.int 0, .int 0, .ref a1, .ref a2, .ref a3, .ref a4, .ref a5, .ref a6, .ref a7, .int 0, .long 0]))] sz) (fun u => [(a0, .inr (13, [.int 0, .int 0, .ref a1, .ref a2, .ref a3, .ref a4, .ref a5, .ref a6, .ref a7, .int 1, .long 0]))])) (va_A [(a0, .inr (13, [.int 0, .int 0, .ref a1, .ref a2, .ref a3, .ref a4, .ref a5, .ref a6, .ref a7, .int 0, .long 0]))] sz)) 0 0 (va_A [(a0, .inr (13, [.int 0, .int 0, .ref a1, .ref a2, .ref a3, .ref a4, .ref a5, .ref a6, .ref a7, .int 0, .long 0]))] sz) := by
  refine zk_M (Qc := fun A => va_Qi (fun r u => r = (fun u : Nat → Nat → Nat => 0) u) (WD D A (fun u => [(a0, .inr (13, [.int 0, .int 0, .ref a1, .ref a2, .ref a3, .ref a4, .ref a5, .ref a6, .ref a7, .int 1, .long 0]))])) A) (by decide) (Nat.le_of_ble_eq_true rfl) ?_
  intro p e s m args below meth c A ls hx hb hml hr hlk hown hnm hts hP hD hS hA hC hl
  have hK := hC.1
  have hN := hC.2.1
  have hl : lv_has ls 2 [(0, .ref a0), (1, .int p0)] := hl
  generalize hHH : s.heap = H at hP ⊢
  have hS : va_S A s.heap H [] := by rw [← hHH]; exact hS
  refine lv_aload_n hx hb dX14_kept_0 rfl (lv_at hl 0 rfl) ?_
  refine lv_iload_n hx hb dX14_kept_1 rfl (lv_at hl 1 rfl) ?_
  refine zk_i (wr := []) (va_runV (As := [.int p0]) (rest := []) ⟨hx, hb, hml, hown, hts⟩ (kX14_has_0 l hst D yc e0 H.size a0 p0 a1 a2 a3 a4 a5 a6 a7) (cwV 1 hts (lw_V wq1847 wq1849 ws63 wq6 wq1850) rfl rfl rfl (by decide +kernel) ⟨(Nat.le_of_ble_eq_true rfl), (Nat.le_of_ble_eq_true rfl)⟩) (zk_pV hC hP hD hS hA [0] rfl rfl 0 13 rfl rfl) rfl rfl hl.1 rfl (lv_room (Nat.le_of_ble_eq_true rfl)) dX14_kept_2 ⟨(Nat.le_of_ble_eq_true rfl), (Nat.le_of_ble_eq_true rfl)⟩) hP hD hS hA [0] [] rfl rfl rfl (by decide) (fun u1 H locs hP hD hS => ?_)
  have hP : va_P D vwCl [(a0, .inr (13, [.int 0, .int 0, .ref a1, .ref a2, .ref a3, .ref a4, .ref a5, .ref a6, .ref a7, .int 1, .long 0]))] H := hP
  have hD : va_D A [(a0, .inr (13, [.int 0, .int 0, .ref a1, .ref a2, .ref a3, .ref a4, .ref a5, .ref a6, .ref a7, .int 1, .long 0]))] := hD
  refine W.widen (k := 0) (n := 0) (Nat.le_of_ble_eq_true rfl) (Nat.le_of_ble_eq_true rfl) ?_
  refine lv_if_eq (tgt := 16) hx hb dX14_kept_5 (by decide) (fun _ => ?_) (fun h9 => absurd (by decide) h9)
  refine lv_iconst (v := 0) hx hb dX14_kept_16 (by decide) ?_
  exact zk_ri (r0 := fun u => 0) (w1 := fun u => [(a0, .inr (13, [.int 0, .int 0, .ref a1, .ref a2, .ref a3, .ref a4, .ref a5, .ref a6, .ref a7, .int 1, .long 0]))]) hx hb hr hlk hP hD hS (fun _ _ => 0) rfl rfl [0] rfl rfl (Nat.le_of_ble_eq_true rfl) (Nat.le_of_ble_eq_true rfl) dX14_kept_17
set_option maxHeartbeats 4000000 in
set_option maxRecDepth 100000 in
theorem kX10_isReady_0 (l : Launch) (hst : l.stackTraces = false) (D : va_G) (yc : Nat → ClassId) (e0 sz : Nat) (a0 : Nat) (p0 : Int32) (a1 : Nat) (a2 : Nat) (a3 : Nat)  : vx_Met l yX10_isReady (ws_ yX10_isReady cX10_isReady 2 (some .boolean)) ({ frames := 7, cells := 1, slots := 6, locals := 103 }) (PR D yc e0 [(a0, .inr (9, [.ref a1, .ref a2, .int 0, .int 0, .int 0])), (a1, .inr (2, [.int 0, .ref a3, .int 8, .int (-1), .int 0, .int 0, .int 0, .int 0])), (a3, .inr (0, [.int 0, .ref e0, .int 0]))] sz [.ref a0, .int p0]) (fun _ _ _ _ => False) (zk_X D (va_A [(a0, .inr (9, [.ref a1, .ref a2, .int 0, .int 0, .int 0])), (a1, .inr (2, [.int 0, .ref a3, .int 8, .int (-1), .int 0, .int 0, .int 0, .int 0])), (a3, .inr (0, [.int 0, .ref e0, .int 0]))] sz) "java/lang/IndexOutOfBoundsException" (fun u => [(a0, .inr (9, [.ref a1, .ref a2, .int 0, .int 0, .int 0])), (a1, .inr (2, [.int 0, .ref a3, .int 8, .int (-1), .int 0, .int 0, .int 0, .int 0])), (a3, .inr (0, [.int 0, .ref e0, .int 0]))])) 1 6 (va_A [(a0, .inr (9, [.ref a1, .ref a2, .int 0, .int 0, .int 0])), (a1, .inr (2, [.int 0, .ref a3, .int 8, .int (-1), .int 0, .int 0, .int 0, .int 0])), (a3, .inr (0, [.int 0, .ref e0, .int 0]))] sz) := by
  refine zk_MX (by decide) (Nat.le_of_ble_eq_true rfl) ?_
  intro p e s m args below meth c A ls hx hb hml hr hlk hown hnm hts hP hD hS hA hC hl hnx
  have hK := hC.1
  have hN := hC.2.1
  have hl : lv_has ls 2 [(0, .ref a0), (1, .int p0)] := hl
  generalize hHH : s.heap = H at hP ⊢
  have hS : va_S A s.heap H [] := by rw [← hHH]; exact hS
  refine W.widen (k := 0) (n := 0) (Nat.le_of_ble_eq_true rfl) (Nat.le_of_ble_eq_true rfl) ?_
  refine lv_aload_n hx hb dX10_isReady_0 rfl (lv_at hl 0 rfl) ?_
  refine lv_iload_n hx hb dX10_isReady_1 rfl (lv_at hl 1 rfl) ?_
  refine zk_x (wr := []) (vx_runV (As := [.int p0]) (rest := []) ⟨hx, hb, hml, hown, hts⟩ (kX10_stageOf_0 l hst D yc e0 H.size a0 p0 a1 a2 a3) (cwV 1 hts (lw_V wq254 wq256 ws2 wq1 wq257) rfl rfl rfl (by decide +kernel) ⟨(Nat.le_of_ble_eq_true rfl), (Nat.le_of_ble_eq_true rfl)⟩) (zk_pV hC hP hD hS hA [0, 1, 2] rfl rfl 0 9 rfl rfl) rfl rfl hl.1 rfl (lv_room (Nat.le_of_ble_eq_true rfl)) dX10_isReady_2 ⟨(Nat.le_of_ble_eq_true rfl), (Nat.le_of_ble_eq_true rfl)⟩) hP hD hS hA [0, 1, 2] [] rfl rfl rfl (by decide) (fun u1 ce q9 H locs hP hD hS hce hcv hcl => ?_)
  have hP : va_P D vwCl [(a0, .inr (9, [.ref a1, .ref a2, .int 0, .int 0, .int 0])), (a1, .inr (2, [.int 0, .ref a3, .int 8, .int (-1), .int 0, .int 0, .int 0, .int 0])), (a3, .inr (0, [.int 0, .ref e0, .int 0]))] H := hP
  have hD : va_D A [(a0, .inr (9, [.ref a1, .ref a2, .int 0, .int 0, .int 0])), (a1, .inr (2, [.int 0, .ref a3, .int 8, .int (-1), .int 0, .int 0, .int 0, .int 0])), (a3, .inr (0, [.int 0, .ref e0, .int 0]))] := hD
  exact vx_out (fun x9 hx9 => (hnx x9 hx9).elim) hlk hce hcv hcl (zk_out hP hD hS (fun _ _ => 0) [0, 1, 2] rfl rfl) hS.2.2 (Nat.le_of_ble_eq_true rfl) (Nat.le_of_ble_eq_true rfl)
set_option maxHeartbeats 4000000 in
set_option maxRecDepth 100000 in
theorem kL_isReady_0 (l : Launch) (hst : l.stackTraces = false) (D : va_G) (yc : Nat → ClassId) (e0 sz : Nat) (a0 : Nat) (p0 : Int32) (a1 : Nat) (a2 : Nat) (a3 : Nat) (a4 : Nat)  : Met l yL_isReady (ww_ yL_isReady cL_isReady 4 (some .int) [(0, 16, 19, 21)]) ({ frames := 8, cells := 1, slots := 6, locals := 124 }) (PR D yc e0 [(a0, .inr (9, [.ref a2, .ref a3, .int 0, .int 0, .int 0])), (a2, .inr (2, [.int 0, .ref a4, .int 8, .int (-1), .int 0, .int 0, .int 0, .int 0])), (a4, .inr (0, [.int 0, .ref e0, .int 0]))] sz [.ref a0, .int p0, .ref a1]) (va_Qi (fun r u => r = (fun u : Nat → Nat → Nat => 1) u) (WD D (va_A [(a0, .inr (9, [.ref a2, .ref a3, .int 0, .int 0, .int 0])), (a2, .inr (2, [.int 0, .ref a4, .int 8, .int (-1), .int 0, .int 0, .int 0, .int 0])), (a4, .inr (0, [.int 0, .ref e0, .int 0]))] sz) (fun u => [(a0, .inr (9, [.ref a2, .ref a3, .int 0, .int 0, .int 0])), (a2, .inr (2, [.int 0, .ref a4, .int 8, .int (-1), .int 0, .int 0, .int 0, .int 0])), (a4, .inr (0, [.int 0, .ref e0, .int 0]))])) (va_A [(a0, .inr (9, [.ref a2, .ref a3, .int 0, .int 0, .int 0])), (a2, .inr (2, [.int 0, .ref a4, .int 8, .int (-1), .int 0, .int 0, .int 0, .int 0])), (a4, .inr (0, [.int 0, .ref e0, .int 0]))] sz)) 1 6 (va_A [(a0, .inr (9, [.ref a2, .ref a3, .int 0, .int 0, .int 0])), (a2, .inr (2, [.int 0, .ref a4, .int 8, .int (-1), .int 0, .int 0, .int 0, .int 0])), (a4, .inr (0, [.int 0, .ref e0, .int 0]))] sz) := by
  refine zk_MW (Qc := fun A => va_Qi (fun r u => r = (fun u : Nat → Nat → Nat => 1) u) (WD D A (fun u => [(a0, .inr (9, [.ref a2, .ref a3, .int 0, .int 0, .int 0])), (a2, .inr (2, [.int 0, .ref a4, .int 8, .int (-1), .int 0, .int 0, .int 0, .int 0])), (a4, .inr (0, [.int 0, .ref e0, .int 0]))])) A) (by decide) (Nat.le_of_ble_eq_true rfl) ?_
  intro p e s m args below meth c A ls hx hb hml hr hlk hown hts hP hD hS hA hC hl hex
  have hK := hC.1
  have hN := hC.2.1
  have hl : lv_has ls 4 [(0, .ref a0), (1, .int p0), (2, .ref a1)] := hl
  generalize hHH : s.heap = H at hP ⊢
  have hS : va_S A s.heap H [] := by rw [← hHH]; exact hS
  refine lv_aload_n hx hb dL_isReady_0 rfl (lv_at hl 2 rfl) ?_
  refine lv_iconst (v := 0) hx hb dL_isReady_1 (by decide) ?_
  refine lv_aload_n hx hb dL_isReady_2 rfl (lv_at hl 0 rfl) ?_
  refine lv_iload_n hx hb dL_isReady_3 rfl (lv_at hl 1 rfl) ?_
  refine zk_x (wr := []) (vx_runV (As := [.int p0]) (rest := [.int 0, .ref a1]) ⟨hx, hb, hml, hown, hts⟩ (kX10_isReady_0 l hst D yc e0 H.size a0 p0 a2 a3 a4) (cwV 1 hts (lw_V wq1239 wq354 wq355 wq1 wq356) rfl rfl rfl (by decide +kernel) ⟨(Nat.le_of_ble_eq_true rfl), (Nat.le_of_ble_eq_true rfl)⟩) (zk_pV hC hP hD hS hA [0, 1, 2] rfl rfl 0 9 rfl rfl) rfl rfl hl.1 rfl (lv_room (Nat.le_of_ble_eq_true rfl)) dL_isReady_4 ⟨(Nat.le_of_ble_eq_true rfl), (Nat.le_of_ble_eq_true rfl)⟩) hP hD hS hA [0, 1, 2] [] rfl rfl rfl (by decide) (fun u1 ce q9 H locs hP hD hS hce hcv hcl => ?_)
  have hP : va_P D vwCl [(a0, .inr (9, [.ref a2, .ref a3, .int 0, .int 0, .int 0])), (a2, .inr (2, [.int 0, .ref a4, .int 8, .int (-1), .int 0, .int 0, .int 0, .int 0])), (a4, .inr (0, [.int 0, .ref e0, .int 0]))] H := hP
  have hD : va_D A [(a0, .inr (9, [.ref a2, .ref a3, .int 0, .int 0, .int 0])), (a2, .inr (2, [.int 0, .ref a4, .int 8, .int (-1), .int 0, .int 0, .int 0, .int 0])), (a4, .inr (0, [.int 0, .ref e0, .int 0]))] := hD
  refine vx_catch (own := RL) (name := "java/lang/IndexOutOfBoundsException") hown (tableOf []) ⟨0, 16, 19, 21⟩ (tableOf []) hex (fun z hz => False.elim (List.not_mem_nil hz)) (by decide) (by decide) (hts _ wq833) (zk_tab rfl (hN _ wr261 rfl)) hce hcv hcl ?_
  refine W.widen (k := 1) (n := 6) (Nat.le_of_ble_eq_true rfl) (Nat.le_of_ble_eq_true rfl) ?_
  refine lv_astore_n (lv' := [(3, .ref q9), (0, .ref a0), (1, .int p0), (2, .ref a1)]) hx hb dL_isReady_19 rfl hl (by decide) rfl (fun ls hl => ?_)
  refine lv_iconst (v := 1) hx hb dL_isReady_20 (by decide) ?_
  exact zk_ri (r0 := fun u => 1) (w1 := fun u => [(a0, .inr (9, [.ref a2, .ref a3, .int 0, .int 0, .int 0])), (a2, .inr (2, [.int 0, .ref a4, .int 8, .int (-1), .int 0, .int 0, .int 0, .int 0])), (a4, .inr (0, [.int 0, .ref e0, .int 0]))]) hx hb hr hlk hP hD hS (fun _ _ => 0) rfl rfl [0, 1, 2] rfl rfl (Nat.le_of_ble_eq_true rfl) (Nat.le_of_ble_eq_true rfl) dL_isReady_21
set_option maxHeartbeats 4000000 in
set_option maxRecDepth 100000 in
theorem kX14_isReady_0 (l : Launch) (hst : l.stackTraces = false) (D : va_G) (yc : Nat → ClassId) (e0 sz : Nat) (a0 : Nat) (p0 : Int32) (a1 : Nat) (a2 : Nat) (a3 : Nat) (a4 : Nat) (a5 : Nat) (a6 : Nat) (a7 : Nat)  : Met l yX14_isReady (ws_ yX14_isReady cX14_isReady 2 (some .boolean)) ({ frames := 3, cells := 0, slots := 0, locals := 64 }) (PR D yc e0 [(a0, .inr (13, [.int 0, .int 0, .ref a1, .ref a2, .ref a3, .ref a4, .ref a5, .ref a6, .ref a7, .int 0, .long 0]))] sz [.ref a0, .int p0]) (va_Qi (fun r u => r = (fun u : Nat → Nat → Nat => 0) u) (WD D (va_A [(a0, .inr (13, [.int 0, .int 0, .ref a1, .ref a2, .ref a3, .ref a4, .ref a5, .ref a6, .ref a7, .int 0, .long 0]))] sz) (fun u => [(a0, .inr (13, [.int 0, .int 0, .ref a1, .ref a2, .ref a3, .ref a4, .ref a5, .ref a6, .ref a7, .int 1, .long 0]))])) (va_A [(a0, .inr (13, [.int 0, .int 0, .ref a1, .ref a2, .ref a3, .ref a4, .ref a5, .ref a6, .ref a7, .int 0, .long 0]))] sz)) 0 0 (va_A [(a0, .inr (13, [.int 0, .int 0, .ref a1, .ref a2, .ref a3, .ref a4, .ref a5, .ref a6, .ref a7, .int 0, .long 0]))] sz) := by
  refine zk_M (Qc := fun A => va_Qi (fun r u => r = (fun u : Nat → Nat → Nat => 0) u) (WD D A (fun u => [(a0, .inr (13, [.int 0, .int 0, .ref a1, .ref a2, .ref a3, .ref a4, .ref a5, .ref a6, .ref a7, .int 1, .long 0]))])) A) (by decide) (Nat.le_of_ble_eq_true rfl) ?_
  intro p e s m args below meth c A ls hx hb hml hr hlk hown hnm hts hP hD hS hA hC hl
  have hK := hC.1
  have hN := hC.2.1
  have hl : lv_has ls 2 [(0, .ref a0), (1, .int p0)] := hl
  generalize hHH : s.heap = H at hP ⊢
  have hS : va_S A s.heap H [] := by rw [← hHH]; exact hS
  refine lv_aload_n hx hb dX14_isReady_0 rfl (lv_at hl 0 rfl) ?_
  refine lv_iload_n hx hb dX14_isReady_1 rfl (lv_at hl 1 rfl) ?_
  refine zk_i (wr := []) (va_runV (As := [.int p0]) (rest := []) ⟨hx, hb, hml, hown, hts⟩ (kX14_has_0 l hst D yc e0 H.size a0 p0 a1 a2 a3 a4 a5 a6 a7) (cwV 1 hts (lw_V wq1847 wq1849 ws63 wq6 wq1850) rfl rfl rfl (by decide +kernel) ⟨(Nat.le_of_ble_eq_true rfl), (Nat.le_of_ble_eq_true rfl)⟩) (zk_pV hC hP hD hS hA [0] rfl rfl 0 13 rfl rfl) rfl rfl hl.1 rfl (lv_room (Nat.le_of_ble_eq_true rfl)) dX14_isReady_2 ⟨(Nat.le_of_ble_eq_true rfl), (Nat.le_of_ble_eq_true rfl)⟩) hP hD hS hA [0] [] rfl rfl rfl (by decide) (fun u1 H locs hP hD hS => ?_)
  have hP : va_P D vwCl [(a0, .inr (13, [.int 0, .int 0, .ref a1, .ref a2, .ref a3, .ref a4, .ref a5, .ref a6, .ref a7, .int 1, .long 0]))] H := hP
  have hD : va_D A [(a0, .inr (13, [.int 0, .int 0, .ref a1, .ref a2, .ref a3, .ref a4, .ref a5, .ref a6, .ref a7, .int 1, .long 0]))] := hD
  refine W.widen (k := 0) (n := 0) (Nat.le_of_ble_eq_true rfl) (Nat.le_of_ble_eq_true rfl) ?_
  refine lv_if_eq (tgt := 23) hx hb dX14_isReady_5 (by decide) (fun _ => ?_) (fun h9 => absurd (by decide) h9)
  refine lv_iconst (v := 0) hx hb dX14_isReady_23 (by decide) ?_
  exact zk_ri (r0 := fun u => 0) (w1 := fun u => [(a0, .inr (13, [.int 0, .int 0, .ref a1, .ref a2, .ref a3, .ref a4, .ref a5, .ref a6, .ref a7, .int 1, .long 0]))]) hx hb hr hlk hP hD hS (fun _ _ => 0) rfl rfl [0] rfl rfl (Nat.le_of_ble_eq_true rfl) (Nat.le_of_ble_eq_true rfl) dX14_isReady_24
set_option maxHeartbeats 4000000 in
set_option maxRecDepth 100000 in
theorem kX10_hasRoom_0 (l : Launch) (hst : l.stackTraces = false) (D : va_G) (yc : Nat → ClassId) (e0 sz : Nat) (a0 : Nat) (p0 : Int32) (a1 : Nat) (a2 : Nat) (a3 : Nat)  : vx_Met l yX10_hasRoom (ws_ yX10_hasRoom cX10_hasRoom 2 (some .boolean)) ({ frames := 7, cells := 1, slots := 6, locals := 103 }) (PR D yc e0 [(a0, .inr (9, [.ref a1, .ref a2, .int 0, .int 0, .int 0])), (a1, .inr (2, [.int 0, .ref a3, .int 8, .int (-1), .int 0, .int 0, .int 0, .int 0])), (a3, .inr (0, [.int 0, .ref e0, .int 0]))] sz [.ref a0, .int p0]) (fun _ _ _ _ => False) (zk_X D (va_A [(a0, .inr (9, [.ref a1, .ref a2, .int 0, .int 0, .int 0])), (a1, .inr (2, [.int 0, .ref a3, .int 8, .int (-1), .int 0, .int 0, .int 0, .int 0])), (a3, .inr (0, [.int 0, .ref e0, .int 0]))] sz) "java/lang/IndexOutOfBoundsException" (fun u => [(a0, .inr (9, [.ref a1, .ref a2, .int 0, .int 0, .int 0])), (a1, .inr (2, [.int 0, .ref a3, .int 8, .int (-1), .int 0, .int 0, .int 0, .int 0])), (a3, .inr (0, [.int 0, .ref e0, .int 0]))])) 1 6 (va_A [(a0, .inr (9, [.ref a1, .ref a2, .int 0, .int 0, .int 0])), (a1, .inr (2, [.int 0, .ref a3, .int 8, .int (-1), .int 0, .int 0, .int 0, .int 0])), (a3, .inr (0, [.int 0, .ref e0, .int 0]))] sz) := by
  refine zk_MX (by decide) (Nat.le_of_ble_eq_true rfl) ?_
  intro p e s m args below meth c A ls hx hb hml hr hlk hown hnm hts hP hD hS hA hC hl hnx
  have hK := hC.1
  have hN := hC.2.1
  have hl : lv_has ls 2 [(0, .ref a0), (1, .int p0)] := hl
  generalize hHH : s.heap = H at hP ⊢
  have hS : va_S A s.heap H [] := by rw [← hHH]; exact hS
  refine W.widen (k := 0) (n := 0) (Nat.le_of_ble_eq_true rfl) (Nat.le_of_ble_eq_true rfl) ?_
  refine lv_aload_n hx hb dX10_hasRoom_0 rfl (lv_at hl 0 rfl) ?_
  refine lv_iload_n hx hb dX10_hasRoom_1 rfl (lv_at hl 1 rfl) ?_
  refine zk_x (wr := []) (vx_runV (As := [.int p0]) (rest := []) ⟨hx, hb, hml, hown, hts⟩ (kX10_stageOf_0 l hst D yc e0 H.size a0 p0 a1 a2 a3) (cwV 1 hts (lw_V wq254 wq256 ws2 wq1 wq257) rfl rfl rfl (by decide +kernel) ⟨(Nat.le_of_ble_eq_true rfl), (Nat.le_of_ble_eq_true rfl)⟩) (zk_pV hC hP hD hS hA [0, 1, 2] rfl rfl 0 9 rfl rfl) rfl rfl hl.1 rfl (lv_room (Nat.le_of_ble_eq_true rfl)) dX10_hasRoom_2 ⟨(Nat.le_of_ble_eq_true rfl), (Nat.le_of_ble_eq_true rfl)⟩) hP hD hS hA [0, 1, 2] [] rfl rfl rfl (by decide) (fun u1 ce q9 H locs hP hD hS hce hcv hcl => ?_)
  have hP : va_P D vwCl [(a0, .inr (9, [.ref a1, .ref a2, .int 0, .int 0, .int 0])), (a1, .inr (2, [.int 0, .ref a3, .int 8, .int (-1), .int 0, .int 0, .int 0, .int 0])), (a3, .inr (0, [.int 0, .ref e0, .int 0]))] H := hP
  have hD : va_D A [(a0, .inr (9, [.ref a1, .ref a2, .int 0, .int 0, .int 0])), (a1, .inr (2, [.int 0, .ref a3, .int 8, .int (-1), .int 0, .int 0, .int 0, .int 0])), (a3, .inr (0, [.int 0, .ref e0, .int 0]))] := hD
  exact vx_out (fun x9 hx9 => (hnx x9 hx9).elim) hlk hce hcv hcl (zk_out hP hD hS (fun _ _ => 0) [0, 1, 2] rfl rfl) hS.2.2 (Nat.le_of_ble_eq_true rfl) (Nat.le_of_ble_eq_true rfl)
set_option maxHeartbeats 4000000 in
set_option maxRecDepth 100000 in
theorem kL_hasRoom_0 (l : Launch) (hst : l.stackTraces = false) (D : va_G) (yc : Nat → ClassId) (e0 sz : Nat) (a0 : Nat) (p0 : Int32) (a1 : Nat) (a2 : Nat) (a3 : Nat) (a4 : Nat)  : Met l yL_hasRoom (ww_ yL_hasRoom cL_hasRoom 4 (some .int) [(0, 16, 19, 21)]) ({ frames := 8, cells := 1, slots := 6, locals := 124 }) (PR D yc e0 [(a0, .inr (9, [.ref a2, .ref a3, .int 0, .int 0, .int 0])), (a2, .inr (2, [.int 0, .ref a4, .int 8, .int (-1), .int 0, .int 0, .int 0, .int 0])), (a4, .inr (0, [.int 0, .ref e0, .int 0]))] sz [.ref a0, .int p0, .ref a1]) (va_Qi (fun r u => r = (fun u : Nat → Nat → Nat => 1) u) (WD D (va_A [(a0, .inr (9, [.ref a2, .ref a3, .int 0, .int 0, .int 0])), (a2, .inr (2, [.int 0, .ref a4, .int 8, .int (-1), .int 0, .int 0, .int 0, .int 0])), (a4, .inr (0, [.int 0, .ref e0, .int 0]))] sz) (fun u => [(a0, .inr (9, [.ref a2, .ref a3, .int 0, .int 0, .int 0])), (a2, .inr (2, [.int 0, .ref a4, .int 8, .int (-1), .int 0, .int 0, .int 0, .int 0])), (a4, .inr (0, [.int 0, .ref e0, .int 0]))])) (va_A [(a0, .inr (9, [.ref a2, .ref a3, .int 0, .int 0, .int 0])), (a2, .inr (2, [.int 0, .ref a4, .int 8, .int (-1), .int 0, .int 0, .int 0, .int 0])), (a4, .inr (0, [.int 0, .ref e0, .int 0]))] sz)) 1 6 (va_A [(a0, .inr (9, [.ref a2, .ref a3, .int 0, .int 0, .int 0])), (a2, .inr (2, [.int 0, .ref a4, .int 8, .int (-1), .int 0, .int 0, .int 0, .int 0])), (a4, .inr (0, [.int 0, .ref e0, .int 0]))] sz) := by
  refine zk_MW (Qc := fun A => va_Qi (fun r u => r = (fun u : Nat → Nat → Nat => 1) u) (WD D A (fun u => [(a0, .inr (9, [.ref a2, .ref a3, .int 0, .int 0, .int 0])), (a2, .inr (2, [.int 0, .ref a4, .int 8, .int (-1), .int 0, .int 0, .int 0, .int 0])), (a4, .inr (0, [.int 0, .ref e0, .int 0]))])) A) (by decide) (Nat.le_of_ble_eq_true rfl) ?_
  intro p e s m args below meth c A ls hx hb hml hr hlk hown hts hP hD hS hA hC hl hex
  have hK := hC.1
  have hN := hC.2.1
  have hl : lv_has ls 4 [(0, .ref a0), (1, .int p0), (2, .ref a1)] := hl
  generalize hHH : s.heap = H at hP ⊢
  have hS : va_S A s.heap H [] := by rw [← hHH]; exact hS
  refine lv_aload_n hx hb dL_hasRoom_0 rfl (lv_at hl 2 rfl) ?_
  refine lv_iconst (v := 0) hx hb dL_hasRoom_1 (by decide) ?_
  refine lv_aload_n hx hb dL_hasRoom_2 rfl (lv_at hl 0 rfl) ?_
  refine lv_iload_n hx hb dL_hasRoom_3 rfl (lv_at hl 1 rfl) ?_
  refine zk_x (wr := []) (vx_runV (As := [.int p0]) (rest := [.int 0, .ref a1]) ⟨hx, hb, hml, hown, hts⟩ (kX10_hasRoom_0 l hst D yc e0 H.size a0 p0 a2 a3 a4) (cwV 1 hts (lw_V wq1243 wq359 wq360 wq1 wq361) rfl rfl rfl (by decide +kernel) ⟨(Nat.le_of_ble_eq_true rfl), (Nat.le_of_ble_eq_true rfl)⟩) (zk_pV hC hP hD hS hA [0, 1, 2] rfl rfl 0 9 rfl rfl) rfl rfl hl.1 rfl (lv_room (Nat.le_of_ble_eq_true rfl)) dL_hasRoom_4 ⟨(Nat.le_of_ble_eq_true rfl), (Nat.le_of_ble_eq_true rfl)⟩) hP hD hS hA [0, 1, 2] [] rfl rfl rfl (by decide) (fun u1 ce q9 H locs hP hD hS hce hcv hcl => ?_)
  have hP : va_P D vwCl [(a0, .inr (9, [.ref a2, .ref a3, .int 0, .int 0, .int 0])), (a2, .inr (2, [.int 0, .ref a4, .int 8, .int (-1), .int 0, .int 0, .int 0, .int 0])), (a4, .inr (0, [.int 0, .ref e0, .int 0]))] H := hP
  have hD : va_D A [(a0, .inr (9, [.ref a2, .ref a3, .int 0, .int 0, .int 0])), (a2, .inr (2, [.int 0, .ref a4, .int 8, .int (-1), .int 0, .int 0, .int 0, .int 0])), (a4, .inr (0, [.int 0, .ref e0, .int 0]))] := hD
  refine vx_catch (own := RL) (name := "java/lang/IndexOutOfBoundsException") hown (tableOf []) ⟨0, 16, 19, 21⟩ (tableOf []) hex (fun z hz => False.elim (List.not_mem_nil hz)) (by decide) (by decide) (hts _ wq833) (zk_tab rfl (hN _ wr261 rfl)) hce hcv hcl ?_
  refine W.widen (k := 1) (n := 6) (Nat.le_of_ble_eq_true rfl) (Nat.le_of_ble_eq_true rfl) ?_
  refine lv_astore_n (lv' := [(3, .ref q9), (0, .ref a0), (1, .int p0), (2, .ref a1)]) hx hb dL_hasRoom_19 rfl hl (by decide) rfl (fun ls hl => ?_)
  refine lv_iconst (v := 1) hx hb dL_hasRoom_20 (by decide) ?_
  exact zk_ri (r0 := fun u => 1) (w1 := fun u => [(a0, .inr (9, [.ref a2, .ref a3, .int 0, .int 0, .int 0])), (a2, .inr (2, [.int 0, .ref a4, .int 8, .int (-1), .int 0, .int 0, .int 0, .int 0])), (a4, .inr (0, [.int 0, .ref e0, .int 0]))]) hx hb hr hlk hP hD hS (fun _ _ => 0) rfl rfl [0, 1, 2] rfl rfl (Nat.le_of_ble_eq_true rfl) (Nat.le_of_ble_eq_true rfl) dL_hasRoom_21
set_option maxHeartbeats 4000000 in
set_option maxRecDepth 100000 in
theorem kX14_hasRoom_0 (l : Launch) (hst : l.stackTraces = false) (D : va_G) (yc : Nat → ClassId) (e0 sz : Nat) (a0 : Nat) (p0 : Int32) (a1 : Nat) (a2 : Nat) (a3 : Nat) (a4 : Nat) (a5 : Nat) (a6 : Nat) (a7 : Nat)  : Met l yX14_hasRoom (ws_ yX14_hasRoom cX14_hasRoom 2 (some .boolean)) ({ frames := 3, cells := 0, slots := 0, locals := 64 }) (PR D yc e0 [(a0, .inr (13, [.int 0, .int 0, .ref a1, .ref a2, .ref a3, .ref a4, .ref a5, .ref a6, .ref a7, .int 0, .long 0]))] sz [.ref a0, .int p0]) (va_Qi (fun r u => r = (fun u : Nat → Nat → Nat => 0) u) (WD D (va_A [(a0, .inr (13, [.int 0, .int 0, .ref a1, .ref a2, .ref a3, .ref a4, .ref a5, .ref a6, .ref a7, .int 0, .long 0]))] sz) (fun u => [(a0, .inr (13, [.int 0, .int 0, .ref a1, .ref a2, .ref a3, .ref a4, .ref a5, .ref a6, .ref a7, .int 1, .long 0]))])) (va_A [(a0, .inr (13, [.int 0, .int 0, .ref a1, .ref a2, .ref a3, .ref a4, .ref a5, .ref a6, .ref a7, .int 0, .long 0]))] sz)) 0 0 (va_A [(a0, .inr (13, [.int 0, .int 0, .ref a1, .ref a2, .ref a3, .ref a4, .ref a5, .ref a6, .ref a7, .int 0, .long 0]))] sz) := by
  refine zk_M (Qc := fun A => va_Qi (fun r u => r = (fun u : Nat → Nat → Nat => 0) u) (WD D A (fun u => [(a0, .inr (13, [.int 0, .int 0, .ref a1, .ref a2, .ref a3, .ref a4, .ref a5, .ref a6, .ref a7, .int 1, .long 0]))])) A) (by decide) (Nat.le_of_ble_eq_true rfl) ?_
  intro p e s m args below meth c A ls hx hb hml hr hlk hown hnm hts hP hD hS hA hC hl
  have hK := hC.1
  have hN := hC.2.1
  have hl : lv_has ls 2 [(0, .ref a0), (1, .int p0)] := hl
  generalize hHH : s.heap = H at hP ⊢
  have hS : va_S A s.heap H [] := by rw [← hHH]; exact hS
  refine lv_aload_n hx hb dX14_hasRoom_0 rfl (lv_at hl 0 rfl) ?_
  refine lv_iload_n hx hb dX14_hasRoom_1 rfl (lv_at hl 1 rfl) ?_
  refine zk_i (wr := []) (va_runV (As := [.int p0]) (rest := []) ⟨hx, hb, hml, hown, hts⟩ (kX14_has_0 l hst D yc e0 H.size a0 p0 a1 a2 a3 a4 a5 a6 a7) (cwV 1 hts (lw_V wq1847 wq1849 ws63 wq6 wq1850) rfl rfl rfl (by decide +kernel) ⟨(Nat.le_of_ble_eq_true rfl), (Nat.le_of_ble_eq_true rfl)⟩) (zk_pV hC hP hD hS hA [0] rfl rfl 0 13 rfl rfl) rfl rfl hl.1 rfl (lv_room (Nat.le_of_ble_eq_true rfl)) dX14_hasRoom_2 ⟨(Nat.le_of_ble_eq_true rfl), (Nat.le_of_ble_eq_true rfl)⟩) hP hD hS hA [0] [] rfl rfl rfl (by decide) (fun u1 H locs hP hD hS => ?_)
  have hP : va_P D vwCl [(a0, .inr (13, [.int 0, .int 0, .ref a1, .ref a2, .ref a3, .ref a4, .ref a5, .ref a6, .ref a7, .int 1, .long 0]))] H := hP
  have hD : va_D A [(a0, .inr (13, [.int 0, .int 0, .ref a1, .ref a2, .ref a3, .ref a4, .ref a5, .ref a6, .ref a7, .int 1, .long 0]))] := hD
  refine W.widen (k := 0) (n := 0) (Nat.le_of_ble_eq_true rfl) (Nat.le_of_ble_eq_true rfl) ?_
  refine lv_if_eq (tgt := 23) hx hb dX14_hasRoom_5 (by decide) (fun _ => ?_) (fun h9 => absurd (by decide) h9)
  refine lv_iconst (v := 0) hx hb dX14_hasRoom_23 (by decide) ?_
  exact zk_ri (r0 := fun u => 0) (w1 := fun u => [(a0, .inr (13, [.int 0, .int 0, .ref a1, .ref a2, .ref a3, .ref a4, .ref a5, .ref a6, .ref a7, .int 1, .long 0]))]) hx hb hr hlk hP hD hS (fun _ _ => 0) rfl rfl [0] rfl rfl (Nat.le_of_ble_eq_true rfl) (Nat.le_of_ble_eq_true rfl) dX14_hasRoom_24
set_option maxHeartbeats 4000000 in
set_option maxRecDepth 100000 in
theorem kX10_queued_0 (l : Launch) (hst : l.stackTraces = false) (D : va_G) (yc : Nat → ClassId) (e0 sz : Nat) (a0 : Nat) (p0 : Int32) (a1 : Nat) (a2 : Nat) (a3 : Nat)  : vx_Met l yX10_queued (ws_ yX10_queued cX10_queued 4 (some .int)) ({ frames := 7, cells := 1, slots := 6, locals := 103 }) (PR D yc e0 [(a0, .inr (9, [.ref a1, .ref a2, .int 0, .int 0, .int 0])), (a1, .inr (2, [.int 0, .ref a3, .int 8, .int (-1), .int 0, .int 0, .int 0, .int 0])), (a3, .inr (0, [.int 0, .ref e0, .int 0]))] sz [.ref a0, .int p0, .int 0]) (fun _ _ _ _ => False) (zk_X D (va_A [(a0, .inr (9, [.ref a1, .ref a2, .int 0, .int 0, .int 0])), (a1, .inr (2, [.int 0, .ref a3, .int 8, .int (-1), .int 0, .int 0, .int 0, .int 0])), (a3, .inr (0, [.int 0, .ref e0, .int 0]))] sz) "java/lang/IndexOutOfBoundsException" (fun u => [(a0, .inr (9, [.ref a1, .ref a2, .int 0, .int 0, .int 0])), (a1, .inr (2, [.int 0, .ref a3, .int 8, .int (-1), .int 0, .int 0, .int 0, .int 0])), (a3, .inr (0, [.int 0, .ref e0, .int 0]))])) 1 6 (va_A [(a0, .inr (9, [.ref a1, .ref a2, .int 0, .int 0, .int 0])), (a1, .inr (2, [.int 0, .ref a3, .int 8, .int (-1), .int 0, .int 0, .int 0, .int 0])), (a3, .inr (0, [.int 0, .ref e0, .int 0]))] sz) := by
  refine zk_MX (by decide) (Nat.le_of_ble_eq_true rfl) ?_
  intro p e s m args below meth c A ls hx hb hml hr hlk hown hnm hts hP hD hS hA hC hl hnx
  have hK := hC.1
  have hN := hC.2.1
  have hl : lv_has ls 4 [(0, .ref a0), (1, .int p0), (2, .int 0)] := hl
  generalize hHH : s.heap = H at hP ⊢
  have hS : va_S A s.heap H [] := by rw [← hHH]; exact hS
  refine W.widen (k := 0) (n := 0) (Nat.le_of_ble_eq_true rfl) (Nat.le_of_ble_eq_true rfl) ?_
  refine lv_aload_n hx hb dX10_queued_0 rfl (lv_at hl 0 rfl) ?_
  refine lv_iload_n hx hb dX10_queued_1 rfl (lv_at hl 1 rfl) ?_
  refine zk_x (wr := []) (vx_runV (As := [.int p0]) (rest := []) ⟨hx, hb, hml, hown, hts⟩ (kX10_stageOf_0 l hst D yc e0 H.size a0 p0 a1 a2 a3) (cwV 1 hts (lw_V wq254 wq256 ws2 wq1 wq257) rfl rfl rfl (by decide +kernel) ⟨(Nat.le_of_ble_eq_true rfl), (Nat.le_of_ble_eq_true rfl)⟩) (zk_pV hC hP hD hS hA [0, 1, 2] rfl rfl 0 9 rfl rfl) rfl rfl hl.1 rfl (lv_room (Nat.le_of_ble_eq_true rfl)) dX10_queued_2 ⟨(Nat.le_of_ble_eq_true rfl), (Nat.le_of_ble_eq_true rfl)⟩) hP hD hS hA [0, 1, 2] [] rfl rfl rfl (by decide) (fun u1 ce q9 H locs hP hD hS hce hcv hcl => ?_)
  have hP : va_P D vwCl [(a0, .inr (9, [.ref a1, .ref a2, .int 0, .int 0, .int 0])), (a1, .inr (2, [.int 0, .ref a3, .int 8, .int (-1), .int 0, .int 0, .int 0, .int 0])), (a3, .inr (0, [.int 0, .ref e0, .int 0]))] H := hP
  have hD : va_D A [(a0, .inr (9, [.ref a1, .ref a2, .int 0, .int 0, .int 0])), (a1, .inr (2, [.int 0, .ref a3, .int 8, .int (-1), .int 0, .int 0, .int 0, .int 0])), (a3, .inr (0, [.int 0, .ref e0, .int 0]))] := hD
  exact vx_out (fun x9 hx9 => (hnx x9 hx9).elim) hlk hce hcv hcl (zk_out hP hD hS (fun _ _ => 0) [0, 1, 2] rfl rfl) hS.2.2 (Nat.le_of_ble_eq_true rfl) (Nat.le_of_ble_eq_true rfl)
set_option maxHeartbeats 4000000 in
set_option maxRecDepth 100000 in
theorem kL_queued_0 (l : Launch) (hst : l.stackTraces = false) (D : va_G) (yc : Nat → ClassId) (e0 sz : Nat) (a0 : Nat) (p0 : Int32) (a1 : Nat) (a2 : Nat) (a3 : Nat) (a4 : Nat)  : Met l yL_queued (ww_ yL_queued cL_queued 5 (some .int) [(0, 10, 13, 21)]) ({ frames := 8, cells := 1, slots := 6, locals := 126 }) (PR D yc e0 [(a0, .inr (9, [.ref a2, .ref a3, .int 0, .int 0, .int 0])), (a2, .inr (2, [.int 0, .ref a4, .int 8, .int (-1), .int 0, .int 0, .int 0, .int 0])), (a4, .inr (0, [.int 0, .ref e0, .int 0]))] sz [.ref a0, .int p0, .int 0, .ref a1]) (va_Qi (fun r u => r = (fun u : Nat → Nat → Nat => 1) u) (WD D (va_A [(a0, .inr (9, [.ref a2, .ref a3, .int 0, .int 0, .int 0])), (a2, .inr (2, [.int 0, .ref a4, .int 8, .int (-1), .int 0, .int 0, .int 0, .int 0])), (a4, .inr (0, [.int 0, .ref e0, .int 0]))] sz) (fun u => [(a0, .inr (9, [.ref a2, .ref a3, .int 0, .int 0, .int 0])), (a2, .inr (2, [.int 0, .ref a4, .int 8, .int (-1), .int 0, .int 0, .int 0, .int 0])), (a4, .inr (0, [.int 0, .ref e0, .int 0]))])) (va_A [(a0, .inr (9, [.ref a2, .ref a3, .int 0, .int 0, .int 0])), (a2, .inr (2, [.int 0, .ref a4, .int 8, .int (-1), .int 0, .int 0, .int 0, .int 0])), (a4, .inr (0, [.int 0, .ref e0, .int 0]))] sz)) 1 6 (va_A [(a0, .inr (9, [.ref a2, .ref a3, .int 0, .int 0, .int 0])), (a2, .inr (2, [.int 0, .ref a4, .int 8, .int (-1), .int 0, .int 0, .int 0, .int 0])), (a4, .inr (0, [.int 0, .ref e0, .int 0]))] sz) := by
  refine zk_MW (Qc := fun A => va_Qi (fun r u => r = (fun u : Nat → Nat → Nat => 1) u) (WD D A (fun u => [(a0, .inr (9, [.ref a2, .ref a3, .int 0, .int 0, .int 0])), (a2, .inr (2, [.int 0, .ref a4, .int 8, .int (-1), .int 0, .int 0, .int 0, .int 0])), (a4, .inr (0, [.int 0, .ref e0, .int 0]))])) A) (by decide) (Nat.le_of_ble_eq_true rfl) ?_
  intro p e s m args below meth c A ls hx hb hml hr hlk hown hts hP hD hS hA hC hl hex
  have hK := hC.1
  have hN := hC.2.1
  have hl : lv_has ls 5 [(0, .ref a0), (1, .int p0), (2, .int 0), (3, .ref a1)] := hl
  generalize hHH : s.heap = H at hP ⊢
  have hS : va_S A s.heap H [] := by rw [← hHH]; exact hS
  refine lv_aload_n hx hb dL_queued_0 rfl (lv_at hl 3 rfl) ?_
  refine lv_iconst (v := 0) hx hb dL_queued_1 (by decide) ?_
  refine lv_aload_n hx hb dL_queued_2 rfl (lv_at hl 0 rfl) ?_
  refine lv_iload_n hx hb dL_queued_3 rfl (lv_at hl 1 rfl) ?_
  refine lv_iload_n hx hb dL_queued_4 rfl (lv_at hl 2 rfl) ?_
  refine zk_x (wr := []) (vx_runV (As := [.int p0, .int 0]) (rest := [.int 0, .ref a1]) ⟨hx, hb, hml, hown, hts⟩ (kX10_queued_0 l hst D yc e0 H.size a0 p0 a2 a3 a4) (cwV 2 hts (lw_V wq1247 wq364 wq365 wq1 wq366) rfl rfl rfl (by decide +kernel) ⟨(Nat.le_of_ble_eq_true rfl), (Nat.le_of_ble_eq_true rfl)⟩) (zk_pV hC hP hD hS hA [0, 1, 2] rfl rfl 0 9 rfl rfl) rfl rfl hl.1 rfl (lv_room (Nat.le_of_ble_eq_true rfl)) dL_queued_5 ⟨(Nat.le_of_ble_eq_true rfl), (Nat.le_of_ble_eq_true rfl)⟩) hP hD hS hA [0, 1, 2] [] rfl rfl rfl (by decide) (fun u1 ce q9 H locs hP hD hS hce hcv hcl => ?_)
  have hP : va_P D vwCl [(a0, .inr (9, [.ref a2, .ref a3, .int 0, .int 0, .int 0])), (a2, .inr (2, [.int 0, .ref a4, .int 8, .int (-1), .int 0, .int 0, .int 0, .int 0])), (a4, .inr (0, [.int 0, .ref e0, .int 0]))] H := hP
  have hD : va_D A [(a0, .inr (9, [.ref a2, .ref a3, .int 0, .int 0, .int 0])), (a2, .inr (2, [.int 0, .ref a4, .int 8, .int (-1), .int 0, .int 0, .int 0, .int 0])), (a4, .inr (0, [.int 0, .ref e0, .int 0]))] := hD
  refine vx_catch (own := RL) (name := "java/lang/IndexOutOfBoundsException") hown (tableOf []) ⟨0, 10, 13, 21⟩ (tableOf []) hex (fun z hz => False.elim (List.not_mem_nil hz)) (by decide) (by decide) (hts _ wq833) (zk_tab rfl (hN _ wr261 rfl)) hce hcv hcl ?_
  refine W.widen (k := 1) (n := 6) (Nat.le_of_ble_eq_true rfl) (Nat.le_of_ble_eq_true rfl) ?_
  refine lv_astore (lv' := [(4, .ref q9), (0, .ref a0), (1, .int p0), (2, .int 0), (3, .ref a1)]) hx hb dL_queued_13 hl (by decide) rfl (fun ls hl => ?_)
  refine lv_iconst (v := 1) hx hb dL_queued_15 (by decide) ?_
  exact zk_ri (r0 := fun u => 1) (w1 := fun u => [(a0, .inr (9, [.ref a2, .ref a3, .int 0, .int 0, .int 0])), (a2, .inr (2, [.int 0, .ref a4, .int 8, .int (-1), .int 0, .int 0, .int 0, .int 0])), (a4, .inr (0, [.int 0, .ref e0, .int 0]))]) hx hb hr hlk hP hD hS (fun _ _ => 0) rfl rfl [0, 1, 2] rfl rfl (Nat.le_of_ble_eq_true rfl) (Nat.le_of_ble_eq_true rfl) dL_queued_16
set_option maxHeartbeats 4000000 in
set_option maxRecDepth 100000 in
theorem kX14_queued_0 (l : Launch) (hst : l.stackTraces = false) (D : va_G) (yc : Nat → ClassId) (e0 sz : Nat) (a0 : Nat) (p0 : Int32) (a1 : Nat) (a2 : Nat) (a3 : Nat) (a4 : Nat) (a5 : Nat) (a6 : Nat) (a7 : Nat)  : Met l yX14_queued (ws_ yX14_queued cX14_queued 3 (some .int)) ({ frames := 3, cells := 0, slots := 0, locals := 64 }) (PR D yc e0 [(a0, .inr (13, [.int 0, .int 0, .ref a1, .ref a2, .ref a3, .ref a4, .ref a5, .ref a6, .ref a7, .int 0, .long 0]))] sz [.ref a0, .int p0, .int 0]) (va_Qi (fun r u => r = (fun u : Nat → Nat → Nat => 0) u) (WD D (va_A [(a0, .inr (13, [.int 0, .int 0, .ref a1, .ref a2, .ref a3, .ref a4, .ref a5, .ref a6, .ref a7, .int 0, .long 0]))] sz) (fun u => [(a0, .inr (13, [.int 0, .int 0, .ref a1, .ref a2, .ref a3, .ref a4, .ref a5, .ref a6, .ref a7, .int 1, .long 0]))])) (va_A [(a0, .inr (13, [.int 0, .int 0, .ref a1, .ref a2, .ref a3, .ref a4, .ref a5, .ref a6, .ref a7, .int 0, .long 0]))] sz)) 0 0 (va_A [(a0, .inr (13, [.int 0, .int 0, .ref a1, .ref a2, .ref a3, .ref a4, .ref a5, .ref a6, .ref a7, .int 0, .long 0]))] sz) := by
  refine zk_M (Qc := fun A => va_Qi (fun r u => r = (fun u : Nat → Nat → Nat => 0) u) (WD D A (fun u => [(a0, .inr (13, [.int 0, .int 0, .ref a1, .ref a2, .ref a3, .ref a4, .ref a5, .ref a6, .ref a7, .int 1, .long 0]))])) A) (by decide) (Nat.le_of_ble_eq_true rfl) ?_
  intro p e s m args below meth c A ls hx hb hml hr hlk hown hnm hts hP hD hS hA hC hl
  have hK := hC.1
  have hN := hC.2.1
  have hl : lv_has ls 3 [(0, .ref a0), (1, .int p0), (2, .int 0)] := hl
  generalize hHH : s.heap = H at hP ⊢
  have hS : va_S A s.heap H [] := by rw [← hHH]; exact hS
  refine lv_aload_n hx hb dX14_queued_0 rfl (lv_at hl 0 rfl) ?_
  refine lv_iload_n hx hb dX14_queued_1 rfl (lv_at hl 1 rfl) ?_
  refine zk_i (wr := []) (va_runV (As := [.int p0]) (rest := []) ⟨hx, hb, hml, hown, hts⟩ (kX14_has_0 l hst D yc e0 H.size a0 p0 a1 a2 a3 a4 a5 a6 a7) (cwV 1 hts (lw_V wq1847 wq1849 ws63 wq6 wq1850) rfl rfl rfl (by decide +kernel) ⟨(Nat.le_of_ble_eq_true rfl), (Nat.le_of_ble_eq_true rfl)⟩) (zk_pV hC hP hD hS hA [0] rfl rfl 0 13 rfl rfl) rfl rfl hl.1 rfl (lv_room (Nat.le_of_ble_eq_true rfl)) dX14_queued_2 ⟨(Nat.le_of_ble_eq_true rfl), (Nat.le_of_ble_eq_true rfl)⟩) hP hD hS hA [0] [] rfl rfl rfl (by decide) (fun u1 H locs hP hD hS => ?_)
  have hP : va_P D vwCl [(a0, .inr (13, [.int 0, .int 0, .ref a1, .ref a2, .ref a3, .ref a4, .ref a5, .ref a6, .ref a7, .int 1, .long 0]))] H := hP
  have hD : va_D A [(a0, .inr (13, [.int 0, .int 0, .ref a1, .ref a2, .ref a3, .ref a4, .ref a5, .ref a6, .ref a7, .int 1, .long 0]))] := hD
  refine W.widen (k := 0) (n := 0) (Nat.le_of_ble_eq_true rfl) (Nat.le_of_ble_eq_true rfl) ?_
  refine lv_if_eq (tgt := 25) hx hb dX14_queued_5 (by decide) (fun _ => ?_) (fun h9 => absurd (by decide) h9)
  refine lv_iconst (v := 0) hx hb dX14_queued_25 (by decide) ?_
  exact zk_ri (r0 := fun u => 0) (w1 := fun u => [(a0, .inr (13, [.int 0, .int 0, .ref a1, .ref a2, .ref a3, .ref a4, .ref a5, .ref a6, .ref a7, .int 1, .long 0]))]) hx hb hr hlk hP hD hS (fun _ _ => 0) rfl rfl [0] rfl rfl (Nat.le_of_ble_eq_true rfl) (Nat.le_of_ble_eq_true rfl) dX14_queued_26
set_option maxHeartbeats 4000000 in
set_option maxRecDepth 100000 in
theorem kX10_queued_1 (l : Launch) (hst : l.stackTraces = false) (D : va_G) (yc : Nat → ClassId) (e0 sz : Nat) (a0 : Nat) (p0 : Int32) (a1 : Nat) (a2 : Nat) (a3 : Nat)  : vx_Met l yX10_queued (ws_ yX10_queued cX10_queued 4 (some .int)) ({ frames := 7, cells := 1, slots := 6, locals := 103 }) (PR D yc e0 [(a0, .inr (9, [.ref a1, .ref a2, .int 0, .int 0, .int 0])), (a1, .inr (2, [.int 0, .ref a3, .int 8, .int (-1), .int 0, .int 0, .int 0, .int 0])), (a3, .inr (0, [.int 0, .ref e0, .int 0]))] sz [.ref a0, .int p0, .int 1]) (fun _ _ _ _ => False) (zk_X D (va_A [(a0, .inr (9, [.ref a1, .ref a2, .int 0, .int 0, .int 0])), (a1, .inr (2, [.int 0, .ref a3, .int 8, .int (-1), .int 0, .int 0, .int 0, .int 0])), (a3, .inr (0, [.int 0, .ref e0, .int 0]))] sz) "java/lang/IndexOutOfBoundsException" (fun u => [(a0, .inr (9, [.ref a1, .ref a2, .int 0, .int 0, .int 0])), (a1, .inr (2, [.int 0, .ref a3, .int 8, .int (-1), .int 0, .int 0, .int 0, .int 0])), (a3, .inr (0, [.int 0, .ref e0, .int 0]))])) 1 6 (va_A [(a0, .inr (9, [.ref a1, .ref a2, .int 0, .int 0, .int 0])), (a1, .inr (2, [.int 0, .ref a3, .int 8, .int (-1), .int 0, .int 0, .int 0, .int 0])), (a3, .inr (0, [.int 0, .ref e0, .int 0]))] sz) := by
  refine zk_MX (by decide) (Nat.le_of_ble_eq_true rfl) ?_
  intro p e s m args below meth c A ls hx hb hml hr hlk hown hnm hts hP hD hS hA hC hl hnx
  have hK := hC.1
  have hN := hC.2.1
  have hl : lv_has ls 4 [(0, .ref a0), (1, .int p0), (2, .int 1)] := hl
  generalize hHH : s.heap = H at hP ⊢
  have hS : va_S A s.heap H [] := by rw [← hHH]; exact hS
  refine W.widen (k := 0) (n := 0) (Nat.le_of_ble_eq_true rfl) (Nat.le_of_ble_eq_true rfl) ?_
  refine lv_aload_n hx hb dX10_queued_0 rfl (lv_at hl 0 rfl) ?_
  refine lv_iload_n hx hb dX10_queued_1 rfl (lv_at hl 1 rfl) ?_
  refine zk_x (wr := []) (vx_runV (As := [.int p0]) (rest := []) ⟨hx, hb, hml, hown, hts⟩ (kX10_stageOf_0 l hst D yc e0 H.size a0 p0 a1 a2 a3) (cwV 1 hts (lw_V wq254 wq256 ws2 wq1 wq257) rfl rfl rfl (by decide +kernel) ⟨(Nat.le_of_ble_eq_true rfl), (Nat.le_of_ble_eq_true rfl)⟩) (zk_pV hC hP hD hS hA [0, 1, 2] rfl rfl 0 9 rfl rfl) rfl rfl hl.1 rfl (lv_room (Nat.le_of_ble_eq_true rfl)) dX10_queued_2 ⟨(Nat.le_of_ble_eq_true rfl), (Nat.le_of_ble_eq_true rfl)⟩) hP hD hS hA [0, 1, 2] [] rfl rfl rfl (by decide) (fun u1 ce q9 H locs hP hD hS hce hcv hcl => ?_)
  have hP : va_P D vwCl [(a0, .inr (9, [.ref a1, .ref a2, .int 0, .int 0, .int 0])), (a1, .inr (2, [.int 0, .ref a3, .int 8, .int (-1), .int 0, .int 0, .int 0, .int 0])), (a3, .inr (0, [.int 0, .ref e0, .int 0]))] H := hP
  have hD : va_D A [(a0, .inr (9, [.ref a1, .ref a2, .int 0, .int 0, .int 0])), (a1, .inr (2, [.int 0, .ref a3, .int 8, .int (-1), .int 0, .int 0, .int 0, .int 0])), (a3, .inr (0, [.int 0, .ref e0, .int 0]))] := hD
  exact vx_out (fun x9 hx9 => (hnx x9 hx9).elim) hlk hce hcv hcl (zk_out hP hD hS (fun _ _ => 0) [0, 1, 2] rfl rfl) hS.2.2 (Nat.le_of_ble_eq_true rfl) (Nat.le_of_ble_eq_true rfl)
set_option maxHeartbeats 4000000 in
set_option maxRecDepth 100000 in
theorem kL_queued_1 (l : Launch) (hst : l.stackTraces = false) (D : va_G) (yc : Nat → ClassId) (e0 sz : Nat) (a0 : Nat) (p0 : Int32) (a1 : Nat) (a2 : Nat) (a3 : Nat) (a4 : Nat)  : Met l yL_queued (ww_ yL_queued cL_queued 5 (some .int) [(0, 10, 13, 21)]) ({ frames := 8, cells := 1, slots := 6, locals := 126 }) (PR D yc e0 [(a0, .inr (9, [.ref a2, .ref a3, .int 0, .int 0, .int 0])), (a2, .inr (2, [.int 0, .ref a4, .int 8, .int (-1), .int 0, .int 0, .int 0, .int 0])), (a4, .inr (0, [.int 0, .ref e0, .int 0]))] sz [.ref a0, .int p0, .int 1, .ref a1]) (va_Qi (fun r u => r = (fun u : Nat → Nat → Nat => 1) u) (WD D (va_A [(a0, .inr (9, [.ref a2, .ref a3, .int 0, .int 0, .int 0])), (a2, .inr (2, [.int 0, .ref a4, .int 8, .int (-1), .int 0, .int 0, .int 0, .int 0])), (a4, .inr (0, [.int 0, .ref e0, .int 0]))] sz) (fun u => [(a0, .inr (9, [.ref a2, .ref a3, .int 0, .int 0, .int 0])), (a2, .inr (2, [.int 0, .ref a4, .int 8, .int (-1), .int 0, .int 0, .int 0, .int 0])), (a4, .inr (0, [.int 0, .ref e0, .int 0]))])) (va_A [(a0, .inr (9, [.ref a2, .ref a3, .int 0, .int 0, .int 0])), (a2, .inr (2, [.int 0, .ref a4, .int 8, .int (-1), .int 0, .int 0, .int 0, .int 0])), (a4, .inr (0, [.int 0, .ref e0, .int 0]))] sz)) 1 6 (va_A [(a0, .inr (9, [.ref a2, .ref a3, .int 0, .int 0, .int 0])), (a2, .inr (2, [.int 0, .ref a4, .int 8, .int (-1), .int 0, .int 0, .int 0, .int 0])), (a4, .inr (0, [.int 0, .ref e0, .int 0]))] sz) := by
  refine zk_MW (Qc := fun A => va_Qi (fun r u => r = (fun u : Nat → Nat → Nat => 1) u) (WD D A (fun u => [(a0, .inr (9, [.ref a2, .ref a3, .int 0, .int 0, .int 0])), (a2, .inr (2, [.int 0, .ref a4, .int 8, .int (-1), .int 0, .int 0, .int 0, .int 0])), (a4, .inr (0, [.int 0, .ref e0, .int 0]))])) A) (by decide) (Nat.le_of_ble_eq_true rfl) ?_
  intro p e s m args below meth c A ls hx hb hml hr hlk hown hts hP hD hS hA hC hl hex
  have hK := hC.1
  have hN := hC.2.1
  have hl : lv_has ls 5 [(0, .ref a0), (1, .int p0), (2, .int 1), (3, .ref a1)] := hl
  generalize hHH : s.heap = H at hP ⊢
  have hS : va_S A s.heap H [] := by rw [← hHH]; exact hS
  refine lv_aload_n hx hb dL_queued_0 rfl (lv_at hl 3 rfl) ?_
  refine lv_iconst (v := 0) hx hb dL_queued_1 (by decide) ?_
  refine lv_aload_n hx hb dL_queued_2 rfl (lv_at hl 0 rfl) ?_
  refine lv_iload_n hx hb dL_queued_3 rfl (lv_at hl 1 rfl) ?_
  refine lv_iload_n hx hb dL_queued_4 rfl (lv_at hl 2 rfl) ?_
  refine zk_x (wr := []) (vx_runV (As := [.int p0, .int 1]) (rest := [.int 0, .ref a1]) ⟨hx, hb, hml, hown, hts⟩ (kX10_queued_1 l hst D yc e0 H.size a0 p0 a2 a3 a4) (cwV 2 hts (lw_V wq1247 wq364 wq365 wq1 wq366) rfl rfl rfl (by decide +kernel) ⟨(Nat.le_of_ble_eq_true rfl), (Nat.le_of_ble_eq_true rfl)⟩) (zk_pV hC hP hD hS hA [0, 1, 2] rfl rfl 0 9 rfl rfl) rfl rfl hl.1 rfl (lv_room (Nat.le_of_ble_eq_true rfl)) dL_queued_5 ⟨(Nat.le_of_ble_eq_true rfl), (Nat.le_of_ble_eq_true rfl)⟩) hP hD hS hA [0, 1, 2] [] rfl rfl rfl (by decide) (fun u1 ce q9 H locs hP hD hS hce hcv hcl => ?_)
  have hP : va_P D vwCl [(a0, .inr (9, [.ref a2, .ref a3, .int 0, .int 0, .int 0])), (a2, .inr (2, [.int 0, .ref a4, .int 8, .int (-1), .int 0, .int 0, .int 0, .int 0])), (a4, .inr (0, [.int 0, .ref e0, .int 0]))] H := hP
  have hD : va_D A [(a0, .inr (9, [.ref a2, .ref a3, .int 0, .int 0, .int 0])), (a2, .inr (2, [.int 0, .ref a4, .int 8, .int (-1), .int 0, .int 0, .int 0, .int 0])), (a4, .inr (0, [.int 0, .ref e0, .int 0]))] := hD
  refine vx_catch (own := RL) (name := "java/lang/IndexOutOfBoundsException") hown (tableOf []) ⟨0, 10, 13, 21⟩ (tableOf []) hex (fun z hz => False.elim (List.not_mem_nil hz)) (by decide) (by decide) (hts _ wq833) (zk_tab rfl (hN _ wr261 rfl)) hce hcv hcl ?_
  refine W.widen (k := 1) (n := 6) (Nat.le_of_ble_eq_true rfl) (Nat.le_of_ble_eq_true rfl) ?_
  refine lv_astore (lv' := [(4, .ref q9), (0, .ref a0), (1, .int p0), (2, .int 1), (3, .ref a1)]) hx hb dL_queued_13 hl (by decide) rfl (fun ls hl => ?_)
  refine lv_iconst (v := 1) hx hb dL_queued_15 (by decide) ?_
  exact zk_ri (r0 := fun u => 1) (w1 := fun u => [(a0, .inr (9, [.ref a2, .ref a3, .int 0, .int 0, .int 0])), (a2, .inr (2, [.int 0, .ref a4, .int 8, .int (-1), .int 0, .int 0, .int 0, .int 0])), (a4, .inr (0, [.int 0, .ref e0, .int 0]))]) hx hb hr hlk hP hD hS (fun _ _ => 0) rfl rfl [0, 1, 2] rfl rfl (Nat.le_of_ble_eq_true rfl) (Nat.le_of_ble_eq_true rfl) dL_queued_16
set_option maxHeartbeats 4000000 in
set_option maxRecDepth 100000 in
theorem kX14_queued_1 (l : Launch) (hst : l.stackTraces = false) (D : va_G) (yc : Nat → ClassId) (e0 sz : Nat) (a0 : Nat) (p0 : Int32) (a1 : Nat) (a2 : Nat) (a3 : Nat) (a4 : Nat) (a5 : Nat) (a6 : Nat) (a7 : Nat)  : Met l yX14_queued (ws_ yX14_queued cX14_queued 3 (some .int)) ({ frames := 3, cells := 0, slots := 0, locals := 64 }) (PR D yc e0 [(a0, .inr (13, [.int 0, .int 0, .ref a1, .ref a2, .ref a3, .ref a4, .ref a5, .ref a6, .ref a7, .int 0, .long 0]))] sz [.ref a0, .int p0, .int 1]) (va_Qi (fun r u => r = (fun u : Nat → Nat → Nat => 0) u) (WD D (va_A [(a0, .inr (13, [.int 0, .int 0, .ref a1, .ref a2, .ref a3, .ref a4, .ref a5, .ref a6, .ref a7, .int 0, .long 0]))] sz) (fun u => [(a0, .inr (13, [.int 0, .int 0, .ref a1, .ref a2, .ref a3, .ref a4, .ref a5, .ref a6, .ref a7, .int 1, .long 0]))])) (va_A [(a0, .inr (13, [.int 0, .int 0, .ref a1, .ref a2, .ref a3, .ref a4, .ref a5, .ref a6, .ref a7, .int 0, .long 0]))] sz)) 0 0 (va_A [(a0, .inr (13, [.int 0, .int 0, .ref a1, .ref a2, .ref a3, .ref a4, .ref a5, .ref a6, .ref a7, .int 0, .long 0]))] sz) := by
  refine zk_M (Qc := fun A => va_Qi (fun r u => r = (fun u : Nat → Nat → Nat => 0) u) (WD D A (fun u => [(a0, .inr (13, [.int 0, .int 0, .ref a1, .ref a2, .ref a3, .ref a4, .ref a5, .ref a6, .ref a7, .int 1, .long 0]))])) A) (by decide) (Nat.le_of_ble_eq_true rfl) ?_
  intro p e s m args below meth c A ls hx hb hml hr hlk hown hnm hts hP hD hS hA hC hl
  have hK := hC.1
  have hN := hC.2.1
  have hl : lv_has ls 3 [(0, .ref a0), (1, .int p0), (2, .int 1)] := hl
  generalize hHH : s.heap = H at hP ⊢
  have hS : va_S A s.heap H [] := by rw [← hHH]; exact hS
  refine lv_aload_n hx hb dX14_queued_0 rfl (lv_at hl 0 rfl) ?_
  refine lv_iload_n hx hb dX14_queued_1 rfl (lv_at hl 1 rfl) ?_
  refine zk_i (wr := []) (va_runV (As := [.int p0]) (rest := []) ⟨hx, hb, hml, hown, hts⟩ (kX14_has_0 l hst D yc e0 H.size a0 p0 a1 a2 a3 a4 a5 a6 a7) (cwV 1 hts (lw_V wq1847 wq1849 ws63 wq6 wq1850) rfl rfl rfl (by decide +kernel) ⟨(Nat.le_of_ble_eq_true rfl), (Nat.le_of_ble_eq_true rfl)⟩) (zk_pV hC hP hD hS hA [0] rfl rfl 0 13 rfl rfl) rfl rfl hl.1 rfl (lv_room (Nat.le_of_ble_eq_true rfl)) dX14_queued_2 ⟨(Nat.le_of_ble_eq_true rfl), (Nat.le_of_ble_eq_true rfl)⟩) hP hD hS hA [0] [] rfl rfl rfl (by decide) (fun u1 H locs hP hD hS => ?_)
  have hP : va_P D vwCl [(a0, .inr (13, [.int 0, .int 0, .ref a1, .ref a2, .ref a3, .ref a4, .ref a5, .ref a6, .ref a7, .int 1, .long 0]))] H := hP
  have hD : va_D A [(a0, .inr (13, [.int 0, .int 0, .ref a1, .ref a2, .ref a3, .ref a4, .ref a5, .ref a6, .ref a7, .int 1, .long 0]))] := hD
  refine W.widen (k := 0) (n := 0) (Nat.le_of_ble_eq_true rfl) (Nat.le_of_ble_eq_true rfl) ?_
  refine lv_if_eq (tgt := 25) hx hb dX14_queued_5 (by decide) (fun _ => ?_) (fun h9 => absurd (by decide) h9)
  refine lv_iconst (v := 0) hx hb dX14_queued_25 (by decide) ?_
  exact zk_ri (r0 := fun u => 0) (w1 := fun u => [(a0, .inr (13, [.int 0, .int 0, .ref a1, .ref a2, .ref a3, .ref a4, .ref a5, .ref a6, .ref a7, .int 1, .long 0]))]) hx hb hr hlk hP hD hS (fun _ _ => 0) rfl rfl [0] rfl rfl (Nat.le_of_ble_eq_true rfl) (Nat.le_of_ble_eq_true rfl) dX14_queued_26
set_option maxHeartbeats 4000000 in
set_option maxRecDepth 100000 in
theorem kX10_isBlocked_0 (l : Launch) (hst : l.stackTraces = false) (D : va_G) (yc : Nat → ClassId) (e0 sz : Nat) (a0 : Nat) (p0 : Int32) (a1 : Nat) (a2 : Nat) (a3 : Nat)  : vx_Met l yX10_isBlocked (ws_ yX10_isBlocked cX10_isBlocked 4 (some .boolean)) ({ frames := 7, cells := 1, slots := 6, locals := 103 }) (PR D yc e0 [(a0, .inr (9, [.ref a1, .ref a2, .int 0, .int 0, .int 0])), (a1, .inr (2, [.int 0, .ref a3, .int 8, .int (-1), .int 0, .int 0, .int 0, .int 0])), (a3, .inr (0, [.int 0, .ref e0, .int 0]))] sz [.ref a0, .int p0, .int 0]) (fun _ _ _ _ => False) (zk_X D (va_A [(a0, .inr (9, [.ref a1, .ref a2, .int 0, .int 0, .int 0])), (a1, .inr (2, [.int 0, .ref a3, .int 8, .int (-1), .int 0, .int 0, .int 0, .int 0])), (a3, .inr (0, [.int 0, .ref e0, .int 0]))] sz) "java/lang/IndexOutOfBoundsException" (fun u => [(a0, .inr (9, [.ref a1, .ref a2, .int 0, .int 0, .int 0])), (a1, .inr (2, [.int 0, .ref a3, .int 8, .int (-1), .int 0, .int 0, .int 0, .int 0])), (a3, .inr (0, [.int 0, .ref e0, .int 0]))])) 1 6 (va_A [(a0, .inr (9, [.ref a1, .ref a2, .int 0, .int 0, .int 0])), (a1, .inr (2, [.int 0, .ref a3, .int 8, .int (-1), .int 0, .int 0, .int 0, .int 0])), (a3, .inr (0, [.int 0, .ref e0, .int 0]))] sz) := by
  refine zk_MX (by decide) (Nat.le_of_ble_eq_true rfl) ?_
  intro p e s m args below meth c A ls hx hb hml hr hlk hown hnm hts hP hD hS hA hC hl hnx
  have hK := hC.1
  have hN := hC.2.1
  have hl : lv_has ls 4 [(0, .ref a0), (1, .int p0), (2, .int 0)] := hl
  generalize hHH : s.heap = H at hP ⊢
  have hS : va_S A s.heap H [] := by rw [← hHH]; exact hS
  refine W.widen (k := 0) (n := 0) (Nat.le_of_ble_eq_true rfl) (Nat.le_of_ble_eq_true rfl) ?_
  refine lv_aload_n hx hb dX10_isBlocked_0 rfl (lv_at hl 0 rfl) ?_
  refine lv_iload_n hx hb dX10_isBlocked_1 rfl (lv_at hl 1 rfl) ?_
  refine zk_x (wr := []) (vx_runV (As := [.int p0]) (rest := []) ⟨hx, hb, hml, hown, hts⟩ (kX10_stageOf_0 l hst D yc e0 H.size a0 p0 a1 a2 a3) (cwV 1 hts (lw_V wq254 wq256 ws2 wq1 wq257) rfl rfl rfl (by decide +kernel) ⟨(Nat.le_of_ble_eq_true rfl), (Nat.le_of_ble_eq_true rfl)⟩) (zk_pV hC hP hD hS hA [0, 1, 2] rfl rfl 0 9 rfl rfl) rfl rfl hl.1 rfl (lv_room (Nat.le_of_ble_eq_true rfl)) dX10_isBlocked_2 ⟨(Nat.le_of_ble_eq_true rfl), (Nat.le_of_ble_eq_true rfl)⟩) hP hD hS hA [0, 1, 2] [] rfl rfl rfl (by decide) (fun u1 ce q9 H locs hP hD hS hce hcv hcl => ?_)
  have hP : va_P D vwCl [(a0, .inr (9, [.ref a1, .ref a2, .int 0, .int 0, .int 0])), (a1, .inr (2, [.int 0, .ref a3, .int 8, .int (-1), .int 0, .int 0, .int 0, .int 0])), (a3, .inr (0, [.int 0, .ref e0, .int 0]))] H := hP
  have hD : va_D A [(a0, .inr (9, [.ref a1, .ref a2, .int 0, .int 0, .int 0])), (a1, .inr (2, [.int 0, .ref a3, .int 8, .int (-1), .int 0, .int 0, .int 0, .int 0])), (a3, .inr (0, [.int 0, .ref e0, .int 0]))] := hD
  exact vx_out (fun x9 hx9 => (hnx x9 hx9).elim) hlk hce hcv hcl (zk_out hP hD hS (fun _ _ => 0) [0, 1, 2] rfl rfl) hS.2.2 (Nat.le_of_ble_eq_true rfl) (Nat.le_of_ble_eq_true rfl)
set_option maxHeartbeats 4000000 in
set_option maxRecDepth 100000 in
theorem kL_isBlocked_0 (l : Launch) (hst : l.stackTraces = false) (D : va_G) (yc : Nat → ClassId) (e0 sz : Nat) (a0 : Nat) (p0 : Int32) (a1 : Nat) (a2 : Nat) (a3 : Nat) (a4 : Nat)  : Met l yL_isBlocked (ww_ yL_isBlocked cL_isBlocked 5 (some .int) [(0, 17, 20, 21)]) ({ frames := 8, cells := 1, slots := 6, locals := 126 }) (PR D yc e0 [(a0, .inr (9, [.ref a2, .ref a3, .int 0, .int 0, .int 0])), (a2, .inr (2, [.int 0, .ref a4, .int 8, .int (-1), .int 0, .int 0, .int 0, .int 0])), (a4, .inr (0, [.int 0, .ref e0, .int 0]))] sz [.ref a0, .int p0, .int 0, .ref a1]) (va_Qi (fun r u => r = (fun u : Nat → Nat → Nat => 1) u) (WD D (va_A [(a0, .inr (9, [.ref a2, .ref a3, .int 0, .int 0, .int 0])), (a2, .inr (2, [.int 0, .ref a4, .int 8, .int (-1), .int 0, .int 0, .int 0, .int 0])), (a4, .inr (0, [.int 0, .ref e0, .int 0]))] sz) (fun u => [(a0, .inr (9, [.ref a2, .ref a3, .int 0, .int 0, .int 0])), (a2, .inr (2, [.int 0, .ref a4, .int 8, .int (-1), .int 0, .int 0, .int 0, .int 0])), (a4, .inr (0, [.int 0, .ref e0, .int 0]))])) (va_A [(a0, .inr (9, [.ref a2, .ref a3, .int 0, .int 0, .int 0])), (a2, .inr (2, [.int 0, .ref a4, .int 8, .int (-1), .int 0, .int 0, .int 0, .int 0])), (a4, .inr (0, [.int 0, .ref e0, .int 0]))] sz)) 1 6 (va_A [(a0, .inr (9, [.ref a2, .ref a3, .int 0, .int 0, .int 0])), (a2, .inr (2, [.int 0, .ref a4, .int 8, .int (-1), .int 0, .int 0, .int 0, .int 0])), (a4, .inr (0, [.int 0, .ref e0, .int 0]))] sz) := by
  refine zk_MW (Qc := fun A => va_Qi (fun r u => r = (fun u : Nat → Nat → Nat => 1) u) (WD D A (fun u => [(a0, .inr (9, [.ref a2, .ref a3, .int 0, .int 0, .int 0])), (a2, .inr (2, [.int 0, .ref a4, .int 8, .int (-1), .int 0, .int 0, .int 0, .int 0])), (a4, .inr (0, [.int 0, .ref e0, .int 0]))])) A) (by decide) (Nat.le_of_ble_eq_true rfl) ?_
  intro p e s m args below meth c A ls hx hb hml hr hlk hown hts hP hD hS hA hC hl hex
  have hK := hC.1
  have hN := hC.2.1
  have hl : lv_has ls 5 [(0, .ref a0), (1, .int p0), (2, .int 0), (3, .ref a1)] := hl
  generalize hHH : s.heap = H at hP ⊢
  have hS : va_S A s.heap H [] := by rw [← hHH]; exact hS
  refine lv_aload_n hx hb dL_isBlocked_0 rfl (lv_at hl 3 rfl) ?_
  refine lv_iconst (v := 0) hx hb dL_isBlocked_1 (by decide) ?_
  refine lv_aload_n hx hb dL_isBlocked_2 rfl (lv_at hl 0 rfl) ?_
  refine lv_iload_n hx hb dL_isBlocked_3 rfl (lv_at hl 1 rfl) ?_
  refine lv_iload_n hx hb dL_isBlocked_4 rfl (lv_at hl 2 rfl) ?_
  refine zk_x (wr := []) (vx_runV (As := [.int p0, .int 0]) (rest := [.int 0, .ref a1]) ⟨hx, hb, hml, hown, hts⟩ (kX10_isBlocked_0 l hst D yc e0 H.size a0 p0 a2 a3 a4) (cwV 2 hts (lw_V wq1251 wq373 wq374 wq1 wq375) rfl rfl rfl (by decide +kernel) ⟨(Nat.le_of_ble_eq_true rfl), (Nat.le_of_ble_eq_true rfl)⟩) (zk_pV hC hP hD hS hA [0, 1, 2] rfl rfl 0 9 rfl rfl) rfl rfl hl.1 rfl (lv_room (Nat.le_of_ble_eq_true rfl)) dL_isBlocked_5 ⟨(Nat.le_of_ble_eq_true rfl), (Nat.le_of_ble_eq_true rfl)⟩) hP hD hS hA [0, 1, 2] [] rfl rfl rfl (by decide) (fun u1 ce q9 H locs hP hD hS hce hcv hcl => ?_)
  have hP : va_P D vwCl [(a0, .inr (9, [.ref a2, .ref a3, .int 0, .int 0, .int 0])), (a2, .inr (2, [.int 0, .ref a4, .int 8, .int (-1), .int 0, .int 0, .int 0, .int 0])), (a4, .inr (0, [.int 0, .ref e0, .int 0]))] H := hP
  have hD : va_D A [(a0, .inr (9, [.ref a2, .ref a3, .int 0, .int 0, .int 0])), (a2, .inr (2, [.int 0, .ref a4, .int 8, .int (-1), .int 0, .int 0, .int 0, .int 0])), (a4, .inr (0, [.int 0, .ref e0, .int 0]))] := hD
  refine vx_catch (own := RL) (name := "java/lang/IndexOutOfBoundsException") hown (tableOf []) ⟨0, 17, 20, 21⟩ (tableOf []) hex (fun z hz => False.elim (List.not_mem_nil hz)) (by decide) (by decide) (hts _ wq833) (zk_tab rfl (hN _ wr261 rfl)) hce hcv hcl ?_
  refine W.widen (k := 1) (n := 6) (Nat.le_of_ble_eq_true rfl) (Nat.le_of_ble_eq_true rfl) ?_
  refine lv_astore (lv' := [(4, .ref q9), (0, .ref a0), (1, .int p0), (2, .int 0), (3, .ref a1)]) hx hb dL_isBlocked_20 hl (by decide) rfl (fun ls hl => ?_)
  refine lv_iconst (v := 1) hx hb dL_isBlocked_22 (by decide) ?_
  exact zk_ri (r0 := fun u => 1) (w1 := fun u => [(a0, .inr (9, [.ref a2, .ref a3, .int 0, .int 0, .int 0])), (a2, .inr (2, [.int 0, .ref a4, .int 8, .int (-1), .int 0, .int 0, .int 0, .int 0])), (a4, .inr (0, [.int 0, .ref e0, .int 0]))]) hx hb hr hlk hP hD hS (fun _ _ => 0) rfl rfl [0, 1, 2] rfl rfl (Nat.le_of_ble_eq_true rfl) (Nat.le_of_ble_eq_true rfl) dL_isBlocked_23
set_option maxHeartbeats 4000000 in
set_option maxRecDepth 100000 in
theorem kX14_isBlocked_0 (l : Launch) (hst : l.stackTraces = false) (D : va_G) (yc : Nat → ClassId) (e0 sz : Nat) (a0 : Nat) (p0 : Int32) (a1 : Nat) (a2 : Nat) (a3 : Nat) (a4 : Nat) (a5 : Nat) (a6 : Nat) (a7 : Nat)  : Met l yX14_isBlocked (ws_ yX14_isBlocked cX14_isBlocked 3 (some .boolean)) ({ frames := 3, cells := 0, slots := 0, locals := 64 }) (PR D yc e0 [(a0, .inr (13, [.int 0, .int 0, .ref a1, .ref a2, .ref a3, .ref a4, .ref a5, .ref a6, .ref a7, .int 0, .long 0]))] sz [.ref a0, .int p0, .int 0]) (va_Qi (fun r u => r = (fun u : Nat → Nat → Nat => 0) u) (WD D (va_A [(a0, .inr (13, [.int 0, .int 0, .ref a1, .ref a2, .ref a3, .ref a4, .ref a5, .ref a6, .ref a7, .int 0, .long 0]))] sz) (fun u => [(a0, .inr (13, [.int 0, .int 0, .ref a1, .ref a2, .ref a3, .ref a4, .ref a5, .ref a6, .ref a7, .int 1, .long 0]))])) (va_A [(a0, .inr (13, [.int 0, .int 0, .ref a1, .ref a2, .ref a3, .ref a4, .ref a5, .ref a6, .ref a7, .int 0, .long 0]))] sz)) 0 0 (va_A [(a0, .inr (13, [.int 0, .int 0, .ref a1, .ref a2, .ref a3, .ref a4, .ref a5, .ref a6, .ref a7, .int 0, .long 0]))] sz) := by
  refine zk_M (Qc := fun A => va_Qi (fun r u => r = (fun u : Nat → Nat → Nat => 0) u) (WD D A (fun u => [(a0, .inr (13, [.int 0, .int 0, .ref a1, .ref a2, .ref a3, .ref a4, .ref a5, .ref a6, .ref a7, .int 1, .long 0]))])) A) (by decide) (Nat.le_of_ble_eq_true rfl) ?_
  intro p e s m args below meth c A ls hx hb hml hr hlk hown hnm hts hP hD hS hA hC hl
  have hK := hC.1
  have hN := hC.2.1
  have hl : lv_has ls 3 [(0, .ref a0), (1, .int p0), (2, .int 0)] := hl
  generalize hHH : s.heap = H at hP ⊢
  have hS : va_S A s.heap H [] := by rw [← hHH]; exact hS
  refine lv_aload_n hx hb dX14_isBlocked_0 rfl (lv_at hl 0 rfl) ?_
  refine lv_iload_n hx hb dX14_isBlocked_1 rfl (lv_at hl 1 rfl) ?_
  refine zk_i (wr := []) (va_runV (As := [.int p0]) (rest := []) ⟨hx, hb, hml, hown, hts⟩ (kX14_has_0 l hst D yc e0 H.size a0 p0 a1 a2 a3 a4 a5 a6 a7) (cwV 1 hts (lw_V wq1847 wq1849 ws63 wq6 wq1850) rfl rfl rfl (by decide +kernel) ⟨(Nat.le_of_ble_eq_true rfl), (Nat.le_of_ble_eq_true rfl)⟩) (zk_pV hC hP hD hS hA [0] rfl rfl 0 13 rfl rfl) rfl rfl hl.1 rfl (lv_room (Nat.le_of_ble_eq_true rfl)) dX14_isBlocked_2 ⟨(Nat.le_of_ble_eq_true rfl), (Nat.le_of_ble_eq_true rfl)⟩) hP hD hS hA [0] [] rfl rfl rfl (by decide) (fun u1 H locs hP hD hS => ?_)
  have hP : va_P D vwCl [(a0, .inr (13, [.int 0, .int 0, .ref a1, .ref a2, .ref a3, .ref a4, .ref a5, .ref a6, .ref a7, .int 1, .long 0]))] H := hP
  have hD : va_D A [(a0, .inr (13, [.int 0, .int 0, .ref a1, .ref a2, .ref a3, .ref a4, .ref a5, .ref a6, .ref a7, .int 1, .long 0]))] := hD
  refine W.widen (k := 0) (n := 0) (Nat.le_of_ble_eq_true rfl) (Nat.le_of_ble_eq_true rfl) ?_
  refine lv_if_eq (tgt := 34) hx hb dX14_isBlocked_5 (by decide) (fun _ => ?_) (fun h9 => absurd (by decide) h9)
  refine lv_iconst (v := 0) hx hb dX14_isBlocked_34 (by decide) ?_
  exact zk_ri (r0 := fun u => 0) (w1 := fun u => [(a0, .inr (13, [.int 0, .int 0, .ref a1, .ref a2, .ref a3, .ref a4, .ref a5, .ref a6, .ref a7, .int 1, .long 0]))]) hx hb hr hlk hP hD hS (fun _ _ => 0) rfl rfl [0] rfl rfl (Nat.le_of_ble_eq_true rfl) (Nat.le_of_ble_eq_true rfl) dX14_isBlocked_35
set_option maxHeartbeats 4000000 in
set_option maxRecDepth 100000 in
theorem kX10_isBlocked_1 (l : Launch) (hst : l.stackTraces = false) (D : va_G) (yc : Nat → ClassId) (e0 sz : Nat) (a0 : Nat) (p0 : Int32) (a1 : Nat) (a2 : Nat) (a3 : Nat)  : vx_Met l yX10_isBlocked (ws_ yX10_isBlocked cX10_isBlocked 4 (some .boolean)) ({ frames := 7, cells := 1, slots := 6, locals := 103 }) (PR D yc e0 [(a0, .inr (9, [.ref a1, .ref a2, .int 0, .int 0, .int 0])), (a1, .inr (2, [.int 0, .ref a3, .int 8, .int (-1), .int 0, .int 0, .int 0, .int 0])), (a3, .inr (0, [.int 0, .ref e0, .int 0]))] sz [.ref a0, .int p0, .int 1]) (fun _ _ _ _ => False) (zk_X D (va_A [(a0, .inr (9, [.ref a1, .ref a2, .int 0, .int 0, .int 0])), (a1, .inr (2, [.int 0, .ref a3, .int 8, .int (-1), .int 0, .int 0, .int 0, .int 0])), (a3, .inr (0, [.int 0, .ref e0, .int 0]))] sz) "java/lang/IndexOutOfBoundsException" (fun u => [(a0, .inr (9, [.ref a1, .ref a2, .int 0, .int 0, .int 0])), (a1, .inr (2, [.int 0, .ref a3, .int 8, .int (-1), .int 0, .int 0, .int 0, .int 0])), (a3, .inr (0, [.int 0, .ref e0, .int 0]))])) 1 6 (va_A [(a0, .inr (9, [.ref a1, .ref a2, .int 0, .int 0, .int 0])), (a1, .inr (2, [.int 0, .ref a3, .int 8, .int (-1), .int 0, .int 0, .int 0, .int 0])), (a3, .inr (0, [.int 0, .ref e0, .int 0]))] sz) := by
  refine zk_MX (by decide) (Nat.le_of_ble_eq_true rfl) ?_
  intro p e s m args below meth c A ls hx hb hml hr hlk hown hnm hts hP hD hS hA hC hl hnx
  have hK := hC.1
  have hN := hC.2.1
  have hl : lv_has ls 4 [(0, .ref a0), (1, .int p0), (2, .int 1)] := hl
  generalize hHH : s.heap = H at hP ⊢
  have hS : va_S A s.heap H [] := by rw [← hHH]; exact hS
  refine W.widen (k := 0) (n := 0) (Nat.le_of_ble_eq_true rfl) (Nat.le_of_ble_eq_true rfl) ?_
  refine lv_aload_n hx hb dX10_isBlocked_0 rfl (lv_at hl 0 rfl) ?_
  refine lv_iload_n hx hb dX10_isBlocked_1 rfl (lv_at hl 1 rfl) ?_
  refine zk_x (wr := []) (vx_runV (As := [.int p0]) (rest := []) ⟨hx, hb, hml, hown, hts⟩ (kX10_stageOf_0 l hst D yc e0 H.size a0 p0 a1 a2 a3) (cwV 1 hts (lw_V wq254 wq256 ws2 wq1 wq257) rfl rfl rfl (by decide +kernel) ⟨(Nat.le_of_ble_eq_true rfl), (Nat.le_of_ble_eq_true rfl)⟩) (zk_pV hC hP hD hS hA [0, 1, 2] rfl rfl 0 9 rfl rfl) rfl rfl hl.1 rfl (lv_room (Nat.le_of_ble_eq_true rfl)) dX10_isBlocked_2 ⟨(Nat.le_of_ble_eq_true rfl), (Nat.le_of_ble_eq_true rfl)⟩) hP hD hS hA [0, 1, 2] [] rfl rfl rfl (by decide) (fun u1 ce q9 H locs hP hD hS hce hcv hcl => ?_)
  have hP : va_P D vwCl [(a0, .inr (9, [.ref a1, .ref a2, .int 0, .int 0, .int 0])), (a1, .inr (2, [.int 0, .ref a3, .int 8, .int (-1), .int 0, .int 0, .int 0, .int 0])), (a3, .inr (0, [.int 0, .ref e0, .int 0]))] H := hP
  have hD : va_D A [(a0, .inr (9, [.ref a1, .ref a2, .int 0, .int 0, .int 0])), (a1, .inr (2, [.int 0, .ref a3, .int 8, .int (-1), .int 0, .int 0, .int 0, .int 0])), (a3, .inr (0, [.int 0, .ref e0, .int 0]))] := hD
  exact vx_out (fun x9 hx9 => (hnx x9 hx9).elim) hlk hce hcv hcl (zk_out hP hD hS (fun _ _ => 0) [0, 1, 2] rfl rfl) hS.2.2 (Nat.le_of_ble_eq_true rfl) (Nat.le_of_ble_eq_true rfl)
set_option maxHeartbeats 4000000 in
set_option maxRecDepth 100000 in
theorem kL_isBlocked_1 (l : Launch) (hst : l.stackTraces = false) (D : va_G) (yc : Nat → ClassId) (e0 sz : Nat) (a0 : Nat) (p0 : Int32) (a1 : Nat) (a2 : Nat) (a3 : Nat) (a4 : Nat)  : Met l yL_isBlocked (ww_ yL_isBlocked cL_isBlocked 5 (some .int) [(0, 17, 20, 21)]) ({ frames := 8, cells := 1, slots := 6, locals := 126 }) (PR D yc e0 [(a0, .inr (9, [.ref a2, .ref a3, .int 0, .int 0, .int 0])), (a2, .inr (2, [.int 0, .ref a4, .int 8, .int (-1), .int 0, .int 0, .int 0, .int 0])), (a4, .inr (0, [.int 0, .ref e0, .int 0]))] sz [.ref a0, .int p0, .int 1, .ref a1]) (va_Qi (fun r u => r = (fun u : Nat → Nat → Nat => 1) u) (WD D (va_A [(a0, .inr (9, [.ref a2, .ref a3, .int 0, .int 0, .int 0])), (a2, .inr (2, [.int 0, .ref a4, .int 8, .int (-1), .int 0, .int 0, .int 0, .int 0])), (a4, .inr (0, [.int 0, .ref e0, .int 0]))] sz) (fun u => [(a0, .inr (9, [.ref a2, .ref a3, .int 0, .int 0, .int 0])), (a2, .inr (2, [.int 0, .ref a4, .int 8, .int (-1), .int 0, .int 0, .int 0, .int 0])), (a4, .inr (0, [.int 0, .ref e0, .int 0]))])) (va_A [(a0, .inr (9, [.ref a2, .ref a3, .int 0, .int 0, .int 0])), (a2, .inr (2, [.int 0, .ref a4, .int 8, .int (-1), .int 0, .int 0, .int 0, .int 0])), (a4, .inr (0, [.int 0, .ref e0, .int 0]))] sz)) 1 6 (va_A [(a0, .inr (9, [.ref a2, .ref a3, .int 0, .int 0, .int 0])), (a2, .inr (2, [.int 0, .ref a4, .int 8, .int (-1), .int 0, .int 0, .int 0, .int 0])), (a4, .inr (0, [.int 0, .ref e0, .int 0]))] sz) := by
  refine zk_MW (Qc := fun A => va_Qi (fun r u => r = (fun u : Nat → Nat → Nat => 1) u) (WD D A (fun u => [(a0, .inr (9, [.ref a2, .ref a3, .int 0, .int 0, .int 0])), (a2, .inr (2, [.int 0, .ref a4, .int 8, .int (-1), .int 0, .int 0, .int 0, .int 0])), (a4, .inr (0, [.int 0, .ref e0, .int 0]))])) A) (by decide) (Nat.le_of_ble_eq_true rfl) ?_
  intro p e s m args below meth c A ls hx hb hml hr hlk hown hts hP hD hS hA hC hl hex
  have hK := hC.1
  have hN := hC.2.1
  have hl : lv_has ls 5 [(0, .ref a0), (1, .int p0), (2, .int 1), (3, .ref a1)] := hl
  generalize hHH : s.heap = H at hP ⊢
  have hS : va_S A s.heap H [] := by rw [← hHH]; exact hS
  refine lv_aload_n hx hb dL_isBlocked_0 rfl (lv_at hl 3 rfl) ?_
  refine lv_iconst (v := 0) hx hb dL_isBlocked_1 (by decide) ?_
  refine lv_aload_n hx hb dL_isBlocked_2 rfl (lv_at hl 0 rfl) ?_
  refine lv_iload_n hx hb dL_isBlocked_3 rfl (lv_at hl 1 rfl) ?_
  refine lv_iload_n hx hb dL_isBlocked_4 rfl (lv_at hl 2 rfl) ?_
  refine zk_x (wr := []) (vx_runV (As := [.int p0, .int 1]) (rest := [.int 0, .ref a1]) ⟨hx, hb, hml, hown, hts⟩ (kX10_isBlocked_1 l hst D yc e0 H.size a0 p0 a2 a3 a4) (cwV 2 hts (lw_V wq1251 wq373 wq374 wq1 wq375) rfl rfl rfl (by decide +kernel) ⟨(Nat.le_of_ble_eq_true rfl), (Nat.le_of_ble_eq_true rfl)⟩) (zk_pV hC hP hD hS hA [0, 1, 2] rfl rfl 0 9 rfl rfl) rfl rfl hl.1 rfl (lv_room (Nat.le_of_ble_eq_true rfl)) dL_isBlocked_5 ⟨(Nat.le_of_ble_eq_true rfl), (Nat.le_of_ble_eq_true rfl)⟩) hP hD hS hA [0, 1, 2] [] rfl rfl rfl (by decide) (fun u1 ce q9 H locs hP hD hS hce hcv hcl => ?_)
  have hP : va_P D vwCl [(a0, .inr (9, [.ref a2, .ref a3, .int 0, .int 0, .int 0])), (a2, .inr (2, [.int 0, .ref a4, .int 8, .int (-1), .int 0, .int 0, .int 0, .int 0])), (a4, .inr (0, [.int 0, .ref e0, .int 0]))] H := hP
  have hD : va_D A [(a0, .inr (9, [.ref a2, .ref a3, .int 0, .int 0, .int 0])), (a2, .inr (2, [.int 0, .ref a4, .int 8, .int (-1), .int 0, .int 0, .int 0, .int 0])), (a4, .inr (0, [.int 0, .ref e0, .int 0]))] := hD
  refine vx_catch (own := RL) (name := "java/lang/IndexOutOfBoundsException") hown (tableOf []) ⟨0, 17, 20, 21⟩ (tableOf []) hex (fun z hz => False.elim (List.not_mem_nil hz)) (by decide) (by decide) (hts _ wq833) (zk_tab rfl (hN _ wr261 rfl)) hce hcv hcl ?_
  refine W.widen (k := 1) (n := 6) (Nat.le_of_ble_eq_true rfl) (Nat.le_of_ble_eq_true rfl) ?_
  refine lv_astore (lv' := [(4, .ref q9), (0, .ref a0), (1, .int p0), (2, .int 1), (3, .ref a1)]) hx hb dL_isBlocked_20 hl (by decide) rfl (fun ls hl => ?_)
  refine lv_iconst (v := 1) hx hb dL_isBlocked_22 (by decide) ?_
  exact zk_ri (r0 := fun u => 1) (w1 := fun u => [(a0, .inr (9, [.ref a2, .ref a3, .int 0, .int 0, .int 0])), (a2, .inr (2, [.int 0, .ref a4, .int 8, .int (-1), .int 0, .int 0, .int 0, .int 0])), (a4, .inr (0, [.int 0, .ref e0, .int 0]))]) hx hb hr hlk hP hD hS (fun _ _ => 0) rfl rfl [0, 1, 2] rfl rfl (Nat.le_of_ble_eq_true rfl) (Nat.le_of_ble_eq_true rfl) dL_isBlocked_23
set_option maxHeartbeats 4000000 in
set_option maxRecDepth 100000 in
theorem kX14_isBlocked_1 (l : Launch) (hst : l.stackTraces = false) (D : va_G) (yc : Nat → ClassId) (e0 sz : Nat) (a0 : Nat) (p0 : Int32) (a1 : Nat) (a2 : Nat) (a3 : Nat) (a4 : Nat) (a5 : Nat) (a6 : Nat) (a7 : Nat)  : Met l yX14_isBlocked (ws_ yX14_isBlocked cX14_isBlocked 3 (some .boolean)) ({ frames := 3, cells := 0, slots := 0, locals := 64 }) (PR D yc e0 [(a0, .inr (13, [.int 0, .int 0, .ref a1, .ref a2, .ref a3, .ref a4, .ref a5, .ref a6, .ref a7, .int 0, .long 0]))] sz [.ref a0, .int p0, .int 1]) (va_Qi (fun r u => r = (fun u : Nat → Nat → Nat => 0) u) (WD D (va_A [(a0, .inr (13, [.int 0, .int 0, .ref a1, .ref a2, .ref a3, .ref a4, .ref a5, .ref a6, .ref a7, .int 0, .long 0]))] sz) (fun u => [(a0, .inr (13, [.int 0, .int 0, .ref a1, .ref a2, .ref a3, .ref a4, .ref a5, .ref a6, .ref a7, .int 1, .long 0]))])) (va_A [(a0, .inr (13, [.int 0, .int 0, .ref a1, .ref a2, .ref a3, .ref a4, .ref a5, .ref a6, .ref a7, .int 0, .long 0]))] sz)) 0 0 (va_A [(a0, .inr (13, [.int 0, .int 0, .ref a1, .ref a2, .ref a3, .ref a4, .ref a5, .ref a6, .ref a7, .int 0, .long 0]))] sz) := by
  refine zk_M (Qc := fun A => va_Qi (fun r u => r = (fun u : Nat → Nat → Nat => 0) u) (WD D A (fun u => [(a0, .inr (13, [.int 0, .int 0, .ref a1, .ref a2, .ref a3, .ref a4, .ref a5, .ref a6, .ref a7, .int 1, .long 0]))])) A) (by decide) (Nat.le_of_ble_eq_true rfl) ?_
  intro p e s m args below meth c A ls hx hb hml hr hlk hown hnm hts hP hD hS hA hC hl
  have hK := hC.1
  have hN := hC.2.1
  have hl : lv_has ls 3 [(0, .ref a0), (1, .int p0), (2, .int 1)] := hl
  generalize hHH : s.heap = H at hP ⊢
  have hS : va_S A s.heap H [] := by rw [← hHH]; exact hS
  refine lv_aload_n hx hb dX14_isBlocked_0 rfl (lv_at hl 0 rfl) ?_
  refine lv_iload_n hx hb dX14_isBlocked_1 rfl (lv_at hl 1 rfl) ?_
  refine zk_i (wr := []) (va_runV (As := [.int p0]) (rest := []) ⟨hx, hb, hml, hown, hts⟩ (kX14_has_0 l hst D yc e0 H.size a0 p0 a1 a2 a3 a4 a5 a6 a7) (cwV 1 hts (lw_V wq1847 wq1849 ws63 wq6 wq1850) rfl rfl rfl (by decide +kernel) ⟨(Nat.le_of_ble_eq_true rfl), (Nat.le_of_ble_eq_true rfl)⟩) (zk_pV hC hP hD hS hA [0] rfl rfl 0 13 rfl rfl) rfl rfl hl.1 rfl (lv_room (Nat.le_of_ble_eq_true rfl)) dX14_isBlocked_2 ⟨(Nat.le_of_ble_eq_true rfl), (Nat.le_of_ble_eq_true rfl)⟩) hP hD hS hA [0] [] rfl rfl rfl (by decide) (fun u1 H locs hP hD hS => ?_)
  have hP : va_P D vwCl [(a0, .inr (13, [.int 0, .int 0, .ref a1, .ref a2, .ref a3, .ref a4, .ref a5, .ref a6, .ref a7, .int 1, .long 0]))] H := hP
  have hD : va_D A [(a0, .inr (13, [.int 0, .int 0, .ref a1, .ref a2, .ref a3, .ref a4, .ref a5, .ref a6, .ref a7, .int 1, .long 0]))] := hD
  refine W.widen (k := 0) (n := 0) (Nat.le_of_ble_eq_true rfl) (Nat.le_of_ble_eq_true rfl) ?_
  refine lv_if_eq (tgt := 34) hx hb dX14_isBlocked_5 (by decide) (fun _ => ?_) (fun h9 => absurd (by decide) h9)
  refine lv_iconst (v := 0) hx hb dX14_isBlocked_34 (by decide) ?_
  exact zk_ri (r0 := fun u => 0) (w1 := fun u => [(a0, .inr (13, [.int 0, .int 0, .ref a1, .ref a2, .ref a3, .ref a4, .ref a5, .ref a6, .ref a7, .int 1, .long 0]))]) hx hb hr hlk hP hD hS (fun _ _ => 0) rfl rfl [0] rfl rfl (Nat.le_of_ble_eq_true rfl) (Nat.le_of_ble_eq_true rfl) dX14_isBlocked_35
set_option maxHeartbeats 4000000 in
set_option maxRecDepth 100000 in
theorem kX10_leads_0 (l : Launch) (hst : l.stackTraces = false) (D : va_G) (yc : Nat → ClassId) (e0 sz : Nat) (a0 : Nat) (p0 : Int32) (p1 : Int32) (a1 : Nat) (a2 : Nat) (a3 : Nat)  : vx_Met l yX10_leads (ws_ yX10_leads cX10_leads 3 (some .boolean)) ({ frames := 7, cells := 1, slots := 6, locals := 103 }) (PR D yc e0 [(a0, .inr (9, [.ref a1, .ref a2, .int 0, .int 0, .int 0])), (a1, .inr (2, [.int 0, .ref a3, .int 8, .int (-1), .int 0, .int 0, .int 0, .int 0])), (a3, .inr (0, [.int 0, .ref e0, .int 0]))] sz [.ref a0, .int p0, .int p1]) (fun _ _ _ _ => False) (zk_X D (va_A [(a0, .inr (9, [.ref a1, .ref a2, .int 0, .int 0, .int 0])), (a1, .inr (2, [.int 0, .ref a3, .int 8, .int (-1), .int 0, .int 0, .int 0, .int 0])), (a3, .inr (0, [.int 0, .ref e0, .int 0]))] sz) "java/lang/IndexOutOfBoundsException" (fun u => [(a0, .inr (9, [.ref a1, .ref a2, .int 0, .int 0, .int 0])), (a1, .inr (2, [.int 0, .ref a3, .int 8, .int (-1), .int 0, .int 0, .int 0, .int 0])), (a3, .inr (0, [.int 0, .ref e0, .int 0]))])) 1 6 (va_A [(a0, .inr (9, [.ref a1, .ref a2, .int 0, .int 0, .int 0])), (a1, .inr (2, [.int 0, .ref a3, .int 8, .int (-1), .int 0, .int 0, .int 0, .int 0])), (a3, .inr (0, [.int 0, .ref e0, .int 0]))] sz) := by
  refine zk_MX (by decide) (Nat.le_of_ble_eq_true rfl) ?_
  intro p e s m args below meth c A ls hx hb hml hr hlk hown hnm hts hP hD hS hA hC hl hnx
  have hK := hC.1
  have hN := hC.2.1
  have hl : lv_has ls 3 [(0, .ref a0), (1, .int p0), (2, .int p1)] := hl
  generalize hHH : s.heap = H at hP ⊢
  have hS : va_S A s.heap H [] := by rw [← hHH]; exact hS
  refine W.widen (k := 0) (n := 0) (Nat.le_of_ble_eq_true rfl) (Nat.le_of_ble_eq_true rfl) ?_
  refine lv_aload_n hx hb dX10_leads_0 rfl (lv_at hl 0 rfl) ?_
  refine lv_iload_n hx hb dX10_leads_1 rfl (lv_at hl 1 rfl) ?_
  refine zk_x (wr := []) (vx_runV (As := [.int p0]) (rest := []) ⟨hx, hb, hml, hown, hts⟩ (kX10_stageOf_0 l hst D yc e0 H.size a0 p0 a1 a2 a3) (cwV 1 hts (lw_V wq254 wq256 ws2 wq1 wq257) rfl rfl rfl (by decide +kernel) ⟨(Nat.le_of_ble_eq_true rfl), (Nat.le_of_ble_eq_true rfl)⟩) (zk_pV hC hP hD hS hA [0, 1, 2] rfl rfl 0 9 rfl rfl) rfl rfl hl.1 rfl (lv_room (Nat.le_of_ble_eq_true rfl)) dX10_leads_2 ⟨(Nat.le_of_ble_eq_true rfl), (Nat.le_of_ble_eq_true rfl)⟩) hP hD hS hA [0, 1, 2] [] rfl rfl rfl (by decide) (fun u1 ce q9 H locs hP hD hS hce hcv hcl => ?_)
  have hP : va_P D vwCl [(a0, .inr (9, [.ref a1, .ref a2, .int 0, .int 0, .int 0])), (a1, .inr (2, [.int 0, .ref a3, .int 8, .int (-1), .int 0, .int 0, .int 0, .int 0])), (a3, .inr (0, [.int 0, .ref e0, .int 0]))] H := hP
  have hD : va_D A [(a0, .inr (9, [.ref a1, .ref a2, .int 0, .int 0, .int 0])), (a1, .inr (2, [.int 0, .ref a3, .int 8, .int (-1), .int 0, .int 0, .int 0, .int 0])), (a3, .inr (0, [.int 0, .ref e0, .int 0]))] := hD
  exact vx_out (fun x9 hx9 => (hnx x9 hx9).elim) hlk hce hcv hcl (zk_out hP hD hS (fun _ _ => 0) [0, 1, 2] rfl rfl) hS.2.2 (Nat.le_of_ble_eq_true rfl) (Nat.le_of_ble_eq_true rfl)
set_option maxHeartbeats 4000000 in
set_option maxRecDepth 100000 in
theorem kL_leads_0 (l : Launch) (hst : l.stackTraces = false) (D : va_G) (yc : Nat → ClassId) (e0 sz : Nat) (a0 : Nat) (p0 : Int32) (p1 : Int32) (a1 : Nat) (a2 : Nat) (a3 : Nat) (a4 : Nat)  : Met l yL_leads (ww_ yL_leads cL_leads 5 (some .int) [(0, 17, 20, 21)]) ({ frames := 8, cells := 1, slots := 6, locals := 125 }) (PR D yc e0 [(a0, .inr (9, [.ref a2, .ref a3, .int 0, .int 0, .int 0])), (a2, .inr (2, [.int 0, .ref a4, .int 8, .int (-1), .int 0, .int 0, .int 0, .int 0])), (a4, .inr (0, [.int 0, .ref e0, .int 0]))] sz [.ref a0, .int p0, .int p1, .ref a1]) (va_Qi (fun r u => r = (fun u : Nat → Nat → Nat => 1) u) (WD D (va_A [(a0, .inr (9, [.ref a2, .ref a3, .int 0, .int 0, .int 0])), (a2, .inr (2, [.int 0, .ref a4, .int 8, .int (-1), .int 0, .int 0, .int 0, .int 0])), (a4, .inr (0, [.int 0, .ref e0, .int 0]))] sz) (fun u => [(a0, .inr (9, [.ref a2, .ref a3, .int 0, .int 0, .int 0])), (a2, .inr (2, [.int 0, .ref a4, .int 8, .int (-1), .int 0, .int 0, .int 0, .int 0])), (a4, .inr (0, [.int 0, .ref e0, .int 0]))])) (va_A [(a0, .inr (9, [.ref a2, .ref a3, .int 0, .int 0, .int 0])), (a2, .inr (2, [.int 0, .ref a4, .int 8, .int (-1), .int 0, .int 0, .int 0, .int 0])), (a4, .inr (0, [.int 0, .ref e0, .int 0]))] sz)) 1 6 (va_A [(a0, .inr (9, [.ref a2, .ref a3, .int 0, .int 0, .int 0])), (a2, .inr (2, [.int 0, .ref a4, .int 8, .int (-1), .int 0, .int 0, .int 0, .int 0])), (a4, .inr (0, [.int 0, .ref e0, .int 0]))] sz) := by
  refine zk_MW (Qc := fun A => va_Qi (fun r u => r = (fun u : Nat → Nat → Nat => 1) u) (WD D A (fun u => [(a0, .inr (9, [.ref a2, .ref a3, .int 0, .int 0, .int 0])), (a2, .inr (2, [.int 0, .ref a4, .int 8, .int (-1), .int 0, .int 0, .int 0, .int 0])), (a4, .inr (0, [.int 0, .ref e0, .int 0]))])) A) (by decide) (Nat.le_of_ble_eq_true rfl) ?_
  intro p e s m args below meth c A ls hx hb hml hr hlk hown hts hP hD hS hA hC hl hex
  have hK := hC.1
  have hN := hC.2.1
  have hl : lv_has ls 5 [(0, .ref a0), (1, .int p0), (2, .int p1), (3, .ref a1)] := hl
  generalize hHH : s.heap = H at hP ⊢
  have hS : va_S A s.heap H [] := by rw [← hHH]; exact hS
  refine lv_aload_n hx hb dL_leads_0 rfl (lv_at hl 3 rfl) ?_
  refine lv_iconst (v := 0) hx hb dL_leads_1 (by decide) ?_
  refine lv_aload_n hx hb dL_leads_2 rfl (lv_at hl 0 rfl) ?_
  refine lv_iload_n hx hb dL_leads_3 rfl (lv_at hl 1 rfl) ?_
  refine lv_iload_n hx hb dL_leads_4 rfl (lv_at hl 2 rfl) ?_
  refine zk_x (wr := []) (vx_runV (As := [.int p0, .int p1]) (rest := [.int 0, .ref a1]) ⟨hx, hb, hml, hown, hts⟩ (kX10_leads_0 l hst D yc e0 H.size a0 p0 p1 a2 a3 a4) (cwV 2 hts (lw_V wq1255 wq1256 wq1257 wq1 wq1258) rfl rfl rfl (by decide +kernel) ⟨(Nat.le_of_ble_eq_true rfl), (Nat.le_of_ble_eq_true rfl)⟩) (zk_pV hC hP hD hS hA [0, 1, 2] rfl rfl 0 9 rfl rfl) rfl rfl hl.1 rfl (lv_room (Nat.le_of_ble_eq_true rfl)) dL_leads_5 ⟨(Nat.le_of_ble_eq_true rfl), (Nat.le_of_ble_eq_true rfl)⟩) hP hD hS hA [0, 1, 2] [] rfl rfl rfl (by decide) (fun u1 ce q9 H locs hP hD hS hce hcv hcl => ?_)
  have hP : va_P D vwCl [(a0, .inr (9, [.ref a2, .ref a3, .int 0, .int 0, .int 0])), (a2, .inr (2, [.int 0, .ref a4, .int 8, .int (-1), .int 0, .int 0, .int 0, .int 0])), (a4, .inr (0, [.int 0, .ref e0, .int 0]))] H := hP
  have hD : va_D A [(a0, .inr (9, [.ref a2, .ref a3, .int 0, .int 0, .int 0])), (a2, .inr (2, [.int 0, .ref a4, .int 8, .int (-1), .int 0, .int 0, .int 0, .int 0])), (a4, .inr (0, [.int 0, .ref e0, .int 0]))] := hD
  refine vx_catch (own := RL) (name := "java/lang/IndexOutOfBoundsException") hown (tableOf []) ⟨0, 17, 20, 21⟩ (tableOf []) hex (fun z hz => False.elim (List.not_mem_nil hz)) (by decide) (by decide) (hts _ wq833) (zk_tab rfl (hN _ wr261 rfl)) hce hcv hcl ?_
  refine W.widen (k := 1) (n := 6) (Nat.le_of_ble_eq_true rfl) (Nat.le_of_ble_eq_true rfl) ?_
  refine lv_astore (lv' := [(4, .ref q9), (0, .ref a0), (1, .int p0), (2, .int p1), (3, .ref a1)]) hx hb dL_leads_20 hl (by decide) rfl (fun ls hl => ?_)
  refine lv_iconst (v := 1) hx hb dL_leads_22 (by decide) ?_
  exact zk_ri (r0 := fun u => 1) (w1 := fun u => [(a0, .inr (9, [.ref a2, .ref a3, .int 0, .int 0, .int 0])), (a2, .inr (2, [.int 0, .ref a4, .int 8, .int (-1), .int 0, .int 0, .int 0, .int 0])), (a4, .inr (0, [.int 0, .ref e0, .int 0]))]) hx hb hr hlk hP hD hS (fun _ _ => 0) rfl rfl [0, 1, 2] rfl rfl (Nat.le_of_ble_eq_true rfl) (Nat.le_of_ble_eq_true rfl) dL_leads_23
set_option maxHeartbeats 4000000 in
set_option maxRecDepth 100000 in
theorem kX14_leads_0 (l : Launch) (hst : l.stackTraces = false) (D : va_G) (yc : Nat → ClassId) (e0 sz : Nat) (a0 : Nat) (p0 : Int32) (p1 : Int32) (a1 : Nat) (a2 : Nat) (a3 : Nat) (a4 : Nat) (a5 : Nat) (a6 : Nat) (a7 : Nat)  : Met l yX14_leads (ws_ yX14_leads cX14_leads 3 (some .boolean)) ({ frames := 2, cells := 0, slots := 0, locals := 43 }) (PR D yc e0 [(a0, .inr (13, [.int 0, .int 0, .ref a1, .ref a2, .ref a3, .ref a4, .ref a5, .ref a6, .ref a7, .int 0, .long 0]))] sz [.ref a0, .int p0, .int p1]) (va_Qi (fun r u => r = (fun u : Nat → Nat → Nat => 0) u) (WD D (va_A [(a0, .inr (13, [.int 0, .int 0, .ref a1, .ref a2, .ref a3, .ref a4, .ref a5, .ref a6, .ref a7, .int 0, .long 0]))] sz) (fun u => [(a0, .inr (13, [.int 0, .int 0, .ref a1, .ref a2, .ref a3, .ref a4, .ref a5, .ref a6, .ref a7, .int 1, .long 0]))])) (va_A [(a0, .inr (13, [.int 0, .int 0, .ref a1, .ref a2, .ref a3, .ref a4, .ref a5, .ref a6, .ref a7, .int 0, .long 0]))] sz)) 0 0 (va_A [(a0, .inr (13, [.int 0, .int 0, .ref a1, .ref a2, .ref a3, .ref a4, .ref a5, .ref a6, .ref a7, .int 0, .long 0]))] sz) := by
  refine zk_M (Qc := fun A => va_Qi (fun r u => r = (fun u : Nat → Nat → Nat => 0) u) (WD D A (fun u => [(a0, .inr (13, [.int 0, .int 0, .ref a1, .ref a2, .ref a3, .ref a4, .ref a5, .ref a6, .ref a7, .int 1, .long 0]))])) A) (by decide) (Nat.le_of_ble_eq_true rfl) ?_
  intro p e s m args below meth c A ls hx hb hml hr hlk hown hnm hts hP hD hS hA hC hl
  have hK := hC.1
  have hN := hC.2.1
  have hl : lv_has ls 3 [(0, .ref a0), (1, .int p0), (2, .int p1)] := hl
  generalize hHH : s.heap = H at hP ⊢
  have hS : va_S A s.heap H [] := by rw [← hHH]; exact hS
  refine lv_aload_n hx hb dX14_leads_0 rfl (lv_at hl 0 rfl) ?_
  refine lv_aload_n hx hb dX14_leads_1 rfl (lv_at hl 0 rfl) ?_
  refine lv_iload_n hx hb dX14_leads_2 rfl (lv_at hl 1 rfl) ?_
  refine zk_i (wr := []) (va_runV (As := [.int p0]) (rest := [.ref a0]) ⟨hx, hb, hml, hown, hts⟩ (kX14_isStage_0 l hst D yc e0 H.size a0 p0 a1 a2 a3 a4 a5 a6 a7) (cwV 1 hts (lw_V wq1596 wq1598 ws35 wq6 wq1599) rfl rfl rfl (by decide +kernel) ⟨(Nat.le_of_ble_eq_true rfl), (Nat.le_of_ble_eq_true rfl)⟩) (zk_pV hC hP hD hS hA [0] rfl rfl 0 13 rfl rfl) rfl rfl hl.1 rfl (lv_room (Nat.le_of_ble_eq_true rfl)) dX14_leads_3 ⟨(Nat.le_of_ble_eq_true rfl), (Nat.le_of_ble_eq_true rfl)⟩) hP hD hS hA [0] [] rfl rfl rfl (by decide) (fun u1 H locs hP hD hS => ?_)
  have hP : va_P D vwCl [(a0, .inr (13, [.int 0, .int 0, .ref a1, .ref a2, .ref a3, .ref a4, .ref a5, .ref a6, .ref a7, .int 0, .long 0]))] H := hP
  have hD : va_D A [(a0, .inr (13, [.int 0, .int 0, .ref a1, .ref a2, .ref a3, .ref a4, .ref a5, .ref a6, .ref a7, .int 0, .long 0]))] := hD
  refine W.widen (k := 0) (n := 0) (Nat.le_of_ble_eq_true rfl) (Nat.le_of_ble_eq_true rfl) ?_
  refine lv_if_eq (tgt := 21) hx hb dX14_leads_6 (by decide) (fun _ => ?_) (fun h9 => absurd (by decide) h9)
  refine lv_iconst (v := 1) hx hb dX14_leads_21 (by decide) ?_
  refine va_put (D := D) (ci := 13) (v := .int 1) (ty := .int) (C := RX14) (T := TX14) (N := 11) hx hb hts iX14 tyX14 tyX14_ok nmX14 hown hK hP hD hS 0 rfl rfl 9 (by decide) (hts _ wq1542) (fun _ h9 => h9) rfl (by decide +kernel) rfl rfl (Nat.le_of_ble_eq_true rfl) dX14_leads_22 (fun H locs hP hD hS => ?_)
  have hP : va_P D vwCl [(a0, .inr (13, [.int 0, .int 0, .ref a1, .ref a2, .ref a3, .ref a4, .ref a5, .ref a6, .ref a7, .int 1, .long 0]))] H := hP
  have hD : va_D A [(a0, .inr (13, [.int 0, .int 0, .ref a1, .ref a2, .ref a3, .ref a4, .ref a5, .ref a6, .ref a7, .int 1, .long 0]))] := hD
  refine lv_aload_n hx hb dX14_leads_25 rfl (lv_at hl 0 rfl) ?_
  refine va_get (D := D) (ci := 13) (v := .int 1) (C := RX14) (T := TX14) (N := 11) hx hb hts iX14 hown hK hP 0 rfl rfl 9 (by decide) (hts _ wq1542) (fun _ h9 => h9) rfl dX14_leads_26 ?_
  refine lv_if_ne (tgt := 45) hx hb dX14_leads_29 (by decide) (fun _ => ?_) (fun h9 => absurd h9 (by decide))
  refine lv_iconst (v := 0) hx hb dX14_leads_45 (by decide) ?_
  exact zk_ri (r0 := fun u => 0) (w1 := fun u => [(a0, .inr (13, [.int 0, .int 0, .ref a1, .ref a2, .ref a3, .ref a4, .ref a5, .ref a6, .ref a7, .int 1, .long 0]))]) hx hb hr hlk hP hD hS (fun _ _ => 0) rfl rfl [0] rfl rfl (Nat.le_of_ble_eq_true rfl) (Nat.le_of_ble_eq_true rfl) dX14_leads_46
set_option maxHeartbeats 4000000 in
set_option maxRecDepth 100000 in
theorem kX10_depthOf_0 (l : Launch) (hst : l.stackTraces = false) (D : va_G) (yc : Nat → ClassId) (e0 sz : Nat) (a0 : Nat) (p0 : Int32) (a1 : Nat) (a2 : Nat) (a3 : Nat)  : vx_Met l yX10_depthOf (ws_ yX10_depthOf cX10_depthOf 2 (some .int)) ({ frames := 7, cells := 1, slots := 6, locals := 103 }) (PR D yc e0 [(a0, .inr (9, [.ref a1, .ref a2, .int 0, .int 0, .int 0])), (a1, .inr (2, [.int 0, .ref a3, .int 8, .int (-1), .int 0, .int 0, .int 0, .int 0])), (a3, .inr (0, [.int 0, .ref e0, .int 0]))] sz [.ref a0, .int p0]) (fun _ _ _ _ => False) (zk_X D (va_A [(a0, .inr (9, [.ref a1, .ref a2, .int 0, .int 0, .int 0])), (a1, .inr (2, [.int 0, .ref a3, .int 8, .int (-1), .int 0, .int 0, .int 0, .int 0])), (a3, .inr (0, [.int 0, .ref e0, .int 0]))] sz) "java/lang/IndexOutOfBoundsException" (fun u => [(a0, .inr (9, [.ref a1, .ref a2, .int 0, .int 0, .int 0])), (a1, .inr (2, [.int 0, .ref a3, .int 8, .int (-1), .int 0, .int 0, .int 0, .int 0])), (a3, .inr (0, [.int 0, .ref e0, .int 0]))])) 1 6 (va_A [(a0, .inr (9, [.ref a1, .ref a2, .int 0, .int 0, .int 0])), (a1, .inr (2, [.int 0, .ref a3, .int 8, .int (-1), .int 0, .int 0, .int 0, .int 0])), (a3, .inr (0, [.int 0, .ref e0, .int 0]))] sz) := by
  refine zk_MX (by decide) (Nat.le_of_ble_eq_true rfl) ?_
  intro p e s m args below meth c A ls hx hb hml hr hlk hown hnm hts hP hD hS hA hC hl hnx
  have hK := hC.1
  have hN := hC.2.1
  have hl : lv_has ls 2 [(0, .ref a0), (1, .int p0)] := hl
  generalize hHH : s.heap = H at hP ⊢
  have hS : va_S A s.heap H [] := by rw [← hHH]; exact hS
  refine W.widen (k := 0) (n := 0) (Nat.le_of_ble_eq_true rfl) (Nat.le_of_ble_eq_true rfl) ?_
  refine lv_aload_n hx hb dX10_depthOf_0 rfl (lv_at hl 0 rfl) ?_
  refine lv_iload_n hx hb dX10_depthOf_1 rfl (lv_at hl 1 rfl) ?_
  refine zk_x (wr := []) (vx_runV (As := [.int p0]) (rest := []) ⟨hx, hb, hml, hown, hts⟩ (kX10_stageOf_0 l hst D yc e0 H.size a0 p0 a1 a2 a3) (cwV 1 hts (lw_V wq254 wq256 ws2 wq1 wq257) rfl rfl rfl (by decide +kernel) ⟨(Nat.le_of_ble_eq_true rfl), (Nat.le_of_ble_eq_true rfl)⟩) (zk_pV hC hP hD hS hA [0, 1, 2] rfl rfl 0 9 rfl rfl) rfl rfl hl.1 rfl (lv_room (Nat.le_of_ble_eq_true rfl)) dX10_depthOf_2 ⟨(Nat.le_of_ble_eq_true rfl), (Nat.le_of_ble_eq_true rfl)⟩) hP hD hS hA [0, 1, 2] [] rfl rfl rfl (by decide) (fun u1 ce q9 H locs hP hD hS hce hcv hcl => ?_)
  have hP : va_P D vwCl [(a0, .inr (9, [.ref a1, .ref a2, .int 0, .int 0, .int 0])), (a1, .inr (2, [.int 0, .ref a3, .int 8, .int (-1), .int 0, .int 0, .int 0, .int 0])), (a3, .inr (0, [.int 0, .ref e0, .int 0]))] H := hP
  have hD : va_D A [(a0, .inr (9, [.ref a1, .ref a2, .int 0, .int 0, .int 0])), (a1, .inr (2, [.int 0, .ref a3, .int 8, .int (-1), .int 0, .int 0, .int 0, .int 0])), (a3, .inr (0, [.int 0, .ref e0, .int 0]))] := hD
  exact vx_out (fun x9 hx9 => (hnx x9 hx9).elim) hlk hce hcv hcl (zk_out hP hD hS (fun _ _ => 0) [0, 1, 2] rfl rfl) hS.2.2 (Nat.le_of_ble_eq_true rfl) (Nat.le_of_ble_eq_true rfl)
set_option maxHeartbeats 4000000 in
set_option maxRecDepth 100000 in
theorem kL_depthOf_0 (l : Launch) (hst : l.stackTraces = false) (D : va_G) (yc : Nat → ClassId) (e0 sz : Nat) (a0 : Nat) (p0 : Int32) (a1 : Nat) (a2 : Nat) (a3 : Nat) (a4 : Nat)  : Met l yL_depthOf (ww_ yL_depthOf cL_depthOf 4 (some .int) [(0, 9, 12, 21)]) ({ frames := 8, cells := 1, slots := 6, locals := 124 }) (PR D yc e0 [(a0, .inr (9, [.ref a2, .ref a3, .int 0, .int 0, .int 0])), (a2, .inr (2, [.int 0, .ref a4, .int 8, .int (-1), .int 0, .int 0, .int 0, .int 0])), (a4, .inr (0, [.int 0, .ref e0, .int 0]))] sz [.ref a0, .int p0, .ref a1]) (va_Qi (fun r u => r = (fun u : Nat → Nat → Nat => 1) u) (WD D (va_A [(a0, .inr (9, [.ref a2, .ref a3, .int 0, .int 0, .int 0])), (a2, .inr (2, [.int 0, .ref a4, .int 8, .int (-1), .int 0, .int 0, .int 0, .int 0])), (a4, .inr (0, [.int 0, .ref e0, .int 0]))] sz) (fun u => [(a0, .inr (9, [.ref a2, .ref a3, .int 0, .int 0, .int 0])), (a2, .inr (2, [.int 0, .ref a4, .int 8, .int (-1), .int 0, .int 0, .int 0, .int 0])), (a4, .inr (0, [.int 0, .ref e0, .int 0]))])) (va_A [(a0, .inr (9, [.ref a2, .ref a3, .int 0, .int 0, .int 0])), (a2, .inr (2, [.int 0, .ref a4, .int 8, .int (-1), .int 0, .int 0, .int 0, .int 0])), (a4, .inr (0, [.int 0, .ref e0, .int 0]))] sz)) 1 6 (va_A [(a0, .inr (9, [.ref a2, .ref a3, .int 0, .int 0, .int 0])), (a2, .inr (2, [.int 0, .ref a4, .int 8, .int (-1), .int 0, .int 0, .int 0, .int 0])), (a4, .inr (0, [.int 0, .ref e0, .int 0]))] sz) := by
  refine zk_MW (Qc := fun A => va_Qi (fun r u => r = (fun u : Nat → Nat → Nat => 1) u) (WD D A (fun u => [(a0, .inr (9, [.ref a2, .ref a3, .int 0, .int 0, .int 0])), (a2, .inr (2, [.int 0, .ref a4, .int 8, .int (-1), .int 0, .int 0, .int 0, .int 0])), (a4, .inr (0, [.int 0, .ref e0, .int 0]))])) A) (by decide) (Nat.le_of_ble_eq_true rfl) ?_
  intro p e s m args below meth c A ls hx hb hml hr hlk hown hts hP hD hS hA hC hl hex
  have hK := hC.1
  have hN := hC.2.1
  have hl : lv_has ls 4 [(0, .ref a0), (1, .int p0), (2, .ref a1)] := hl
  generalize hHH : s.heap = H at hP ⊢
  have hS : va_S A s.heap H [] := by rw [← hHH]; exact hS
  refine lv_aload_n hx hb dL_depthOf_0 rfl (lv_at hl 2 rfl) ?_
  refine lv_iconst (v := 0) hx hb dL_depthOf_1 (by decide) ?_
  refine lv_aload_n hx hb dL_depthOf_2 rfl (lv_at hl 0 rfl) ?_
  refine lv_iload_n hx hb dL_depthOf_3 rfl (lv_at hl 1 rfl) ?_
  refine zk_x (wr := []) (vx_runV (As := [.int p0]) (rest := [.int 0, .ref a1]) ⟨hx, hb, hml, hown, hts⟩ (kX10_depthOf_0 l hst D yc e0 H.size a0 p0 a2 a3 a4) (cwV 1 hts (lw_V wq1262 wq377 wq378 wq1 wq379) rfl rfl rfl (by decide +kernel) ⟨(Nat.le_of_ble_eq_true rfl), (Nat.le_of_ble_eq_true rfl)⟩) (zk_pV hC hP hD hS hA [0, 1, 2] rfl rfl 0 9 rfl rfl) rfl rfl hl.1 rfl (lv_room (Nat.le_of_ble_eq_true rfl)) dL_depthOf_4 ⟨(Nat.le_of_ble_eq_true rfl), (Nat.le_of_ble_eq_true rfl)⟩) hP hD hS hA [0, 1, 2] [] rfl rfl rfl (by decide) (fun u1 ce q9 H locs hP hD hS hce hcv hcl => ?_)
  have hP : va_P D vwCl [(a0, .inr (9, [.ref a2, .ref a3, .int 0, .int 0, .int 0])), (a2, .inr (2, [.int 0, .ref a4, .int 8, .int (-1), .int 0, .int 0, .int 0, .int 0])), (a4, .inr (0, [.int 0, .ref e0, .int 0]))] H := hP
  have hD : va_D A [(a0, .inr (9, [.ref a2, .ref a3, .int 0, .int 0, .int 0])), (a2, .inr (2, [.int 0, .ref a4, .int 8, .int (-1), .int 0, .int 0, .int 0, .int 0])), (a4, .inr (0, [.int 0, .ref e0, .int 0]))] := hD
  refine vx_catch (own := RL) (name := "java/lang/IndexOutOfBoundsException") hown (tableOf []) ⟨0, 9, 12, 21⟩ (tableOf []) hex (fun z hz => False.elim (List.not_mem_nil hz)) (by decide) (by decide) (hts _ wq833) (zk_tab rfl (hN _ wr261 rfl)) hce hcv hcl ?_
  refine W.widen (k := 1) (n := 6) (Nat.le_of_ble_eq_true rfl) (Nat.le_of_ble_eq_true rfl) ?_
  refine lv_astore_n (lv' := [(3, .ref q9), (0, .ref a0), (1, .int p0), (2, .ref a1)]) hx hb dL_depthOf_12 rfl hl (by decide) rfl (fun ls hl => ?_)
  refine lv_iconst (v := 1) hx hb dL_depthOf_13 (by decide) ?_
  exact zk_ri (r0 := fun u => 1) (w1 := fun u => [(a0, .inr (9, [.ref a2, .ref a3, .int 0, .int 0, .int 0])), (a2, .inr (2, [.int 0, .ref a4, .int 8, .int (-1), .int 0, .int 0, .int 0, .int 0])), (a4, .inr (0, [.int 0, .ref e0, .int 0]))]) hx hb hr hlk hP hD hS (fun _ _ => 0) rfl rfl [0, 1, 2] rfl rfl (Nat.le_of_ble_eq_true rfl) (Nat.le_of_ble_eq_true rfl) dL_depthOf_14
set_option maxHeartbeats 4000000 in
set_option maxRecDepth 100000 in
theorem kX14_depthOf_0 (l : Launch) (hst : l.stackTraces = false) (D : va_G) (yc : Nat → ClassId) (e0 sz : Nat) (a0 : Nat) (p0 : Int32) (a1 : Nat) (a2 : Nat) (a3 : Nat) (a4 : Nat) (a5 : Nat) (a6 : Nat) (a7 : Nat)  : Met l yX14_depthOf (ws_ yX14_depthOf cX14_depthOf 2 (some .int)) ({ frames := 3, cells := 0, slots := 0, locals := 64 }) (PR D yc e0 [(a0, .inr (13, [.int 0, .int 0, .ref a1, .ref a2, .ref a3, .ref a4, .ref a5, .ref a6, .ref a7, .int 0, .long 0]))] sz [.ref a0, .int p0]) (va_Qi (fun r u => r = (fun u : Nat → Nat → Nat => 0) u) (WD D (va_A [(a0, .inr (13, [.int 0, .int 0, .ref a1, .ref a2, .ref a3, .ref a4, .ref a5, .ref a6, .ref a7, .int 0, .long 0]))] sz) (fun u => [(a0, .inr (13, [.int 0, .int 0, .ref a1, .ref a2, .ref a3, .ref a4, .ref a5, .ref a6, .ref a7, .int 1, .long 0]))])) (va_A [(a0, .inr (13, [.int 0, .int 0, .ref a1, .ref a2, .ref a3, .ref a4, .ref a5, .ref a6, .ref a7, .int 0, .long 0]))] sz)) 0 0 (va_A [(a0, .inr (13, [.int 0, .int 0, .ref a1, .ref a2, .ref a3, .ref a4, .ref a5, .ref a6, .ref a7, .int 0, .long 0]))] sz) := by
  refine zk_M (Qc := fun A => va_Qi (fun r u => r = (fun u : Nat → Nat → Nat => 0) u) (WD D A (fun u => [(a0, .inr (13, [.int 0, .int 0, .ref a1, .ref a2, .ref a3, .ref a4, .ref a5, .ref a6, .ref a7, .int 1, .long 0]))])) A) (by decide) (Nat.le_of_ble_eq_true rfl) ?_
  intro p e s m args below meth c A ls hx hb hml hr hlk hown hnm hts hP hD hS hA hC hl
  have hK := hC.1
  have hN := hC.2.1
  have hl : lv_has ls 2 [(0, .ref a0), (1, .int p0)] := hl
  generalize hHH : s.heap = H at hP ⊢
  have hS : va_S A s.heap H [] := by rw [← hHH]; exact hS
  refine lv_aload_n hx hb dX14_depthOf_0 rfl (lv_at hl 0 rfl) ?_
  refine lv_iload_n hx hb dX14_depthOf_1 rfl (lv_at hl 1 rfl) ?_
  refine zk_i (wr := []) (va_runV (As := [.int p0]) (rest := []) ⟨hx, hb, hml, hown, hts⟩ (kX14_has_0 l hst D yc e0 H.size a0 p0 a1 a2 a3 a4 a5 a6 a7) (cwV 1 hts (lw_V wq1847 wq1849 ws63 wq6 wq1850) rfl rfl rfl (by decide +kernel) ⟨(Nat.le_of_ble_eq_true rfl), (Nat.le_of_ble_eq_true rfl)⟩) (zk_pV hC hP hD hS hA [0] rfl rfl 0 13 rfl rfl) rfl rfl hl.1 rfl (lv_room (Nat.le_of_ble_eq_true rfl)) dX14_depthOf_2 ⟨(Nat.le_of_ble_eq_true rfl), (Nat.le_of_ble_eq_true rfl)⟩) hP hD hS hA [0] [] rfl rfl rfl (by decide) (fun u1 H locs hP hD hS => ?_)
  have hP : va_P D vwCl [(a0, .inr (13, [.int 0, .int 0, .ref a1, .ref a2, .ref a3, .ref a4, .ref a5, .ref a6, .ref a7, .int 1, .long 0]))] H := hP
  have hD : va_D A [(a0, .inr (13, [.int 0, .int 0, .ref a1, .ref a2, .ref a3, .ref a4, .ref a5, .ref a6, .ref a7, .int 1, .long 0]))] := hD
  refine W.widen (k := 0) (n := 0) (Nat.le_of_ble_eq_true rfl) (Nat.le_of_ble_eq_true rfl) ?_
  refine lv_if_eq (tgt := 16) hx hb dX14_depthOf_5 (by decide) (fun _ => ?_) (fun h9 => absurd (by decide) h9)
  refine lv_iconst (v := 0) hx hb dX14_depthOf_16 (by decide) ?_
  exact zk_ri (r0 := fun u => 0) (w1 := fun u => [(a0, .inr (13, [.int 0, .int 0, .ref a1, .ref a2, .ref a3, .ref a4, .ref a5, .ref a6, .ref a7, .int 1, .long 0]))]) hx hb hr hlk hP hD hS (fun _ _ => 0) rfl rfl [0] rfl rfl (Nat.le_of_ble_eq_true rfl) (Nat.le_of_ble_eq_true rfl) dX14_depthOf_17
set_option maxHeartbeats 4000000 in
set_option maxRecDepth 100000 in
theorem kX10_spanStageOf_0 (l : Launch) (hst : l.stackTraces = false) (D : va_G) (yc : Nat → ClassId) (e0 sz : Nat) (a0 : Nat) (p0 : Int32) (a1 : Nat) (a2 : Nat) (a3 : Nat)  : vx_Met l yX10_spanStageOf (ws_ yX10_spanStageOf cX10_spanStageOf 3 (some (.object "WeirStream$Stage"))) ({ frames := 7, cells := 1, slots := 6, locals := 103 }) (PR D yc e0 [(a0, .inr (9, [.ref a1, .ref a2, .int 0, .int 0, .int 0])), (a1, .inr (2, [.int 0, .ref a3, .int 8, .int (-1), .int 0, .int 0, .int 0, .int 0])), (a3, .inr (0, [.int 0, .ref e0, .int 0]))] sz [.ref a0, .int p0]) (fun _ _ _ _ => False) (zk_X D (va_A [(a0, .inr (9, [.ref a1, .ref a2, .int 0, .int 0, .int 0])), (a1, .inr (2, [.int 0, .ref a3, .int 8, .int (-1), .int 0, .int 0, .int 0, .int 0])), (a3, .inr (0, [.int 0, .ref e0, .int 0]))] sz) "java/lang/IndexOutOfBoundsException" (fun u => [(a0, .inr (9, [.ref a1, .ref a2, .int 0, .int 0, .int 0])), (a1, .inr (2, [.int 0, .ref a3, .int 8, .int (-1), .int 0, .int 0, .int 0, .int 0])), (a3, .inr (0, [.int 0, .ref e0, .int 0]))])) 1 6 (va_A [(a0, .inr (9, [.ref a1, .ref a2, .int 0, .int 0, .int 0])), (a1, .inr (2, [.int 0, .ref a3, .int 8, .int (-1), .int 0, .int 0, .int 0, .int 0])), (a3, .inr (0, [.int 0, .ref e0, .int 0]))] sz) := by
  refine zk_MX (by decide) (Nat.le_of_ble_eq_true rfl) ?_
  intro p e s m args below meth c A ls hx hb hml hr hlk hown hnm hts hP hD hS hA hC hl hnx
  have hK := hC.1
  have hN := hC.2.1
  have hl : lv_has ls 3 [(0, .ref a0), (1, .int p0)] := hl
  generalize hHH : s.heap = H at hP ⊢
  have hS : va_S A s.heap H [] := by rw [← hHH]; exact hS
  refine W.widen (k := 0) (n := 0) (Nat.le_of_ble_eq_true rfl) (Nat.le_of_ble_eq_true rfl) ?_
  refine lv_aload_n hx hb dX10_spanStageOf_0 rfl (lv_at hl 0 rfl) ?_
  refine lv_iload_n hx hb dX10_spanStageOf_1 rfl (lv_at hl 1 rfl) ?_
  refine zk_x (wr := []) (vx_runV (As := [.int p0]) (rest := []) ⟨hx, hb, hml, hown, hts⟩ (kX10_stageOf_0 l hst D yc e0 H.size a0 p0 a1 a2 a3) (cwV 1 hts (lw_V wq254 wq256 ws2 wq1 wq257) rfl rfl rfl (by decide +kernel) ⟨(Nat.le_of_ble_eq_true rfl), (Nat.le_of_ble_eq_true rfl)⟩) (zk_pV hC hP hD hS hA [0, 1, 2] rfl rfl 0 9 rfl rfl) rfl rfl hl.1 rfl (lv_room (Nat.le_of_ble_eq_true rfl)) dX10_spanStageOf_2 ⟨(Nat.le_of_ble_eq_true rfl), (Nat.le_of_ble_eq_true rfl)⟩) hP hD hS hA [0, 1, 2] [] rfl rfl rfl (by decide) (fun u1 ce q9 H locs hP hD hS hce hcv hcl => ?_)
  have hP : va_P D vwCl [(a0, .inr (9, [.ref a1, .ref a2, .int 0, .int 0, .int 0])), (a1, .inr (2, [.int 0, .ref a3, .int 8, .int (-1), .int 0, .int 0, .int 0, .int 0])), (a3, .inr (0, [.int 0, .ref e0, .int 0]))] H := hP
  have hD : va_D A [(a0, .inr (9, [.ref a1, .ref a2, .int 0, .int 0, .int 0])), (a1, .inr (2, [.int 0, .ref a3, .int 8, .int (-1), .int 0, .int 0, .int 0, .int 0])), (a3, .inr (0, [.int 0, .ref e0, .int 0]))] := hD
  exact vx_out (fun x9 hx9 => (hnx x9 hx9).elim) hlk hce hcv hcl (zk_out hP hD hS (fun _ _ => 0) [0, 1, 2] rfl rfl) hS.2.2 (Nat.le_of_ble_eq_true rfl) (Nat.le_of_ble_eq_true rfl)
set_option maxHeartbeats 4000000 in
set_option maxRecDepth 100000 in
theorem kX10_accountAt_0 (l : Launch) (hst : l.stackTraces = false) (D : va_G) (yc : Nat → ClassId) (e0 sz : Nat) (a0 : Nat) (p0 : Int32) (p1 : Int32) (p2 : Int32) (a1 : Nat) (a2 : Nat) (a3 : Nat)  : vx_Met l yX10_accountAt (ws_ yX10_accountAt cX10_accountAt 7 (some .int)) ({ frames := 8, cells := 1, slots := 6, locals := 125 }) (PR D yc e0 [(a0, .inr (9, [.ref a1, .ref a2, .int 0, .int 0, .int 0])), (a1, .inr (2, [.int 0, .ref a3, .int 8, .int (-1), .int 0, .int 0, .int 0, .int 0])), (a3, .inr (0, [.int 0, .ref e0, .int 0]))] sz [.ref a0, .int p0, .int p1, .int p2]) (fun _ _ _ _ => False) (zk_X D (va_A [(a0, .inr (9, [.ref a1, .ref a2, .int 0, .int 0, .int 0])), (a1, .inr (2, [.int 0, .ref a3, .int 8, .int (-1), .int 0, .int 0, .int 0, .int 0])), (a3, .inr (0, [.int 0, .ref e0, .int 0]))] sz) "java/lang/IndexOutOfBoundsException" (fun u => [(a0, .inr (9, [.ref a1, .ref a2, .int 0, .int 0, .int 0])), (a1, .inr (2, [.int 0, .ref a3, .int 8, .int (-1), .int 0, .int 0, .int 0, .int 0])), (a3, .inr (0, [.int 0, .ref e0, .int 0]))])) 1 6 (va_A [(a0, .inr (9, [.ref a1, .ref a2, .int 0, .int 0, .int 0])), (a1, .inr (2, [.int 0, .ref a3, .int 8, .int (-1), .int 0, .int 0, .int 0, .int 0])), (a3, .inr (0, [.int 0, .ref e0, .int 0]))] sz) := by
  refine zk_MX (by decide) (Nat.le_of_ble_eq_true rfl) ?_
  intro p e s m args below meth c A ls hx hb hml hr hlk hown hnm hts hP hD hS hA hC hl hnx
  have hK := hC.1
  have hN := hC.2.1
  have hl : lv_has ls 7 [(0, .ref a0), (1, .int p0), (2, .int p1), (3, .int p2)] := hl
  generalize hHH : s.heap = H at hP ⊢
  have hS : va_S A s.heap H [] := by rw [← hHH]; exact hS
  refine W.widen (k := 0) (n := 0) (Nat.le_of_ble_eq_true rfl) (Nat.le_of_ble_eq_true rfl) ?_
  refine lv_aload_n hx hb dX10_accountAt_0 rfl (lv_at hl 0 rfl) ?_
  refine lv_iload_n hx hb dX10_accountAt_1 rfl (lv_at hl 1 rfl) ?_
  refine zk_x (wr := []) (vx_runV (As := [.int p0]) (rest := []) ⟨hx, hb, hml, hown, hts⟩ (kX10_spanStageOf_0 l hst D yc e0 H.size a0 p0 a1 a2 a3) (cwV 1 hts (lw_V wq384 wq386 ws4 wq1 wq387) rfl rfl rfl (by decide +kernel) ⟨(Nat.le_of_ble_eq_true rfl), (Nat.le_of_ble_eq_true rfl)⟩) (zk_pV hC hP hD hS hA [0, 1, 2] rfl rfl 0 9 rfl rfl) rfl rfl hl.1 rfl (lv_room (Nat.le_of_ble_eq_true rfl)) dX10_accountAt_2 ⟨(Nat.le_of_ble_eq_true rfl), (Nat.le_of_ble_eq_true rfl)⟩) hP hD hS hA [0, 1, 2] [] rfl rfl rfl (by decide) (fun u1 ce q9 H locs hP hD hS hce hcv hcl => ?_)
  have hP : va_P D vwCl [(a0, .inr (9, [.ref a1, .ref a2, .int 0, .int 0, .int 0])), (a1, .inr (2, [.int 0, .ref a3, .int 8, .int (-1), .int 0, .int 0, .int 0, .int 0])), (a3, .inr (0, [.int 0, .ref e0, .int 0]))] H := hP
  have hD : va_D A [(a0, .inr (9, [.ref a1, .ref a2, .int 0, .int 0, .int 0])), (a1, .inr (2, [.int 0, .ref a3, .int 8, .int (-1), .int 0, .int 0, .int 0, .int 0])), (a3, .inr (0, [.int 0, .ref e0, .int 0]))] := hD
  exact vx_out (fun x9 hx9 => (hnx x9 hx9).elim) hlk hce hcv hcl (zk_out hP hD hS (fun _ _ => 0) [0, 1, 2] rfl rfl) hS.2.2 (Nat.le_of_ble_eq_true rfl) (Nat.le_of_ble_eq_true rfl)
set_option maxHeartbeats 4000000 in
set_option maxRecDepth 100000 in
theorem kL_accountAt_0 (l : Launch) (hst : l.stackTraces = false) (D : va_G) (yc : Nat → ClassId) (e0 sz : Nat) (a0 : Nat) (p0 : Int32) (p1 : Int32) (p2 : Int32) (a1 : Nat) (a2 : Nat) (a3 : Nat) (a4 : Nat)  : Met l yL_accountAt (ww_ yL_accountAt cL_accountAt 6 (some .int) [(0, 12, 15, 21), (0, 12, 19, 13)]) ({ frames := 9, cells := 1, slots := 6, locals := 151 }) (PR D yc e0 [(a0, .inr (9, [.ref a2, .ref a3, .int 0, .int 0, .int 0])), (a2, .inr (2, [.int 0, .ref a4, .int 8, .int (-1), .int 0, .int 0, .int 0, .int 0])), (a4, .inr (0, [.int 0, .ref e0, .int 0]))] sz [.ref a0, .int p0, .int p1, .int p2, .ref a1]) (va_Qi (fun r u => r = (fun u : Nat → Nat → Nat => 1) u) (WD D (va_A [(a0, .inr (9, [.ref a2, .ref a3, .int 0, .int 0, .int 0])), (a2, .inr (2, [.int 0, .ref a4, .int 8, .int (-1), .int 0, .int 0, .int 0, .int 0])), (a4, .inr (0, [.int 0, .ref e0, .int 0]))] sz) (fun u => [(a0, .inr (9, [.ref a2, .ref a3, .int 0, .int 0, .int 0])), (a2, .inr (2, [.int 0, .ref a4, .int 8, .int (-1), .int 0, .int 0, .int 0, .int 0])), (a4, .inr (0, [.int 0, .ref e0, .int 0]))])) (va_A [(a0, .inr (9, [.ref a2, .ref a3, .int 0, .int 0, .int 0])), (a2, .inr (2, [.int 0, .ref a4, .int 8, .int (-1), .int 0, .int 0, .int 0, .int 0])), (a4, .inr (0, [.int 0, .ref e0, .int 0]))] sz)) 1 6 (va_A [(a0, .inr (9, [.ref a2, .ref a3, .int 0, .int 0, .int 0])), (a2, .inr (2, [.int 0, .ref a4, .int 8, .int (-1), .int 0, .int 0, .int 0, .int 0])), (a4, .inr (0, [.int 0, .ref e0, .int 0]))] sz) := by
  refine zk_MW (Qc := fun A => va_Qi (fun r u => r = (fun u : Nat → Nat → Nat => 1) u) (WD D A (fun u => [(a0, .inr (9, [.ref a2, .ref a3, .int 0, .int 0, .int 0])), (a2, .inr (2, [.int 0, .ref a4, .int 8, .int (-1), .int 0, .int 0, .int 0, .int 0])), (a4, .inr (0, [.int 0, .ref e0, .int 0]))])) A) (by decide) (Nat.le_of_ble_eq_true rfl) ?_
  intro p e s m args below meth c A ls hx hb hml hr hlk hown hts hP hD hS hA hC hl hex
  have hK := hC.1
  have hN := hC.2.1
  have hl : lv_has ls 6 [(0, .ref a0), (1, .int p0), (2, .int p1), (3, .int p2), (4, .ref a1)] := hl
  generalize hHH : s.heap = H at hP ⊢
  have hS : va_S A s.heap H [] := by rw [← hHH]; exact hS
  refine lv_aload hx hb dL_accountAt_0 (lv_at hl 4 rfl) ?_
  refine lv_iconst (v := 0) hx hb dL_accountAt_2 (by decide) ?_
  refine lv_aload_n hx hb dL_accountAt_3 rfl (lv_at hl 0 rfl) ?_
  refine lv_iload_n hx hb dL_accountAt_4 rfl (lv_at hl 1 rfl) ?_
  refine lv_iload_n hx hb dL_accountAt_5 rfl (lv_at hl 2 rfl) ?_
  refine lv_iload_n hx hb dL_accountAt_6 rfl (lv_at hl 3 rfl) ?_
  refine zk_x (wr := []) (vx_runV (As := [.int p0, .int p1, .int p2]) (rest := [.int 0, .ref a1]) ⟨hx, hb, hml, hown, hts⟩ (kX10_accountAt_0 l hst D yc e0 H.size a0 p0 p1 p2 a2 a3 a4) (cwV 3 hts (lw_V wq1266 wq1267 wq1268 wq1 wq1269) rfl rfl rfl (by decide +kernel) ⟨(Nat.le_of_ble_eq_true rfl), (Nat.le_of_ble_eq_true rfl)⟩) (zk_pV hC hP hD hS hA [0, 1, 2] rfl rfl 0 9 rfl rfl) rfl rfl hl.1 rfl (lv_room (Nat.le_of_ble_eq_true rfl)) dL_accountAt_7 ⟨(Nat.le_of_ble_eq_true rfl), (Nat.le_of_ble_eq_true rfl)⟩) hP hD hS hA [0, 1, 2] [] rfl rfl rfl (by decide) (fun u1 ce q9 H locs hP hD hS hce hcv hcl => ?_)
  have hP : va_P D vwCl [(a0, .inr (9, [.ref a2, .ref a3, .int 0, .int 0, .int 0])), (a2, .inr (2, [.int 0, .ref a4, .int 8, .int (-1), .int 0, .int 0, .int 0, .int 0])), (a4, .inr (0, [.int 0, .ref e0, .int 0]))] H := hP
  have hD : va_D A [(a0, .inr (9, [.ref a2, .ref a3, .int 0, .int 0, .int 0])), (a2, .inr (2, [.int 0, .ref a4, .int 8, .int (-1), .int 0, .int 0, .int 0, .int 0])), (a4, .inr (0, [.int 0, .ref e0, .int 0]))] := hD
  refine vx_catch (own := RL) (name := "java/lang/IndexOutOfBoundsException") hown (tableOf []) ⟨0, 12, 15, 21⟩ (tableOf [(0, 12, 19, 13)]) hex (fun z hz => False.elim (List.not_mem_nil hz)) (by decide) (by decide) (hts _ wq833) (zk_tab rfl (hN _ wr261 rfl)) hce hcv hcl ?_
  refine W.widen (k := 1) (n := 6) (Nat.le_of_ble_eq_true rfl) (Nat.le_of_ble_eq_true rfl) ?_
  refine lv_astore (lv' := [(5, .ref q9), (0, .ref a0), (1, .int p0), (2, .int p1), (3, .int p2), (4, .ref a1)]) hx hb dL_accountAt_15 hl (by decide) rfl (fun ls hl => ?_)
  refine lv_iconst (v := 1) hx hb dL_accountAt_17 (by decide) ?_
  exact zk_ri (r0 := fun u => 1) (w1 := fun u => [(a0, .inr (9, [.ref a2, .ref a3, .int 0, .int 0, .int 0])), (a2, .inr (2, [.int 0, .ref a4, .int 8, .int (-1), .int 0, .int 0, .int 0, .int 0])), (a4, .inr (0, [.int 0, .ref e0, .int 0]))]) hx hb hr hlk hP hD hS (fun _ _ => 0) rfl rfl [0, 1, 2] rfl rfl (Nat.le_of_ble_eq_true rfl) (Nat.le_of_ble_eq_true rfl) dL_accountAt_18
set_option maxHeartbeats 4000000 in
set_option maxRecDepth 100000 in
theorem kX14_hasSpans_0 (l : Launch) (hst : l.stackTraces = false) (D : va_G) (yc : Nat → ClassId) (e0 sz : Nat) (a0 : Nat) (p0 : Int32) (a1 : Nat) (a2 : Nat) (a3 : Nat) (a4 : Nat) (a5 : Nat) (a6 : Nat) (a7 : Nat)  : Met l yX14_hasSpans (ws_ yX14_hasSpans cX14_hasSpans 2 (some .boolean)) ({ frames := 3, cells := 0, slots := 0, locals := 64 }) (PR D yc e0 [(a0, .inr (13, [.int 0, .int 0, .ref a1, .ref a2, .ref a3, .ref a4, .ref a5, .ref a6, .ref a7, .int 0, .long 0]))] sz [.ref a0, .int p0]) (va_Qi (fun r u => r = (fun u : Nat → Nat → Nat => 0) u) (WD D (va_A [(a0, .inr (13, [.int 0, .int 0, .ref a1, .ref a2, .ref a3, .ref a4, .ref a5, .ref a6, .ref a7, .int 0, .long 0]))] sz) (fun u => [(a0, .inr (13, [.int 0, .int 0, .ref a1, .ref a2, .ref a3, .ref a4, .ref a5, .ref a6, .ref a7, .int 1, .long 0]))])) (va_A [(a0, .inr (13, [.int 0, .int 0, .ref a1, .ref a2, .ref a3, .ref a4, .ref a5, .ref a6, .ref a7, .int 0, .long 0]))] sz)) 0 0 (va_A [(a0, .inr (13, [.int 0, .int 0, .ref a1, .ref a2, .ref a3, .ref a4, .ref a5, .ref a6, .ref a7, .int 0, .long 0]))] sz) := by
  refine zk_M (Qc := fun A => va_Qi (fun r u => r = (fun u : Nat → Nat → Nat => 0) u) (WD D A (fun u => [(a0, .inr (13, [.int 0, .int 0, .ref a1, .ref a2, .ref a3, .ref a4, .ref a5, .ref a6, .ref a7, .int 1, .long 0]))])) A) (by decide) (Nat.le_of_ble_eq_true rfl) ?_
  intro p e s m args below meth c A ls hx hb hml hr hlk hown hnm hts hP hD hS hA hC hl
  have hK := hC.1
  have hN := hC.2.1
  have hl : lv_has ls 2 [(0, .ref a0), (1, .int p0)] := hl
  generalize hHH : s.heap = H at hP ⊢
  have hS : va_S A s.heap H [] := by rw [← hHH]; exact hS
  refine lv_aload_n hx hb dX14_hasSpans_0 rfl (lv_at hl 0 rfl) ?_
  refine lv_iload_n hx hb dX14_hasSpans_1 rfl (lv_at hl 1 rfl) ?_
  refine zk_i (wr := []) (va_runV (As := [.int p0]) (rest := []) ⟨hx, hb, hml, hown, hts⟩ (kX14_has_0 l hst D yc e0 H.size a0 p0 a1 a2 a3 a4 a5 a6 a7) (cwV 1 hts (lw_V wq1847 wq1849 ws63 wq6 wq1850) rfl rfl rfl (by decide +kernel) ⟨(Nat.le_of_ble_eq_true rfl), (Nat.le_of_ble_eq_true rfl)⟩) (zk_pV hC hP hD hS hA [0] rfl rfl 0 13 rfl rfl) rfl rfl hl.1 rfl (lv_room (Nat.le_of_ble_eq_true rfl)) dX14_hasSpans_2 ⟨(Nat.le_of_ble_eq_true rfl), (Nat.le_of_ble_eq_true rfl)⟩) hP hD hS hA [0] [] rfl rfl rfl (by decide) (fun u1 H locs hP hD hS => ?_)
  have hP : va_P D vwCl [(a0, .inr (13, [.int 0, .int 0, .ref a1, .ref a2, .ref a3, .ref a4, .ref a5, .ref a6, .ref a7, .int 1, .long 0]))] H := hP
  have hD : va_D A [(a0, .inr (13, [.int 0, .int 0, .ref a1, .ref a2, .ref a3, .ref a4, .ref a5, .ref a6, .ref a7, .int 1, .long 0]))] := hD
  refine W.widen (k := 0) (n := 0) (Nat.le_of_ble_eq_true rfl) (Nat.le_of_ble_eq_true rfl) ?_
  refine lv_if_eq (tgt := 33) hx hb dX14_hasSpans_5 (by decide) (fun _ => ?_) (fun h9 => absurd (by decide) h9)
  refine lv_aload_n hx hb dX14_hasSpans_33 rfl (lv_at hl 0 rfl) ?_
  refine va_get (D := D) (ci := 13) (v := .int 1) (C := RX14) (T := TX14) (N := 11) hx hb hts iX14 hown hK hP 0 rfl rfl 9 (by decide) (hts _ wq1542) (fun _ h9 => h9) rfl dX14_hasSpans_34 ?_
  refine lv_if_ne (tgt := 44) hx hb dX14_hasSpans_37 (by decide) (fun _ => ?_) (fun h9 => absurd h9 (by decide))
  refine lv_iconst (v := 0) hx hb dX14_hasSpans_44 (by decide) ?_
  exact zk_ri (r0 := fun u => 0) (w1 := fun u => [(a0, .inr (13, [.int 0, .int 0, .ref a1, .ref a2, .ref a3, .ref a4, .ref a5, .ref a6, .ref a7, .int 1, .long 0]))]) hx hb hr hlk hP hD hS (fun _ _ => 0) rfl rfl [0] rfl rfl (Nat.le_of_ble_eq_true rfl) (Nat.le_of_ble_eq_true rfl) dX14_hasSpans_45
set_option maxHeartbeats 4000000 in
set_option maxRecDepth 100000 in
theorem kX14_accountAt_0 (l : Launch) (hst : l.stackTraces = false) (D : va_G) (yc : Nat → ClassId) (e0 sz : Nat) (a0 : Nat) (p0 : Int32) (p1 : Int32) (p2 : Int32) (a1 : Nat) (a2 : Nat) (a3 : Nat) (a4 : Nat) (a5 : Nat) (a6 : Nat) (a7 : Nat)  : Met l yX14_accountAt (ws_ yX14_accountAt cX14_accountAt 7 (some .int)) ({ frames := 4, cells := 0, slots := 0, locals := 85 }) (PR D yc e0 [(a0, .inr (13, [.int 0, .int 0, .ref a1, .ref a2, .ref a3, .ref a4, .ref a5, .ref a6, .ref a7, .int 0, .long 0]))] sz [.ref a0, .int p0, .int p1, .int p2]) (va_Qi (fun r u => r = (fun u : Nat → Nat → Nat => 0) u) (WD D (va_A [(a0, .inr (13, [.int 0, .int 0, .ref a1, .ref a2, .ref a3, .ref a4, .ref a5, .ref a6, .ref a7, .int 0, .long 0]))] sz) (fun u => [(a0, .inr (13, [.int 0, .int 0, .ref a1, .ref a2, .ref a3, .ref a4, .ref a5, .ref a6, .ref a7, .int 1, .long 0]))])) (va_A [(a0, .inr (13, [.int 0, .int 0, .ref a1, .ref a2, .ref a3, .ref a4, .ref a5, .ref a6, .ref a7, .int 0, .long 0]))] sz)) 0 0 (va_A [(a0, .inr (13, [.int 0, .int 0, .ref a1, .ref a2, .ref a3, .ref a4, .ref a5, .ref a6, .ref a7, .int 0, .long 0]))] sz) := by
  refine zk_M (Qc := fun A => va_Qi (fun r u => r = (fun u : Nat → Nat → Nat => 0) u) (WD D A (fun u => [(a0, .inr (13, [.int 0, .int 0, .ref a1, .ref a2, .ref a3, .ref a4, .ref a5, .ref a6, .ref a7, .int 1, .long 0]))])) A) (by decide) (Nat.le_of_ble_eq_true rfl) ?_
  intro p e s m args below meth c A ls hx hb hml hr hlk hown hnm hts hP hD hS hA hC hl
  have hK := hC.1
  have hN := hC.2.1
  have hl : lv_has ls 7 [(0, .ref a0), (1, .int p0), (2, .int p1), (3, .int p2)] := hl
  generalize hHH : s.heap = H at hP ⊢
  have hS : va_S A s.heap H [] := by rw [← hHH]; exact hS
  refine lv_aload_n hx hb dX14_accountAt_0 rfl (lv_at hl 0 rfl) ?_
  refine lv_iload_n hx hb dX14_accountAt_1 rfl (lv_at hl 1 rfl) ?_
  refine zk_i (wr := []) (va_runV (As := [.int p0]) (rest := []) ⟨hx, hb, hml, hown, hts⟩ (kX14_hasSpans_0 l hst D yc e0 H.size a0 p0 a1 a2 a3 a4 a5 a6 a7) (cwV 1 hts (lw_V wq1921 wq1923 ws69 wq6 wq1924) rfl rfl rfl (by decide +kernel) ⟨(Nat.le_of_ble_eq_true rfl), (Nat.le_of_ble_eq_true rfl)⟩) (zk_pV hC hP hD hS hA [0] rfl rfl 0 13 rfl rfl) rfl rfl hl.1 rfl (lv_room (Nat.le_of_ble_eq_true rfl)) dX14_accountAt_2 ⟨(Nat.le_of_ble_eq_true rfl), (Nat.le_of_ble_eq_true rfl)⟩) hP hD hS hA [0] [] rfl rfl rfl (by decide) (fun u1 H locs hP hD hS => ?_)
  have hP : va_P D vwCl [(a0, .inr (13, [.int 0, .int 0, .ref a1, .ref a2, .ref a3, .ref a4, .ref a5, .ref a6, .ref a7, .int 1, .long 0]))] H := hP
  have hD : va_D A [(a0, .inr (13, [.int 0, .int 0, .ref a1, .ref a2, .ref a3, .ref a4, .ref a5, .ref a6, .ref a7, .int 1, .long 0]))] := hD
  refine W.widen (k := 0) (n := 0) (Nat.le_of_ble_eq_true rfl) (Nat.le_of_ble_eq_true rfl) ?_
  refine lv_if_ne (tgt := 10) hx hb dX14_accountAt_5 (by decide) (fun h9 => absurd (by decide) h9) (fun _ => ?_)
  refine lv_iconst (v := 0) hx hb dX14_accountAt_8 (by decide) ?_
  exact zk_ri (r0 := fun u => 0) (w1 := fun u => [(a0, .inr (13, [.int 0, .int 0, .ref a1, .ref a2, .ref a3, .ref a4, .ref a5, .ref a6, .ref a7, .int 1, .long 0]))]) hx hb hr hlk hP hD hS (fun _ _ => 0) rfl rfl [0] rfl rfl (Nat.le_of_ble_eq_true rfl) (Nat.le_of_ble_eq_true rfl) dX14_accountAt_9
set_option maxHeartbeats 4000000 in
set_option maxRecDepth 100000 in
theorem kX10_nextEnd_0 (l : Launch) (hst : l.stackTraces = false) (D : va_G) (yc : Nat → ClassId) (e0 sz : Nat) (a0 : Nat) (p0 : Int32) (a1 : Nat) (a2 : Nat) (a3 : Nat)  : vx_Met l yX10_nextEnd (ws_ yX10_nextEnd cX10_nextEnd 5 (some .int)) ({ frames := 8, cells := 1, slots := 6, locals := 125 }) (PR D yc e0 [(a0, .inr (9, [.ref a1, .ref a2, .int 0, .int 0, .int 0])), (a1, .inr (2, [.int 0, .ref a3, .int 8, .int (-1), .int 0, .int 0, .int 0, .int 0])), (a3, .inr (0, [.int 0, .ref e0, .int 0]))] sz [.ref a0, .int p0]) (fun _ _ _ _ => False) (zk_X D (va_A [(a0, .inr (9, [.ref a1, .ref a2, .int 0, .int 0, .int 0])), (a1, .inr (2, [.int 0, .ref a3, .int 8, .int (-1), .int 0, .int 0, .int 0, .int 0])), (a3, .inr (0, [.int 0, .ref e0, .int 0]))] sz) "java/lang/IndexOutOfBoundsException" (fun u => [(a0, .inr (9, [.ref a1, .ref a2, .int 0, .int 0, .int 0])), (a1, .inr (2, [.int 0, .ref a3, .int 8, .int (-1), .int 0, .int 0, .int 0, .int 0])), (a3, .inr (0, [.int 0, .ref e0, .int 0]))])) 1 6 (va_A [(a0, .inr (9, [.ref a1, .ref a2, .int 0, .int 0, .int 0])), (a1, .inr (2, [.int 0, .ref a3, .int 8, .int (-1), .int 0, .int 0, .int 0, .int 0])), (a3, .inr (0, [.int 0, .ref e0, .int 0]))] sz) := by
  refine zk_MX (by decide) (Nat.le_of_ble_eq_true rfl) ?_
  intro p e s m args below meth c A ls hx hb hml hr hlk hown hnm hts hP hD hS hA hC hl hnx
  have hK := hC.1
  have hN := hC.2.1
  have hl : lv_has ls 5 [(0, .ref a0), (1, .int p0)] := hl
  generalize hHH : s.heap = H at hP ⊢
  have hS : va_S A s.heap H [] := by rw [← hHH]; exact hS
  refine W.widen (k := 0) (n := 0) (Nat.le_of_ble_eq_true rfl) (Nat.le_of_ble_eq_true rfl) ?_
  refine lv_aload_n hx hb dX10_nextEnd_0 rfl (lv_at hl 0 rfl) ?_
  refine lv_iload_n hx hb dX10_nextEnd_1 rfl (lv_at hl 1 rfl) ?_
  refine zk_x (wr := []) (vx_runV (As := [.int p0]) (rest := []) ⟨hx, hb, hml, hown, hts⟩ (kX10_spanStageOf_0 l hst D yc e0 H.size a0 p0 a1 a2 a3) (cwV 1 hts (lw_V wq384 wq386 ws4 wq1 wq387) rfl rfl rfl (by decide +kernel) ⟨(Nat.le_of_ble_eq_true rfl), (Nat.le_of_ble_eq_true rfl)⟩) (zk_pV hC hP hD hS hA [0, 1, 2] rfl rfl 0 9 rfl rfl) rfl rfl hl.1 rfl (lv_room (Nat.le_of_ble_eq_true rfl)) dX10_nextEnd_2 ⟨(Nat.le_of_ble_eq_true rfl), (Nat.le_of_ble_eq_true rfl)⟩) hP hD hS hA [0, 1, 2] [] rfl rfl rfl (by decide) (fun u1 ce q9 H locs hP hD hS hce hcv hcl => ?_)
  have hP : va_P D vwCl [(a0, .inr (9, [.ref a1, .ref a2, .int 0, .int 0, .int 0])), (a1, .inr (2, [.int 0, .ref a3, .int 8, .int (-1), .int 0, .int 0, .int 0, .int 0])), (a3, .inr (0, [.int 0, .ref e0, .int 0]))] H := hP
  have hD : va_D A [(a0, .inr (9, [.ref a1, .ref a2, .int 0, .int 0, .int 0])), (a1, .inr (2, [.int 0, .ref a3, .int 8, .int (-1), .int 0, .int 0, .int 0, .int 0])), (a3, .inr (0, [.int 0, .ref e0, .int 0]))] := hD
  exact vx_out (fun x9 hx9 => (hnx x9 hx9).elim) hlk hce hcv hcl (zk_out hP hD hS (fun _ _ => 0) [0, 1, 2] rfl rfl) hS.2.2 (Nat.le_of_ble_eq_true rfl) (Nat.le_of_ble_eq_true rfl)
set_option maxHeartbeats 4000000 in
set_option maxRecDepth 100000 in
theorem kL_nextEnd_0 (l : Launch) (hst : l.stackTraces = false) (D : va_G) (yc : Nat → ClassId) (e0 sz : Nat) (a0 : Nat) (p0 : Int32) (a1 : Nat) (a2 : Nat) (a3 : Nat) (a4 : Nat)  : Met l yL_nextEnd (ww_ yL_nextEnd cL_nextEnd 4 (some .int) [(0, 9, 12, 21), (0, 9, 15, 13)]) ({ frames := 9, cells := 1, slots := 6, locals := 149 }) (PR D yc e0 [(a0, .inr (9, [.ref a2, .ref a3, .int 0, .int 0, .int 0])), (a2, .inr (2, [.int 0, .ref a4, .int 8, .int (-1), .int 0, .int 0, .int 0, .int 0])), (a4, .inr (0, [.int 0, .ref e0, .int 0]))] sz [.ref a0, .int p0, .ref a1]) (va_Qi (fun r u => r = (fun u : Nat → Nat → Nat => 1) u) (WD D (va_A [(a0, .inr (9, [.ref a2, .ref a3, .int 0, .int 0, .int 0])), (a2, .inr (2, [.int 0, .ref a4, .int 8, .int (-1), .int 0, .int 0, .int 0, .int 0])), (a4, .inr (0, [.int 0, .ref e0, .int 0]))] sz) (fun u => [(a0, .inr (9, [.ref a2, .ref a3, .int 0, .int 0, .int 0])), (a2, .inr (2, [.int 0, .ref a4, .int 8, .int (-1), .int 0, .int 0, .int 0, .int 0])), (a4, .inr (0, [.int 0, .ref e0, .int 0]))])) (va_A [(a0, .inr (9, [.ref a2, .ref a3, .int 0, .int 0, .int 0])), (a2, .inr (2, [.int 0, .ref a4, .int 8, .int (-1), .int 0, .int 0, .int 0, .int 0])), (a4, .inr (0, [.int 0, .ref e0, .int 0]))] sz)) 1 6 (va_A [(a0, .inr (9, [.ref a2, .ref a3, .int 0, .int 0, .int 0])), (a2, .inr (2, [.int 0, .ref a4, .int 8, .int (-1), .int 0, .int 0, .int 0, .int 0])), (a4, .inr (0, [.int 0, .ref e0, .int 0]))] sz) := by
  refine zk_MW (Qc := fun A => va_Qi (fun r u => r = (fun u : Nat → Nat → Nat => 1) u) (WD D A (fun u => [(a0, .inr (9, [.ref a2, .ref a3, .int 0, .int 0, .int 0])), (a2, .inr (2, [.int 0, .ref a4, .int 8, .int (-1), .int 0, .int 0, .int 0, .int 0])), (a4, .inr (0, [.int 0, .ref e0, .int 0]))])) A) (by decide) (Nat.le_of_ble_eq_true rfl) ?_
  intro p e s m args below meth c A ls hx hb hml hr hlk hown hts hP hD hS hA hC hl hex
  have hK := hC.1
  have hN := hC.2.1
  have hl : lv_has ls 4 [(0, .ref a0), (1, .int p0), (2, .ref a1)] := hl
  generalize hHH : s.heap = H at hP ⊢
  have hS : va_S A s.heap H [] := by rw [← hHH]; exact hS
  refine lv_aload_n hx hb dL_nextEnd_0 rfl (lv_at hl 2 rfl) ?_
  refine lv_iconst (v := 0) hx hb dL_nextEnd_1 (by decide) ?_
  refine lv_aload_n hx hb dL_nextEnd_2 rfl (lv_at hl 0 rfl) ?_
  refine lv_iload_n hx hb dL_nextEnd_3 rfl (lv_at hl 1 rfl) ?_
  refine zk_x (wr := []) (vx_runV (As := [.int p0]) (rest := [.int 0, .ref a1]) ⟨hx, hb, hml, hown, hts⟩ (kX10_nextEnd_0 l hst D yc e0 H.size a0 p0 a2 a3 a4) (cwV 1 hts (lw_V wq1282 wq381 wq382 wq1 wq383) rfl rfl rfl (by decide +kernel) ⟨(Nat.le_of_ble_eq_true rfl), (Nat.le_of_ble_eq_true rfl)⟩) (zk_pV hC hP hD hS hA [0, 1, 2] rfl rfl 0 9 rfl rfl) rfl rfl hl.1 rfl (lv_room (Nat.le_of_ble_eq_true rfl)) dL_nextEnd_4 ⟨(Nat.le_of_ble_eq_true rfl), (Nat.le_of_ble_eq_true rfl)⟩) hP hD hS hA [0, 1, 2] [] rfl rfl rfl (by decide) (fun u1 ce q9 H locs hP hD hS hce hcv hcl => ?_)
  have hP : va_P D vwCl [(a0, .inr (9, [.ref a2, .ref a3, .int 0, .int 0, .int 0])), (a2, .inr (2, [.int 0, .ref a4, .int 8, .int (-1), .int 0, .int 0, .int 0, .int 0])), (a4, .inr (0, [.int 0, .ref e0, .int 0]))] H := hP
  have hD : va_D A [(a0, .inr (9, [.ref a2, .ref a3, .int 0, .int 0, .int 0])), (a2, .inr (2, [.int 0, .ref a4, .int 8, .int (-1), .int 0, .int 0, .int 0, .int 0])), (a4, .inr (0, [.int 0, .ref e0, .int 0]))] := hD
  refine vx_catch (own := RL) (name := "java/lang/IndexOutOfBoundsException") hown (tableOf []) ⟨0, 9, 12, 21⟩ (tableOf [(0, 9, 15, 13)]) hex (fun z hz => False.elim (List.not_mem_nil hz)) (by decide) (by decide) (hts _ wq833) (zk_tab rfl (hN _ wr261 rfl)) hce hcv hcl ?_
  refine W.widen (k := 1) (n := 6) (Nat.le_of_ble_eq_true rfl) (Nat.le_of_ble_eq_true rfl) ?_
  refine lv_astore_n (lv' := [(3, .ref q9), (0, .ref a0), (1, .int p0), (2, .ref a1)]) hx hb dL_nextEnd_12 rfl hl (by decide) rfl (fun ls hl => ?_)
  refine lv_iconst (v := 1) hx hb dL_nextEnd_13 (by decide) ?_
  exact zk_ri (r0 := fun u => 1) (w1 := fun u => [(a0, .inr (9, [.ref a2, .ref a3, .int 0, .int 0, .int 0])), (a2, .inr (2, [.int 0, .ref a4, .int 8, .int (-1), .int 0, .int 0, .int 0, .int 0])), (a4, .inr (0, [.int 0, .ref e0, .int 0]))]) hx hb hr hlk hP hD hS (fun _ _ => 0) rfl rfl [0, 1, 2] rfl rfl (Nat.le_of_ble_eq_true rfl) (Nat.le_of_ble_eq_true rfl) dL_nextEnd_14
set_option maxHeartbeats 4000000 in
set_option maxRecDepth 100000 in
theorem kX14_nextEnd_0 (l : Launch) (hst : l.stackTraces = false) (D : va_G) (yc : Nat → ClassId) (e0 sz : Nat) (a0 : Nat) (p0 : Int32) (a1 : Nat) (a2 : Nat) (a3 : Nat) (a4 : Nat) (a5 : Nat) (a6 : Nat) (a7 : Nat)  : Met l yX14_nextEnd (ws_ yX14_nextEnd cX14_nextEnd 2 (some .int)) ({ frames := 4, cells := 0, slots := 0, locals := 85 }) (PR D yc e0 [(a0, .inr (13, [.int 0, .int 0, .ref a1, .ref a2, .ref a3, .ref a4, .ref a5, .ref a6, .ref a7, .int 0, .long 0]))] sz [.ref a0, .int p0]) (va_Qi (fun r u => r = (fun u : Nat → Nat → Nat => 0) u) (WD D (va_A [(a0, .inr (13, [.int 0, .int 0, .ref a1, .ref a2, .ref a3, .ref a4, .ref a5, .ref a6, .ref a7, .int 0, .long 0]))] sz) (fun u => [(a0, .inr (13, [.int 0, .int 0, .ref a1, .ref a2, .ref a3, .ref a4, .ref a5, .ref a6, .ref a7, .int 1, .long 0]))])) (va_A [(a0, .inr (13, [.int 0, .int 0, .ref a1, .ref a2, .ref a3, .ref a4, .ref a5, .ref a6, .ref a7, .int 0, .long 0]))] sz)) 0 0 (va_A [(a0, .inr (13, [.int 0, .int 0, .ref a1, .ref a2, .ref a3, .ref a4, .ref a5, .ref a6, .ref a7, .int 0, .long 0]))] sz) := by
  refine zk_M (Qc := fun A => va_Qi (fun r u => r = (fun u : Nat → Nat → Nat => 0) u) (WD D A (fun u => [(a0, .inr (13, [.int 0, .int 0, .ref a1, .ref a2, .ref a3, .ref a4, .ref a5, .ref a6, .ref a7, .int 1, .long 0]))])) A) (by decide) (Nat.le_of_ble_eq_true rfl) ?_
  intro p e s m args below meth c A ls hx hb hml hr hlk hown hnm hts hP hD hS hA hC hl
  have hK := hC.1
  have hN := hC.2.1
  have hl : lv_has ls 2 [(0, .ref a0), (1, .int p0)] := hl
  generalize hHH : s.heap = H at hP ⊢
  have hS : va_S A s.heap H [] := by rw [← hHH]; exact hS
  refine lv_aload_n hx hb dX14_nextEnd_0 rfl (lv_at hl 0 rfl) ?_
  refine lv_iload_n hx hb dX14_nextEnd_1 rfl (lv_at hl 1 rfl) ?_
  refine zk_i (wr := []) (va_runV (As := [.int p0]) (rest := []) ⟨hx, hb, hml, hown, hts⟩ (kX14_hasSpans_0 l hst D yc e0 H.size a0 p0 a1 a2 a3 a4 a5 a6 a7) (cwV 1 hts (lw_V wq1921 wq1923 ws69 wq6 wq1924) rfl rfl rfl (by decide +kernel) ⟨(Nat.le_of_ble_eq_true rfl), (Nat.le_of_ble_eq_true rfl)⟩) (zk_pV hC hP hD hS hA [0] rfl rfl 0 13 rfl rfl) rfl rfl hl.1 rfl (lv_room (Nat.le_of_ble_eq_true rfl)) dX14_nextEnd_2 ⟨(Nat.le_of_ble_eq_true rfl), (Nat.le_of_ble_eq_true rfl)⟩) hP hD hS hA [0] [] rfl rfl rfl (by decide) (fun u1 H locs hP hD hS => ?_)
  have hP : va_P D vwCl [(a0, .inr (13, [.int 0, .int 0, .ref a1, .ref a2, .ref a3, .ref a4, .ref a5, .ref a6, .ref a7, .int 1, .long 0]))] H := hP
  have hD : va_D A [(a0, .inr (13, [.int 0, .int 0, .ref a1, .ref a2, .ref a3, .ref a4, .ref a5, .ref a6, .ref a7, .int 1, .long 0]))] := hD
  refine W.widen (k := 0) (n := 0) (Nat.le_of_ble_eq_true rfl) (Nat.le_of_ble_eq_true rfl) ?_
  refine lv_if_eq (tgt := 16) hx hb dX14_nextEnd_5 (by decide) (fun _ => ?_) (fun h9 => absurd (by decide) h9)
  refine lv_iconst (v := 0) hx hb dX14_nextEnd_16 (by decide) ?_
  exact zk_ri (r0 := fun u => 0) (w1 := fun u => [(a0, .inr (13, [.int 0, .int 0, .ref a1, .ref a2, .ref a3, .ref a4, .ref a5, .ref a6, .ref a7, .int 1, .long 0]))]) hx hb hr hlk hP hD hS (fun _ _ => 0) rfl rfl [0] rfl rfl (Nat.le_of_ble_eq_true rfl) (Nat.le_of_ble_eq_true rfl) dX14_nextEnd_17
set_option maxHeartbeats 4000000 in
set_option maxRecDepth 100000 in
theorem kX10_sinkOf_0 (l : Launch) (hst : l.stackTraces = false) (D : va_G) (yc : Nat → ClassId) (e0 sz : Nat) (a0 : Nat) (p0 : Int32) (a1 : Nat) (a2 : Nat) (a3 : Nat)  : vx_Met l yX10_sinkOf (ws_ yX10_sinkOf cX10_sinkOf 3 (some (.object "WeirStream$Stage"))) ({ frames := 7, cells := 1, slots := 6, locals := 103 }) (PR D yc e0 [(a0, .inr (9, [.ref a1, .ref a2, .int 0, .int 0, .int 0])), (a1, .inr (2, [.int 0, .ref a3, .int 8, .int (-1), .int 0, .int 0, .int 0, .int 0])), (a3, .inr (0, [.int 0, .ref e0, .int 0]))] sz [.ref a0, .int p0]) (fun _ _ _ _ => False) (zk_X D (va_A [(a0, .inr (9, [.ref a1, .ref a2, .int 0, .int 0, .int 0])), (a1, .inr (2, [.int 0, .ref a3, .int 8, .int (-1), .int 0, .int 0, .int 0, .int 0])), (a3, .inr (0, [.int 0, .ref e0, .int 0]))] sz) "java/lang/IndexOutOfBoundsException" (fun u => [(a0, .inr (9, [.ref a1, .ref a2, .int 0, .int 0, .int 0])), (a1, .inr (2, [.int 0, .ref a3, .int 8, .int (-1), .int 0, .int 0, .int 0, .int 0])), (a3, .inr (0, [.int 0, .ref e0, .int 0]))])) 1 6 (va_A [(a0, .inr (9, [.ref a1, .ref a2, .int 0, .int 0, .int 0])), (a1, .inr (2, [.int 0, .ref a3, .int 8, .int (-1), .int 0, .int 0, .int 0, .int 0])), (a3, .inr (0, [.int 0, .ref e0, .int 0]))] sz) := by
  refine zk_MX (by decide) (Nat.le_of_ble_eq_true rfl) ?_
  intro p e s m args below meth c A ls hx hb hml hr hlk hown hnm hts hP hD hS hA hC hl hnx
  have hK := hC.1
  have hN := hC.2.1
  have hl : lv_has ls 3 [(0, .ref a0), (1, .int p0)] := hl
  generalize hHH : s.heap = H at hP ⊢
  have hS : va_S A s.heap H [] := by rw [← hHH]; exact hS
  refine W.widen (k := 0) (n := 0) (Nat.le_of_ble_eq_true rfl) (Nat.le_of_ble_eq_true rfl) ?_
  refine lv_aload_n hx hb dX10_sinkOf_0 rfl (lv_at hl 0 rfl) ?_
  refine lv_iload_n hx hb dX10_sinkOf_1 rfl (lv_at hl 1 rfl) ?_
  refine zk_x (wr := []) (vx_runV (As := [.int p0]) (rest := []) ⟨hx, hb, hml, hown, hts⟩ (kX10_stageOf_0 l hst D yc e0 H.size a0 p0 a1 a2 a3) (cwV 1 hts (lw_V wq254 wq256 ws2 wq1 wq257) rfl rfl rfl (by decide +kernel) ⟨(Nat.le_of_ble_eq_true rfl), (Nat.le_of_ble_eq_true rfl)⟩) (zk_pV hC hP hD hS hA [0, 1, 2] rfl rfl 0 9 rfl rfl) rfl rfl hl.1 rfl (lv_room (Nat.le_of_ble_eq_true rfl)) dX10_sinkOf_2 ⟨(Nat.le_of_ble_eq_true rfl), (Nat.le_of_ble_eq_true rfl)⟩) hP hD hS hA [0, 1, 2] [] rfl rfl rfl (by decide) (fun u1 ce q9 H locs hP hD hS hce hcv hcl => ?_)
  have hP : va_P D vwCl [(a0, .inr (9, [.ref a1, .ref a2, .int 0, .int 0, .int 0])), (a1, .inr (2, [.int 0, .ref a3, .int 8, .int (-1), .int 0, .int 0, .int 0, .int 0])), (a3, .inr (0, [.int 0, .ref e0, .int 0]))] H := hP
  have hD : va_D A [(a0, .inr (9, [.ref a1, .ref a2, .int 0, .int 0, .int 0])), (a1, .inr (2, [.int 0, .ref a3, .int 8, .int (-1), .int 0, .int 0, .int 0, .int 0])), (a3, .inr (0, [.int 0, .ref e0, .int 0]))] := hD
  exact vx_out (fun x9 hx9 => (hnx x9 hx9).elim) hlk hce hcv hcl (zk_out hP hD hS (fun _ _ => 0) [0, 1, 2] rfl rfl) hS.2.2 (Nat.le_of_ble_eq_true rfl) (Nat.le_of_ble_eq_true rfl)
set_option maxHeartbeats 4000000 in
set_option maxRecDepth 100000 in
theorem kX10_outputs_0 (l : Launch) (hst : l.stackTraces = false) (D : va_G) (yc : Nat → ClassId) (e0 sz : Nat) (a0 : Nat) (p0 : Int32) (a1 : Nat) (a2 : Nat) (a3 : Nat)  : vx_Met l yX10_outputs (ws_ yX10_outputs cX10_outputs 2 (some .int)) ({ frames := 8, cells := 1, slots := 6, locals := 125 }) (PR D yc e0 [(a0, .inr (9, [.ref a1, .ref a2, .int 0, .int 0, .int 0])), (a1, .inr (2, [.int 0, .ref a3, .int 8, .int (-1), .int 0, .int 0, .int 0, .int 0])), (a3, .inr (0, [.int 0, .ref e0, .int 0]))] sz [.ref a0, .int p0]) (fun _ _ _ _ => False) (zk_X D (va_A [(a0, .inr (9, [.ref a1, .ref a2, .int 0, .int 0, .int 0])), (a1, .inr (2, [.int 0, .ref a3, .int 8, .int (-1), .int 0, .int 0, .int 0, .int 0])), (a3, .inr (0, [.int 0, .ref e0, .int 0]))] sz) "java/lang/IndexOutOfBoundsException" (fun u => [(a0, .inr (9, [.ref a1, .ref a2, .int 0, .int 0, .int 0])), (a1, .inr (2, [.int 0, .ref a3, .int 8, .int (-1), .int 0, .int 0, .int 0, .int 0])), (a3, .inr (0, [.int 0, .ref e0, .int 0]))])) 1 6 (va_A [(a0, .inr (9, [.ref a1, .ref a2, .int 0, .int 0, .int 0])), (a1, .inr (2, [.int 0, .ref a3, .int 8, .int (-1), .int 0, .int 0, .int 0, .int 0])), (a3, .inr (0, [.int 0, .ref e0, .int 0]))] sz) := by
  refine zk_MX (by decide) (Nat.le_of_ble_eq_true rfl) ?_
  intro p e s m args below meth c A ls hx hb hml hr hlk hown hnm hts hP hD hS hA hC hl hnx
  have hK := hC.1
  have hN := hC.2.1
  have hl : lv_has ls 2 [(0, .ref a0), (1, .int p0)] := hl
  generalize hHH : s.heap = H at hP ⊢
  have hS : va_S A s.heap H [] := by rw [← hHH]; exact hS
  refine W.widen (k := 0) (n := 0) (Nat.le_of_ble_eq_true rfl) (Nat.le_of_ble_eq_true rfl) ?_
  refine lv_aload_n hx hb dX10_outputs_0 rfl (lv_at hl 0 rfl) ?_
  refine lv_iload_n hx hb dX10_outputs_1 rfl (lv_at hl 1 rfl) ?_
  refine zk_x (wr := []) (vx_runV (As := [.int p0]) (rest := []) ⟨hx, hb, hml, hown, hts⟩ (kX10_sinkOf_0 l hst D yc e0 H.size a0 p0 a1 a2 a3) (cwV 1 hts (lw_V wq431 wq433 ws6 wq1 wq434) rfl rfl rfl (by decide +kernel) ⟨(Nat.le_of_ble_eq_true rfl), (Nat.le_of_ble_eq_true rfl)⟩) (zk_pV hC hP hD hS hA [0, 1, 2] rfl rfl 0 9 rfl rfl) rfl rfl hl.1 rfl (lv_room (Nat.le_of_ble_eq_true rfl)) dX10_outputs_2 ⟨(Nat.le_of_ble_eq_true rfl), (Nat.le_of_ble_eq_true rfl)⟩) hP hD hS hA [0, 1, 2] [] rfl rfl rfl (by decide) (fun u1 ce q9 H locs hP hD hS hce hcv hcl => ?_)
  have hP : va_P D vwCl [(a0, .inr (9, [.ref a1, .ref a2, .int 0, .int 0, .int 0])), (a1, .inr (2, [.int 0, .ref a3, .int 8, .int (-1), .int 0, .int 0, .int 0, .int 0])), (a3, .inr (0, [.int 0, .ref e0, .int 0]))] H := hP
  have hD : va_D A [(a0, .inr (9, [.ref a1, .ref a2, .int 0, .int 0, .int 0])), (a1, .inr (2, [.int 0, .ref a3, .int 8, .int (-1), .int 0, .int 0, .int 0, .int 0])), (a3, .inr (0, [.int 0, .ref e0, .int 0]))] := hD
  exact vx_out (fun x9 hx9 => (hnx x9 hx9).elim) hlk hce hcv hcl (zk_out hP hD hS (fun _ _ => 0) [0, 1, 2] rfl rfl) hS.2.2 (Nat.le_of_ble_eq_true rfl) (Nat.le_of_ble_eq_true rfl)
set_option maxHeartbeats 4000000 in
set_option maxRecDepth 100000 in
theorem kL_outputs_0 (l : Launch) (hst : l.stackTraces = false) (D : va_G) (yc : Nat → ClassId) (e0 sz : Nat) (a0 : Nat) (p0 : Int32) (a1 : Nat) (a2 : Nat) (a3 : Nat) (a4 : Nat)  : Met l yL_outputs (ww_ yL_outputs cL_outputs 4 (some .int) [(0, 9, 12, 21), (0, 9, 15, 13)]) ({ frames := 9, cells := 1, slots := 6, locals := 146 }) (PR D yc e0 [(a0, .inr (9, [.ref a2, .ref a3, .int 0, .int 0, .int 0])), (a2, .inr (2, [.int 0, .ref a4, .int 8, .int (-1), .int 0, .int 0, .int 0, .int 0])), (a4, .inr (0, [.int 0, .ref e0, .int 0]))] sz [.ref a0, .int p0, .ref a1]) (va_Qi (fun r u => r = (fun u : Nat → Nat → Nat => 1) u) (WD D (va_A [(a0, .inr (9, [.ref a2, .ref a3, .int 0, .int 0, .int 0])), (a2, .inr (2, [.int 0, .ref a4, .int 8, .int (-1), .int 0, .int 0, .int 0, .int 0])), (a4, .inr (0, [.int 0, .ref e0, .int 0]))] sz) (fun u => [(a0, .inr (9, [.ref a2, .ref a3, .int 0, .int 0, .int 0])), (a2, .inr (2, [.int 0, .ref a4, .int 8, .int (-1), .int 0, .int 0, .int 0, .int 0])), (a4, .inr (0, [.int 0, .ref e0, .int 0]))])) (va_A [(a0, .inr (9, [.ref a2, .ref a3, .int 0, .int 0, .int 0])), (a2, .inr (2, [.int 0, .ref a4, .int 8, .int (-1), .int 0, .int 0, .int 0, .int 0])), (a4, .inr (0, [.int 0, .ref e0, .int 0]))] sz)) 1 6 (va_A [(a0, .inr (9, [.ref a2, .ref a3, .int 0, .int 0, .int 0])), (a2, .inr (2, [.int 0, .ref a4, .int 8, .int (-1), .int 0, .int 0, .int 0, .int 0])), (a4, .inr (0, [.int 0, .ref e0, .int 0]))] sz) := by
  refine zk_MW (Qc := fun A => va_Qi (fun r u => r = (fun u : Nat → Nat → Nat => 1) u) (WD D A (fun u => [(a0, .inr (9, [.ref a2, .ref a3, .int 0, .int 0, .int 0])), (a2, .inr (2, [.int 0, .ref a4, .int 8, .int (-1), .int 0, .int 0, .int 0, .int 0])), (a4, .inr (0, [.int 0, .ref e0, .int 0]))])) A) (by decide) (Nat.le_of_ble_eq_true rfl) ?_
  intro p e s m args below meth c A ls hx hb hml hr hlk hown hts hP hD hS hA hC hl hex
  have hK := hC.1
  have hN := hC.2.1
  have hl : lv_has ls 4 [(0, .ref a0), (1, .int p0), (2, .ref a1)] := hl
  generalize hHH : s.heap = H at hP ⊢
  have hS : va_S A s.heap H [] := by rw [← hHH]; exact hS
  refine lv_aload_n hx hb dL_outputs_0 rfl (lv_at hl 2 rfl) ?_
  refine lv_iconst (v := 0) hx hb dL_outputs_1 (by decide) ?_
  refine lv_aload_n hx hb dL_outputs_2 rfl (lv_at hl 0 rfl) ?_
  refine lv_iload_n hx hb dL_outputs_3 rfl (lv_at hl 1 rfl) ?_
  refine zk_x (wr := []) (vx_runV (As := [.int p0]) (rest := [.int 0, .ref a1]) ⟨hx, hb, hml, hown, hts⟩ (kX10_outputs_0 l hst D yc e0 H.size a0 p0 a2 a3 a4) (cwV 1 hts (lw_V wq1286 wq428 wq429 wq1 wq430) rfl rfl rfl (by decide +kernel) ⟨(Nat.le_of_ble_eq_true rfl), (Nat.le_of_ble_eq_true rfl)⟩) (zk_pV hC hP hD hS hA [0, 1, 2] rfl rfl 0 9 rfl rfl) rfl rfl hl.1 rfl (lv_room (Nat.le_of_ble_eq_true rfl)) dL_outputs_4 ⟨(Nat.le_of_ble_eq_true rfl), (Nat.le_of_ble_eq_true rfl)⟩) hP hD hS hA [0, 1, 2] [] rfl rfl rfl (by decide) (fun u1 ce q9 H locs hP hD hS hce hcv hcl => ?_)
  have hP : va_P D vwCl [(a0, .inr (9, [.ref a2, .ref a3, .int 0, .int 0, .int 0])), (a2, .inr (2, [.int 0, .ref a4, .int 8, .int (-1), .int 0, .int 0, .int 0, .int 0])), (a4, .inr (0, [.int 0, .ref e0, .int 0]))] H := hP
  have hD : va_D A [(a0, .inr (9, [.ref a2, .ref a3, .int 0, .int 0, .int 0])), (a2, .inr (2, [.int 0, .ref a4, .int 8, .int (-1), .int 0, .int 0, .int 0, .int 0])), (a4, .inr (0, [.int 0, .ref e0, .int 0]))] := hD
  refine vx_catch (own := RL) (name := "java/lang/IndexOutOfBoundsException") hown (tableOf []) ⟨0, 9, 12, 21⟩ (tableOf [(0, 9, 15, 13)]) hex (fun z hz => False.elim (List.not_mem_nil hz)) (by decide) (by decide) (hts _ wq833) (zk_tab rfl (hN _ wr261 rfl)) hce hcv hcl ?_
  refine W.widen (k := 1) (n := 6) (Nat.le_of_ble_eq_true rfl) (Nat.le_of_ble_eq_true rfl) ?_
  refine lv_astore_n (lv' := [(3, .ref q9), (0, .ref a0), (1, .int p0), (2, .ref a1)]) hx hb dL_outputs_12 rfl hl (by decide) rfl (fun ls hl => ?_)
  refine lv_iconst (v := 1) hx hb dL_outputs_13 (by decide) ?_
  exact zk_ri (r0 := fun u => 1) (w1 := fun u => [(a0, .inr (9, [.ref a2, .ref a3, .int 0, .int 0, .int 0])), (a2, .inr (2, [.int 0, .ref a4, .int 8, .int (-1), .int 0, .int 0, .int 0, .int 0])), (a4, .inr (0, [.int 0, .ref e0, .int 0]))]) hx hb hr hlk hP hD hS (fun _ _ => 0) rfl rfl [0, 1, 2] rfl rfl (Nat.le_of_ble_eq_true rfl) (Nat.le_of_ble_eq_true rfl) dL_outputs_14
set_option maxHeartbeats 4000000 in
set_option maxRecDepth 100000 in
theorem kX14_hasSink_0 (l : Launch) (hst : l.stackTraces = false) (D : va_G) (yc : Nat → ClassId) (e0 sz : Nat) (a0 : Nat) (p0 : Int32) (a1 : Nat) (a2 : Nat) (a3 : Nat) (a4 : Nat) (a5 : Nat) (a6 : Nat) (a7 : Nat)  : Met l yX14_hasSink (ws_ yX14_hasSink cX14_hasSink 2 (some .boolean)) ({ frames := 3, cells := 0, slots := 0, locals := 64 }) (PR D yc e0 [(a0, .inr (13, [.int 0, .int 0, .ref a1, .ref a2, .ref a3, .ref a4, .ref a5, .ref a6, .ref a7, .int 0, .long 0]))] sz [.ref a0, .int p0]) (va_Qi (fun r u => r = (fun u : Nat → Nat → Nat => 0) u) (WD D (va_A [(a0, .inr (13, [.int 0, .int 0, .ref a1, .ref a2, .ref a3, .ref a4, .ref a5, .ref a6, .ref a7, .int 0, .long 0]))] sz) (fun u => [(a0, .inr (13, [.int 0, .int 0, .ref a1, .ref a2, .ref a3, .ref a4, .ref a5, .ref a6, .ref a7, .int 1, .long 0]))])) (va_A [(a0, .inr (13, [.int 0, .int 0, .ref a1, .ref a2, .ref a3, .ref a4, .ref a5, .ref a6, .ref a7, .int 0, .long 0]))] sz)) 0 0 (va_A [(a0, .inr (13, [.int 0, .int 0, .ref a1, .ref a2, .ref a3, .ref a4, .ref a5, .ref a6, .ref a7, .int 0, .long 0]))] sz) := by
  refine zk_M (Qc := fun A => va_Qi (fun r u => r = (fun u : Nat → Nat → Nat => 0) u) (WD D A (fun u => [(a0, .inr (13, [.int 0, .int 0, .ref a1, .ref a2, .ref a3, .ref a4, .ref a5, .ref a6, .ref a7, .int 1, .long 0]))])) A) (by decide) (Nat.le_of_ble_eq_true rfl) ?_
  intro p e s m args below meth c A ls hx hb hml hr hlk hown hnm hts hP hD hS hA hC hl
  have hK := hC.1
  have hN := hC.2.1
  have hl : lv_has ls 2 [(0, .ref a0), (1, .int p0)] := hl
  generalize hHH : s.heap = H at hP ⊢
  have hS : va_S A s.heap H [] := by rw [← hHH]; exact hS
  refine lv_aload_n hx hb dX14_hasSink_0 rfl (lv_at hl 0 rfl) ?_
  refine lv_iload_n hx hb dX14_hasSink_1 rfl (lv_at hl 1 rfl) ?_
  refine zk_i (wr := []) (va_runV (As := [.int p0]) (rest := []) ⟨hx, hb, hml, hown, hts⟩ (kX14_has_0 l hst D yc e0 H.size a0 p0 a1 a2 a3 a4 a5 a6 a7) (cwV 1 hts (lw_V wq1847 wq1849 ws63 wq6 wq1850) rfl rfl rfl (by decide +kernel) ⟨(Nat.le_of_ble_eq_true rfl), (Nat.le_of_ble_eq_true rfl)⟩) (zk_pV hC hP hD hS hA [0] rfl rfl 0 13 rfl rfl) rfl rfl hl.1 rfl (lv_room (Nat.le_of_ble_eq_true rfl)) dX14_hasSink_2 ⟨(Nat.le_of_ble_eq_true rfl), (Nat.le_of_ble_eq_true rfl)⟩) hP hD hS hA [0] [] rfl rfl rfl (by decide) (fun u1 H locs hP hD hS => ?_)
  have hP : va_P D vwCl [(a0, .inr (13, [.int 0, .int 0, .ref a1, .ref a2, .ref a3, .ref a4, .ref a5, .ref a6, .ref a7, .int 1, .long 0]))] H := hP
  have hD : va_D A [(a0, .inr (13, [.int 0, .int 0, .ref a1, .ref a2, .ref a3, .ref a4, .ref a5, .ref a6, .ref a7, .int 1, .long 0]))] := hD
  refine W.widen (k := 0) (n := 0) (Nat.le_of_ble_eq_true rfl) (Nat.le_of_ble_eq_true rfl) ?_
  refine lv_if_eq (tgt := 24) hx hb dX14_hasSink_5 (by decide) (fun _ => ?_) (fun h9 => absurd (by decide) h9)
  refine lv_aload_n hx hb dX14_hasSink_24 rfl (lv_at hl 0 rfl) ?_
  refine va_get (D := D) (ci := 13) (v := .int 1) (C := RX14) (T := TX14) (N := 11) hx hb hts iX14 hown hK hP 0 rfl rfl 9 (by decide) (hts _ wq1542) (fun _ h9 => h9) rfl dX14_hasSink_25 ?_
  refine lv_if_ne (tgt := 35) hx hb dX14_hasSink_28 (by decide) (fun _ => ?_) (fun h9 => absurd h9 (by decide))
  refine lv_iconst (v := 0) hx hb dX14_hasSink_35 (by decide) ?_
  exact zk_ri (r0 := fun u => 0) (w1 := fun u => [(a0, .inr (13, [.int 0, .int 0, .ref a1, .ref a2, .ref a3, .ref a4, .ref a5, .ref a6, .ref a7, .int 1, .long 0]))]) hx hb hr hlk hP hD hS (fun _ _ => 0) rfl rfl [0] rfl rfl (Nat.le_of_ble_eq_true rfl) (Nat.le_of_ble_eq_true rfl) dX14_hasSink_36
set_option maxHeartbeats 4000000 in
set_option maxRecDepth 100000 in
theorem kX14_outputs_0 (l : Launch) (hst : l.stackTraces = false) (D : va_G) (yc : Nat → ClassId) (e0 sz : Nat) (a0 : Nat) (p0 : Int32) (a1 : Nat) (a2 : Nat) (a3 : Nat) (a4 : Nat) (a5 : Nat) (a6 : Nat) (a7 : Nat)  : Met l yX14_outputs (ws_ yX14_outputs cX14_outputs 2 (some .int)) ({ frames := 4, cells := 0, slots := 0, locals := 85 }) (PR D yc e0 [(a0, .inr (13, [.int 0, .int 0, .ref a1, .ref a2, .ref a3, .ref a4, .ref a5, .ref a6, .ref a7, .int 0, .long 0]))] sz [.ref a0, .int p0]) (va_Qi (fun r u => r = (fun u : Nat → Nat → Nat => 0) u) (WD D (va_A [(a0, .inr (13, [.int 0, .int 0, .ref a1, .ref a2, .ref a3, .ref a4, .ref a5, .ref a6, .ref a7, .int 0, .long 0]))] sz) (fun u => [(a0, .inr (13, [.int 0, .int 0, .ref a1, .ref a2, .ref a3, .ref a4, .ref a5, .ref a6, .ref a7, .int 1, .long 0]))])) (va_A [(a0, .inr (13, [.int 0, .int 0, .ref a1, .ref a2, .ref a3, .ref a4, .ref a5, .ref a6, .ref a7, .int 0, .long 0]))] sz)) 0 0 (va_A [(a0, .inr (13, [.int 0, .int 0, .ref a1, .ref a2, .ref a3, .ref a4, .ref a5, .ref a6, .ref a7, .int 0, .long 0]))] sz) := by
  refine zk_M (Qc := fun A => va_Qi (fun r u => r = (fun u : Nat → Nat → Nat => 0) u) (WD D A (fun u => [(a0, .inr (13, [.int 0, .int 0, .ref a1, .ref a2, .ref a3, .ref a4, .ref a5, .ref a6, .ref a7, .int 1, .long 0]))])) A) (by decide) (Nat.le_of_ble_eq_true rfl) ?_
  intro p e s m args below meth c A ls hx hb hml hr hlk hown hnm hts hP hD hS hA hC hl
  have hK := hC.1
  have hN := hC.2.1
  have hl : lv_has ls 2 [(0, .ref a0), (1, .int p0)] := hl
  generalize hHH : s.heap = H at hP ⊢
  have hS : va_S A s.heap H [] := by rw [← hHH]; exact hS
  refine lv_aload_n hx hb dX14_outputs_0 rfl (lv_at hl 0 rfl) ?_
  refine lv_iload_n hx hb dX14_outputs_1 rfl (lv_at hl 1 rfl) ?_
  refine zk_i (wr := []) (va_runV (As := [.int p0]) (rest := []) ⟨hx, hb, hml, hown, hts⟩ (kX14_hasSink_0 l hst D yc e0 H.size a0 p0 a1 a2 a3 a4 a5 a6 a7) (cwV 1 hts (lw_V wq1939 wq1941 ws71 wq6 wq1942) rfl rfl rfl (by decide +kernel) ⟨(Nat.le_of_ble_eq_true rfl), (Nat.le_of_ble_eq_true rfl)⟩) (zk_pV hC hP hD hS hA [0] rfl rfl 0 13 rfl rfl) rfl rfl hl.1 rfl (lv_room (Nat.le_of_ble_eq_true rfl)) dX14_outputs_2 ⟨(Nat.le_of_ble_eq_true rfl), (Nat.le_of_ble_eq_true rfl)⟩) hP hD hS hA [0] [] rfl rfl rfl (by decide) (fun u1 H locs hP hD hS => ?_)
  have hP : va_P D vwCl [(a0, .inr (13, [.int 0, .int 0, .ref a1, .ref a2, .ref a3, .ref a4, .ref a5, .ref a6, .ref a7, .int 1, .long 0]))] H := hP
  have hD : va_D A [(a0, .inr (13, [.int 0, .int 0, .ref a1, .ref a2, .ref a3, .ref a4, .ref a5, .ref a6, .ref a7, .int 1, .long 0]))] := hD
  refine W.widen (k := 0) (n := 0) (Nat.le_of_ble_eq_true rfl) (Nat.le_of_ble_eq_true rfl) ?_
  refine lv_if_eq (tgt := 23) hx hb dX14_outputs_5 (by decide) (fun _ => ?_) (fun h9 => absurd (by decide) h9)
  refine lv_iconst (v := 0) hx hb dX14_outputs_23 (by decide) ?_
  exact zk_ri (r0 := fun u => 0) (w1 := fun u => [(a0, .inr (13, [.int 0, .int 0, .ref a1, .ref a2, .ref a3, .ref a4, .ref a5, .ref a6, .ref a7, .int 1, .long 0]))]) hx hb hr hlk hP hD hS (fun _ _ => 0) rfl rfl [0] rfl rfl (Nat.le_of_ble_eq_true rfl) (Nat.le_of_ble_eq_true rfl) dX14_outputs_24
set_option maxHeartbeats 4000000 in
set_option maxRecDepth 100000 in
theorem kX10_committed_0 (l : Launch) (hst : l.stackTraces = false) (D : va_G) (yc : Nat → ClassId) (e0 sz : Nat) (a0 : Nat) (p0 : Int32) (a1 : Nat) (a2 : Nat) (a3 : Nat)  : vx_Met l yX10_committed (ws_ yX10_committed cX10_committed 2 (some .int)) ({ frames := 8, cells := 1, slots := 6, locals := 125 }) (PR D yc e0 [(a0, .inr (9, [.ref a1, .ref a2, .int 0, .int 0, .int 0])), (a1, .inr (2, [.int 0, .ref a3, .int 8, .int (-1), .int 0, .int 0, .int 0, .int 0])), (a3, .inr (0, [.int 0, .ref e0, .int 0]))] sz [.ref a0, .int p0]) (fun _ _ _ _ => False) (zk_X D (va_A [(a0, .inr (9, [.ref a1, .ref a2, .int 0, .int 0, .int 0])), (a1, .inr (2, [.int 0, .ref a3, .int 8, .int (-1), .int 0, .int 0, .int 0, .int 0])), (a3, .inr (0, [.int 0, .ref e0, .int 0]))] sz) "java/lang/IndexOutOfBoundsException" (fun u => [(a0, .inr (9, [.ref a1, .ref a2, .int 0, .int 0, .int 0])), (a1, .inr (2, [.int 0, .ref a3, .int 8, .int (-1), .int 0, .int 0, .int 0, .int 0])), (a3, .inr (0, [.int 0, .ref e0, .int 0]))])) 1 6 (va_A [(a0, .inr (9, [.ref a1, .ref a2, .int 0, .int 0, .int 0])), (a1, .inr (2, [.int 0, .ref a3, .int 8, .int (-1), .int 0, .int 0, .int 0, .int 0])), (a3, .inr (0, [.int 0, .ref e0, .int 0]))] sz) := by
  refine zk_MX (by decide) (Nat.le_of_ble_eq_true rfl) ?_
  intro p e s m args below meth c A ls hx hb hml hr hlk hown hnm hts hP hD hS hA hC hl hnx
  have hK := hC.1
  have hN := hC.2.1
  have hl : lv_has ls 2 [(0, .ref a0), (1, .int p0)] := hl
  generalize hHH : s.heap = H at hP ⊢
  have hS : va_S A s.heap H [] := by rw [← hHH]; exact hS
  refine W.widen (k := 0) (n := 0) (Nat.le_of_ble_eq_true rfl) (Nat.le_of_ble_eq_true rfl) ?_
  refine lv_aload_n hx hb dX10_committed_0 rfl (lv_at hl 0 rfl) ?_
  refine lv_iload_n hx hb dX10_committed_1 rfl (lv_at hl 1 rfl) ?_
  refine zk_x (wr := []) (vx_runV (As := [.int p0]) (rest := []) ⟨hx, hb, hml, hown, hts⟩ (kX10_sinkOf_0 l hst D yc e0 H.size a0 p0 a1 a2 a3) (cwV 1 hts (lw_V wq431 wq433 ws6 wq1 wq434) rfl rfl rfl (by decide +kernel) ⟨(Nat.le_of_ble_eq_true rfl), (Nat.le_of_ble_eq_true rfl)⟩) (zk_pV hC hP hD hS hA [0, 1, 2] rfl rfl 0 9 rfl rfl) rfl rfl hl.1 rfl (lv_room (Nat.le_of_ble_eq_true rfl)) dX10_committed_2 ⟨(Nat.le_of_ble_eq_true rfl), (Nat.le_of_ble_eq_true rfl)⟩) hP hD hS hA [0, 1, 2] [] rfl rfl rfl (by decide) (fun u1 ce q9 H locs hP hD hS hce hcv hcl => ?_)
  have hP : va_P D vwCl [(a0, .inr (9, [.ref a1, .ref a2, .int 0, .int 0, .int 0])), (a1, .inr (2, [.int 0, .ref a3, .int 8, .int (-1), .int 0, .int 0, .int 0, .int 0])), (a3, .inr (0, [.int 0, .ref e0, .int 0]))] H := hP
  have hD : va_D A [(a0, .inr (9, [.ref a1, .ref a2, .int 0, .int 0, .int 0])), (a1, .inr (2, [.int 0, .ref a3, .int 8, .int (-1), .int 0, .int 0, .int 0, .int 0])), (a3, .inr (0, [.int 0, .ref e0, .int 0]))] := hD
  exact vx_out (fun x9 hx9 => (hnx x9 hx9).elim) hlk hce hcv hcl (zk_out hP hD hS (fun _ _ => 0) [0, 1, 2] rfl rfl) hS.2.2 (Nat.le_of_ble_eq_true rfl) (Nat.le_of_ble_eq_true rfl)
set_option maxHeartbeats 4000000 in
set_option maxRecDepth 100000 in
theorem kL_committed_0 (l : Launch) (hst : l.stackTraces = false) (D : va_G) (yc : Nat → ClassId) (e0 sz : Nat) (a0 : Nat) (p0 : Int32) (a1 : Nat) (a2 : Nat) (a3 : Nat) (a4 : Nat)  : Met l yL_committed (ww_ yL_committed cL_committed 4 (some .int) [(0, 9, 12, 21), (0, 9, 15, 13)]) ({ frames := 9, cells := 1, slots := 6, locals := 146 }) (PR D yc e0 [(a0, .inr (9, [.ref a2, .ref a3, .int 0, .int 0, .int 0])), (a2, .inr (2, [.int 0, .ref a4, .int 8, .int (-1), .int 0, .int 0, .int 0, .int 0])), (a4, .inr (0, [.int 0, .ref e0, .int 0]))] sz [.ref a0, .int p0, .ref a1]) (va_Qi (fun r u => r = (fun u : Nat → Nat → Nat => 1) u) (WD D (va_A [(a0, .inr (9, [.ref a2, .ref a3, .int 0, .int 0, .int 0])), (a2, .inr (2, [.int 0, .ref a4, .int 8, .int (-1), .int 0, .int 0, .int 0, .int 0])), (a4, .inr (0, [.int 0, .ref e0, .int 0]))] sz) (fun u => [(a0, .inr (9, [.ref a2, .ref a3, .int 0, .int 0, .int 0])), (a2, .inr (2, [.int 0, .ref a4, .int 8, .int (-1), .int 0, .int 0, .int 0, .int 0])), (a4, .inr (0, [.int 0, .ref e0, .int 0]))])) (va_A [(a0, .inr (9, [.ref a2, .ref a3, .int 0, .int 0, .int 0])), (a2, .inr (2, [.int 0, .ref a4, .int 8, .int (-1), .int 0, .int 0, .int 0, .int 0])), (a4, .inr (0, [.int 0, .ref e0, .int 0]))] sz)) 1 6 (va_A [(a0, .inr (9, [.ref a2, .ref a3, .int 0, .int 0, .int 0])), (a2, .inr (2, [.int 0, .ref a4, .int 8, .int (-1), .int 0, .int 0, .int 0, .int 0])), (a4, .inr (0, [.int 0, .ref e0, .int 0]))] sz) := by
  refine zk_MW (Qc := fun A => va_Qi (fun r u => r = (fun u : Nat → Nat → Nat => 1) u) (WD D A (fun u => [(a0, .inr (9, [.ref a2, .ref a3, .int 0, .int 0, .int 0])), (a2, .inr (2, [.int 0, .ref a4, .int 8, .int (-1), .int 0, .int 0, .int 0, .int 0])), (a4, .inr (0, [.int 0, .ref e0, .int 0]))])) A) (by decide) (Nat.le_of_ble_eq_true rfl) ?_
  intro p e s m args below meth c A ls hx hb hml hr hlk hown hts hP hD hS hA hC hl hex
  have hK := hC.1
  have hN := hC.2.1
  have hl : lv_has ls 4 [(0, .ref a0), (1, .int p0), (2, .ref a1)] := hl
  generalize hHH : s.heap = H at hP ⊢
  have hS : va_S A s.heap H [] := by rw [← hHH]; exact hS
  refine lv_aload_n hx hb dL_committed_0 rfl (lv_at hl 2 rfl) ?_
  refine lv_iconst (v := 0) hx hb dL_committed_1 (by decide) ?_
  refine lv_aload_n hx hb dL_committed_2 rfl (lv_at hl 0 rfl) ?_
  refine lv_iload_n hx hb dL_committed_3 rfl (lv_at hl 1 rfl) ?_
  refine zk_x (wr := []) (vx_runV (As := [.int p0]) (rest := [.int 0, .ref a1]) ⟨hx, hb, hml, hown, hts⟩ (kX10_committed_0 l hst D yc e0 H.size a0 p0 a2 a3 a4) (cwV 1 hts (lw_V wq1290 wq436 wq437 wq1 wq438) rfl rfl rfl (by decide +kernel) ⟨(Nat.le_of_ble_eq_true rfl), (Nat.le_of_ble_eq_true rfl)⟩) (zk_pV hC hP hD hS hA [0, 1, 2] rfl rfl 0 9 rfl rfl) rfl rfl hl.1 rfl (lv_room (Nat.le_of_ble_eq_true rfl)) dL_committed_4 ⟨(Nat.le_of_ble_eq_true rfl), (Nat.le_of_ble_eq_true rfl)⟩) hP hD hS hA [0, 1, 2] [] rfl rfl rfl (by decide) (fun u1 ce q9 H locs hP hD hS hce hcv hcl => ?_)
  have hP : va_P D vwCl [(a0, .inr (9, [.ref a2, .ref a3, .int 0, .int 0, .int 0])), (a2, .inr (2, [.int 0, .ref a4, .int 8, .int (-1), .int 0, .int 0, .int 0, .int 0])), (a4, .inr (0, [.int 0, .ref e0, .int 0]))] H := hP
  have hD : va_D A [(a0, .inr (9, [.ref a2, .ref a3, .int 0, .int 0, .int 0])), (a2, .inr (2, [.int 0, .ref a4, .int 8, .int (-1), .int 0, .int 0, .int 0, .int 0])), (a4, .inr (0, [.int 0, .ref e0, .int 0]))] := hD
  refine vx_catch (own := RL) (name := "java/lang/IndexOutOfBoundsException") hown (tableOf []) ⟨0, 9, 12, 21⟩ (tableOf [(0, 9, 15, 13)]) hex (fun z hz => False.elim (List.not_mem_nil hz)) (by decide) (by decide) (hts _ wq833) (zk_tab rfl (hN _ wr261 rfl)) hce hcv hcl ?_
  refine W.widen (k := 1) (n := 6) (Nat.le_of_ble_eq_true rfl) (Nat.le_of_ble_eq_true rfl) ?_
  refine lv_astore_n (lv' := [(3, .ref q9), (0, .ref a0), (1, .int p0), (2, .ref a1)]) hx hb dL_committed_12 rfl hl (by decide) rfl (fun ls hl => ?_)
  refine lv_iconst (v := 1) hx hb dL_committed_13 (by decide) ?_
  exact zk_ri (r0 := fun u => 1) (w1 := fun u => [(a0, .inr (9, [.ref a2, .ref a3, .int 0, .int 0, .int 0])), (a2, .inr (2, [.int 0, .ref a4, .int 8, .int (-1), .int 0, .int 0, .int 0, .int 0])), (a4, .inr (0, [.int 0, .ref e0, .int 0]))]) hx hb hr hlk hP hD hS (fun _ _ => 0) rfl rfl [0, 1, 2] rfl rfl (Nat.le_of_ble_eq_true rfl) (Nat.le_of_ble_eq_true rfl) dL_committed_14
set_option maxHeartbeats 4000000 in
set_option maxRecDepth 100000 in
theorem kX14_committed_0 (l : Launch) (hst : l.stackTraces = false) (D : va_G) (yc : Nat → ClassId) (e0 sz : Nat) (a0 : Nat) (p0 : Int32) (a1 : Nat) (a2 : Nat) (a3 : Nat) (a4 : Nat) (a5 : Nat) (a6 : Nat) (a7 : Nat)  : Met l yX14_committed (ws_ yX14_committed cX14_committed 2 (some .int)) ({ frames := 4, cells := 0, slots := 0, locals := 85 }) (PR D yc e0 [(a0, .inr (13, [.int 0, .int 0, .ref a1, .ref a2, .ref a3, .ref a4, .ref a5, .ref a6, .ref a7, .int 0, .long 0]))] sz [.ref a0, .int p0]) (va_Qi (fun r u => r = (fun u : Nat → Nat → Nat => 0) u) (WD D (va_A [(a0, .inr (13, [.int 0, .int 0, .ref a1, .ref a2, .ref a3, .ref a4, .ref a5, .ref a6, .ref a7, .int 0, .long 0]))] sz) (fun u => [(a0, .inr (13, [.int 0, .int 0, .ref a1, .ref a2, .ref a3, .ref a4, .ref a5, .ref a6, .ref a7, .int 1, .long 0]))])) (va_A [(a0, .inr (13, [.int 0, .int 0, .ref a1, .ref a2, .ref a3, .ref a4, .ref a5, .ref a6, .ref a7, .int 0, .long 0]))] sz)) 0 0 (va_A [(a0, .inr (13, [.int 0, .int 0, .ref a1, .ref a2, .ref a3, .ref a4, .ref a5, .ref a6, .ref a7, .int 0, .long 0]))] sz) := by
  refine zk_M (Qc := fun A => va_Qi (fun r u => r = (fun u : Nat → Nat → Nat => 0) u) (WD D A (fun u => [(a0, .inr (13, [.int 0, .int 0, .ref a1, .ref a2, .ref a3, .ref a4, .ref a5, .ref a6, .ref a7, .int 1, .long 0]))])) A) (by decide) (Nat.le_of_ble_eq_true rfl) ?_
  intro p e s m args below meth c A ls hx hb hml hr hlk hown hnm hts hP hD hS hA hC hl
  have hK := hC.1
  have hN := hC.2.1
  have hl : lv_has ls 2 [(0, .ref a0), (1, .int p0)] := hl
  generalize hHH : s.heap = H at hP ⊢
  have hS : va_S A s.heap H [] := by rw [← hHH]; exact hS
  refine lv_aload_n hx hb dX14_committed_0 rfl (lv_at hl 0 rfl) ?_
  refine lv_iload_n hx hb dX14_committed_1 rfl (lv_at hl 1 rfl) ?_
  refine zk_i (wr := []) (va_runV (As := [.int p0]) (rest := []) ⟨hx, hb, hml, hown, hts⟩ (kX14_hasSink_0 l hst D yc e0 H.size a0 p0 a1 a2 a3 a4 a5 a6 a7) (cwV 1 hts (lw_V wq1939 wq1941 ws71 wq6 wq1942) rfl rfl rfl (by decide +kernel) ⟨(Nat.le_of_ble_eq_true rfl), (Nat.le_of_ble_eq_true rfl)⟩) (zk_pV hC hP hD hS hA [0] rfl rfl 0 13 rfl rfl) rfl rfl hl.1 rfl (lv_room (Nat.le_of_ble_eq_true rfl)) dX14_committed_2 ⟨(Nat.le_of_ble_eq_true rfl), (Nat.le_of_ble_eq_true rfl)⟩) hP hD hS hA [0] [] rfl rfl rfl (by decide) (fun u1 H locs hP hD hS => ?_)
  have hP : va_P D vwCl [(a0, .inr (13, [.int 0, .int 0, .ref a1, .ref a2, .ref a3, .ref a4, .ref a5, .ref a6, .ref a7, .int 1, .long 0]))] H := hP
  have hD : va_D A [(a0, .inr (13, [.int 0, .int 0, .ref a1, .ref a2, .ref a3, .ref a4, .ref a5, .ref a6, .ref a7, .int 1, .long 0]))] := hD
  refine W.widen (k := 0) (n := 0) (Nat.le_of_ble_eq_true rfl) (Nat.le_of_ble_eq_true rfl) ?_
  refine lv_if_eq (tgt := 20) hx hb dX14_committed_5 (by decide) (fun _ => ?_) (fun h9 => absurd (by decide) h9)
  refine lv_iconst (v := 0) hx hb dX14_committed_20 (by decide) ?_
  exact zk_ri (r0 := fun u => 0) (w1 := fun u => [(a0, .inr (13, [.int 0, .int 0, .ref a1, .ref a2, .ref a3, .ref a4, .ref a5, .ref a6, .ref a7, .int 1, .long 0]))]) hx hb hr hlk hP hD hS (fun _ _ => 0) rfl rfl [0] rfl rfl (Nat.le_of_ble_eq_true rfl) (Nat.le_of_ble_eq_true rfl) dX14_committed_21
set_option maxHeartbeats 4000000 in
set_option maxRecDepth 100000 in
theorem kX10_outputAt_0 (l : Launch) (hst : l.stackTraces = false) (D : va_G) (yc : Nat → ClassId) (e0 sz : Nat) (a0 : Nat) (p0 : Int32) (p1 : Int32) (a1 : Nat) (a2 : Nat) (a3 : Nat)  : vx_Met l yX10_outputAt (ws_ yX10_outputAt cX10_outputAt 4 (some .long)) ({ frames := 8, cells := 1, slots := 6, locals := 125 }) (PR D yc e0 [(a0, .inr (9, [.ref a1, .ref a2, .int 0, .int 0, .int 0])), (a1, .inr (2, [.int 0, .ref a3, .int 8, .int (-1), .int 0, .int 0, .int 0, .int 0])), (a3, .inr (0, [.int 0, .ref e0, .int 0]))] sz [.ref a0, .int p0, .int p1]) (fun _ _ _ _ => False) (zk_X D (va_A [(a0, .inr (9, [.ref a1, .ref a2, .int 0, .int 0, .int 0])), (a1, .inr (2, [.int 0, .ref a3, .int 8, .int (-1), .int 0, .int 0, .int 0, .int 0])), (a3, .inr (0, [.int 0, .ref e0, .int 0]))] sz) "java/lang/IndexOutOfBoundsException" (fun u => [(a0, .inr (9, [.ref a1, .ref a2, .int 0, .int 0, .int 0])), (a1, .inr (2, [.int 0, .ref a3, .int 8, .int (-1), .int 0, .int 0, .int 0, .int 0])), (a3, .inr (0, [.int 0, .ref e0, .int 0]))])) 1 6 (va_A [(a0, .inr (9, [.ref a1, .ref a2, .int 0, .int 0, .int 0])), (a1, .inr (2, [.int 0, .ref a3, .int 8, .int (-1), .int 0, .int 0, .int 0, .int 0])), (a3, .inr (0, [.int 0, .ref e0, .int 0]))] sz) := by
  refine zk_MX (by decide) (Nat.le_of_ble_eq_true rfl) ?_
  intro p e s m args below meth c A ls hx hb hml hr hlk hown hnm hts hP hD hS hA hC hl hnx
  have hK := hC.1
  have hN := hC.2.1
  have hl : lv_has ls 4 [(0, .ref a0), (1, .int p0), (2, .int p1)] := hl
  generalize hHH : s.heap = H at hP ⊢
  have hS : va_S A s.heap H [] := by rw [← hHH]; exact hS
  refine W.widen (k := 0) (n := 0) (Nat.le_of_ble_eq_true rfl) (Nat.le_of_ble_eq_true rfl) ?_
  refine lv_aload_n hx hb dX10_outputAt_0 rfl (lv_at hl 0 rfl) ?_
  refine lv_iload_n hx hb dX10_outputAt_1 rfl (lv_at hl 1 rfl) ?_
  refine zk_x (wr := []) (vx_runV (As := [.int p0]) (rest := []) ⟨hx, hb, hml, hown, hts⟩ (kX10_sinkOf_0 l hst D yc e0 H.size a0 p0 a1 a2 a3) (cwV 1 hts (lw_V wq431 wq433 ws6 wq1 wq434) rfl rfl rfl (by decide +kernel) ⟨(Nat.le_of_ble_eq_true rfl), (Nat.le_of_ble_eq_true rfl)⟩) (zk_pV hC hP hD hS hA [0, 1, 2] rfl rfl 0 9 rfl rfl) rfl rfl hl.1 rfl (lv_room (Nat.le_of_ble_eq_true rfl)) dX10_outputAt_2 ⟨(Nat.le_of_ble_eq_true rfl), (Nat.le_of_ble_eq_true rfl)⟩) hP hD hS hA [0, 1, 2] [] rfl rfl rfl (by decide) (fun u1 ce q9 H locs hP hD hS hce hcv hcl => ?_)
  have hP : va_P D vwCl [(a0, .inr (9, [.ref a1, .ref a2, .int 0, .int 0, .int 0])), (a1, .inr (2, [.int 0, .ref a3, .int 8, .int (-1), .int 0, .int 0, .int 0, .int 0])), (a3, .inr (0, [.int 0, .ref e0, .int 0]))] H := hP
  have hD : va_D A [(a0, .inr (9, [.ref a1, .ref a2, .int 0, .int 0, .int 0])), (a1, .inr (2, [.int 0, .ref a3, .int 8, .int (-1), .int 0, .int 0, .int 0, .int 0])), (a3, .inr (0, [.int 0, .ref e0, .int 0]))] := hD
  exact vx_out (fun x9 hx9 => (hnx x9 hx9).elim) hlk hce hcv hcl (zk_out hP hD hS (fun _ _ => 0) [0, 1, 2] rfl rfl) hS.2.2 (Nat.le_of_ble_eq_true rfl) (Nat.le_of_ble_eq_true rfl)
set_option maxHeartbeats 4000000 in
set_option maxRecDepth 100000 in
theorem kX10_keyAt_0 (l : Launch) (hst : l.stackTraces = false) (D : va_G) (yc : Nat → ClassId) (e0 sz : Nat) (a0 : Nat) (p0 : Int32) (p1 : Int32) (a1 : Nat) (a2 : Nat) (a3 : Nat)  : vx_Met l yX10_keyAt (ws_ yX10_keyAt cX10_keyAt 3 (some .int)) ({ frames := 9, cells := 1, slots := 6, locals := 148 }) (PR D yc e0 [(a0, .inr (9, [.ref a1, .ref a2, .int 0, .int 0, .int 0])), (a1, .inr (2, [.int 0, .ref a3, .int 8, .int (-1), .int 0, .int 0, .int 0, .int 0])), (a3, .inr (0, [.int 0, .ref e0, .int 0]))] sz [.ref a0, .int p0, .int p1]) (fun _ _ _ _ => False) (zk_X D (va_A [(a0, .inr (9, [.ref a1, .ref a2, .int 0, .int 0, .int 0])), (a1, .inr (2, [.int 0, .ref a3, .int 8, .int (-1), .int 0, .int 0, .int 0, .int 0])), (a3, .inr (0, [.int 0, .ref e0, .int 0]))] sz) "java/lang/IndexOutOfBoundsException" (fun u => [(a0, .inr (9, [.ref a1, .ref a2, .int 0, .int 0, .int 0])), (a1, .inr (2, [.int 0, .ref a3, .int 8, .int (-1), .int 0, .int 0, .int 0, .int 0])), (a3, .inr (0, [.int 0, .ref e0, .int 0]))])) 1 6 (va_A [(a0, .inr (9, [.ref a1, .ref a2, .int 0, .int 0, .int 0])), (a1, .inr (2, [.int 0, .ref a3, .int 8, .int (-1), .int 0, .int 0, .int 0, .int 0])), (a3, .inr (0, [.int 0, .ref e0, .int 0]))] sz) := by
  refine zk_MX (by decide) (Nat.le_of_ble_eq_true rfl) ?_
  intro p e s m args below meth c A ls hx hb hml hr hlk hown hnm hts hP hD hS hA hC hl hnx
  have hK := hC.1
  have hN := hC.2.1
  have hl : lv_has ls 3 [(0, .ref a0), (1, .int p0), (2, .int p1)] := hl
  generalize hHH : s.heap = H at hP ⊢
  have hS : va_S A s.heap H [] := by rw [← hHH]; exact hS
  refine W.widen (k := 0) (n := 0) (Nat.le_of_ble_eq_true rfl) (Nat.le_of_ble_eq_true rfl) ?_
  refine lv_aload_n hx hb dX10_keyAt_0 rfl (lv_at hl 0 rfl) ?_
  refine lv_iload_n hx hb dX10_keyAt_1 rfl (lv_at hl 1 rfl) ?_
  refine lv_iload_n hx hb dX10_keyAt_2 rfl (lv_at hl 2 rfl) ?_
  refine zk_x (wr := []) (vx_runV (As := [.int p0, .int p1]) (rest := []) ⟨hx, hb, hml, hown, hts⟩ (kX10_outputAt_0 l hst D yc e0 H.size a0 p0 p1 a1 a2 a3) (cwV 2 hts (lw_V wq439 wq441 ws7 wq1 wq442) rfl rfl rfl (by decide +kernel) ⟨(Nat.le_of_ble_eq_true rfl), (Nat.le_of_ble_eq_true rfl)⟩) (zk_pV hC hP hD hS hA [0, 1, 2] rfl rfl 0 9 rfl rfl) rfl rfl hl.1 rfl (lv_room (Nat.le_of_ble_eq_true rfl)) dX10_keyAt_3 ⟨(Nat.le_of_ble_eq_true rfl), (Nat.le_of_ble_eq_true rfl)⟩) hP hD hS hA [0, 1, 2] [] rfl rfl rfl (by decide) (fun u1 ce q9 H locs hP hD hS hce hcv hcl => ?_)
  have hP : va_P D vwCl [(a0, .inr (9, [.ref a1, .ref a2, .int 0, .int 0, .int 0])), (a1, .inr (2, [.int 0, .ref a3, .int 8, .int (-1), .int 0, .int 0, .int 0, .int 0])), (a3, .inr (0, [.int 0, .ref e0, .int 0]))] H := hP
  have hD : va_D A [(a0, .inr (9, [.ref a1, .ref a2, .int 0, .int 0, .int 0])), (a1, .inr (2, [.int 0, .ref a3, .int 8, .int (-1), .int 0, .int 0, .int 0, .int 0])), (a3, .inr (0, [.int 0, .ref e0, .int 0]))] := hD
  exact vx_out (fun x9 hx9 => (hnx x9 hx9).elim) hlk hce hcv hcl (zk_out hP hD hS (fun _ _ => 0) [0, 1, 2] rfl rfl) hS.2.2 (Nat.le_of_ble_eq_true rfl) (Nat.le_of_ble_eq_true rfl)
set_option maxHeartbeats 4000000 in
set_option maxRecDepth 100000 in
theorem kL_keyAt_0 (l : Launch) (hst : l.stackTraces = false) (D : va_G) (yc : Nat → ClassId) (e0 sz : Nat) (a0 : Nat) (p0 : Int32) (p1 : Int32) (a1 : Nat) (a2 : Nat) (a3 : Nat) (a4 : Nat)  : Met l yL_keyAt (ww_ yL_keyAt cL_keyAt 5 (some .int) [(0, 10, 13, 21), (0, 10, 17, 13)]) ({ frames := 10, cells := 1, slots := 6, locals := 170 }) (PR D yc e0 [(a0, .inr (9, [.ref a2, .ref a3, .int 0, .int 0, .int 0])), (a2, .inr (2, [.int 0, .ref a4, .int 8, .int (-1), .int 0, .int 0, .int 0, .int 0])), (a4, .inr (0, [.int 0, .ref e0, .int 0]))] sz [.ref a0, .int p0, .int p1, .ref a1]) (va_Qi (fun r u => r = (fun u : Nat → Nat → Nat => 1) u) (WD D (va_A [(a0, .inr (9, [.ref a2, .ref a3, .int 0, .int 0, .int 0])), (a2, .inr (2, [.int 0, .ref a4, .int 8, .int (-1), .int 0, .int 0, .int 0, .int 0])), (a4, .inr (0, [.int 0, .ref e0, .int 0]))] sz) (fun u => [(a0, .inr (9, [.ref a2, .ref a3, .int 0, .int 0, .int 0])), (a2, .inr (2, [.int 0, .ref a4, .int 8, .int (-1), .int 0, .int 0, .int 0, .int 0])), (a4, .inr (0, [.int 0, .ref e0, .int 0]))])) (va_A [(a0, .inr (9, [.ref a2, .ref a3, .int 0, .int 0, .int 0])), (a2, .inr (2, [.int 0, .ref a4, .int 8, .int (-1), .int 0, .int 0, .int 0, .int 0])), (a4, .inr (0, [.int 0, .ref e0, .int 0]))] sz)) 1 6 (va_A [(a0, .inr (9, [.ref a2, .ref a3, .int 0, .int 0, .int 0])), (a2, .inr (2, [.int 0, .ref a4, .int 8, .int (-1), .int 0, .int 0, .int 0, .int 0])), (a4, .inr (0, [.int 0, .ref e0, .int 0]))] sz) := by
  refine zk_MW (Qc := fun A => va_Qi (fun r u => r = (fun u : Nat → Nat → Nat => 1) u) (WD D A (fun u => [(a0, .inr (9, [.ref a2, .ref a3, .int 0, .int 0, .int 0])), (a2, .inr (2, [.int 0, .ref a4, .int 8, .int (-1), .int 0, .int 0, .int 0, .int 0])), (a4, .inr (0, [.int 0, .ref e0, .int 0]))])) A) (by decide) (Nat.le_of_ble_eq_true rfl) ?_
  intro p e s m args below meth c A ls hx hb hml hr hlk hown hts hP hD hS hA hC hl hex
  have hK := hC.1
  have hN := hC.2.1
  have hl : lv_has ls 5 [(0, .ref a0), (1, .int p0), (2, .int p1), (3, .ref a1)] := hl
  generalize hHH : s.heap = H at hP ⊢
  have hS : va_S A s.heap H [] := by rw [← hHH]; exact hS
  refine lv_aload_n hx hb dL_keyAt_0 rfl (lv_at hl 3 rfl) ?_
  refine lv_iconst (v := 0) hx hb dL_keyAt_1 (by decide) ?_
  refine lv_aload_n hx hb dL_keyAt_2 rfl (lv_at hl 0 rfl) ?_
  refine lv_iload_n hx hb dL_keyAt_3 rfl (lv_at hl 1 rfl) ?_
  refine lv_iload_n hx hb dL_keyAt_4 rfl (lv_at hl 2 rfl) ?_
  refine zk_x (wr := []) (vx_runV (As := [.int p0, .int p1]) (rest := [.int 0, .ref a1]) ⟨hx, hb, hml, hown, hts⟩ (kX10_keyAt_0 l hst D yc e0 H.size a0 p0 p1 a2 a3 a4) (cwV 2 hts (lw_V wq1294 wq1295 wq1296 wq1 wq1297) rfl rfl rfl (by decide +kernel) ⟨(Nat.le_of_ble_eq_true rfl), (Nat.le_of_ble_eq_true rfl)⟩) (zk_pV hC hP hD hS hA [0, 1, 2] rfl rfl 0 9 rfl rfl) rfl rfl hl.1 rfl (lv_room (Nat.le_of_ble_eq_true rfl)) dL_keyAt_5 ⟨(Nat.le_of_ble_eq_true rfl), (Nat.le_of_ble_eq_true rfl)⟩) hP hD hS hA [0, 1, 2] [] rfl rfl rfl (by decide) (fun u1 ce q9 H locs hP hD hS hce hcv hcl => ?_)
  have hP : va_P D vwCl [(a0, .inr (9, [.ref a2, .ref a3, .int 0, .int 0, .int 0])), (a2, .inr (2, [.int 0, .ref a4, .int 8, .int (-1), .int 0, .int 0, .int 0, .int 0])), (a4, .inr (0, [.int 0, .ref e0, .int 0]))] H := hP
  have hD : va_D A [(a0, .inr (9, [.ref a2, .ref a3, .int 0, .int 0, .int 0])), (a2, .inr (2, [.int 0, .ref a4, .int 8, .int (-1), .int 0, .int 0, .int 0, .int 0])), (a4, .inr (0, [.int 0, .ref e0, .int 0]))] := hD
  refine vx_catch (own := RL) (name := "java/lang/IndexOutOfBoundsException") hown (tableOf []) ⟨0, 10, 13, 21⟩ (tableOf [(0, 10, 17, 13)]) hex (fun z hz => False.elim (List.not_mem_nil hz)) (by decide) (by decide) (hts _ wq833) (zk_tab rfl (hN _ wr261 rfl)) hce hcv hcl ?_
  refine W.widen (k := 1) (n := 6) (Nat.le_of_ble_eq_true rfl) (Nat.le_of_ble_eq_true rfl) ?_
  refine lv_astore (lv' := [(4, .ref q9), (0, .ref a0), (1, .int p0), (2, .int p1), (3, .ref a1)]) hx hb dL_keyAt_13 hl (by decide) rfl (fun ls hl => ?_)
  refine lv_iconst (v := 1) hx hb dL_keyAt_15 (by decide) ?_
  exact zk_ri (r0 := fun u => 1) (w1 := fun u => [(a0, .inr (9, [.ref a2, .ref a3, .int 0, .int 0, .int 0])), (a2, .inr (2, [.int 0, .ref a4, .int 8, .int (-1), .int 0, .int 0, .int 0, .int 0])), (a4, .inr (0, [.int 0, .ref e0, .int 0]))]) hx hb hr hlk hP hD hS (fun _ _ => 0) rfl rfl [0, 1, 2] rfl rfl (Nat.le_of_ble_eq_true rfl) (Nat.le_of_ble_eq_true rfl) dL_keyAt_16
set_option maxHeartbeats 4000000 in
set_option maxRecDepth 100000 in
theorem kX14_ofOutput_0 (l : Launch) (hst : l.stackTraces = false) (D : va_G) (yc : Nat → ClassId) (e0 sz : Nat) (a0 : Nat) (p0 : Int32) (p1 : Int32) (a1 : Nat) (a2 : Nat) (a3 : Nat) (a4 : Nat) (a5 : Nat) (a6 : Nat) (a7 : Nat)  : Met l yX14_ofOutput (ws_ yX14_ofOutput cX14_ofOutput 4 (some .int)) ({ frames := 4, cells := 0, slots := 0, locals := 85 }) (PR D yc e0 [(a0, .inr (13, [.int 0, .int 0, .ref a1, .ref a2, .ref a3, .ref a4, .ref a5, .ref a6, .ref a7, .int 0, .long 0]))] sz [.ref a0, .int p0, .int p1, .int 0]) (va_Qi (fun r u => r = (fun u : Nat → Nat → Nat => 0) u) (WD D (va_A [(a0, .inr (13, [.int 0, .int 0, .ref a1, .ref a2, .ref a3, .ref a4, .ref a5, .ref a6, .ref a7, .int 0, .long 0]))] sz) (fun u => [(a0, .inr (13, [.int 0, .int 0, .ref a1, .ref a2, .ref a3, .ref a4, .ref a5, .ref a6, .ref a7, .int 1, .long 0]))])) (va_A [(a0, .inr (13, [.int 0, .int 0, .ref a1, .ref a2, .ref a3, .ref a4, .ref a5, .ref a6, .ref a7, .int 0, .long 0]))] sz)) 0 0 (va_A [(a0, .inr (13, [.int 0, .int 0, .ref a1, .ref a2, .ref a3, .ref a4, .ref a5, .ref a6, .ref a7, .int 0, .long 0]))] sz) := by
  refine zk_M (Qc := fun A => va_Qi (fun r u => r = (fun u : Nat → Nat → Nat => 0) u) (WD D A (fun u => [(a0, .inr (13, [.int 0, .int 0, .ref a1, .ref a2, .ref a3, .ref a4, .ref a5, .ref a6, .ref a7, .int 1, .long 0]))])) A) (by decide) (Nat.le_of_ble_eq_true rfl) ?_
  intro p e s m args below meth c A ls hx hb hml hr hlk hown hnm hts hP hD hS hA hC hl
  have hK := hC.1
  have hN := hC.2.1
  have hl : lv_has ls 4 [(0, .ref a0), (1, .int p0), (2, .int p1), (3, .int 0)] := hl
  generalize hHH : s.heap = H at hP ⊢
  have hS : va_S A s.heap H [] := by rw [← hHH]; exact hS
  refine lv_aload_n hx hb dX14_ofOutput_0 rfl (lv_at hl 0 rfl) ?_
  refine lv_iload_n hx hb dX14_ofOutput_1 rfl (lv_at hl 1 rfl) ?_
  refine zk_i (wr := []) (va_runV (As := [.int p0]) (rest := []) ⟨hx, hb, hml, hown, hts⟩ (kX14_hasSink_0 l hst D yc e0 H.size a0 p0 a1 a2 a3 a4 a5 a6 a7) (cwV 1 hts (lw_V wq1939 wq1941 ws71 wq6 wq1942) rfl rfl rfl (by decide +kernel) ⟨(Nat.le_of_ble_eq_true rfl), (Nat.le_of_ble_eq_true rfl)⟩) (zk_pV hC hP hD hS hA [0] rfl rfl 0 13 rfl rfl) rfl rfl hl.1 rfl (lv_room (Nat.le_of_ble_eq_true rfl)) dX14_ofOutput_2 ⟨(Nat.le_of_ble_eq_true rfl), (Nat.le_of_ble_eq_true rfl)⟩) hP hD hS hA [0] [] rfl rfl rfl (by decide) (fun u1 H locs hP hD hS => ?_)
  have hP : va_P D vwCl [(a0, .inr (13, [.int 0, .int 0, .ref a1, .ref a2, .ref a3, .ref a4, .ref a5, .ref a6, .ref a7, .int 1, .long 0]))] H := hP
  have hD : va_D A [(a0, .inr (13, [.int 0, .int 0, .ref a1, .ref a2, .ref a3, .ref a4, .ref a5, .ref a6, .ref a7, .int 1, .long 0]))] := hD
  refine W.widen (k := 0) (n := 0) (Nat.le_of_ble_eq_true rfl) (Nat.le_of_ble_eq_true rfl) ?_
  refine lv_if_eq (tgt := 35) hx hb dX14_ofOutput_5 (by decide) (fun _ => ?_) (fun h9 => absurd (by decide) h9)
  refine lv_aload_n hx hb dX14_ofOutput_35 rfl (lv_at hl 0 rfl) ?_
  refine va_get (D := D) (ci := 13) (v := .int 1) (C := RX14) (T := TX14) (N := 11) hx hb hts iX14 hown hK hP 0 rfl rfl 9 (by decide) (hts _ wq1542) (fun _ h9 => h9) rfl dX14_ofOutput_36 ?_
  refine lv_if_ne (tgt := 59) hx hb dX14_ofOutput_39 (by decide) (fun _ => ?_) (fun h9 => absurd h9 (by decide))
  refine lv_iconst (v := 0) hx hb dX14_ofOutput_59 (by decide) ?_
  exact zk_ri (r0 := fun u => 0) (w1 := fun u => [(a0, .inr (13, [.int 0, .int 0, .ref a1, .ref a2, .ref a3, .ref a4, .ref a5, .ref a6, .ref a7, .int 1, .long 0]))]) hx hb hr hlk hP hD hS (fun _ _ => 0) rfl rfl [0] rfl rfl (Nat.le_of_ble_eq_true rfl) (Nat.le_of_ble_eq_true rfl) dX14_ofOutput_60
set_option maxHeartbeats 4000000 in
set_option maxRecDepth 100000 in
theorem kX14_keyAt_0 (l : Launch) (hst : l.stackTraces = false) (D : va_G) (yc : Nat → ClassId) (e0 sz : Nat) (a0 : Nat) (p0 : Int32) (p1 : Int32) (a1 : Nat) (a2 : Nat) (a3 : Nat) (a4 : Nat) (a5 : Nat) (a6 : Nat) (a7 : Nat)  : Met l yX14_keyAt (ws_ yX14_keyAt cX14_keyAt 3 (some .int)) ({ frames := 5, cells := 0, slots := 0, locals := 108 }) (PR D yc e0 [(a0, .inr (13, [.int 0, .int 0, .ref a1, .ref a2, .ref a3, .ref a4, .ref a5, .ref a6, .ref a7, .int 0, .long 0]))] sz [.ref a0, .int p0, .int p1]) (va_Qi (fun r u => r = (fun u : Nat → Nat → Nat => 0) u) (WD D (va_A [(a0, .inr (13, [.int 0, .int 0, .ref a1, .ref a2, .ref a3, .ref a4, .ref a5, .ref a6, .ref a7, .int 0, .long 0]))] sz) (fun u => [(a0, .inr (13, [.int 0, .int 0, .ref a1, .ref a2, .ref a3, .ref a4, .ref a5, .ref a6, .ref a7, .int 1, .long 0]))])) (va_A [(a0, .inr (13, [.int 0, .int 0, .ref a1, .ref a2, .ref a3, .ref a4, .ref a5, .ref a6, .ref a7, .int 0, .long 0]))] sz)) 0 0 (va_A [(a0, .inr (13, [.int 0, .int 0, .ref a1, .ref a2, .ref a3, .ref a4, .ref a5, .ref a6, .ref a7, .int 0, .long 0]))] sz) := by
  refine zk_M (Qc := fun A => va_Qi (fun r u => r = (fun u : Nat → Nat → Nat => 0) u) (WD D A (fun u => [(a0, .inr (13, [.int 0, .int 0, .ref a1, .ref a2, .ref a3, .ref a4, .ref a5, .ref a6, .ref a7, .int 1, .long 0]))])) A) (by decide) (Nat.le_of_ble_eq_true rfl) ?_
  intro p e s m args below meth c A ls hx hb hml hr hlk hown hnm hts hP hD hS hA hC hl
  have hK := hC.1
  have hN := hC.2.1
  have hl : lv_has ls 3 [(0, .ref a0), (1, .int p0), (2, .int p1)] := hl
  generalize hHH : s.heap = H at hP ⊢
  have hS : va_S A s.heap H [] := by rw [← hHH]; exact hS
  refine lv_aload_n hx hb dX14_keyAt_0 rfl (lv_at hl 0 rfl) ?_
  refine lv_iload_n hx hb dX14_keyAt_1 rfl (lv_at hl 1 rfl) ?_
  refine lv_iload_n hx hb dX14_keyAt_2 rfl (lv_at hl 2 rfl) ?_
  refine lv_iconst (v := 0) hx hb dX14_keyAt_3 (by decide) ?_
  refine zk_i (wr := []) (va_runV (As := [.int p0, .int p1, .int 0]) (rest := []) ⟨hx, hb, hml, hown, hts⟩ (kX14_ofOutput_0 l hst D yc e0 H.size a0 p0 p1 a1 a2 a3 a4 a5 a6 a7) (cwV 3 hts (lw_V wq1951 wq1953 ws72 wq6 wq1954) rfl rfl rfl (by decide +kernel) ⟨(Nat.le_of_ble_eq_true rfl), (Nat.le_of_ble_eq_true rfl)⟩) (zk_pV hC hP hD hS hA [0] rfl rfl 0 13 rfl rfl) rfl rfl hl.1 rfl (lv_room (Nat.le_of_ble_eq_true rfl)) dX14_keyAt_4 ⟨(Nat.le_of_ble_eq_true rfl), (Nat.le_of_ble_eq_true rfl)⟩) hP hD hS hA [0] [] rfl rfl rfl (by decide) (fun u1 H locs hP hD hS => ?_)
  have hP : va_P D vwCl [(a0, .inr (13, [.int 0, .int 0, .ref a1, .ref a2, .ref a3, .ref a4, .ref a5, .ref a6, .ref a7, .int 1, .long 0]))] H := hP
  have hD : va_D A [(a0, .inr (13, [.int 0, .int 0, .ref a1, .ref a2, .ref a3, .ref a4, .ref a5, .ref a6, .ref a7, .int 1, .long 0]))] := hD
  refine W.widen (k := 0) (n := 0) (Nat.le_of_ble_eq_true rfl) (Nat.le_of_ble_eq_true rfl) ?_
  exact zk_ri (r0 := fun u => 0) (w1 := fun u => [(a0, .inr (13, [.int 0, .int 0, .ref a1, .ref a2, .ref a3, .ref a4, .ref a5, .ref a6, .ref a7, .int 1, .long 0]))]) hx hb hr hlk hP hD hS (fun _ _ => 0) rfl rfl [0] rfl rfl (Nat.le_of_ble_eq_true rfl) (Nat.le_of_ble_eq_true rfl) dX14_keyAt_7
set_option maxHeartbeats 4000000 in
set_option maxRecDepth 100000 in
theorem kX10_valueAt_0 (l : Launch) (hst : l.stackTraces = false) (D : va_G) (yc : Nat → ClassId) (e0 sz : Nat) (a0 : Nat) (p0 : Int32) (p1 : Int32) (a1 : Nat) (a2 : Nat) (a3 : Nat)  : vx_Met l yX10_valueAt (ws_ yX10_valueAt cX10_valueAt 3 (some .int)) ({ frames := 9, cells := 1, slots := 6, locals := 148 }) (PR D yc e0 [(a0, .inr (9, [.ref a1, .ref a2, .int 0, .int 0, .int 0])), (a1, .inr (2, [.int 0, .ref a3, .int 8, .int (-1), .int 0, .int 0, .int 0, .int 0])), (a3, .inr (0, [.int 0, .ref e0, .int 0]))] sz [.ref a0, .int p0, .int p1]) (fun _ _ _ _ => False) (zk_X D (va_A [(a0, .inr (9, [.ref a1, .ref a2, .int 0, .int 0, .int 0])), (a1, .inr (2, [.int 0, .ref a3, .int 8, .int (-1), .int 0, .int 0, .int 0, .int 0])), (a3, .inr (0, [.int 0, .ref e0, .int 0]))] sz) "java/lang/IndexOutOfBoundsException" (fun u => [(a0, .inr (9, [.ref a1, .ref a2, .int 0, .int 0, .int 0])), (a1, .inr (2, [.int 0, .ref a3, .int 8, .int (-1), .int 0, .int 0, .int 0, .int 0])), (a3, .inr (0, [.int 0, .ref e0, .int 0]))])) 1 6 (va_A [(a0, .inr (9, [.ref a1, .ref a2, .int 0, .int 0, .int 0])), (a1, .inr (2, [.int 0, .ref a3, .int 8, .int (-1), .int 0, .int 0, .int 0, .int 0])), (a3, .inr (0, [.int 0, .ref e0, .int 0]))] sz) := by
  refine zk_MX (by decide) (Nat.le_of_ble_eq_true rfl) ?_
  intro p e s m args below meth c A ls hx hb hml hr hlk hown hnm hts hP hD hS hA hC hl hnx
  have hK := hC.1
  have hN := hC.2.1
  have hl : lv_has ls 3 [(0, .ref a0), (1, .int p0), (2, .int p1)] := hl
  generalize hHH : s.heap = H at hP ⊢
  have hS : va_S A s.heap H [] := by rw [← hHH]; exact hS
  refine W.widen (k := 0) (n := 0) (Nat.le_of_ble_eq_true rfl) (Nat.le_of_ble_eq_true rfl) ?_
  refine lv_aload_n hx hb dX10_valueAt_0 rfl (lv_at hl 0 rfl) ?_
  refine lv_iload_n hx hb dX10_valueAt_1 rfl (lv_at hl 1 rfl) ?_
  refine lv_iload_n hx hb dX10_valueAt_2 rfl (lv_at hl 2 rfl) ?_
  refine zk_x (wr := []) (vx_runV (As := [.int p0, .int p1]) (rest := []) ⟨hx, hb, hml, hown, hts⟩ (kX10_outputAt_0 l hst D yc e0 H.size a0 p0 p1 a1 a2 a3) (cwV 2 hts (lw_V wq439 wq441 ws7 wq1 wq442) rfl rfl rfl (by decide +kernel) ⟨(Nat.le_of_ble_eq_true rfl), (Nat.le_of_ble_eq_true rfl)⟩) (zk_pV hC hP hD hS hA [0, 1, 2] rfl rfl 0 9 rfl rfl) rfl rfl hl.1 rfl (lv_room (Nat.le_of_ble_eq_true rfl)) dX10_valueAt_3 ⟨(Nat.le_of_ble_eq_true rfl), (Nat.le_of_ble_eq_true rfl)⟩) hP hD hS hA [0, 1, 2] [] rfl rfl rfl (by decide) (fun u1 ce q9 H locs hP hD hS hce hcv hcl => ?_)
  have hP : va_P D vwCl [(a0, .inr (9, [.ref a1, .ref a2, .int 0, .int 0, .int 0])), (a1, .inr (2, [.int 0, .ref a3, .int 8, .int (-1), .int 0, .int 0, .int 0, .int 0])), (a3, .inr (0, [.int 0, .ref e0, .int 0]))] H := hP
  have hD : va_D A [(a0, .inr (9, [.ref a1, .ref a2, .int 0, .int 0, .int 0])), (a1, .inr (2, [.int 0, .ref a3, .int 8, .int (-1), .int 0, .int 0, .int 0, .int 0])), (a3, .inr (0, [.int 0, .ref e0, .int 0]))] := hD
  exact vx_out (fun x9 hx9 => (hnx x9 hx9).elim) hlk hce hcv hcl (zk_out hP hD hS (fun _ _ => 0) [0, 1, 2] rfl rfl) hS.2.2 (Nat.le_of_ble_eq_true rfl) (Nat.le_of_ble_eq_true rfl)
set_option maxHeartbeats 4000000 in
set_option maxRecDepth 100000 in
theorem kL_valueAt_0 (l : Launch) (hst : l.stackTraces = false) (D : va_G) (yc : Nat → ClassId) (e0 sz : Nat) (a0 : Nat) (p0 : Int32) (p1 : Int32) (a1 : Nat) (a2 : Nat) (a3 : Nat) (a4 : Nat)  : Met l yL_valueAt (ww_ yL_valueAt cL_valueAt 5 (some .int) [(0, 10, 13, 21), (0, 10, 17, 13)]) ({ frames := 10, cells := 1, slots := 6, locals := 170 }) (PR D yc e0 [(a0, .inr (9, [.ref a2, .ref a3, .int 0, .int 0, .int 0])), (a2, .inr (2, [.int 0, .ref a4, .int 8, .int (-1), .int 0, .int 0, .int 0, .int 0])), (a4, .inr (0, [.int 0, .ref e0, .int 0]))] sz [.ref a0, .int p0, .int p1, .ref a1]) (va_Qi (fun r u => r = (fun u : Nat → Nat → Nat => 1) u) (WD D (va_A [(a0, .inr (9, [.ref a2, .ref a3, .int 0, .int 0, .int 0])), (a2, .inr (2, [.int 0, .ref a4, .int 8, .int (-1), .int 0, .int 0, .int 0, .int 0])), (a4, .inr (0, [.int 0, .ref e0, .int 0]))] sz) (fun u => [(a0, .inr (9, [.ref a2, .ref a3, .int 0, .int 0, .int 0])), (a2, .inr (2, [.int 0, .ref a4, .int 8, .int (-1), .int 0, .int 0, .int 0, .int 0])), (a4, .inr (0, [.int 0, .ref e0, .int 0]))])) (va_A [(a0, .inr (9, [.ref a2, .ref a3, .int 0, .int 0, .int 0])), (a2, .inr (2, [.int 0, .ref a4, .int 8, .int (-1), .int 0, .int 0, .int 0, .int 0])), (a4, .inr (0, [.int 0, .ref e0, .int 0]))] sz)) 1 6 (va_A [(a0, .inr (9, [.ref a2, .ref a3, .int 0, .int 0, .int 0])), (a2, .inr (2, [.int 0, .ref a4, .int 8, .int (-1), .int 0, .int 0, .int 0, .int 0])), (a4, .inr (0, [.int 0, .ref e0, .int 0]))] sz) := by
  refine zk_MW (Qc := fun A => va_Qi (fun r u => r = (fun u : Nat → Nat → Nat => 1) u) (WD D A (fun u => [(a0, .inr (9, [.ref a2, .ref a3, .int 0, .int 0, .int 0])), (a2, .inr (2, [.int 0, .ref a4, .int 8, .int (-1), .int 0, .int 0, .int 0, .int 0])), (a4, .inr (0, [.int 0, .ref e0, .int 0]))])) A) (by decide) (Nat.le_of_ble_eq_true rfl) ?_
  intro p e s m args below meth c A ls hx hb hml hr hlk hown hts hP hD hS hA hC hl hex
  have hK := hC.1
  have hN := hC.2.1
  have hl : lv_has ls 5 [(0, .ref a0), (1, .int p0), (2, .int p1), (3, .ref a1)] := hl
  generalize hHH : s.heap = H at hP ⊢
  have hS : va_S A s.heap H [] := by rw [← hHH]; exact hS
  refine lv_aload_n hx hb dL_valueAt_0 rfl (lv_at hl 3 rfl) ?_
  refine lv_iconst (v := 0) hx hb dL_valueAt_1 (by decide) ?_
  refine lv_aload_n hx hb dL_valueAt_2 rfl (lv_at hl 0 rfl) ?_
  refine lv_iload_n hx hb dL_valueAt_3 rfl (lv_at hl 1 rfl) ?_
  refine lv_iload_n hx hb dL_valueAt_4 rfl (lv_at hl 2 rfl) ?_
  refine zk_x (wr := []) (vx_runV (As := [.int p0, .int p1]) (rest := [.int 0, .ref a1]) ⟨hx, hb, hml, hown, hts⟩ (kX10_valueAt_0 l hst D yc e0 H.size a0 p0 p1 a2 a3 a4) (cwV 2 hts (lw_V wq1301 wq1302 wq1303 wq1 wq1304) rfl rfl rfl (by decide +kernel) ⟨(Nat.le_of_ble_eq_true rfl), (Nat.le_of_ble_eq_true rfl)⟩) (zk_pV hC hP hD hS hA [0, 1, 2] rfl rfl 0 9 rfl rfl) rfl rfl hl.1 rfl (lv_room (Nat.le_of_ble_eq_true rfl)) dL_valueAt_5 ⟨(Nat.le_of_ble_eq_true rfl), (Nat.le_of_ble_eq_true rfl)⟩) hP hD hS hA [0, 1, 2] [] rfl rfl rfl (by decide) (fun u1 ce q9 H locs hP hD hS hce hcv hcl => ?_)
  have hP : va_P D vwCl [(a0, .inr (9, [.ref a2, .ref a3, .int 0, .int 0, .int 0])), (a2, .inr (2, [.int 0, .ref a4, .int 8, .int (-1), .int 0, .int 0, .int 0, .int 0])), (a4, .inr (0, [.int 0, .ref e0, .int 0]))] H := hP
  have hD : va_D A [(a0, .inr (9, [.ref a2, .ref a3, .int 0, .int 0, .int 0])), (a2, .inr (2, [.int 0, .ref a4, .int 8, .int (-1), .int 0, .int 0, .int 0, .int 0])), (a4, .inr (0, [.int 0, .ref e0, .int 0]))] := hD
  refine vx_catch (own := RL) (name := "java/lang/IndexOutOfBoundsException") hown (tableOf []) ⟨0, 10, 13, 21⟩ (tableOf [(0, 10, 17, 13)]) hex (fun z hz => False.elim (List.not_mem_nil hz)) (by decide) (by decide) (hts _ wq833) (zk_tab rfl (hN _ wr261 rfl)) hce hcv hcl ?_
  refine W.widen (k := 1) (n := 6) (Nat.le_of_ble_eq_true rfl) (Nat.le_of_ble_eq_true rfl) ?_
  refine lv_astore (lv' := [(4, .ref q9), (0, .ref a0), (1, .int p0), (2, .int p1), (3, .ref a1)]) hx hb dL_valueAt_13 hl (by decide) rfl (fun ls hl => ?_)
  refine lv_iconst (v := 1) hx hb dL_valueAt_15 (by decide) ?_
  exact zk_ri (r0 := fun u => 1) (w1 := fun u => [(a0, .inr (9, [.ref a2, .ref a3, .int 0, .int 0, .int 0])), (a2, .inr (2, [.int 0, .ref a4, .int 8, .int (-1), .int 0, .int 0, .int 0, .int 0])), (a4, .inr (0, [.int 0, .ref e0, .int 0]))]) hx hb hr hlk hP hD hS (fun _ _ => 0) rfl rfl [0, 1, 2] rfl rfl (Nat.le_of_ble_eq_true rfl) (Nat.le_of_ble_eq_true rfl) dL_valueAt_16
set_option maxHeartbeats 4000000 in
set_option maxRecDepth 100000 in
theorem kX14_ofOutput_1 (l : Launch) (hst : l.stackTraces = false) (D : va_G) (yc : Nat → ClassId) (e0 sz : Nat) (a0 : Nat) (p0 : Int32) (p1 : Int32) (a1 : Nat) (a2 : Nat) (a3 : Nat) (a4 : Nat) (a5 : Nat) (a6 : Nat) (a7 : Nat)  : Met l yX14_ofOutput (ws_ yX14_ofOutput cX14_ofOutput 4 (some .int)) ({ frames := 4, cells := 0, slots := 0, locals := 85 }) (PR D yc e0 [(a0, .inr (13, [.int 0, .int 0, .ref a1, .ref a2, .ref a3, .ref a4, .ref a5, .ref a6, .ref a7, .int 0, .long 0]))] sz [.ref a0, .int p0, .int p1, .int 1]) (va_Qi (fun r u => r = (fun u : Nat → Nat → Nat => 0) u) (WD D (va_A [(a0, .inr (13, [.int 0, .int 0, .ref a1, .ref a2, .ref a3, .ref a4, .ref a5, .ref a6, .ref a7, .int 0, .long 0]))] sz) (fun u => [(a0, .inr (13, [.int 0, .int 0, .ref a1, .ref a2, .ref a3, .ref a4, .ref a5, .ref a6, .ref a7, .int 1, .long 0]))])) (va_A [(a0, .inr (13, [.int 0, .int 0, .ref a1, .ref a2, .ref a3, .ref a4, .ref a5, .ref a6, .ref a7, .int 0, .long 0]))] sz)) 0 0 (va_A [(a0, .inr (13, [.int 0, .int 0, .ref a1, .ref a2, .ref a3, .ref a4, .ref a5, .ref a6, .ref a7, .int 0, .long 0]))] sz) := by
  refine zk_M (Qc := fun A => va_Qi (fun r u => r = (fun u : Nat → Nat → Nat => 0) u) (WD D A (fun u => [(a0, .inr (13, [.int 0, .int 0, .ref a1, .ref a2, .ref a3, .ref a4, .ref a5, .ref a6, .ref a7, .int 1, .long 0]))])) A) (by decide) (Nat.le_of_ble_eq_true rfl) ?_
  intro p e s m args below meth c A ls hx hb hml hr hlk hown hnm hts hP hD hS hA hC hl
  have hK := hC.1
  have hN := hC.2.1
  have hl : lv_has ls 4 [(0, .ref a0), (1, .int p0), (2, .int p1), (3, .int 1)] := hl
  generalize hHH : s.heap = H at hP ⊢
  have hS : va_S A s.heap H [] := by rw [← hHH]; exact hS
  refine lv_aload_n hx hb dX14_ofOutput_0 rfl (lv_at hl 0 rfl) ?_
  refine lv_iload_n hx hb dX14_ofOutput_1 rfl (lv_at hl 1 rfl) ?_
  refine zk_i (wr := []) (va_runV (As := [.int p0]) (rest := []) ⟨hx, hb, hml, hown, hts⟩ (kX14_hasSink_0 l hst D yc e0 H.size a0 p0 a1 a2 a3 a4 a5 a6 a7) (cwV 1 hts (lw_V wq1939 wq1941 ws71 wq6 wq1942) rfl rfl rfl (by decide +kernel) ⟨(Nat.le_of_ble_eq_true rfl), (Nat.le_of_ble_eq_true rfl)⟩) (zk_pV hC hP hD hS hA [0] rfl rfl 0 13 rfl rfl) rfl rfl hl.1 rfl (lv_room (Nat.le_of_ble_eq_true rfl)) dX14_ofOutput_2 ⟨(Nat.le_of_ble_eq_true rfl), (Nat.le_of_ble_eq_true rfl)⟩) hP hD hS hA [0] [] rfl rfl rfl (by decide) (fun u1 H locs hP hD hS => ?_)
  have hP : va_P D vwCl [(a0, .inr (13, [.int 0, .int 0, .ref a1, .ref a2, .ref a3, .ref a4, .ref a5, .ref a6, .ref a7, .int 1, .long 0]))] H := hP
  have hD : va_D A [(a0, .inr (13, [.int 0, .int 0, .ref a1, .ref a2, .ref a3, .ref a4, .ref a5, .ref a6, .ref a7, .int 1, .long 0]))] := hD
  refine W.widen (k := 0) (n := 0) (Nat.le_of_ble_eq_true rfl) (Nat.le_of_ble_eq_true rfl) ?_
  refine lv_if_eq (tgt := 35) hx hb dX14_ofOutput_5 (by decide) (fun _ => ?_) (fun h9 => absurd (by decide) h9)
  refine lv_aload_n hx hb dX14_ofOutput_35 rfl (lv_at hl 0 rfl) ?_
  refine va_get (D := D) (ci := 13) (v := .int 1) (C := RX14) (T := TX14) (N := 11) hx hb hts iX14 hown hK hP 0 rfl rfl 9 (by decide) (hts _ wq1542) (fun _ h9 => h9) rfl dX14_ofOutput_36 ?_
  refine lv_if_ne (tgt := 59) hx hb dX14_ofOutput_39 (by decide) (fun _ => ?_) (fun h9 => absurd h9 (by decide))
  refine lv_iconst (v := 0) hx hb dX14_ofOutput_59 (by decide) ?_
  exact zk_ri (r0 := fun u => 0) (w1 := fun u => [(a0, .inr (13, [.int 0, .int 0, .ref a1, .ref a2, .ref a3, .ref a4, .ref a5, .ref a6, .ref a7, .int 1, .long 0]))]) hx hb hr hlk hP hD hS (fun _ _ => 0) rfl rfl [0] rfl rfl (Nat.le_of_ble_eq_true rfl) (Nat.le_of_ble_eq_true rfl) dX14_ofOutput_60
set_option maxHeartbeats 4000000 in
set_option maxRecDepth 100000 in
theorem kX14_valueAt_0 (l : Launch) (hst : l.stackTraces = false) (D : va_G) (yc : Nat → ClassId) (e0 sz : Nat) (a0 : Nat) (p0 : Int32) (p1 : Int32) (a1 : Nat) (a2 : Nat) (a3 : Nat) (a4 : Nat) (a5 : Nat) (a6 : Nat) (a7 : Nat)  : Met l yX14_valueAt (ws_ yX14_valueAt cX14_valueAt 3 (some .int)) ({ frames := 5, cells := 0, slots := 0, locals := 108 }) (PR D yc e0 [(a0, .inr (13, [.int 0, .int 0, .ref a1, .ref a2, .ref a3, .ref a4, .ref a5, .ref a6, .ref a7, .int 0, .long 0]))] sz [.ref a0, .int p0, .int p1]) (va_Qi (fun r u => r = (fun u : Nat → Nat → Nat => 0) u) (WD D (va_A [(a0, .inr (13, [.int 0, .int 0, .ref a1, .ref a2, .ref a3, .ref a4, .ref a5, .ref a6, .ref a7, .int 0, .long 0]))] sz) (fun u => [(a0, .inr (13, [.int 0, .int 0, .ref a1, .ref a2, .ref a3, .ref a4, .ref a5, .ref a6, .ref a7, .int 1, .long 0]))])) (va_A [(a0, .inr (13, [.int 0, .int 0, .ref a1, .ref a2, .ref a3, .ref a4, .ref a5, .ref a6, .ref a7, .int 0, .long 0]))] sz)) 0 0 (va_A [(a0, .inr (13, [.int 0, .int 0, .ref a1, .ref a2, .ref a3, .ref a4, .ref a5, .ref a6, .ref a7, .int 0, .long 0]))] sz) := by
  refine zk_M (Qc := fun A => va_Qi (fun r u => r = (fun u : Nat → Nat → Nat => 0) u) (WD D A (fun u => [(a0, .inr (13, [.int 0, .int 0, .ref a1, .ref a2, .ref a3, .ref a4, .ref a5, .ref a6, .ref a7, .int 1, .long 0]))])) A) (by decide) (Nat.le_of_ble_eq_true rfl) ?_
  intro p e s m args below meth c A ls hx hb hml hr hlk hown hnm hts hP hD hS hA hC hl
  have hK := hC.1
  have hN := hC.2.1
  have hl : lv_has ls 3 [(0, .ref a0), (1, .int p0), (2, .int p1)] := hl
  generalize hHH : s.heap = H at hP ⊢
  have hS : va_S A s.heap H [] := by rw [← hHH]; exact hS
  refine lv_aload_n hx hb dX14_valueAt_0 rfl (lv_at hl 0 rfl) ?_
  refine lv_iload_n hx hb dX14_valueAt_1 rfl (lv_at hl 1 rfl) ?_
  refine lv_iload_n hx hb dX14_valueAt_2 rfl (lv_at hl 2 rfl) ?_
  refine lv_iconst (v := 1) hx hb dX14_valueAt_3 (by decide) ?_
  refine zk_i (wr := []) (va_runV (As := [.int p0, .int p1, .int 1]) (rest := []) ⟨hx, hb, hml, hown, hts⟩ (kX14_ofOutput_1 l hst D yc e0 H.size a0 p0 p1 a1 a2 a3 a4 a5 a6 a7) (cwV 3 hts (lw_V wq1951 wq1953 ws72 wq6 wq1954) rfl rfl rfl (by decide +kernel) ⟨(Nat.le_of_ble_eq_true rfl), (Nat.le_of_ble_eq_true rfl)⟩) (zk_pV hC hP hD hS hA [0] rfl rfl 0 13 rfl rfl) rfl rfl hl.1 rfl (lv_room (Nat.le_of_ble_eq_true rfl)) dX14_valueAt_4 ⟨(Nat.le_of_ble_eq_true rfl), (Nat.le_of_ble_eq_true rfl)⟩) hP hD hS hA [0] [] rfl rfl rfl (by decide) (fun u1 H locs hP hD hS => ?_)
  have hP : va_P D vwCl [(a0, .inr (13, [.int 0, .int 0, .ref a1, .ref a2, .ref a3, .ref a4, .ref a5, .ref a6, .ref a7, .int 1, .long 0]))] H := hP
  have hD : va_D A [(a0, .inr (13, [.int 0, .int 0, .ref a1, .ref a2, .ref a3, .ref a4, .ref a5, .ref a6, .ref a7, .int 1, .long 0]))] := hD
  refine W.widen (k := 0) (n := 0) (Nat.le_of_ble_eq_true rfl) (Nat.le_of_ble_eq_true rfl) ?_
  exact zk_ri (r0 := fun u => 0) (w1 := fun u => [(a0, .inr (13, [.int 0, .int 0, .ref a1, .ref a2, .ref a3, .ref a4, .ref a5, .ref a6, .ref a7, .int 1, .long 0]))]) hx hb hr hlk hP hD hS (fun _ _ => 0) rfl rfl [0] rfl rfl (Nat.le_of_ble_eq_true rfl) (Nat.le_of_ble_eq_true rfl) dX14_valueAt_7
set_option maxHeartbeats 4000000 in
set_option maxRecDepth 100000 in
theorem kX10_timeAt_0 (l : Launch) (hst : l.stackTraces = false) (D : va_G) (yc : Nat → ClassId) (e0 sz : Nat) (a0 : Nat) (p0 : Int32) (p1 : Int32) (a1 : Nat) (a2 : Nat) (a3 : Nat)  : vx_Met l yX10_timeAt (ws_ yX10_timeAt cX10_timeAt 3 (some .int)) ({ frames := 9, cells := 1, slots := 6, locals := 148 }) (PR D yc e0 [(a0, .inr (9, [.ref a1, .ref a2, .int 0, .int 0, .int 0])), (a1, .inr (2, [.int 0, .ref a3, .int 8, .int (-1), .int 0, .int 0, .int 0, .int 0])), (a3, .inr (0, [.int 0, .ref e0, .int 0]))] sz [.ref a0, .int p0, .int p1]) (fun _ _ _ _ => False) (zk_X D (va_A [(a0, .inr (9, [.ref a1, .ref a2, .int 0, .int 0, .int 0])), (a1, .inr (2, [.int 0, .ref a3, .int 8, .int (-1), .int 0, .int 0, .int 0, .int 0])), (a3, .inr (0, [.int 0, .ref e0, .int 0]))] sz) "java/lang/IndexOutOfBoundsException" (fun u => [(a0, .inr (9, [.ref a1, .ref a2, .int 0, .int 0, .int 0])), (a1, .inr (2, [.int 0, .ref a3, .int 8, .int (-1), .int 0, .int 0, .int 0, .int 0])), (a3, .inr (0, [.int 0, .ref e0, .int 0]))])) 1 6 (va_A [(a0, .inr (9, [.ref a1, .ref a2, .int 0, .int 0, .int 0])), (a1, .inr (2, [.int 0, .ref a3, .int 8, .int (-1), .int 0, .int 0, .int 0, .int 0])), (a3, .inr (0, [.int 0, .ref e0, .int 0]))] sz) := by
  refine zk_MX (by decide) (Nat.le_of_ble_eq_true rfl) ?_
  intro p e s m args below meth c A ls hx hb hml hr hlk hown hnm hts hP hD hS hA hC hl hnx
  have hK := hC.1
  have hN := hC.2.1
  have hl : lv_has ls 3 [(0, .ref a0), (1, .int p0), (2, .int p1)] := hl
  generalize hHH : s.heap = H at hP ⊢
  have hS : va_S A s.heap H [] := by rw [← hHH]; exact hS
  refine W.widen (k := 0) (n := 0) (Nat.le_of_ble_eq_true rfl) (Nat.le_of_ble_eq_true rfl) ?_
  refine lv_aload_n hx hb dX10_timeAt_0 rfl (lv_at hl 0 rfl) ?_
  refine lv_iload_n hx hb dX10_timeAt_1 rfl (lv_at hl 1 rfl) ?_
  refine lv_iload_n hx hb dX10_timeAt_2 rfl (lv_at hl 2 rfl) ?_
  refine zk_x (wr := []) (vx_runV (As := [.int p0, .int p1]) (rest := []) ⟨hx, hb, hml, hown, hts⟩ (kX10_outputAt_0 l hst D yc e0 H.size a0 p0 p1 a1 a2 a3) (cwV 2 hts (lw_V wq439 wq441 ws7 wq1 wq442) rfl rfl rfl (by decide +kernel) ⟨(Nat.le_of_ble_eq_true rfl), (Nat.le_of_ble_eq_true rfl)⟩) (zk_pV hC hP hD hS hA [0, 1, 2] rfl rfl 0 9 rfl rfl) rfl rfl hl.1 rfl (lv_room (Nat.le_of_ble_eq_true rfl)) dX10_timeAt_3 ⟨(Nat.le_of_ble_eq_true rfl), (Nat.le_of_ble_eq_true rfl)⟩) hP hD hS hA [0, 1, 2] [] rfl rfl rfl (by decide) (fun u1 ce q9 H locs hP hD hS hce hcv hcl => ?_)
  have hP : va_P D vwCl [(a0, .inr (9, [.ref a1, .ref a2, .int 0, .int 0, .int 0])), (a1, .inr (2, [.int 0, .ref a3, .int 8, .int (-1), .int 0, .int 0, .int 0, .int 0])), (a3, .inr (0, [.int 0, .ref e0, .int 0]))] H := hP
  have hD : va_D A [(a0, .inr (9, [.ref a1, .ref a2, .int 0, .int 0, .int 0])), (a1, .inr (2, [.int 0, .ref a3, .int 8, .int (-1), .int 0, .int 0, .int 0, .int 0])), (a3, .inr (0, [.int 0, .ref e0, .int 0]))] := hD
  exact vx_out (fun x9 hx9 => (hnx x9 hx9).elim) hlk hce hcv hcl (zk_out hP hD hS (fun _ _ => 0) [0, 1, 2] rfl rfl) hS.2.2 (Nat.le_of_ble_eq_true rfl) (Nat.le_of_ble_eq_true rfl)
set_option maxHeartbeats 4000000 in
set_option maxRecDepth 100000 in
theorem kL_timeAt_0 (l : Launch) (hst : l.stackTraces = false) (D : va_G) (yc : Nat → ClassId) (e0 sz : Nat) (a0 : Nat) (p0 : Int32) (p1 : Int32) (a1 : Nat) (a2 : Nat) (a3 : Nat) (a4 : Nat)  : Met l yL_timeAt (ww_ yL_timeAt cL_timeAt 5 (some .int) [(0, 10, 13, 21), (0, 10, 17, 13)]) ({ frames := 10, cells := 1, slots := 6, locals := 170 }) (PR D yc e0 [(a0, .inr (9, [.ref a2, .ref a3, .int 0, .int 0, .int 0])), (a2, .inr (2, [.int 0, .ref a4, .int 8, .int (-1), .int 0, .int 0, .int 0, .int 0])), (a4, .inr (0, [.int 0, .ref e0, .int 0]))] sz [.ref a0, .int p0, .int p1, .ref a1]) (va_Qi (fun r u => r = (fun u : Nat → Nat → Nat => 1) u) (WD D (va_A [(a0, .inr (9, [.ref a2, .ref a3, .int 0, .int 0, .int 0])), (a2, .inr (2, [.int 0, .ref a4, .int 8, .int (-1), .int 0, .int 0, .int 0, .int 0])), (a4, .inr (0, [.int 0, .ref e0, .int 0]))] sz) (fun u => [(a0, .inr (9, [.ref a2, .ref a3, .int 0, .int 0, .int 0])), (a2, .inr (2, [.int 0, .ref a4, .int 8, .int (-1), .int 0, .int 0, .int 0, .int 0])), (a4, .inr (0, [.int 0, .ref e0, .int 0]))])) (va_A [(a0, .inr (9, [.ref a2, .ref a3, .int 0, .int 0, .int 0])), (a2, .inr (2, [.int 0, .ref a4, .int 8, .int (-1), .int 0, .int 0, .int 0, .int 0])), (a4, .inr (0, [.int 0, .ref e0, .int 0]))] sz)) 1 6 (va_A [(a0, .inr (9, [.ref a2, .ref a3, .int 0, .int 0, .int 0])), (a2, .inr (2, [.int 0, .ref a4, .int 8, .int (-1), .int 0, .int 0, .int 0, .int 0])), (a4, .inr (0, [.int 0, .ref e0, .int 0]))] sz) := by
  refine zk_MW (Qc := fun A => va_Qi (fun r u => r = (fun u : Nat → Nat → Nat => 1) u) (WD D A (fun u => [(a0, .inr (9, [.ref a2, .ref a3, .int 0, .int 0, .int 0])), (a2, .inr (2, [.int 0, .ref a4, .int 8, .int (-1), .int 0, .int 0, .int 0, .int 0])), (a4, .inr (0, [.int 0, .ref e0, .int 0]))])) A) (by decide) (Nat.le_of_ble_eq_true rfl) ?_
  intro p e s m args below meth c A ls hx hb hml hr hlk hown hts hP hD hS hA hC hl hex
  have hK := hC.1
  have hN := hC.2.1
  have hl : lv_has ls 5 [(0, .ref a0), (1, .int p0), (2, .int p1), (3, .ref a1)] := hl
  generalize hHH : s.heap = H at hP ⊢
  have hS : va_S A s.heap H [] := by rw [← hHH]; exact hS
  refine lv_aload_n hx hb dL_timeAt_0 rfl (lv_at hl 3 rfl) ?_
  refine lv_iconst (v := 0) hx hb dL_timeAt_1 (by decide) ?_
  refine lv_aload_n hx hb dL_timeAt_2 rfl (lv_at hl 0 rfl) ?_
  refine lv_iload_n hx hb dL_timeAt_3 rfl (lv_at hl 1 rfl) ?_
  refine lv_iload_n hx hb dL_timeAt_4 rfl (lv_at hl 2 rfl) ?_
  refine zk_x (wr := []) (vx_runV (As := [.int p0, .int p1]) (rest := [.int 0, .ref a1]) ⟨hx, hb, hml, hown, hts⟩ (kX10_timeAt_0 l hst D yc e0 H.size a0 p0 p1 a2 a3 a4) (cwV 2 hts (lw_V wq1308 wq1309 wq1310 wq1 wq1311) rfl rfl rfl (by decide +kernel) ⟨(Nat.le_of_ble_eq_true rfl), (Nat.le_of_ble_eq_true rfl)⟩) (zk_pV hC hP hD hS hA [0, 1, 2] rfl rfl 0 9 rfl rfl) rfl rfl hl.1 rfl (lv_room (Nat.le_of_ble_eq_true rfl)) dL_timeAt_5 ⟨(Nat.le_of_ble_eq_true rfl), (Nat.le_of_ble_eq_true rfl)⟩) hP hD hS hA [0, 1, 2] [] rfl rfl rfl (by decide) (fun u1 ce q9 H locs hP hD hS hce hcv hcl => ?_)
  have hP : va_P D vwCl [(a0, .inr (9, [.ref a2, .ref a3, .int 0, .int 0, .int 0])), (a2, .inr (2, [.int 0, .ref a4, .int 8, .int (-1), .int 0, .int 0, .int 0, .int 0])), (a4, .inr (0, [.int 0, .ref e0, .int 0]))] H := hP
  have hD : va_D A [(a0, .inr (9, [.ref a2, .ref a3, .int 0, .int 0, .int 0])), (a2, .inr (2, [.int 0, .ref a4, .int 8, .int (-1), .int 0, .int 0, .int 0, .int 0])), (a4, .inr (0, [.int 0, .ref e0, .int 0]))] := hD
  refine vx_catch (own := RL) (name := "java/lang/IndexOutOfBoundsException") hown (tableOf []) ⟨0, 10, 13, 21⟩ (tableOf [(0, 10, 17, 13)]) hex (fun z hz => False.elim (List.not_mem_nil hz)) (by decide) (by decide) (hts _ wq833) (zk_tab rfl (hN _ wr261 rfl)) hce hcv hcl ?_
  refine W.widen (k := 1) (n := 6) (Nat.le_of_ble_eq_true rfl) (Nat.le_of_ble_eq_true rfl) ?_
  refine lv_astore (lv' := [(4, .ref q9), (0, .ref a0), (1, .int p0), (2, .int p1), (3, .ref a1)]) hx hb dL_timeAt_13 hl (by decide) rfl (fun ls hl => ?_)
  refine lv_iconst (v := 1) hx hb dL_timeAt_15 (by decide) ?_
  exact zk_ri (r0 := fun u => 1) (w1 := fun u => [(a0, .inr (9, [.ref a2, .ref a3, .int 0, .int 0, .int 0])), (a2, .inr (2, [.int 0, .ref a4, .int 8, .int (-1), .int 0, .int 0, .int 0, .int 0])), (a4, .inr (0, [.int 0, .ref e0, .int 0]))]) hx hb hr hlk hP hD hS (fun _ _ => 0) rfl rfl [0, 1, 2] rfl rfl (Nat.le_of_ble_eq_true rfl) (Nat.le_of_ble_eq_true rfl) dL_timeAt_16
set_option maxHeartbeats 4000000 in
set_option maxRecDepth 100000 in
theorem kX14_ofOutput_2 (l : Launch) (hst : l.stackTraces = false) (D : va_G) (yc : Nat → ClassId) (e0 sz : Nat) (a0 : Nat) (p0 : Int32) (p1 : Int32) (a1 : Nat) (a2 : Nat) (a3 : Nat) (a4 : Nat) (a5 : Nat) (a6 : Nat) (a7 : Nat)  : Met l yX14_ofOutput (ws_ yX14_ofOutput cX14_ofOutput 4 (some .int)) ({ frames := 4, cells := 0, slots := 0, locals := 85 }) (PR D yc e0 [(a0, .inr (13, [.int 0, .int 0, .ref a1, .ref a2, .ref a3, .ref a4, .ref a5, .ref a6, .ref a7, .int 0, .long 0]))] sz [.ref a0, .int p0, .int p1, .int 2]) (va_Qi (fun r u => r = (fun u : Nat → Nat → Nat => 0) u) (WD D (va_A [(a0, .inr (13, [.int 0, .int 0, .ref a1, .ref a2, .ref a3, .ref a4, .ref a5, .ref a6, .ref a7, .int 0, .long 0]))] sz) (fun u => [(a0, .inr (13, [.int 0, .int 0, .ref a1, .ref a2, .ref a3, .ref a4, .ref a5, .ref a6, .ref a7, .int 1, .long 0]))])) (va_A [(a0, .inr (13, [.int 0, .int 0, .ref a1, .ref a2, .ref a3, .ref a4, .ref a5, .ref a6, .ref a7, .int 0, .long 0]))] sz)) 0 0 (va_A [(a0, .inr (13, [.int 0, .int 0, .ref a1, .ref a2, .ref a3, .ref a4, .ref a5, .ref a6, .ref a7, .int 0, .long 0]))] sz) := by
  refine zk_M (Qc := fun A => va_Qi (fun r u => r = (fun u : Nat → Nat → Nat => 0) u) (WD D A (fun u => [(a0, .inr (13, [.int 0, .int 0, .ref a1, .ref a2, .ref a3, .ref a4, .ref a5, .ref a6, .ref a7, .int 1, .long 0]))])) A) (by decide) (Nat.le_of_ble_eq_true rfl) ?_
  intro p e s m args below meth c A ls hx hb hml hr hlk hown hnm hts hP hD hS hA hC hl
  have hK := hC.1
  have hN := hC.2.1
  have hl : lv_has ls 4 [(0, .ref a0), (1, .int p0), (2, .int p1), (3, .int 2)] := hl
  generalize hHH : s.heap = H at hP ⊢
  have hS : va_S A s.heap H [] := by rw [← hHH]; exact hS
  refine lv_aload_n hx hb dX14_ofOutput_0 rfl (lv_at hl 0 rfl) ?_
  refine lv_iload_n hx hb dX14_ofOutput_1 rfl (lv_at hl 1 rfl) ?_
  refine zk_i (wr := []) (va_runV (As := [.int p0]) (rest := []) ⟨hx, hb, hml, hown, hts⟩ (kX14_hasSink_0 l hst D yc e0 H.size a0 p0 a1 a2 a3 a4 a5 a6 a7) (cwV 1 hts (lw_V wq1939 wq1941 ws71 wq6 wq1942) rfl rfl rfl (by decide +kernel) ⟨(Nat.le_of_ble_eq_true rfl), (Nat.le_of_ble_eq_true rfl)⟩) (zk_pV hC hP hD hS hA [0] rfl rfl 0 13 rfl rfl) rfl rfl hl.1 rfl (lv_room (Nat.le_of_ble_eq_true rfl)) dX14_ofOutput_2 ⟨(Nat.le_of_ble_eq_true rfl), (Nat.le_of_ble_eq_true rfl)⟩) hP hD hS hA [0] [] rfl rfl rfl (by decide) (fun u1 H locs hP hD hS => ?_)
  have hP : va_P D vwCl [(a0, .inr (13, [.int 0, .int 0, .ref a1, .ref a2, .ref a3, .ref a4, .ref a5, .ref a6, .ref a7, .int 1, .long 0]))] H := hP
  have hD : va_D A [(a0, .inr (13, [.int 0, .int 0, .ref a1, .ref a2, .ref a3, .ref a4, .ref a5, .ref a6, .ref a7, .int 1, .long 0]))] := hD
  refine W.widen (k := 0) (n := 0) (Nat.le_of_ble_eq_true rfl) (Nat.le_of_ble_eq_true rfl) ?_
  refine lv_if_eq (tgt := 35) hx hb dX14_ofOutput_5 (by decide) (fun _ => ?_) (fun h9 => absurd (by decide) h9)
  refine lv_aload_n hx hb dX14_ofOutput_35 rfl (lv_at hl 0 rfl) ?_
  refine va_get (D := D) (ci := 13) (v := .int 1) (C := RX14) (T := TX14) (N := 11) hx hb hts iX14 hown hK hP 0 rfl rfl 9 (by decide) (hts _ wq1542) (fun _ h9 => h9) rfl dX14_ofOutput_36 ?_
  refine lv_if_ne (tgt := 59) hx hb dX14_ofOutput_39 (by decide) (fun _ => ?_) (fun h9 => absurd h9 (by decide))
  refine lv_iconst (v := 0) hx hb dX14_ofOutput_59 (by decide) ?_
  exact zk_ri (r0 := fun u => 0) (w1 := fun u => [(a0, .inr (13, [.int 0, .int 0, .ref a1, .ref a2, .ref a3, .ref a4, .ref a5, .ref a6, .ref a7, .int 1, .long 0]))]) hx hb hr hlk hP hD hS (fun _ _ => 0) rfl rfl [0] rfl rfl (Nat.le_of_ble_eq_true rfl) (Nat.le_of_ble_eq_true rfl) dX14_ofOutput_60
set_option maxHeartbeats 4000000 in
set_option maxRecDepth 100000 in
theorem kX14_timeAt_0 (l : Launch) (hst : l.stackTraces = false) (D : va_G) (yc : Nat → ClassId) (e0 sz : Nat) (a0 : Nat) (p0 : Int32) (p1 : Int32) (a1 : Nat) (a2 : Nat) (a3 : Nat) (a4 : Nat) (a5 : Nat) (a6 : Nat) (a7 : Nat)  : Met l yX14_timeAt (ws_ yX14_timeAt cX14_timeAt 3 (some .int)) ({ frames := 5, cells := 0, slots := 0, locals := 108 }) (PR D yc e0 [(a0, .inr (13, [.int 0, .int 0, .ref a1, .ref a2, .ref a3, .ref a4, .ref a5, .ref a6, .ref a7, .int 0, .long 0]))] sz [.ref a0, .int p0, .int p1]) (va_Qi (fun r u => r = (fun u : Nat → Nat → Nat => 0) u) (WD D (va_A [(a0, .inr (13, [.int 0, .int 0, .ref a1, .ref a2, .ref a3, .ref a4, .ref a5, .ref a6, .ref a7, .int 0, .long 0]))] sz) (fun u => [(a0, .inr (13, [.int 0, .int 0, .ref a1, .ref a2, .ref a3, .ref a4, .ref a5, .ref a6, .ref a7, .int 1, .long 0]))])) (va_A [(a0, .inr (13, [.int 0, .int 0, .ref a1, .ref a2, .ref a3, .ref a4, .ref a5, .ref a6, .ref a7, .int 0, .long 0]))] sz)) 0 0 (va_A [(a0, .inr (13, [.int 0, .int 0, .ref a1, .ref a2, .ref a3, .ref a4, .ref a5, .ref a6, .ref a7, .int 0, .long 0]))] sz) := by
  refine zk_M (Qc := fun A => va_Qi (fun r u => r = (fun u : Nat → Nat → Nat => 0) u) (WD D A (fun u => [(a0, .inr (13, [.int 0, .int 0, .ref a1, .ref a2, .ref a3, .ref a4, .ref a5, .ref a6, .ref a7, .int 1, .long 0]))])) A) (by decide) (Nat.le_of_ble_eq_true rfl) ?_
  intro p e s m args below meth c A ls hx hb hml hr hlk hown hnm hts hP hD hS hA hC hl
  have hK := hC.1
  have hN := hC.2.1
  have hl : lv_has ls 3 [(0, .ref a0), (1, .int p0), (2, .int p1)] := hl
  generalize hHH : s.heap = H at hP ⊢
  have hS : va_S A s.heap H [] := by rw [← hHH]; exact hS
  refine lv_aload_n hx hb dX14_timeAt_0 rfl (lv_at hl 0 rfl) ?_
  refine lv_iload_n hx hb dX14_timeAt_1 rfl (lv_at hl 1 rfl) ?_
  refine lv_iload_n hx hb dX14_timeAt_2 rfl (lv_at hl 2 rfl) ?_
  refine lv_iconst (v := 2) hx hb dX14_timeAt_3 (by decide) ?_
  refine zk_i (wr := []) (va_runV (As := [.int p0, .int p1, .int 2]) (rest := []) ⟨hx, hb, hml, hown, hts⟩ (kX14_ofOutput_2 l hst D yc e0 H.size a0 p0 p1 a1 a2 a3 a4 a5 a6 a7) (cwV 3 hts (lw_V wq1951 wq1953 ws72 wq6 wq1954) rfl rfl rfl (by decide +kernel) ⟨(Nat.le_of_ble_eq_true rfl), (Nat.le_of_ble_eq_true rfl)⟩) (zk_pV hC hP hD hS hA [0] rfl rfl 0 13 rfl rfl) rfl rfl hl.1 rfl (lv_room (Nat.le_of_ble_eq_true rfl)) dX14_timeAt_4 ⟨(Nat.le_of_ble_eq_true rfl), (Nat.le_of_ble_eq_true rfl)⟩) hP hD hS hA [0] [] rfl rfl rfl (by decide) (fun u1 H locs hP hD hS => ?_)
  have hP : va_P D vwCl [(a0, .inr (13, [.int 0, .int 0, .ref a1, .ref a2, .ref a3, .ref a4, .ref a5, .ref a6, .ref a7, .int 1, .long 0]))] H := hP
  have hD : va_D A [(a0, .inr (13, [.int 0, .int 0, .ref a1, .ref a2, .ref a3, .ref a4, .ref a5, .ref a6, .ref a7, .int 1, .long 0]))] := hD
  refine W.widen (k := 0) (n := 0) (Nat.le_of_ble_eq_true rfl) (Nat.le_of_ble_eq_true rfl) ?_
  exact zk_ri (r0 := fun u => 0) (w1 := fun u => [(a0, .inr (13, [.int 0, .int 0, .ref a1, .ref a2, .ref a3, .ref a4, .ref a5, .ref a6, .ref a7, .int 1, .long 0]))]) hx hb hr hlk hP hD hS (fun _ _ => 0) rfl rfl [0] rfl rfl (Nat.le_of_ble_eq_true rfl) (Nat.le_of_ble_eq_true rfl) dX14_timeAt_7
set_option maxHeartbeats 4000000 in
set_option maxRecDepth 100000 in
theorem kX10_complete_0 (l : Launch) (hst : l.stackTraces = false) (D : va_G) (yc : Nat → ClassId) (e0 sz : Nat) (a0 : Nat) (a1 : Nat) (a2 : Nat) (a3 : Nat)  : Met l yX10_complete (ws_ yX10_complete cX10_complete 1 (some .int)) ({ frames := 0, cells := 0, slots := 0, locals := 0 }) (PR D yc e0 [(a0, .inr (9, [.ref a1, .ref a2, .int 0, .int 0, .int 0])), (a1, .inr (2, [.int 0, .ref a3, .int 8, .int (-1), .int 0, .int 0, .int 0, .int 0]))] sz [.ref a0]) (va_Qi (fun r u => r = (fun u : Nat → Nat → Nat => 0) u) (WD D (va_A [(a0, .inr (9, [.ref a1, .ref a2, .int 0, .int 0, .int 0])), (a1, .inr (2, [.int 0, .ref a3, .int 8, .int (-1), .int 0, .int 0, .int 0, .int 0]))] sz) (fun u => [(a0, .inr (9, [.ref a1, .ref a2, .int 0, .int 0, .int 0])), (a1, .inr (2, [.int 0, .ref a3, .int 8, .int (-1), .int 0, .int 0, .int 0, .int 0]))])) (va_A [(a0, .inr (9, [.ref a1, .ref a2, .int 0, .int 0, .int 0])), (a1, .inr (2, [.int 0, .ref a3, .int 8, .int (-1), .int 0, .int 0, .int 0, .int 0]))] sz)) 0 0 (va_A [(a0, .inr (9, [.ref a1, .ref a2, .int 0, .int 0, .int 0])), (a1, .inr (2, [.int 0, .ref a3, .int 8, .int (-1), .int 0, .int 0, .int 0, .int 0]))] sz) := by
  refine zk_M (Qc := fun A => va_Qi (fun r u => r = (fun u : Nat → Nat → Nat => 0) u) (WD D A (fun u => [(a0, .inr (9, [.ref a1, .ref a2, .int 0, .int 0, .int 0])), (a1, .inr (2, [.int 0, .ref a3, .int 8, .int (-1), .int 0, .int 0, .int 0, .int 0]))])) A) (by decide) (Nat.le_of_ble_eq_true rfl) ?_
  intro p e s m args below meth c A ls hx hb hml hr hlk hown hnm hts hP hD hS hA hC hl
  have hK := hC.1
  have hN := hC.2.1
  have hl : lv_has ls 1 [(0, .ref a0)] := hl
  generalize hHH : s.heap = H at hP ⊢
  have hS : va_S A s.heap H [] := by rw [← hHH]; exact hS
  refine lv_aload_n hx hb dX10_complete_0 rfl (lv_at hl 0 rfl) ?_
  refine va_get (D := D) (ci := 9) (v := .ref a1) (C := RX10) (T := TX10) (N := 5) hx hb hts iX10 hown hK hP 0 rfl rfl 0 (by decide) (hts _ wq99) (fun _ h9 => h9) rfl dX10_complete_1 ?_
  refine va_getN (D := D) (ci := 2) (v := .int 0) (C := RX2) (T := TX2) (N := 8) hx hb hts iX2 hown hK hP 1 rfl rfl 6 (by decide) (zk_tab rfl (hN _ wr80 rfl)) (fun _ h9 => h9) rfl dX10_complete_4 ?_
  exact zk_ri (r0 := fun u => 0) (w1 := fun u => [(a0, .inr (9, [.ref a1, .ref a2, .int 0, .int 0, .int 0])), (a1, .inr (2, [.int 0, .ref a3, .int 8, .int (-1), .int 0, .int 0, .int 0, .int 0]))]) hx hb hr hlk hP hD hS (fun _ _ => 0) rfl rfl [0, 1] rfl rfl (Nat.le_of_ble_eq_true rfl) (Nat.le_of_ble_eq_true rfl) dX10_complete_7
set_option maxHeartbeats 4000000 in
set_option maxRecDepth 100000 in
theorem kX14_complete_0 (l : Launch) (hst : l.stackTraces = false) (D : va_G) (yc : Nat → ClassId) (e0 sz : Nat) (a0 : Nat) (a1 : Nat) (a2 : Nat) (a3 : Nat) (a4 : Nat) (a5 : Nat) (a6 : Nat) (a7 : Nat) (a8 : Nat) (a9 : Nat) (a10 : Nat) (a11 : Nat) (a12 : Nat) (a13 : Nat) (a14 : Nat) (a15 : Nat) (a16 : Nat)  : Met l yX14_complete (ws_ yX14_complete cX14_complete 1 (some .int)) ({ frames := 0, cells := 0, slots := 0, locals := 0 }) (PR D yc e0 [(a0, .inr (13, [.int 0, .int 0, .ref a1, .ref a2, .ref a3, .ref a4, .ref a5, .ref a6, .ref a7, .int 0, .long 0])), (a6, .inr (12, [.int 8, .int (-1), .int 0, .int 0, .int 0, .int 0, .int 0, .ref a8, .ref a9, .ref a10, .ref a11, .ref a12, .ref a13, .ref a14, .ref a15, .ref a16, .ref a0]))] sz [.ref a0]) (va_Qi (fun r u => r = (fun u : Nat → Nat → Nat => 0) u) (WD D (va_A [(a0, .inr (13, [.int 0, .int 0, .ref a1, .ref a2, .ref a3, .ref a4, .ref a5, .ref a6, .ref a7, .int 0, .long 0])), (a6, .inr (12, [.int 8, .int (-1), .int 0, .int 0, .int 0, .int 0, .int 0, .ref a8, .ref a9, .ref a10, .ref a11, .ref a12, .ref a13, .ref a14, .ref a15, .ref a16, .ref a0]))] sz) (fun u => [(a0, .inr (13, [.int 0, .int 0, .ref a1, .ref a2, .ref a3, .ref a4, .ref a5, .ref a6, .ref a7, .int 0, .long 0])), (a6, .inr (12, [.int 8, .int (-1), .int 0, .int 0, .int 0, .int 0, .int 0, .ref a8, .ref a9, .ref a10, .ref a11, .ref a12, .ref a13, .ref a14, .ref a15, .ref a16, .ref a0]))])) (va_A [(a0, .inr (13, [.int 0, .int 0, .ref a1, .ref a2, .ref a3, .ref a4, .ref a5, .ref a6, .ref a7, .int 0, .long 0])), (a6, .inr (12, [.int 8, .int (-1), .int 0, .int 0, .int 0, .int 0, .int 0, .ref a8, .ref a9, .ref a10, .ref a11, .ref a12, .ref a13, .ref a14, .ref a15, .ref a16, .ref a0]))] sz)) 0 0 (va_A [(a0, .inr (13, [.int 0, .int 0, .ref a1, .ref a2, .ref a3, .ref a4, .ref a5, .ref a6, .ref a7, .int 0, .long 0])), (a6, .inr (12, [.int 8, .int (-1), .int 0, .int 0, .int 0, .int 0, .int 0, .ref a8, .ref a9, .ref a10, .ref a11, .ref a12, .ref a13, .ref a14, .ref a15, .ref a16, .ref a0]))] sz) := by
  refine zk_M (Qc := fun A => va_Qi (fun r u => r = (fun u : Nat → Nat → Nat => 0) u) (WD D A (fun u => [(a0, .inr (13, [.int 0, .int 0, .ref a1, .ref a2, .ref a3, .ref a4, .ref a5, .ref a6, .ref a7, .int 0, .long 0])), (a6, .inr (12, [.int 8, .int (-1), .int 0, .int 0, .int 0, .int 0, .int 0, .ref a8, .ref a9, .ref a10, .ref a11, .ref a12, .ref a13, .ref a14, .ref a15, .ref a16, .ref a0]))])) A) (by decide) (Nat.le_of_ble_eq_true rfl) ?_
  intro p e s m args below meth c A ls hx hb hml hr hlk hown hnm hts hP hD hS hA hC hl
  have hK := hC.1
  have hN := hC.2.1
  have hl : lv_has ls 1 [(0, .ref a0)] := hl
  generalize hHH : s.heap = H at hP ⊢
  have hS : va_S A s.heap H [] := by rw [← hHH]; exact hS
  refine lv_aload_n hx hb dX14_complete_0 rfl (lv_at hl 0 rfl) ?_
  refine lv_iconst (v := 0) hx hb dX14_complete_1 (by decide) ?_
  refine va_put (D := D) (ci := 13) (v := .int 0) (ty := .int) (C := RX14) (T := TX14) (N := 11) hx hb hts iX14 tyX14 tyX14_ok nmX14 hown hK hP hD hS 0 rfl rfl 9 (by decide) (hts _ wq1542) (fun _ h9 => h9) rfl (by decide +kernel) rfl rfl (Nat.le_of_ble_eq_true rfl) dX14_complete_2 (fun H locs hP hD hS => ?_)
  have hP : va_P D vwCl [(a0, .inr (13, [.int 0, .int 0, .ref a1, .ref a2, .ref a3, .ref a4, .ref a5, .ref a6, .ref a7, .int 0, .long 0])), (a6, .inr (12, [.int 8, .int (-1), .int 0, .int 0, .int 0, .int 0, .int 0, .ref a8, .ref a9, .ref a10, .ref a11, .ref a12, .ref a13, .ref a14, .ref a15, .ref a16, .ref a0]))] H := hP
  have hD : va_D A [(a0, .inr (13, [.int 0, .int 0, .ref a1, .ref a2, .ref a3, .ref a4, .ref a5, .ref a6, .ref a7, .int 0, .long 0])), (a6, .inr (12, [.int 8, .int (-1), .int 0, .int 0, .int 0, .int 0, .int 0, .ref a8, .ref a9, .ref a10, .ref a11, .ref a12, .ref a13, .ref a14, .ref a15, .ref a16, .ref a0]))] := hD
  refine lv_aload_n hx hb dX14_complete_5 rfl (lv_at hl 0 rfl) ?_
  refine va_get (D := D) (ci := 13) (v := .ref a6) (C := RX14) (T := TX14) (N := 11) hx hb hts iX14 hown hK hP 0 rfl rfl 7 (by decide) (hts _ wq1540) (fun _ h9 => h9) rfl dX14_complete_6 ?_
  refine va_getN (D := D) (ci := 12) (v := .int 0) (C := RX13) (T := TX13) (N := 17) hx hb hts iX13 hown hK hP 1 rfl rfl 3 (by decide) (zk_tab rfl (hN _ wr1470 rfl)) (fun _ h9 => h9) rfl dX14_complete_9 ?_
  exact zk_ri (r0 := fun u => 0) (w1 := fun u => [(a0, .inr (13, [.int 0, .int 0, .ref a1, .ref a2, .ref a3, .ref a4, .ref a5, .ref a6, .ref a7, .int 0, .long 0])), (a6, .inr (12, [.int 8, .int (-1), .int 0, .int 0, .int 0, .int 0, .int 0, .ref a8, .ref a9, .ref a10, .ref a11, .ref a12, .ref a13, .ref a14, .ref a15, .ref a16, .ref a0]))]) hx hb hr hlk hP hD hS (fun _ _ => 0) rfl rfl [0, 1] rfl rfl (Nat.le_of_ble_eq_true rfl) (Nat.le_of_ble_eq_true rfl) dX14_complete_12
set_option maxHeartbeats 4000000 in
set_option maxRecDepth 100000 in
theorem kX10_begun_0 (l : Launch) (hst : l.stackTraces = false) (D : va_G) (yc : Nat → ClassId) (e0 sz : Nat) (a0 : Nat) (a1 : Nat) (a2 : Nat) (a3 : Nat)  : Met l yX10_begun (ws_ yX10_begun cX10_begun 1 (some .int)) ({ frames := 0, cells := 0, slots := 0, locals := 0 }) (PR D yc e0 [(a0, .inr (9, [.ref a1, .ref a2, .int 0, .int 0, .int 0])), (a1, .inr (2, [.int 0, .ref a3, .int 8, .int (-1), .int 0, .int 0, .int 0, .int 0]))] sz [.ref a0]) (va_Qi (fun r u => r = (fun u : Nat → Nat → Nat => 0) u) (WD D (va_A [(a0, .inr (9, [.ref a1, .ref a2, .int 0, .int 0, .int 0])), (a1, .inr (2, [.int 0, .ref a3, .int 8, .int (-1), .int 0, .int 0, .int 0, .int 0]))] sz) (fun u => [(a0, .inr (9, [.ref a1, .ref a2, .int 0, .int 0, .int 0])), (a1, .inr (2, [.int 0, .ref a3, .int 8, .int (-1), .int 0, .int 0, .int 0, .int 0]))])) (va_A [(a0, .inr (9, [.ref a1, .ref a2, .int 0, .int 0, .int 0])), (a1, .inr (2, [.int 0, .ref a3, .int 8, .int (-1), .int 0, .int 0, .int 0, .int 0]))] sz)) 0 0 (va_A [(a0, .inr (9, [.ref a1, .ref a2, .int 0, .int 0, .int 0])), (a1, .inr (2, [.int 0, .ref a3, .int 8, .int (-1), .int 0, .int 0, .int 0, .int 0]))] sz) := by
  refine zk_M (Qc := fun A => va_Qi (fun r u => r = (fun u : Nat → Nat → Nat => 0) u) (WD D A (fun u => [(a0, .inr (9, [.ref a1, .ref a2, .int 0, .int 0, .int 0])), (a1, .inr (2, [.int 0, .ref a3, .int 8, .int (-1), .int 0, .int 0, .int 0, .int 0]))])) A) (by decide) (Nat.le_of_ble_eq_true rfl) ?_
  intro p e s m args below meth c A ls hx hb hml hr hlk hown hnm hts hP hD hS hA hC hl
  have hK := hC.1
  have hN := hC.2.1
  have hl : lv_has ls 1 [(0, .ref a0)] := hl
  generalize hHH : s.heap = H at hP ⊢
  have hS : va_S A s.heap H [] := by rw [← hHH]; exact hS
  refine lv_aload_n hx hb dX10_begun_0 rfl (lv_at hl 0 rfl) ?_
  refine va_get (D := D) (ci := 9) (v := .ref a1) (C := RX10) (T := TX10) (N := 5) hx hb hts iX10 hown hK hP 0 rfl rfl 0 (by decide) (hts _ wq99) (fun _ h9 => h9) rfl dX10_begun_1 ?_
  refine va_getN (D := D) (ci := 2) (v := .int 0) (C := RX2) (T := TX2) (N := 8) hx hb hts iX2 hown hK hP 1 rfl rfl 5 (by decide) (zk_tab rfl (hN _ wr78 rfl)) (fun _ h9 => h9) rfl dX10_begun_4 ?_
  exact zk_ri (r0 := fun u => 0) (w1 := fun u => [(a0, .inr (9, [.ref a1, .ref a2, .int 0, .int 0, .int 0])), (a1, .inr (2, [.int 0, .ref a3, .int 8, .int (-1), .int 0, .int 0, .int 0, .int 0]))]) hx hb hr hlk hP hD hS (fun _ _ => 0) rfl rfl [0, 1] rfl rfl (Nat.le_of_ble_eq_true rfl) (Nat.le_of_ble_eq_true rfl) dX10_begun_7
set_option maxHeartbeats 4000000 in
set_option maxRecDepth 100000 in
theorem kX14_begun_0 (l : Launch) (hst : l.stackTraces = false) (D : va_G) (yc : Nat → ClassId) (e0 sz : Nat) (a0 : Nat) (a1 : Nat) (a2 : Nat) (a3 : Nat) (a4 : Nat) (a5 : Nat) (a6 : Nat) (a7 : Nat) (a8 : Nat) (a9 : Nat) (a10 : Nat) (a11 : Nat) (a12 : Nat) (a13 : Nat) (a14 : Nat) (a15 : Nat) (a16 : Nat)  : Met l yX14_begun (ws_ yX14_begun cX14_begun 1 (some .int)) ({ frames := 0, cells := 0, slots := 0, locals := 0 }) (PR D yc e0 [(a0, .inr (13, [.int 0, .int 0, .ref a1, .ref a2, .ref a3, .ref a4, .ref a5, .ref a6, .ref a7, .int 0, .long 0])), (a6, .inr (12, [.int 8, .int (-1), .int 0, .int 0, .int 0, .int 0, .int 0, .ref a8, .ref a9, .ref a10, .ref a11, .ref a12, .ref a13, .ref a14, .ref a15, .ref a16, .ref a0]))] sz [.ref a0]) (va_Qi (fun r u => r = (fun u : Nat → Nat → Nat => 0) u) (WD D (va_A [(a0, .inr (13, [.int 0, .int 0, .ref a1, .ref a2, .ref a3, .ref a4, .ref a5, .ref a6, .ref a7, .int 0, .long 0])), (a6, .inr (12, [.int 8, .int (-1), .int 0, .int 0, .int 0, .int 0, .int 0, .ref a8, .ref a9, .ref a10, .ref a11, .ref a12, .ref a13, .ref a14, .ref a15, .ref a16, .ref a0]))] sz) (fun u => [(a0, .inr (13, [.int 0, .int 0, .ref a1, .ref a2, .ref a3, .ref a4, .ref a5, .ref a6, .ref a7, .int 0, .long 0])), (a6, .inr (12, [.int 8, .int (-1), .int 0, .int 0, .int 0, .int 0, .int 0, .ref a8, .ref a9, .ref a10, .ref a11, .ref a12, .ref a13, .ref a14, .ref a15, .ref a16, .ref a0]))])) (va_A [(a0, .inr (13, [.int 0, .int 0, .ref a1, .ref a2, .ref a3, .ref a4, .ref a5, .ref a6, .ref a7, .int 0, .long 0])), (a6, .inr (12, [.int 8, .int (-1), .int 0, .int 0, .int 0, .int 0, .int 0, .ref a8, .ref a9, .ref a10, .ref a11, .ref a12, .ref a13, .ref a14, .ref a15, .ref a16, .ref a0]))] sz)) 0 0 (va_A [(a0, .inr (13, [.int 0, .int 0, .ref a1, .ref a2, .ref a3, .ref a4, .ref a5, .ref a6, .ref a7, .int 0, .long 0])), (a6, .inr (12, [.int 8, .int (-1), .int 0, .int 0, .int 0, .int 0, .int 0, .ref a8, .ref a9, .ref a10, .ref a11, .ref a12, .ref a13, .ref a14, .ref a15, .ref a16, .ref a0]))] sz) := by
  refine zk_M (Qc := fun A => va_Qi (fun r u => r = (fun u : Nat → Nat → Nat => 0) u) (WD D A (fun u => [(a0, .inr (13, [.int 0, .int 0, .ref a1, .ref a2, .ref a3, .ref a4, .ref a5, .ref a6, .ref a7, .int 0, .long 0])), (a6, .inr (12, [.int 8, .int (-1), .int 0, .int 0, .int 0, .int 0, .int 0, .ref a8, .ref a9, .ref a10, .ref a11, .ref a12, .ref a13, .ref a14, .ref a15, .ref a16, .ref a0]))])) A) (by decide) (Nat.le_of_ble_eq_true rfl) ?_
  intro p e s m args below meth c A ls hx hb hml hr hlk hown hnm hts hP hD hS hA hC hl
  have hK := hC.1
  have hN := hC.2.1
  have hl : lv_has ls 1 [(0, .ref a0)] := hl
  generalize hHH : s.heap = H at hP ⊢
  have hS : va_S A s.heap H [] := by rw [← hHH]; exact hS
  refine lv_aload_n hx hb dX14_begun_0 rfl (lv_at hl 0 rfl) ?_
  refine lv_iconst (v := 0) hx hb dX14_begun_1 (by decide) ?_
  refine va_put (D := D) (ci := 13) (v := .int 0) (ty := .int) (C := RX14) (T := TX14) (N := 11) hx hb hts iX14 tyX14 tyX14_ok nmX14 hown hK hP hD hS 0 rfl rfl 9 (by decide) (hts _ wq1542) (fun _ h9 => h9) rfl (by decide +kernel) rfl rfl (Nat.le_of_ble_eq_true rfl) dX14_begun_2 (fun H locs hP hD hS => ?_)
  have hP : va_P D vwCl [(a0, .inr (13, [.int 0, .int 0, .ref a1, .ref a2, .ref a3, .ref a4, .ref a5, .ref a6, .ref a7, .int 0, .long 0])), (a6, .inr (12, [.int 8, .int (-1), .int 0, .int 0, .int 0, .int 0, .int 0, .ref a8, .ref a9, .ref a10, .ref a11, .ref a12, .ref a13, .ref a14, .ref a15, .ref a16, .ref a0]))] H := hP
  have hD : va_D A [(a0, .inr (13, [.int 0, .int 0, .ref a1, .ref a2, .ref a3, .ref a4, .ref a5, .ref a6, .ref a7, .int 0, .long 0])), (a6, .inr (12, [.int 8, .int (-1), .int 0, .int 0, .int 0, .int 0, .int 0, .ref a8, .ref a9, .ref a10, .ref a11, .ref a12, .ref a13, .ref a14, .ref a15, .ref a16, .ref a0]))] := hD
  refine lv_aload_n hx hb dX14_begun_5 rfl (lv_at hl 0 rfl) ?_
  refine va_get (D := D) (ci := 13) (v := .ref a6) (C := RX14) (T := TX14) (N := 11) hx hb hts iX14 hown hK hP 0 rfl rfl 7 (by decide) (hts _ wq1540) (fun _ h9 => h9) rfl dX14_begun_6 ?_
  refine va_getN (D := D) (ci := 12) (v := .int 0) (C := RX13) (T := TX13) (N := 17) hx hb hts iX13 hown hK hP 1 rfl rfl 2 (by decide) (zk_tab rfl (hN _ wr1468 rfl)) (fun _ h9 => h9) rfl dX14_begun_9 ?_
  exact zk_ri (r0 := fun u => 0) (w1 := fun u => [(a0, .inr (13, [.int 0, .int 0, .ref a1, .ref a2, .ref a3, .ref a4, .ref a5, .ref a6, .ref a7, .int 0, .long 0])), (a6, .inr (12, [.int 8, .int (-1), .int 0, .int 0, .int 0, .int 0, .int 0, .ref a8, .ref a9, .ref a10, .ref a11, .ref a12, .ref a13, .ref a14, .ref a15, .ref a16, .ref a0]))]) hx hb hr hlk hP hD hS (fun _ _ => 0) rfl rfl [0, 1] rfl rfl (Nat.le_of_ble_eq_true rfl) (Nat.le_of_ble_eq_true rfl) dX14_begun_12
set_option maxHeartbeats 4000000 in
set_option maxRecDepth 100000 in
theorem kX10_crashes_0 (l : Launch) (hst : l.stackTraces = false) (D : va_G) (yc : Nat → ClassId) (e0 sz : Nat) (a0 : Nat) (a1 : Nat) (a2 : Nat)  : Met l yX10_crashes (ws_ yX10_crashes cX10_crashes 1 (some .int)) ({ frames := 0, cells := 0, slots := 0, locals := 0 }) (PR D yc e0 [(a0, .inr (9, [.ref a1, .ref a2, .int 0, .int 0, .int 0]))] sz [.ref a0]) (va_Qi (fun r u => r = (fun u : Nat → Nat → Nat => 0) u) (WD D (va_A [(a0, .inr (9, [.ref a1, .ref a2, .int 0, .int 0, .int 0]))] sz) (fun u => [(a0, .inr (9, [.ref a1, .ref a2, .int 0, .int 0, .int 0]))])) (va_A [(a0, .inr (9, [.ref a1, .ref a2, .int 0, .int 0, .int 0]))] sz)) 0 0 (va_A [(a0, .inr (9, [.ref a1, .ref a2, .int 0, .int 0, .int 0]))] sz) := by
  refine zk_M (Qc := fun A => va_Qi (fun r u => r = (fun u : Nat → Nat → Nat => 0) u) (WD D A (fun u => [(a0, .inr (9, [.ref a1, .ref a2, .int 0, .int 0, .int 0]))])) A) (by decide) (Nat.le_of_ble_eq_true rfl) ?_
  intro p e s m args below meth c A ls hx hb hml hr hlk hown hnm hts hP hD hS hA hC hl
  have hK := hC.1
  have hN := hC.2.1
  have hl : lv_has ls 1 [(0, .ref a0)] := hl
  generalize hHH : s.heap = H at hP ⊢
  have hS : va_S A s.heap H [] := by rw [← hHH]; exact hS
  refine lv_aload_n hx hb dX10_crashes_0 rfl (lv_at hl 0 rfl) ?_
  refine va_get (D := D) (ci := 9) (v := .int 0) (C := RX10) (T := TX10) (N := 5) hx hb hts iX10 hown hK hP 0 rfl rfl 3 (by decide) (hts _ wq102) (fun _ h9 => h9) rfl dX10_crashes_1 ?_
  exact zk_ri (r0 := fun u => 0) (w1 := fun u => [(a0, .inr (9, [.ref a1, .ref a2, .int 0, .int 0, .int 0]))]) hx hb hr hlk hP hD hS (fun _ _ => 0) rfl rfl [0] rfl rfl (Nat.le_of_ble_eq_true rfl) (Nat.le_of_ble_eq_true rfl) dX10_crashes_4
set_option maxHeartbeats 4000000 in
set_option maxRecDepth 100000 in
theorem kX14_crashes_0 (l : Launch) (hst : l.stackTraces = false) (D : va_G) (yc : Nat → ClassId) (e0 sz : Nat) (a0 : Nat) (a1 : Nat) (a2 : Nat) (a3 : Nat) (a4 : Nat) (a5 : Nat) (a6 : Nat) (a7 : Nat) (a8 : Nat) (a9 : Nat) (a10 : Nat) (a11 : Nat) (a12 : Nat) (a13 : Nat) (a14 : Nat) (a15 : Nat) (a16 : Nat)  : Met l yX14_crashes (ws_ yX14_crashes cX14_crashes 1 (some .int)) ({ frames := 0, cells := 0, slots := 0, locals := 0 }) (PR D yc e0 [(a0, .inr (13, [.int 0, .int 0, .ref a1, .ref a2, .ref a3, .ref a4, .ref a5, .ref a6, .ref a7, .int 0, .long 0])), (a6, .inr (12, [.int 8, .int (-1), .int 0, .int 0, .int 0, .int 0, .int 0, .ref a8, .ref a9, .ref a10, .ref a11, .ref a12, .ref a13, .ref a14, .ref a15, .ref a16, .ref a0]))] sz [.ref a0]) (va_Qi (fun r u => r = (fun u : Nat → Nat → Nat => 0) u) (WD D (va_A [(a0, .inr (13, [.int 0, .int 0, .ref a1, .ref a2, .ref a3, .ref a4, .ref a5, .ref a6, .ref a7, .int 0, .long 0])), (a6, .inr (12, [.int 8, .int (-1), .int 0, .int 0, .int 0, .int 0, .int 0, .ref a8, .ref a9, .ref a10, .ref a11, .ref a12, .ref a13, .ref a14, .ref a15, .ref a16, .ref a0]))] sz) (fun u => [(a0, .inr (13, [.int 0, .int 0, .ref a1, .ref a2, .ref a3, .ref a4, .ref a5, .ref a6, .ref a7, .int 0, .long 0])), (a6, .inr (12, [.int 8, .int (-1), .int 0, .int 0, .int 0, .int 0, .int 0, .ref a8, .ref a9, .ref a10, .ref a11, .ref a12, .ref a13, .ref a14, .ref a15, .ref a16, .ref a0]))])) (va_A [(a0, .inr (13, [.int 0, .int 0, .ref a1, .ref a2, .ref a3, .ref a4, .ref a5, .ref a6, .ref a7, .int 0, .long 0])), (a6, .inr (12, [.int 8, .int (-1), .int 0, .int 0, .int 0, .int 0, .int 0, .ref a8, .ref a9, .ref a10, .ref a11, .ref a12, .ref a13, .ref a14, .ref a15, .ref a16, .ref a0]))] sz)) 0 0 (va_A [(a0, .inr (13, [.int 0, .int 0, .ref a1, .ref a2, .ref a3, .ref a4, .ref a5, .ref a6, .ref a7, .int 0, .long 0])), (a6, .inr (12, [.int 8, .int (-1), .int 0, .int 0, .int 0, .int 0, .int 0, .ref a8, .ref a9, .ref a10, .ref a11, .ref a12, .ref a13, .ref a14, .ref a15, .ref a16, .ref a0]))] sz) := by
  refine zk_M (Qc := fun A => va_Qi (fun r u => r = (fun u : Nat → Nat → Nat => 0) u) (WD D A (fun u => [(a0, .inr (13, [.int 0, .int 0, .ref a1, .ref a2, .ref a3, .ref a4, .ref a5, .ref a6, .ref a7, .int 0, .long 0])), (a6, .inr (12, [.int 8, .int (-1), .int 0, .int 0, .int 0, .int 0, .int 0, .ref a8, .ref a9, .ref a10, .ref a11, .ref a12, .ref a13, .ref a14, .ref a15, .ref a16, .ref a0]))])) A) (by decide) (Nat.le_of_ble_eq_true rfl) ?_
  intro p e s m args below meth c A ls hx hb hml hr hlk hown hnm hts hP hD hS hA hC hl
  have hK := hC.1
  have hN := hC.2.1
  have hl : lv_has ls 1 [(0, .ref a0)] := hl
  generalize hHH : s.heap = H at hP ⊢
  have hS : va_S A s.heap H [] := by rw [← hHH]; exact hS
  refine lv_aload_n hx hb dX14_crashes_0 rfl (lv_at hl 0 rfl) ?_
  refine lv_iconst (v := 0) hx hb dX14_crashes_1 (by decide) ?_
  refine va_put (D := D) (ci := 13) (v := .int 0) (ty := .int) (C := RX14) (T := TX14) (N := 11) hx hb hts iX14 tyX14 tyX14_ok nmX14 hown hK hP hD hS 0 rfl rfl 9 (by decide) (hts _ wq1542) (fun _ h9 => h9) rfl (by decide +kernel) rfl rfl (Nat.le_of_ble_eq_true rfl) dX14_crashes_2 (fun H locs hP hD hS => ?_)
  have hP : va_P D vwCl [(a0, .inr (13, [.int 0, .int 0, .ref a1, .ref a2, .ref a3, .ref a4, .ref a5, .ref a6, .ref a7, .int 0, .long 0])), (a6, .inr (12, [.int 8, .int (-1), .int 0, .int 0, .int 0, .int 0, .int 0, .ref a8, .ref a9, .ref a10, .ref a11, .ref a12, .ref a13, .ref a14, .ref a15, .ref a16, .ref a0]))] H := hP
  have hD : va_D A [(a0, .inr (13, [.int 0, .int 0, .ref a1, .ref a2, .ref a3, .ref a4, .ref a5, .ref a6, .ref a7, .int 0, .long 0])), (a6, .inr (12, [.int 8, .int (-1), .int 0, .int 0, .int 0, .int 0, .int 0, .ref a8, .ref a9, .ref a10, .ref a11, .ref a12, .ref a13, .ref a14, .ref a15, .ref a16, .ref a0]))] := hD
  refine lv_aload_n hx hb dX14_crashes_5 rfl (lv_at hl 0 rfl) ?_
  refine va_get (D := D) (ci := 13) (v := .ref a6) (C := RX14) (T := TX14) (N := 11) hx hb hts iX14 hown hK hP 0 rfl rfl 7 (by decide) (hts _ wq1540) (fun _ h9 => h9) rfl dX14_crashes_6 ?_
  refine va_getN (D := D) (ci := 12) (v := .int 0) (C := RX13) (T := TX13) (N := 17) hx hb hts iX13 hown hK hP 1 rfl rfl 5 (by decide) (zk_tab rfl (hN _ wr1473 rfl)) (fun _ h9 => h9) rfl dX14_crashes_9 ?_
  exact zk_ri (r0 := fun u => 0) (w1 := fun u => [(a0, .inr (13, [.int 0, .int 0, .ref a1, .ref a2, .ref a3, .ref a4, .ref a5, .ref a6, .ref a7, .int 0, .long 0])), (a6, .inr (12, [.int 8, .int (-1), .int 0, .int 0, .int 0, .int 0, .int 0, .ref a8, .ref a9, .ref a10, .ref a11, .ref a12, .ref a13, .ref a14, .ref a15, .ref a16, .ref a0]))]) hx hb hr hlk hP hD hS (fun _ _ => 0) rfl rfl [0, 1] rfl rfl (Nat.le_of_ble_eq_true rfl) (Nat.le_of_ble_eq_true rfl) dX14_crashes_12
set_option maxHeartbeats 4000000 in
set_option maxRecDepth 100000 in
theorem kX10_worked_0 (l : Launch) (hst : l.stackTraces = false) (D : va_G) (yc : Nat → ClassId) (e0 sz : Nat) (a0 : Nat) (a1 : Nat) (a2 : Nat)  : Met l yX10_worked (ws_ yX10_worked cX10_worked 1 (some .int)) ({ frames := 0, cells := 0, slots := 0, locals := 0 }) (PR D yc e0 [(a0, .inr (9, [.ref a1, .ref a2, .int 0, .int 0, .int 0]))] sz [.ref a0]) (va_Qi (fun r u => r = (fun u : Nat → Nat → Nat => 0) u) (WD D (va_A [(a0, .inr (9, [.ref a1, .ref a2, .int 0, .int 0, .int 0]))] sz) (fun u => [(a0, .inr (9, [.ref a1, .ref a2, .int 0, .int 0, .int 0]))])) (va_A [(a0, .inr (9, [.ref a1, .ref a2, .int 0, .int 0, .int 0]))] sz)) 0 0 (va_A [(a0, .inr (9, [.ref a1, .ref a2, .int 0, .int 0, .int 0]))] sz) := by
  refine zk_M (Qc := fun A => va_Qi (fun r u => r = (fun u : Nat → Nat → Nat => 0) u) (WD D A (fun u => [(a0, .inr (9, [.ref a1, .ref a2, .int 0, .int 0, .int 0]))])) A) (by decide) (Nat.le_of_ble_eq_true rfl) ?_
  intro p e s m args below meth c A ls hx hb hml hr hlk hown hnm hts hP hD hS hA hC hl
  have hK := hC.1
  have hN := hC.2.1
  have hl : lv_has ls 1 [(0, .ref a0)] := hl
  generalize hHH : s.heap = H at hP ⊢
  have hS : va_S A s.heap H [] := by rw [← hHH]; exact hS
  refine lv_aload_n hx hb dX10_worked_0 rfl (lv_at hl 0 rfl) ?_
  refine va_get (D := D) (ci := 9) (v := .int 0) (C := RX10) (T := TX10) (N := 5) hx hb hts iX10 hown hK hP 0 rfl rfl 4 (by decide) (hts _ wq103) (fun _ h9 => h9) rfl dX10_worked_1 ?_
  exact zk_ri (r0 := fun u => 0) (w1 := fun u => [(a0, .inr (9, [.ref a1, .ref a2, .int 0, .int 0, .int 0]))]) hx hb hr hlk hP hD hS (fun _ _ => 0) rfl rfl [0] rfl rfl (Nat.le_of_ble_eq_true rfl) (Nat.le_of_ble_eq_true rfl) dX10_worked_4
set_option maxHeartbeats 4000000 in
set_option maxRecDepth 100000 in
theorem kX14_worked_0 (l : Launch) (hst : l.stackTraces = false) (D : va_G) (yc : Nat → ClassId) (e0 sz : Nat) (a0 : Nat) (a1 : Nat) (a2 : Nat) (a3 : Nat) (a4 : Nat) (a5 : Nat) (a6 : Nat) (a7 : Nat) (a8 : Nat) (a9 : Nat) (a10 : Nat) (a11 : Nat) (a12 : Nat) (a13 : Nat) (a14 : Nat) (a15 : Nat) (a16 : Nat)  : Met l yX14_worked (ws_ yX14_worked cX14_worked 1 (some .int)) ({ frames := 0, cells := 0, slots := 0, locals := 0 }) (PR D yc e0 [(a0, .inr (13, [.int 0, .int 0, .ref a1, .ref a2, .ref a3, .ref a4, .ref a5, .ref a6, .ref a7, .int 0, .long 0])), (a6, .inr (12, [.int 8, .int (-1), .int 0, .int 0, .int 0, .int 0, .int 0, .ref a8, .ref a9, .ref a10, .ref a11, .ref a12, .ref a13, .ref a14, .ref a15, .ref a16, .ref a0]))] sz [.ref a0]) (va_Qi (fun r u => r = (fun u : Nat → Nat → Nat => 0) u) (WD D (va_A [(a0, .inr (13, [.int 0, .int 0, .ref a1, .ref a2, .ref a3, .ref a4, .ref a5, .ref a6, .ref a7, .int 0, .long 0])), (a6, .inr (12, [.int 8, .int (-1), .int 0, .int 0, .int 0, .int 0, .int 0, .ref a8, .ref a9, .ref a10, .ref a11, .ref a12, .ref a13, .ref a14, .ref a15, .ref a16, .ref a0]))] sz) (fun u => [(a0, .inr (13, [.int 0, .int 0, .ref a1, .ref a2, .ref a3, .ref a4, .ref a5, .ref a6, .ref a7, .int 0, .long 0])), (a6, .inr (12, [.int 8, .int (-1), .int 0, .int 0, .int 0, .int 0, .int 0, .ref a8, .ref a9, .ref a10, .ref a11, .ref a12, .ref a13, .ref a14, .ref a15, .ref a16, .ref a0]))])) (va_A [(a0, .inr (13, [.int 0, .int 0, .ref a1, .ref a2, .ref a3, .ref a4, .ref a5, .ref a6, .ref a7, .int 0, .long 0])), (a6, .inr (12, [.int 8, .int (-1), .int 0, .int 0, .int 0, .int 0, .int 0, .ref a8, .ref a9, .ref a10, .ref a11, .ref a12, .ref a13, .ref a14, .ref a15, .ref a16, .ref a0]))] sz)) 0 0 (va_A [(a0, .inr (13, [.int 0, .int 0, .ref a1, .ref a2, .ref a3, .ref a4, .ref a5, .ref a6, .ref a7, .int 0, .long 0])), (a6, .inr (12, [.int 8, .int (-1), .int 0, .int 0, .int 0, .int 0, .int 0, .ref a8, .ref a9, .ref a10, .ref a11, .ref a12, .ref a13, .ref a14, .ref a15, .ref a16, .ref a0]))] sz) := by
  refine zk_M (Qc := fun A => va_Qi (fun r u => r = (fun u : Nat → Nat → Nat => 0) u) (WD D A (fun u => [(a0, .inr (13, [.int 0, .int 0, .ref a1, .ref a2, .ref a3, .ref a4, .ref a5, .ref a6, .ref a7, .int 0, .long 0])), (a6, .inr (12, [.int 8, .int (-1), .int 0, .int 0, .int 0, .int 0, .int 0, .ref a8, .ref a9, .ref a10, .ref a11, .ref a12, .ref a13, .ref a14, .ref a15, .ref a16, .ref a0]))])) A) (by decide) (Nat.le_of_ble_eq_true rfl) ?_
  intro p e s m args below meth c A ls hx hb hml hr hlk hown hnm hts hP hD hS hA hC hl
  have hK := hC.1
  have hN := hC.2.1
  have hl : lv_has ls 1 [(0, .ref a0)] := hl
  generalize hHH : s.heap = H at hP ⊢
  have hS : va_S A s.heap H [] := by rw [← hHH]; exact hS
  refine lv_aload_n hx hb dX14_worked_0 rfl (lv_at hl 0 rfl) ?_
  refine lv_iconst (v := 0) hx hb dX14_worked_1 (by decide) ?_
  refine va_put (D := D) (ci := 13) (v := .int 0) (ty := .int) (C := RX14) (T := TX14) (N := 11) hx hb hts iX14 tyX14 tyX14_ok nmX14 hown hK hP hD hS 0 rfl rfl 9 (by decide) (hts _ wq1542) (fun _ h9 => h9) rfl (by decide +kernel) rfl rfl (Nat.le_of_ble_eq_true rfl) dX14_worked_2 (fun H locs hP hD hS => ?_)
  have hP : va_P D vwCl [(a0, .inr (13, [.int 0, .int 0, .ref a1, .ref a2, .ref a3, .ref a4, .ref a5, .ref a6, .ref a7, .int 0, .long 0])), (a6, .inr (12, [.int 8, .int (-1), .int 0, .int 0, .int 0, .int 0, .int 0, .ref a8, .ref a9, .ref a10, .ref a11, .ref a12, .ref a13, .ref a14, .ref a15, .ref a16, .ref a0]))] H := hP
  have hD : va_D A [(a0, .inr (13, [.int 0, .int 0, .ref a1, .ref a2, .ref a3, .ref a4, .ref a5, .ref a6, .ref a7, .int 0, .long 0])), (a6, .inr (12, [.int 8, .int (-1), .int 0, .int 0, .int 0, .int 0, .int 0, .ref a8, .ref a9, .ref a10, .ref a11, .ref a12, .ref a13, .ref a14, .ref a15, .ref a16, .ref a0]))] := hD
  refine lv_aload_n hx hb dX14_worked_5 rfl (lv_at hl 0 rfl) ?_
  refine va_get (D := D) (ci := 13) (v := .ref a6) (C := RX14) (T := TX14) (N := 11) hx hb hts iX14 hown hK hP 0 rfl rfl 7 (by decide) (hts _ wq1540) (fun _ h9 => h9) rfl dX14_worked_6 ?_
  refine va_getN (D := D) (ci := 12) (v := .int 0) (C := RX13) (T := TX13) (N := 17) hx hb hts iX13 hown hK hP 1 rfl rfl 6 (by decide) (zk_tab rfl (hN _ wr1475 rfl)) (fun _ h9 => h9) rfl dX14_worked_9 ?_
  exact zk_ri (r0 := fun u => 0) (w1 := fun u => [(a0, .inr (13, [.int 0, .int 0, .ref a1, .ref a2, .ref a3, .ref a4, .ref a5, .ref a6, .ref a7, .int 0, .long 0])), (a6, .inr (12, [.int 8, .int (-1), .int 0, .int 0, .int 0, .int 0, .int 0, .ref a8, .ref a9, .ref a10, .ref a11, .ref a12, .ref a13, .ref a14, .ref a15, .ref a16, .ref a0]))]) hx hb hr hlk hP hD hS (fun _ _ => 0) rfl rfl [0, 1] rfl rfl (Nat.le_of_ble_eq_true rfl) (Nat.le_of_ble_eq_true rfl) dX14_worked_12
set_option maxHeartbeats 4000000 in
set_option maxRecDepth 100000 in
theorem kX2_waiting_0 (l : Launch) (hst : l.stackTraces = false) (D : va_G) (yc : Nat → ClassId) (e0 sz : Nat) (a0 : Nat) (a1 : Nat)  : Met l yX2_waiting (ws_ yX2_waiting cX2_waiting 4 (some .int)) ({ frames := 1, cells := 0, slots := 0, locals := 20 }) (PR D yc e0 [(a0, .inr (2, [.int 0, .ref a1, .int 8, .int (-1), .int 0, .int 0, .int 0, .int 0])), (a1, .inr (0, [.int 0, .ref e0, .int 0]))] sz [.ref a0]) (va_Qi (fun r u => r = (fun u : Nat → Nat → Nat => 0) u) (WD D (va_A [(a0, .inr (2, [.int 0, .ref a1, .int 8, .int (-1), .int 0, .int 0, .int 0, .int 0])), (a1, .inr (0, [.int 0, .ref e0, .int 0]))] sz) (fun u => [(a0, .inr (2, [.int 0, .ref a1, .int 8, .int (-1), .int 0, .int 0, .int 0, .int 0])), (a1, .inr (0, [.int 0, .ref e0, .int 0]))])) (va_A [(a0, .inr (2, [.int 0, .ref a1, .int 8, .int (-1), .int 0, .int 0, .int 0, .int 0])), (a1, .inr (0, [.int 0, .ref e0, .int 0]))] sz)) 0 0 (va_A [(a0, .inr (2, [.int 0, .ref a1, .int 8, .int (-1), .int 0, .int 0, .int 0, .int 0])), (a1, .inr (0, [.int 0, .ref e0, .int 0]))] sz) := by
  refine zk_M (Qc := fun A => va_Qi (fun r u => r = (fun u : Nat → Nat → Nat => 0) u) (WD D A (fun u => [(a0, .inr (2, [.int 0, .ref a1, .int 8, .int (-1), .int 0, .int 0, .int 0, .int 0])), (a1, .inr (0, [.int 0, .ref e0, .int 0]))])) A) (by decide) (Nat.le_of_ble_eq_true rfl) ?_
  intro p e s m args below meth c A ls hx hb hml hr hlk hown hnm hts hP hD hS hA hC hl
  have hK := hC.1
  have hN := hC.2.1
  have hl : lv_has ls 4 [(0, .ref a0)] := hl
  generalize hHH : s.heap = H at hP ⊢
  have hS : va_S A s.heap H [] := by rw [← hHH]; exact hS
  refine lv_iconst (v := 0) hx hb dX2_waiting_0 (by decide) ?_
  refine lv_istore_n (lv' := [(1, .int 0), (0, .ref a0)]) hx hb dX2_waiting_1 rfl hl (by decide) rfl (fun ls hl => ?_)
  refine lv_iconst (v := 0) hx hb dX2_waiting_2 (by decide) ?_
  refine lv_istore_n (lv' := [(2, .int 0), (1, .int 0), (0, .ref a0)]) hx hb dX2_waiting_3 rfl hl (by decide) rfl (fun ls hl => ?_)
  refine lv_iload_n hx hb dX2_waiting_4 rfl (lv_at hl 0 rfl) ?_
  refine lv_aload_n hx hb dX2_waiting_5 rfl (lv_at hl 2 rfl) ?_
  refine va_get (D := D) (ci := 2) (v := .ref a1) (C := RX2) (T := TX2) (N := 8) hx hb hts iX2 hown hK hP 0 rfl rfl 1 (by decide) (hts _ wq72) (fun _ h9 => h9) rfl dX2_waiting_6 ?_
  refine zk_i (wr := [(a0, .inr (2, [.int 0, .ref a1, .int 8, .int (-1), .int 0, .int 0, .int 0, .int 0]))]) (va_runV (As := []) (rest := [.int 0]) ⟨hx, hb, hml, hown, hts⟩ (kJx4a65c_size_8abf5_0 l hst D yc e0 H.size a1) (cwV 0 hts (lw_V wq123 wq124 wq125 wq5 wq126) rfl rfl rfl (by decide +kernel) ⟨(Nat.le_of_ble_eq_true rfl), (Nat.le_of_ble_eq_true rfl)⟩) (zk_pV hC hP hD hS hA [1] rfl rfl 1 0 rfl rfl) rfl rfl hl.1 rfl (lv_room (Nat.le_of_ble_eq_true rfl)) dX2_waiting_9 ⟨(Nat.le_of_ble_eq_true rfl), (Nat.le_of_ble_eq_true rfl)⟩) hP hD hS hA [1] [0] rfl rfl rfl (by decide) (fun u1 H locs hP hD hS => ?_)
  have hP : va_P D vwCl [(a0, .inr (2, [.int 0, .ref a1, .int 8, .int (-1), .int 0, .int 0, .int 0, .int 0])), (a1, .inr (0, [.int 0, .ref e0, .int 0]))] H := hP
  have hD : va_D A [(a0, .inr (2, [.int 0, .ref a1, .int 8, .int (-1), .int 0, .int 0, .int 0, .int 0])), (a1, .inr (0, [.int 0, .ref e0, .int 0]))] := hD
  refine W.widen (k := 0) (n := 0) (Nat.le_of_ble_eq_true rfl) (Nat.le_of_ble_eq_true rfl) ?_
  refine lv_icmp_ge (tgt := 75) hx hb dX2_waiting_12 (by decide) (fun _ => ?_) (fun h9 => absurd (by decide) h9)
  refine lv_iload_n hx hb dX2_waiting_75 rfl (lv_at hl 1 rfl) ?_
  exact zk_ri (r0 := fun u => 0) (w1 := fun u => [(a0, .inr (2, [.int 0, .ref a1, .int 8, .int (-1), .int 0, .int 0, .int 0, .int 0])), (a1, .inr (0, [.int 0, .ref e0, .int 0]))]) hx hb hr hlk hP hD hS (fun _ _ => 0) rfl rfl [0, 1] rfl rfl (Nat.le_of_ble_eq_true rfl) (Nat.le_of_ble_eq_true rfl) dX2_waiting_76
set_option maxHeartbeats 4000000 in
set_option maxRecDepth 100000 in
theorem kX10_inFlight_0 (l : Launch) (hst : l.stackTraces = false) (D : va_G) (yc : Nat → ClassId) (e0 sz : Nat) (a0 : Nat) (a1 : Nat) (a2 : Nat) (a3 : Nat)  : Met l yX10_inFlight (ws_ yX10_inFlight cX10_inFlight 1 (some .int)) ({ frames := 2, cells := 0, slots := 0, locals := 43 }) (PR D yc e0 [(a0, .inr (9, [.ref a1, .ref a2, .int 0, .int 0, .int 0])), (a1, .inr (2, [.int 0, .ref a3, .int 8, .int (-1), .int 0, .int 0, .int 0, .int 0])), (a3, .inr (0, [.int 0, .ref e0, .int 0]))] sz [.ref a0]) (va_Qi (fun r u => r = (fun u : Nat → Nat → Nat => 0) u) (WD D (va_A [(a0, .inr (9, [.ref a1, .ref a2, .int 0, .int 0, .int 0])), (a1, .inr (2, [.int 0, .ref a3, .int 8, .int (-1), .int 0, .int 0, .int 0, .int 0])), (a3, .inr (0, [.int 0, .ref e0, .int 0]))] sz) (fun u => [(a0, .inr (9, [.ref a1, .ref a2, .int 0, .int 0, .int 0])), (a1, .inr (2, [.int 0, .ref a3, .int 8, .int (-1), .int 0, .int 0, .int 0, .int 0])), (a3, .inr (0, [.int 0, .ref e0, .int 0]))])) (va_A [(a0, .inr (9, [.ref a1, .ref a2, .int 0, .int 0, .int 0])), (a1, .inr (2, [.int 0, .ref a3, .int 8, .int (-1), .int 0, .int 0, .int 0, .int 0])), (a3, .inr (0, [.int 0, .ref e0, .int 0]))] sz)) 0 0 (va_A [(a0, .inr (9, [.ref a1, .ref a2, .int 0, .int 0, .int 0])), (a1, .inr (2, [.int 0, .ref a3, .int 8, .int (-1), .int 0, .int 0, .int 0, .int 0])), (a3, .inr (0, [.int 0, .ref e0, .int 0]))] sz) := by
  refine zk_M (Qc := fun A => va_Qi (fun r u => r = (fun u : Nat → Nat → Nat => 0) u) (WD D A (fun u => [(a0, .inr (9, [.ref a1, .ref a2, .int 0, .int 0, .int 0])), (a1, .inr (2, [.int 0, .ref a3, .int 8, .int (-1), .int 0, .int 0, .int 0, .int 0])), (a3, .inr (0, [.int 0, .ref e0, .int 0]))])) A) (by decide) (Nat.le_of_ble_eq_true rfl) ?_
  intro p e s m args below meth c A ls hx hb hml hr hlk hown hnm hts hP hD hS hA hC hl
  have hK := hC.1
  have hN := hC.2.1
  have hl : lv_has ls 1 [(0, .ref a0)] := hl
  generalize hHH : s.heap = H at hP ⊢
  have hS : va_S A s.heap H [] := by rw [← hHH]; exact hS
  refine lv_aload_n hx hb dX10_inFlight_0 rfl (lv_at hl 0 rfl) ?_
  refine va_get (D := D) (ci := 9) (v := .ref a1) (C := RX10) (T := TX10) (N := 5) hx hb hts iX10 hown hK hP 0 rfl rfl 0 (by decide) (hts _ wq99) (fun _ h9 => h9) rfl dX10_inFlight_1 ?_
  refine zk_i (wr := [(a0, .inr (9, [.ref a1, .ref a2, .int 0, .int 0, .int 0]))]) (va_runV (As := []) (rest := []) ⟨hx, hb, hml, hown, hts⟩ (kX2_waiting_0 l hst D yc e0 H.size a1 a3) (cwV 0 hts (lw_V wq151 wq152 wq153 wq2 wq154) rfl rfl rfl (by decide +kernel) ⟨(Nat.le_of_ble_eq_true rfl), (Nat.le_of_ble_eq_true rfl)⟩) (zk_pV hC hP hD hS hA [1, 2] rfl rfl 1 2 rfl rfl) rfl rfl hl.1 rfl (lv_room (Nat.le_of_ble_eq_true rfl)) dX10_inFlight_4 ⟨(Nat.le_of_ble_eq_true rfl), (Nat.le_of_ble_eq_true rfl)⟩) hP hD hS hA [1, 2] [0] rfl rfl rfl (by decide) (fun u1 H locs hP hD hS => ?_)
  have hP : va_P D vwCl [(a0, .inr (9, [.ref a1, .ref a2, .int 0, .int 0, .int 0])), (a1, .inr (2, [.int 0, .ref a3, .int 8, .int (-1), .int 0, .int 0, .int 0, .int 0])), (a3, .inr (0, [.int 0, .ref e0, .int 0]))] H := hP
  have hD : va_D A [(a0, .inr (9, [.ref a1, .ref a2, .int 0, .int 0, .int 0])), (a1, .inr (2, [.int 0, .ref a3, .int 8, .int (-1), .int 0, .int 0, .int 0, .int 0])), (a3, .inr (0, [.int 0, .ref e0, .int 0]))] := hD
  refine W.widen (k := 0) (n := 0) (Nat.le_of_ble_eq_true rfl) (Nat.le_of_ble_eq_true rfl) ?_
  exact zk_ri (r0 := fun u => 0) (w1 := fun u => [(a0, .inr (9, [.ref a1, .ref a2, .int 0, .int 0, .int 0])), (a1, .inr (2, [.int 0, .ref a3, .int 8, .int (-1), .int 0, .int 0, .int 0, .int 0])), (a3, .inr (0, [.int 0, .ref e0, .int 0]))]) hx hb hr hlk hP hD hS (fun _ _ => 0) rfl rfl [0, 1, 2] rfl rfl (Nat.le_of_ble_eq_true rfl) (Nat.le_of_ble_eq_true rfl) dX10_inFlight_7
set_option maxHeartbeats 4000000 in
set_option maxRecDepth 100000 in
theorem kX14_flying_0 (l : Launch) (hst : l.stackTraces = false) (D : va_G) (yc : Nat → ClassId) (e0 sz : Nat) (a0 : Nat) (a1 : Nat) (a2 : Nat) (a3 : Nat) (a4 : Nat) (a5 : Nat) (a6 : Nat) (a7 : Nat)  : Met l yX14_flying (ws_ yX14_flying cX14_flying 3 (some .int)) ({ frames := 0, cells := 0, slots := 0, locals := 0 }) (PR D yc e0 [(a0, .inr (13, [.int 0, .int 0, .ref a1, .ref a2, .ref a3, .ref a4, .ref a5, .ref a6, .ref a7, .int 0, .long 0]))] sz [.ref a0]) (va_Qi (fun r u => r = (fun u : Nat → Nat → Nat => 0) u) (WD D (va_A [(a0, .inr (13, [.int 0, .int 0, .ref a1, .ref a2, .ref a3, .ref a4, .ref a5, .ref a6, .ref a7, .int 0, .long 0]))] sz) (fun u => [(a0, .inr (13, [.int 0, .int 0, .ref a1, .ref a2, .ref a3, .ref a4, .ref a5, .ref a6, .ref a7, .int 0, .long 0]))])) (va_A [(a0, .inr (13, [.int 0, .int 0, .ref a1, .ref a2, .ref a3, .ref a4, .ref a5, .ref a6, .ref a7, .int 0, .long 0]))] sz)) 0 0 (va_A [(a0, .inr (13, [.int 0, .int 0, .ref a1, .ref a2, .ref a3, .ref a4, .ref a5, .ref a6, .ref a7, .int 0, .long 0]))] sz) := by
  refine zk_M (Qc := fun A => va_Qi (fun r u => r = (fun u : Nat → Nat → Nat => 0) u) (WD D A (fun u => [(a0, .inr (13, [.int 0, .int 0, .ref a1, .ref a2, .ref a3, .ref a4, .ref a5, .ref a6, .ref a7, .int 0, .long 0]))])) A) (by decide) (Nat.le_of_ble_eq_true rfl) ?_
  intro p e s m args below meth c A ls hx hb hml hr hlk hown hnm hts hP hD hS hA hC hl
  have hK := hC.1
  have hN := hC.2.1
  have hl : lv_has ls 3 [(0, .ref a0)] := hl
  generalize hHH : s.heap = H at hP ⊢
  have hS : va_S A s.heap H [] := by rw [← hHH]; exact hS
  refine lv_iconst (v := 0) hx hb dX14_flying_0 (by decide) ?_
  refine lv_istore_n (lv' := [(1, .int 0), (0, .ref a0)]) hx hb dX14_flying_1 rfl hl (by decide) rfl (fun ls hl => ?_)
  refine lv_iconst (v := 0) hx hb dX14_flying_2 (by decide) ?_
  refine lv_istore_n (lv' := [(2, .int 0), (1, .int 0), (0, .ref a0)]) hx hb dX14_flying_3 rfl hl (by decide) rfl (fun ls hl => ?_)
  refine lv_iload_n hx hb dX14_flying_4 rfl (lv_at hl 0 rfl) ?_
  refine lv_aload_n hx hb dX14_flying_5 rfl (lv_at hl 2 rfl) ?_
  refine va_get (D := D) (ci := 13) (v := .int 0) (C := RX14) (T := TX14) (N := 11) hx hb hts iX14 hown hK hP 0 rfl rfl 0 (by decide) (hts _ wq1528) (fun _ h9 => h9) rfl dX14_flying_6 ?_
  refine lv_icmp_ge (tgt := 50) hx hb dX14_flying_9 (by decide) (fun _ => ?_) (fun h9 => absurd (by decide) h9)
  refine lv_iload_n hx hb dX14_flying_50 rfl (lv_at hl 1 rfl) ?_
  exact zk_ri (r0 := fun u => 0) (w1 := fun u => [(a0, .inr (13, [.int 0, .int 0, .ref a1, .ref a2, .ref a3, .ref a4, .ref a5, .ref a6, .ref a7, .int 0, .long 0]))]) hx hb hr hlk hP hD hS (fun _ _ => 0) rfl rfl [0] rfl rfl (Nat.le_of_ble_eq_true rfl) (Nat.le_of_ble_eq_true rfl) dX14_flying_51
set_option maxHeartbeats 4000000 in
set_option maxRecDepth 100000 in
theorem kX14_inFlight_0 (l : Launch) (hst : l.stackTraces = false) (D : va_G) (yc : Nat → ClassId) (e0 sz : Nat) (a0 : Nat) (a1 : Nat) (a2 : Nat) (a3 : Nat) (a4 : Nat) (a5 : Nat) (a6 : Nat) (a7 : Nat)  : Met l yX14_inFlight (ws_ yX14_inFlight cX14_inFlight 1 (some .int)) ({ frames := 1, cells := 0, slots := 0, locals := 22 }) (PR D yc e0 [(a0, .inr (13, [.int 0, .int 0, .ref a1, .ref a2, .ref a3, .ref a4, .ref a5, .ref a6, .ref a7, .int 0, .long 0]))] sz [.ref a0]) (va_Qi (fun r u => r = (fun u : Nat → Nat → Nat => 0) u) (WD D (va_A [(a0, .inr (13, [.int 0, .int 0, .ref a1, .ref a2, .ref a3, .ref a4, .ref a5, .ref a6, .ref a7, .int 0, .long 0]))] sz) (fun u => [(a0, .inr (13, [.int 0, .int 0, .ref a1, .ref a2, .ref a3, .ref a4, .ref a5, .ref a6, .ref a7, .int 0, .long 0]))])) (va_A [(a0, .inr (13, [.int 0, .int 0, .ref a1, .ref a2, .ref a3, .ref a4, .ref a5, .ref a6, .ref a7, .int 0, .long 0]))] sz)) 0 0 (va_A [(a0, .inr (13, [.int 0, .int 0, .ref a1, .ref a2, .ref a3, .ref a4, .ref a5, .ref a6, .ref a7, .int 0, .long 0]))] sz) := by
  refine zk_M (Qc := fun A => va_Qi (fun r u => r = (fun u : Nat → Nat → Nat => 0) u) (WD D A (fun u => [(a0, .inr (13, [.int 0, .int 0, .ref a1, .ref a2, .ref a3, .ref a4, .ref a5, .ref a6, .ref a7, .int 0, .long 0]))])) A) (by decide) (Nat.le_of_ble_eq_true rfl) ?_
  intro p e s m args below meth c A ls hx hb hml hr hlk hown hnm hts hP hD hS hA hC hl
  have hK := hC.1
  have hN := hC.2.1
  have hl : lv_has ls 1 [(0, .ref a0)] := hl
  generalize hHH : s.heap = H at hP ⊢
  have hS : va_S A s.heap H [] := by rw [← hHH]; exact hS
  refine lv_aload_n hx hb dX14_inFlight_0 rfl (lv_at hl 0 rfl) ?_
  refine lv_iconst (v := 0) hx hb dX14_inFlight_1 (by decide) ?_
  refine va_put (D := D) (ci := 13) (v := .int 0) (ty := .int) (C := RX14) (T := TX14) (N := 11) hx hb hts iX14 tyX14 tyX14_ok nmX14 hown hK hP hD hS 0 rfl rfl 9 (by decide) (hts _ wq1542) (fun _ h9 => h9) rfl (by decide +kernel) rfl rfl (Nat.le_of_ble_eq_true rfl) dX14_inFlight_2 (fun H locs hP hD hS => ?_)
  have hP : va_P D vwCl [(a0, .inr (13, [.int 0, .int 0, .ref a1, .ref a2, .ref a3, .ref a4, .ref a5, .ref a6, .ref a7, .int 0, .long 0]))] H := hP
  have hD : va_D A [(a0, .inr (13, [.int 0, .int 0, .ref a1, .ref a2, .ref a3, .ref a4, .ref a5, .ref a6, .ref a7, .int 0, .long 0]))] := hD
  refine lv_aload_n hx hb dX14_inFlight_5 rfl (lv_at hl 0 rfl) ?_
  refine zk_i (wr := []) (va_runV (As := []) (rest := []) ⟨hx, hb, hml, hown, hts⟩ (kX14_flying_0 l hst D yc e0 H.size a0 a1 a2 a3 a4 a5 a6 a7) (cwV 0 hts (lw_V wq1983 wq1985 ws73 wq6 wq1986) rfl rfl rfl (by decide +kernel) ⟨(Nat.le_of_ble_eq_true rfl), (Nat.le_of_ble_eq_true rfl)⟩) (zk_pV hC hP hD hS hA [0] rfl rfl 0 13 rfl rfl) rfl rfl hl.1 rfl (lv_room (Nat.le_of_ble_eq_true rfl)) dX14_inFlight_6 ⟨(Nat.le_of_ble_eq_true rfl), (Nat.le_of_ble_eq_true rfl)⟩) hP hD hS hA [0] [] rfl rfl rfl (by decide) (fun u1 H locs hP hD hS => ?_)
  have hP : va_P D vwCl [(a0, .inr (13, [.int 0, .int 0, .ref a1, .ref a2, .ref a3, .ref a4, .ref a5, .ref a6, .ref a7, .int 0, .long 0]))] H := hP
  have hD : va_D A [(a0, .inr (13, [.int 0, .int 0, .ref a1, .ref a2, .ref a3, .ref a4, .ref a5, .ref a6, .ref a7, .int 0, .long 0]))] := hD
  refine W.widen (k := 0) (n := 0) (Nat.le_of_ble_eq_true rfl) (Nat.le_of_ble_eq_true rfl) ?_
  exact zk_ri (r0 := fun u => 0) (w1 := fun u => [(a0, .inr (13, [.int 0, .int 0, .ref a1, .ref a2, .ref a3, .ref a4, .ref a5, .ref a6, .ref a7, .int 0, .long 0]))]) hx hb hr hlk hP hD hS (fun _ _ => 0) rfl rfl [0] rfl rfl (Nat.le_of_ble_eq_true rfl) (Nat.le_of_ble_eq_true rfl) dX14_inFlight_9
set_option maxHeartbeats 4000000 in
set_option maxRecDepth 100000 in
theorem kX2_nextToWork_0 (l : Launch) (hst : l.stackTraces = false) (D : va_G) (yc : Nat → ClassId) (e0 sz : Nat) (a0 : Nat) (a1 : Nat)  : Met l yX2_nextToWork (ws_ yX2_nextToWork cX2_nextToWork 5 (some .int)) ({ frames := 1, cells := 0, slots := 0, locals := 20 }) (PR D yc e0 [(a0, .inr (2, [.int 0, .ref a1, .int 8, .int (-1), .int 0, .int 0, .int 0, .int 0])), (a1, .inr (0, [.int 0, .ref e0, .int 0]))] sz [.ref a0]) (va_Qi (fun r u => r = (fun u : Nat → Nat → Nat => (-1)) u) (WD D (va_A [(a0, .inr (2, [.int 0, .ref a1, .int 8, .int (-1), .int 0, .int 0, .int 0, .int 0])), (a1, .inr (0, [.int 0, .ref e0, .int 0]))] sz) (fun u => [(a0, .inr (2, [.int 0, .ref a1, .int 8, .int (-1), .int 0, .int 0, .int 0, .int 0])), (a1, .inr (0, [.int 0, .ref e0, .int 0]))])) (va_A [(a0, .inr (2, [.int 0, .ref a1, .int 8, .int (-1), .int 0, .int 0, .int 0, .int 0])), (a1, .inr (0, [.int 0, .ref e0, .int 0]))] sz)) 0 0 (va_A [(a0, .inr (2, [.int 0, .ref a1, .int 8, .int (-1), .int 0, .int 0, .int 0, .int 0])), (a1, .inr (0, [.int 0, .ref e0, .int 0]))] sz) := by
  refine zk_M (Qc := fun A => va_Qi (fun r u => r = (fun u : Nat → Nat → Nat => (-1)) u) (WD D A (fun u => [(a0, .inr (2, [.int 0, .ref a1, .int 8, .int (-1), .int 0, .int 0, .int 0, .int 0])), (a1, .inr (0, [.int 0, .ref e0, .int 0]))])) A) (by decide) (Nat.le_of_ble_eq_true rfl) ?_
  intro p e s m args below meth c A ls hx hb hml hr hlk hown hnm hts hP hD hS hA hC hl
  have hK := hC.1
  have hN := hC.2.1
  have hl : lv_has ls 5 [(0, .ref a0)] := hl
  generalize hHH : s.heap = H at hP ⊢
  have hS : va_S A s.heap H [] := by rw [← hHH]; exact hS
  refine lv_aload_n hx hb dX2_nextToWork_0 rfl (lv_at hl 0 rfl) ?_
  refine va_get (D := D) (ci := 2) (v := .ref a1) (C := RX2) (T := TX2) (N := 8) hx hb hts iX2 hown hK hP 0 rfl rfl 1 (by decide) (hts _ wq72) (fun _ h9 => h9) rfl dX2_nextToWork_1 ?_
  refine zk_i (wr := [(a0, .inr (2, [.int 0, .ref a1, .int 8, .int (-1), .int 0, .int 0, .int 0, .int 0]))]) (va_runV (As := []) (rest := []) ⟨hx, hb, hml, hown, hts⟩ (kJx4a65c_size_8abf5_0 l hst D yc e0 H.size a1) (cwV 0 hts (lw_V wq123 wq124 wq125 wq5 wq126) rfl rfl rfl (by decide +kernel) ⟨(Nat.le_of_ble_eq_true rfl), (Nat.le_of_ble_eq_true rfl)⟩) (zk_pV hC hP hD hS hA [1] rfl rfl 1 0 rfl rfl) rfl rfl hl.1 rfl (lv_room (Nat.le_of_ble_eq_true rfl)) dX2_nextToWork_4 ⟨(Nat.le_of_ble_eq_true rfl), (Nat.le_of_ble_eq_true rfl)⟩) hP hD hS hA [1] [0] rfl rfl rfl (by decide) (fun u1 H locs hP hD hS => ?_)
  have hP : va_P D vwCl [(a0, .inr (2, [.int 0, .ref a1, .int 8, .int (-1), .int 0, .int 0, .int 0, .int 0])), (a1, .inr (0, [.int 0, .ref e0, .int 0]))] H := hP
  have hD : va_D A [(a0, .inr (2, [.int 0, .ref a1, .int 8, .int (-1), .int 0, .int 0, .int 0, .int 0])), (a1, .inr (0, [.int 0, .ref e0, .int 0]))] := hD
  refine W.widen (k := 0) (n := 0) (Nat.le_of_ble_eq_true rfl) (Nat.le_of_ble_eq_true rfl) ?_
  refine lv_istore_n (lv' := [(1, .int 0), (0, .ref a0)]) hx hb dX2_nextToWork_7 rfl hl (by decide) rfl (fun ls hl => ?_)
  refine lv_iconst (v := 1) hx hb dX2_nextToWork_8 (by decide) ?_
  refine lv_istore_n (lv' := [(2, .int 1), (1, .int 0), (0, .ref a0)]) hx hb dX2_nextToWork_9 rfl hl (by decide) rfl (fun ls hl => ?_)
  refine lv_iload_n hx hb dX2_nextToWork_10 rfl (lv_at hl 0 rfl) ?_
  refine lv_iload_n hx hb dX2_nextToWork_11 rfl (lv_at hl 1 rfl) ?_
  refine lv_icmp_gt (tgt := 76) hx hb dX2_nextToWork_12 (by decide) (fun _ => ?_) (fun h9 => absurd (by decide) h9)
  refine lv_iconst (v := (-1)) hx hb dX2_nextToWork_76 (by decide) ?_
  exact zk_ri (r0 := fun u => (-1)) (w1 := fun u => [(a0, .inr (2, [.int 0, .ref a1, .int 8, .int (-1), .int 0, .int 0, .int 0, .int 0])), (a1, .inr (0, [.int 0, .ref e0, .int 0]))]) hx hb hr hlk hP hD hS (fun _ _ => 0) rfl rfl [0, 1] rfl rfl (Nat.le_of_ble_eq_true rfl) (Nat.le_of_ble_eq_true rfl) dX2_nextToWork_77
set_option maxHeartbeats 4000000 in
set_option maxRecDepth 100000 in
theorem kX10_next_0 (l : Launch) (hst : l.stackTraces = false) (D : va_G) (yc : Nat → ClassId) (e0 sz : Nat) (a0 : Nat) (a1 : Nat) (a2 : Nat) (a3 : Nat)  : Met l yX10_next (ws_ yX10_next cX10_next 1 (some .int)) ({ frames := 2, cells := 0, slots := 0, locals := 44 }) (PR D yc e0 [(a0, .inr (9, [.ref a1, .ref a2, .int 0, .int 0, .int 0])), (a1, .inr (2, [.int 0, .ref a3, .int 8, .int (-1), .int 0, .int 0, .int 0, .int 0])), (a3, .inr (0, [.int 0, .ref e0, .int 0]))] sz [.ref a0]) (va_Qi (fun r u => r = (fun u : Nat → Nat → Nat => (-1)) u) (WD D (va_A [(a0, .inr (9, [.ref a1, .ref a2, .int 0, .int 0, .int 0])), (a1, .inr (2, [.int 0, .ref a3, .int 8, .int (-1), .int 0, .int 0, .int 0, .int 0])), (a3, .inr (0, [.int 0, .ref e0, .int 0]))] sz) (fun u => [(a0, .inr (9, [.ref a1, .ref a2, .int 0, .int 0, .int 0])), (a1, .inr (2, [.int 0, .ref a3, .int 8, .int (-1), .int 0, .int 0, .int 0, .int 0])), (a3, .inr (0, [.int 0, .ref e0, .int 0]))])) (va_A [(a0, .inr (9, [.ref a1, .ref a2, .int 0, .int 0, .int 0])), (a1, .inr (2, [.int 0, .ref a3, .int 8, .int (-1), .int 0, .int 0, .int 0, .int 0])), (a3, .inr (0, [.int 0, .ref e0, .int 0]))] sz)) 0 0 (va_A [(a0, .inr (9, [.ref a1, .ref a2, .int 0, .int 0, .int 0])), (a1, .inr (2, [.int 0, .ref a3, .int 8, .int (-1), .int 0, .int 0, .int 0, .int 0])), (a3, .inr (0, [.int 0, .ref e0, .int 0]))] sz) := by
  refine zk_M (Qc := fun A => va_Qi (fun r u => r = (fun u : Nat → Nat → Nat => (-1)) u) (WD D A (fun u => [(a0, .inr (9, [.ref a1, .ref a2, .int 0, .int 0, .int 0])), (a1, .inr (2, [.int 0, .ref a3, .int 8, .int (-1), .int 0, .int 0, .int 0, .int 0])), (a3, .inr (0, [.int 0, .ref e0, .int 0]))])) A) (by decide) (Nat.le_of_ble_eq_true rfl) ?_
  intro p e s m args below meth c A ls hx hb hml hr hlk hown hnm hts hP hD hS hA hC hl
  have hK := hC.1
  have hN := hC.2.1
  have hl : lv_has ls 1 [(0, .ref a0)] := hl
  generalize hHH : s.heap = H at hP ⊢
  have hS : va_S A s.heap H [] := by rw [← hHH]; exact hS
  refine lv_aload_n hx hb dX10_next_0 rfl (lv_at hl 0 rfl) ?_
  refine va_get (D := D) (ci := 9) (v := .ref a1) (C := RX10) (T := TX10) (N := 5) hx hb hts iX10 hown hK hP 0 rfl rfl 0 (by decide) (hts _ wq99) (fun _ h9 => h9) rfl dX10_next_1 ?_
  refine zk_i (wr := [(a0, .inr (9, [.ref a1, .ref a2, .int 0, .int 0, .int 0]))]) (va_runV (As := []) (rest := []) ⟨hx, hb, hml, hown, hts⟩ (kX2_nextToWork_0 l hst D yc e0 H.size a1 a3) (cwV 0 hts (lw_V wq182 wq183 wq184 wq2 wq185) rfl rfl rfl (by decide +kernel) ⟨(Nat.le_of_ble_eq_true rfl), (Nat.le_of_ble_eq_true rfl)⟩) (zk_pV hC hP hD hS hA [1, 2] rfl rfl 1 2 rfl rfl) rfl rfl hl.1 rfl (lv_room (Nat.le_of_ble_eq_true rfl)) dX10_next_4 ⟨(Nat.le_of_ble_eq_true rfl), (Nat.le_of_ble_eq_true rfl)⟩) hP hD hS hA [1, 2] [0] rfl rfl rfl (by decide) (fun u1 H locs hP hD hS => ?_)
  have hP : va_P D vwCl [(a0, .inr (9, [.ref a1, .ref a2, .int 0, .int 0, .int 0])), (a1, .inr (2, [.int 0, .ref a3, .int 8, .int (-1), .int 0, .int 0, .int 0, .int 0])), (a3, .inr (0, [.int 0, .ref e0, .int 0]))] H := hP
  have hD : va_D A [(a0, .inr (9, [.ref a1, .ref a2, .int 0, .int 0, .int 0])), (a1, .inr (2, [.int 0, .ref a3, .int 8, .int (-1), .int 0, .int 0, .int 0, .int 0])), (a3, .inr (0, [.int 0, .ref e0, .int 0]))] := hD
  refine W.widen (k := 0) (n := 0) (Nat.le_of_ble_eq_true rfl) (Nat.le_of_ble_eq_true rfl) ?_
  exact zk_ri (r0 := fun u => (-1)) (w1 := fun u => [(a0, .inr (9, [.ref a1, .ref a2, .int 0, .int 0, .int 0])), (a1, .inr (2, [.int 0, .ref a3, .int 8, .int (-1), .int 0, .int 0, .int 0, .int 0])), (a3, .inr (0, [.int 0, .ref e0, .int 0]))]) hx hb hr hlk hP hD hS (fun _ _ => 0) rfl rfl [0, 1, 2] rfl rfl (Nat.le_of_ble_eq_true rfl) (Nat.le_of_ble_eq_true rfl) dX10_next_7
set_option maxHeartbeats 4000000 in
set_option maxRecDepth 100000 in
theorem kX13_next_0 (l : Launch) (hst : l.stackTraces = false) (D : va_G) (yc : Nat → ClassId) (e0 sz : Nat) (a0 : Nat) (a1 : Nat) (a2 : Nat) (a3 : Nat) (a4 : Nat) (a5 : Nat) (a6 : Nat) (a7 : Nat) (a8 : Nat) (a9 : Nat) (a10 : Nat) (a11 : Nat) (a12 : Nat) (a13 : Nat) (a14 : Nat) (a15 : Nat) (a16 : Nat)  : Met l yX13_next (ws_ yX13_next cX13_next 3 (some .int)) ({ frames := 0, cells := 0, slots := 0, locals := 0 }) (PR D yc e0 [(a0, .inr (12, [.int 8, .int (-1), .int 0, .int 0, .int 0, .int 0, .int 0, .ref a1, .ref a2, .ref a3, .ref a4, .ref a5, .ref a6, .ref a7, .ref a8, .ref a9, .ref a10])), (a10, .inr (13, [.int 0, .int 0, .ref a11, .ref a12, .ref a13, .ref a14, .ref a15, .ref a0, .ref a16, .int 0, .long 0]))] sz [.ref a0]) (va_Qi (fun r u => r = (fun u : Nat → Nat → Nat => (-1)) u) (WD D (va_A [(a0, .inr (12, [.int 8, .int (-1), .int 0, .int 0, .int 0, .int 0, .int 0, .ref a1, .ref a2, .ref a3, .ref a4, .ref a5, .ref a6, .ref a7, .ref a8, .ref a9, .ref a10])), (a10, .inr (13, [.int 0, .int 0, .ref a11, .ref a12, .ref a13, .ref a14, .ref a15, .ref a0, .ref a16, .int 0, .long 0]))] sz) (fun u => [(a0, .inr (12, [.int 8, .int (-1), .int 0, .int 0, .int 0, .int 0, .int 0, .ref a1, .ref a2, .ref a3, .ref a4, .ref a5, .ref a6, .ref a7, .ref a8, .ref a9, .ref a10])), (a10, .inr (13, [.int 0, .int 0, .ref a11, .ref a12, .ref a13, .ref a14, .ref a15, .ref a0, .ref a16, .int 0, .long 0]))])) (va_A [(a0, .inr (12, [.int 8, .int (-1), .int 0, .int 0, .int 0, .int 0, .int 0, .ref a1, .ref a2, .ref a3, .ref a4, .ref a5, .ref a6, .ref a7, .ref a8, .ref a9, .ref a10])), (a10, .inr (13, [.int 0, .int 0, .ref a11, .ref a12, .ref a13, .ref a14, .ref a15, .ref a0, .ref a16, .int 0, .long 0]))] sz)) 0 0 (va_A [(a0, .inr (12, [.int 8, .int (-1), .int 0, .int 0, .int 0, .int 0, .int 0, .ref a1, .ref a2, .ref a3, .ref a4, .ref a5, .ref a6, .ref a7, .ref a8, .ref a9, .ref a10])), (a10, .inr (13, [.int 0, .int 0, .ref a11, .ref a12, .ref a13, .ref a14, .ref a15, .ref a0, .ref a16, .int 0, .long 0]))] sz) := by
  refine zk_M (Qc := fun A => va_Qi (fun r u => r = (fun u : Nat → Nat → Nat => (-1)) u) (WD D A (fun u => [(a0, .inr (12, [.int 8, .int (-1), .int 0, .int 0, .int 0, .int 0, .int 0, .ref a1, .ref a2, .ref a3, .ref a4, .ref a5, .ref a6, .ref a7, .ref a8, .ref a9, .ref a10])), (a10, .inr (13, [.int 0, .int 0, .ref a11, .ref a12, .ref a13, .ref a14, .ref a15, .ref a0, .ref a16, .int 0, .long 0]))])) A) (by decide) (Nat.le_of_ble_eq_true rfl) ?_
  intro p e s m args below meth c A ls hx hb hml hr hlk hown hnm hts hP hD hS hA hC hl
  have hK := hC.1
  have hN := hC.2.1
  have hl : lv_has ls 3 [(0, .ref a0)] := hl
  generalize hHH : s.heap = H at hP ⊢
  have hS : va_S A s.heap H [] := by rw [← hHH]; exact hS
  refine lv_iconst (v := 1) hx hb dX13_next_0 (by decide) ?_
  refine lv_istore_n (lv' := [(1, .int 1), (0, .ref a0)]) hx hb dX13_next_1 rfl hl (by decide) rfl (fun ls hl => ?_)
  refine lv_iload_n hx hb dX13_next_2 rfl (lv_at hl 0 rfl) ?_
  refine lv_aload_n hx hb dX13_next_3 rfl (lv_at hl 1 rfl) ?_
  refine va_get (D := D) (ci := 12) (v := .ref a10) (C := RX13) (T := TX13) (N := 17) hx hb hts iX13 hown hK hP 0 rfl rfl 16 (by decide) (hts _ wq1491) (fun _ h9 => h9) rfl dX13_next_4 ?_
  refine va_getN (D := D) (ci := 13) (v := .int 0) (C := RX14) (T := TX14) (N := 11) hx hb hts iX14 hown hK hP 1 rfl rfl 0 (by decide) (zk_tab rfl (hN _ wr1527 rfl)) (fun _ h9 => h9) rfl dX13_next_7 ?_
  refine lv_icmp_gt (tgt := 44) hx hb dX13_next_10 (by decide) (fun _ => ?_) (fun h9 => absurd (by decide) h9)
  refine lv_iconst (v := (-1)) hx hb dX13_next_44 (by decide) ?_
  exact zk_ri (r0 := fun u => (-1)) (w1 := fun u => [(a0, .inr (12, [.int 8, .int (-1), .int 0, .int 0, .int 0, .int 0, .int 0, .ref a1, .ref a2, .ref a3, .ref a4, .ref a5, .ref a6, .ref a7, .ref a8, .ref a9, .ref a10])), (a10, .inr (13, [.int 0, .int 0, .ref a11, .ref a12, .ref a13, .ref a14, .ref a15, .ref a0, .ref a16, .int 0, .long 0]))]) hx hb hr hlk hP hD hS (fun _ _ => 0) rfl rfl [0, 1] rfl rfl (Nat.le_of_ble_eq_true rfl) (Nat.le_of_ble_eq_true rfl) dX13_next_45
set_option maxHeartbeats 4000000 in
set_option maxRecDepth 100000 in
theorem kX14_next_0 (l : Launch) (hst : l.stackTraces = false) (D : va_G) (yc : Nat → ClassId) (e0 sz : Nat) (a0 : Nat) (a1 : Nat) (a2 : Nat) (a3 : Nat) (a4 : Nat) (a5 : Nat) (a6 : Nat) (a7 : Nat) (a8 : Nat) (a9 : Nat) (a10 : Nat) (a11 : Nat) (a12 : Nat) (a13 : Nat) (a14 : Nat) (a15 : Nat) (a16 : Nat)  : Met l yX14_next (ws_ yX14_next cX14_next 1 (some .int)) ({ frames := 1, cells := 0, slots := 0, locals := 22 }) (PR D yc e0 [(a0, .inr (13, [.int 0, .int 0, .ref a1, .ref a2, .ref a3, .ref a4, .ref a5, .ref a6, .ref a7, .int 0, .long 0])), (a6, .inr (12, [.int 8, .int (-1), .int 0, .int 0, .int 0, .int 0, .int 0, .ref a8, .ref a9, .ref a10, .ref a11, .ref a12, .ref a13, .ref a14, .ref a15, .ref a16, .ref a0]))] sz [.ref a0]) (va_Qi (fun r u => r = (fun u : Nat → Nat → Nat => (-1)) u) (WD D (va_A [(a0, .inr (13, [.int 0, .int 0, .ref a1, .ref a2, .ref a3, .ref a4, .ref a5, .ref a6, .ref a7, .int 0, .long 0])), (a6, .inr (12, [.int 8, .int (-1), .int 0, .int 0, .int 0, .int 0, .int 0, .ref a8, .ref a9, .ref a10, .ref a11, .ref a12, .ref a13, .ref a14, .ref a15, .ref a16, .ref a0]))] sz) (fun u => [(a6, .inr (12, [.int 8, .int (-1), .int 0, .int 0, .int 0, .int 0, .int 0, .ref a8, .ref a9, .ref a10, .ref a11, .ref a12, .ref a13, .ref a14, .ref a15, .ref a16, .ref a0])), (a0, .inr (13, [.int 0, .int 0, .ref a1, .ref a2, .ref a3, .ref a4, .ref a5, .ref a6, .ref a7, .int 0, .long 0]))])) (va_A [(a0, .inr (13, [.int 0, .int 0, .ref a1, .ref a2, .ref a3, .ref a4, .ref a5, .ref a6, .ref a7, .int 0, .long 0])), (a6, .inr (12, [.int 8, .int (-1), .int 0, .int 0, .int 0, .int 0, .int 0, .ref a8, .ref a9, .ref a10, .ref a11, .ref a12, .ref a13, .ref a14, .ref a15, .ref a16, .ref a0]))] sz)) 0 0 (va_A [(a0, .inr (13, [.int 0, .int 0, .ref a1, .ref a2, .ref a3, .ref a4, .ref a5, .ref a6, .ref a7, .int 0, .long 0])), (a6, .inr (12, [.int 8, .int (-1), .int 0, .int 0, .int 0, .int 0, .int 0, .ref a8, .ref a9, .ref a10, .ref a11, .ref a12, .ref a13, .ref a14, .ref a15, .ref a16, .ref a0]))] sz) := by
  refine zk_M (Qc := fun A => va_Qi (fun r u => r = (fun u : Nat → Nat → Nat => (-1)) u) (WD D A (fun u => [(a6, .inr (12, [.int 8, .int (-1), .int 0, .int 0, .int 0, .int 0, .int 0, .ref a8, .ref a9, .ref a10, .ref a11, .ref a12, .ref a13, .ref a14, .ref a15, .ref a16, .ref a0])), (a0, .inr (13, [.int 0, .int 0, .ref a1, .ref a2, .ref a3, .ref a4, .ref a5, .ref a6, .ref a7, .int 0, .long 0]))])) A) (by decide) (Nat.le_of_ble_eq_true rfl) ?_
  intro p e s m args below meth c A ls hx hb hml hr hlk hown hnm hts hP hD hS hA hC hl
  have hK := hC.1
  have hN := hC.2.1
  have hl : lv_has ls 1 [(0, .ref a0)] := hl
  generalize hHH : s.heap = H at hP ⊢
  have hS : va_S A s.heap H [] := by rw [← hHH]; exact hS
  refine lv_aload_n hx hb dX14_next_0 rfl (lv_at hl 0 rfl) ?_
  refine lv_iconst (v := 0) hx hb dX14_next_1 (by decide) ?_
  refine va_put (D := D) (ci := 13) (v := .int 0) (ty := .int) (C := RX14) (T := TX14) (N := 11) hx hb hts iX14 tyX14 tyX14_ok nmX14 hown hK hP hD hS 0 rfl rfl 9 (by decide) (hts _ wq1542) (fun _ h9 => h9) rfl (by decide +kernel) rfl rfl (Nat.le_of_ble_eq_true rfl) dX14_next_2 (fun H locs hP hD hS => ?_)
  have hP : va_P D vwCl [(a0, .inr (13, [.int 0, .int 0, .ref a1, .ref a2, .ref a3, .ref a4, .ref a5, .ref a6, .ref a7, .int 0, .long 0])), (a6, .inr (12, [.int 8, .int (-1), .int 0, .int 0, .int 0, .int 0, .int 0, .ref a8, .ref a9, .ref a10, .ref a11, .ref a12, .ref a13, .ref a14, .ref a15, .ref a16, .ref a0]))] H := hP
  have hD : va_D A [(a0, .inr (13, [.int 0, .int 0, .ref a1, .ref a2, .ref a3, .ref a4, .ref a5, .ref a6, .ref a7, .int 0, .long 0])), (a6, .inr (12, [.int 8, .int (-1), .int 0, .int 0, .int 0, .int 0, .int 0, .ref a8, .ref a9, .ref a10, .ref a11, .ref a12, .ref a13, .ref a14, .ref a15, .ref a16, .ref a0]))] := hD
  refine lv_aload_n hx hb dX14_next_5 rfl (lv_at hl 0 rfl) ?_
  refine va_get (D := D) (ci := 13) (v := .ref a6) (C := RX14) (T := TX14) (N := 11) hx hb hts iX14 hown hK hP 0 rfl rfl 7 (by decide) (hts _ wq1540) (fun _ h9 => h9) rfl dX14_next_6 ?_
  refine zk_i (wr := []) (va_runV (As := []) (rest := []) ⟨hx, hb, hml, hown, hts⟩ (kX13_next_0 l hst D yc e0 H.size a6 a8 a9 a10 a11 a12 a13 a14 a15 a16 a0 a1 a2 a3 a4 a5 a7) (cwV 0 hts (lw_V wq1991 wq1671 wq1672 wq7 wq1673) rfl rfl rfl (by decide +kernel) ⟨(Nat.le_of_ble_eq_true rfl), (Nat.le_of_ble_eq_true rfl)⟩) (zk_pV hC hP hD hS hA [1, 0] rfl rfl 1 12 rfl rfl) rfl rfl hl.1 rfl (lv_room (Nat.le_of_ble_eq_true rfl)) dX14_next_9 ⟨(Nat.le_of_ble_eq_true rfl), (Nat.le_of_ble_eq_true rfl)⟩) hP hD hS hA [1, 0] [] rfl rfl rfl (by decide) (fun u1 H locs hP hD hS => ?_)
  have hP : va_P D vwCl [(a6, .inr (12, [.int 8, .int (-1), .int 0, .int 0, .int 0, .int 0, .int 0, .ref a8, .ref a9, .ref a10, .ref a11, .ref a12, .ref a13, .ref a14, .ref a15, .ref a16, .ref a0])), (a0, .inr (13, [.int 0, .int 0, .ref a1, .ref a2, .ref a3, .ref a4, .ref a5, .ref a6, .ref a7, .int 0, .long 0]))] H := hP
  have hD : va_D A [(a6, .inr (12, [.int 8, .int (-1), .int 0, .int 0, .int 0, .int 0, .int 0, .ref a8, .ref a9, .ref a10, .ref a11, .ref a12, .ref a13, .ref a14, .ref a15, .ref a16, .ref a0])), (a0, .inr (13, [.int 0, .int 0, .ref a1, .ref a2, .ref a3, .ref a4, .ref a5, .ref a6, .ref a7, .int 0, .long 0]))] := hD
  refine W.widen (k := 0) (n := 0) (Nat.le_of_ble_eq_true rfl) (Nat.le_of_ble_eq_true rfl) ?_
  exact zk_ri (r0 := fun u => (-1)) (w1 := fun u => [(a6, .inr (12, [.int 8, .int (-1), .int 0, .int 0, .int 0, .int 0, .int 0, .ref a8, .ref a9, .ref a10, .ref a11, .ref a12, .ref a13, .ref a14, .ref a15, .ref a16, .ref a0])), (a0, .inr (13, [.int 0, .int 0, .ref a1, .ref a2, .ref a3, .ref a4, .ref a5, .ref a6, .ref a7, .int 0, .long 0]))]) hx hb hr hlk hP hD hS (fun _ _ => 0) rfl rfl [0, 1] rfl rfl (Nat.le_of_ble_eq_true rfl) (Nat.le_of_ble_eq_true rfl) dX14_next_12
set_option maxHeartbeats 4000000 in
set_option maxRecDepth 100000 in
theorem kX2_channels_0 (l : Launch) (hst : l.stackTraces = false) (D : va_G) (yc : Nat → ClassId) (e0 sz : Nat) (a0 : Nat) (a1 : Nat)  : Met l yX2_channels (ws_ yX2_channels cX2_channels 3 (some .int)) ({ frames := 1, cells := 0, slots := 0, locals := 20 }) (PR D yc e0 [(a0, .inr (2, [.int 0, .ref a1, .int 8, .int (-1), .int 0, .int 0, .int 0, .int 0])), (a1, .inr (0, [.int 0, .ref e0, .int 0]))] sz [.ref a0]) (va_Qi (fun r u => r = (fun u : Nat → Nat → Nat => 0) u) (WD D (va_A [(a0, .inr (2, [.int 0, .ref a1, .int 8, .int (-1), .int 0, .int 0, .int 0, .int 0])), (a1, .inr (0, [.int 0, .ref e0, .int 0]))] sz) (fun u => [(a0, .inr (2, [.int 0, .ref a1, .int 8, .int (-1), .int 0, .int 0, .int 0, .int 0])), (a1, .inr (0, [.int 0, .ref e0, .int 0]))])) (va_A [(a0, .inr (2, [.int 0, .ref a1, .int 8, .int (-1), .int 0, .int 0, .int 0, .int 0])), (a1, .inr (0, [.int 0, .ref e0, .int 0]))] sz)) 0 0 (va_A [(a0, .inr (2, [.int 0, .ref a1, .int 8, .int (-1), .int 0, .int 0, .int 0, .int 0])), (a1, .inr (0, [.int 0, .ref e0, .int 0]))] sz) := by
  refine zk_M (Qc := fun A => va_Qi (fun r u => r = (fun u : Nat → Nat → Nat => 0) u) (WD D A (fun u => [(a0, .inr (2, [.int 0, .ref a1, .int 8, .int (-1), .int 0, .int 0, .int 0, .int 0])), (a1, .inr (0, [.int 0, .ref e0, .int 0]))])) A) (by decide) (Nat.le_of_ble_eq_true rfl) ?_
  intro p e s m args below meth c A ls hx hb hml hr hlk hown hnm hts hP hD hS hA hC hl
  have hK := hC.1
  have hN := hC.2.1
  have hl : lv_has ls 3 [(0, .ref a0)] := hl
  generalize hHH : s.heap = H at hP ⊢
  have hS : va_S A s.heap H [] := by rw [← hHH]; exact hS
  refine lv_iconst (v := 0) hx hb dX2_channels_0 (by decide) ?_
  refine lv_istore_n (lv' := [(1, .int 0), (0, .ref a0)]) hx hb dX2_channels_1 rfl hl (by decide) rfl (fun ls hl => ?_)
  refine lv_iconst (v := 0) hx hb dX2_channels_2 (by decide) ?_
  refine lv_istore_n (lv' := [(2, .int 0), (1, .int 0), (0, .ref a0)]) hx hb dX2_channels_3 rfl hl (by decide) rfl (fun ls hl => ?_)
  refine lv_iload_n hx hb dX2_channels_4 rfl (lv_at hl 0 rfl) ?_
  refine lv_aload_n hx hb dX2_channels_5 rfl (lv_at hl 2 rfl) ?_
  refine va_get (D := D) (ci := 2) (v := .ref a1) (C := RX2) (T := TX2) (N := 8) hx hb hts iX2 hown hK hP 0 rfl rfl 1 (by decide) (hts _ wq72) (fun _ h9 => h9) rfl dX2_channels_6 ?_
  refine zk_i (wr := [(a0, .inr (2, [.int 0, .ref a1, .int 8, .int (-1), .int 0, .int 0, .int 0, .int 0]))]) (va_runV (As := []) (rest := [.int 0]) ⟨hx, hb, hml, hown, hts⟩ (kJx4a65c_size_8abf5_0 l hst D yc e0 H.size a1) (cwV 0 hts (lw_V wq123 wq124 wq125 wq5 wq126) rfl rfl rfl (by decide +kernel) ⟨(Nat.le_of_ble_eq_true rfl), (Nat.le_of_ble_eq_true rfl)⟩) (zk_pV hC hP hD hS hA [1] rfl rfl 1 0 rfl rfl) rfl rfl hl.1 rfl (lv_room (Nat.le_of_ble_eq_true rfl)) dX2_channels_9 ⟨(Nat.le_of_ble_eq_true rfl), (Nat.le_of_ble_eq_true rfl)⟩) hP hD hS hA [1] [0] rfl rfl rfl (by decide) (fun u1 H locs hP hD hS => ?_)
  have hP : va_P D vwCl [(a0, .inr (2, [.int 0, .ref a1, .int 8, .int (-1), .int 0, .int 0, .int 0, .int 0])), (a1, .inr (0, [.int 0, .ref e0, .int 0]))] H := hP
  have hD : va_D A [(a0, .inr (2, [.int 0, .ref a1, .int 8, .int (-1), .int 0, .int 0, .int 0, .int 0])), (a1, .inr (0, [.int 0, .ref e0, .int 0]))] := hD
  refine W.widen (k := 0) (n := 0) (Nat.le_of_ble_eq_true rfl) (Nat.le_of_ble_eq_true rfl) ?_
  refine lv_icmp_ge (tgt := 44) hx hb dX2_channels_12 (by decide) (fun _ => ?_) (fun h9 => absurd (by decide) h9)
  refine lv_iload_n hx hb dX2_channels_44 rfl (lv_at hl 1 rfl) ?_
  exact zk_ri (r0 := fun u => 0) (w1 := fun u => [(a0, .inr (2, [.int 0, .ref a1, .int 8, .int (-1), .int 0, .int 0, .int 0, .int 0])), (a1, .inr (0, [.int 0, .ref e0, .int 0]))]) hx hb hr hlk hP hD hS (fun _ _ => 0) rfl rfl [0, 1] rfl rfl (Nat.le_of_ble_eq_true rfl) (Nat.le_of_ble_eq_true rfl) dX2_channels_45
