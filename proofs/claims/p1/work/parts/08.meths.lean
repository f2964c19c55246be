set_option maxHeartbeats 4000000 in
set_option maxRecDepth 100000 in
theorem kX14_addSource_2 (l : Launch) (hst : l.stackTraces = false) (D : va_G) (yc : Nat → ClassId) (e0 sz : Nat) (a0 : Nat) (p0 : Int32) (a1 : Nat) (a2 : Nat) (a3 : Nat) (a4 : Nat) (a5 : Nat) (a6 : Nat) (a7 : Nat) (g0 : Nat → Nat) (g1 : Nat → Nat) (h0 : ¬ p0 < 0) (h1 : ¬ 1000 < p0) : Met l yX14_addSource (ws_ yX14_addSource cX14_addSource 2 (some .int)) ({ frames := 3, cells := 3, slots := 16, locals := 66 }) (PR D yc e0 [(a0, .inr (13, [.int 0, .int 0, .ref a1, .ref a2, .ref a3, .ref a4, .ref a5, .ref a6, .ref a7, .int 0, .long 0])), (a1, .inl (yc 0, 12, .inl (fun _ => 0))), (a2, .inl (yc 6, 12, .inr (.inr (.inr (.inr (fun i => if i < 12 then some (g0 i) else none)))))), (a3, .inl (yc 6, 12, .inr (.inr (.inr (.inr (fun i => if i < 12 then some (g1 i) else none)))))), (a4, .inl (yc 4, 12, .inr (.inr (.inr (.inr (fun _ => none)))))), ((g0 0), .inl (yc 0, 2, .inl (fun _ => 0))), ((g1 0), .inl (yc 0, 4, .inl (fun _ => 0)))] sz [.ref a0, .int p0]) (va_Qi (fun r u => r = (fun u : Nat → Nat → Nat => 0) u) (WD D (va_A [(a0, .inr (13, [.int 0, .int 0, .ref a1, .ref a2, .ref a3, .ref a4, .ref a5, .ref a6, .ref a7, .int 0, .long 0])), (a1, .inl (yc 0, 12, .inl (fun _ => 0))), (a2, .inl (yc 6, 12, .inr (.inr (.inr (.inr (fun i => if i < 12 then some (g0 i) else none)))))), (a3, .inl (yc 6, 12, .inr (.inr (.inr (.inr (fun i => if i < 12 then some (g1 i) else none)))))), (a4, .inl (yc 4, 12, .inr (.inr (.inr (.inr (fun _ => none)))))), ((g0 0), .inl (yc 0, 2, .inl (fun _ => 0))), ((g1 0), .inl (yc 0, 4, .inl (fun _ => 0)))] sz) (fun u => [(a0, .inr (13, [.int 1, .int 0, .ref a1, .ref a2, .ref a3, .ref a4, .ref a5, .ref a6, .ref a7, .int 0, .long 0])), (a1, .inl (yc 0, 12, .inl (upd (fun _ => 0) (0 : Int32).toNatClampNeg 0))), (a2, .inl (yc 6, 12, .inr (.inr (.inr (.inr (fun i => if i < 12 then some (g0 i) else none)))))), (a3, .inl (yc 6, 12, .inr (.inr (.inr (.inr (fun i => if i < 12 then some (g1 i) else none)))))), ((g0 0), .inl (yc 0, 2, .inl (upd (upd (fun _ => 0) (0 : Int32).toNatClampNeg (-1)) (1 : Int32).toNatClampNeg (-1)))), ((g1 0), .inl (yc 0, 4, .inl (va_cpy (upd (fun _ => 0) (0 : Int32).toNatClampNeg p0) (fun _ => 0) (0 : Int32).toNatClampNeg (0 : Int32).toNatClampNeg (1 : Int32).toNatClampNeg)))])) (va_A [(a0, .inr (13, [.int 0, .int 0, .ref a1, .ref a2, .ref a3, .ref a4, .ref a5, .ref a6, .ref a7, .int 0, .long 0])), (a1, .inl (yc 0, 12, .inl (fun _ => 0))), (a2, .inl (yc 6, 12, .inr (.inr (.inr (.inr (fun i => if i < 12 then some (g0 i) else none)))))), (a3, .inl (yc 6, 12, .inr (.inr (.inr (.inr (fun i => if i < 12 then some (g1 i) else none)))))), (a4, .inl (yc 4, 12, .inr (.inr (.inr (.inr (fun _ => none)))))), ((g0 0), .inl (yc 0, 2, .inl (fun _ => 0))), ((g1 0), .inl (yc 0, 4, .inl (fun _ => 0)))] sz)) 3 16 (va_A [(a0, .inr (13, [.int 0, .int 0, .ref a1, .ref a2, .ref a3, .ref a4, .ref a5, .ref a6, .ref a7, .int 0, .long 0])), (a1, .inl (yc 0, 12, .inl (fun _ => 0))), (a2, .inl (yc 6, 12, .inr (.inr (.inr (.inr (fun i => if i < 12 then some (g0 i) else none)))))), (a3, .inl (yc 6, 12, .inr (.inr (.inr (.inr (fun i => if i < 12 then some (g1 i) else none)))))), (a4, .inl (yc 4, 12, .inr (.inr (.inr (.inr (fun _ => none)))))), ((g0 0), .inl (yc 0, 2, .inl (fun _ => 0))), ((g1 0), .inl (yc 0, 4, .inl (fun _ => 0)))] sz) := by
  refine zk_M (Qc := fun A => va_Qi (fun r u => r = (fun u : Nat → Nat → Nat => 0) u) (WD D A (fun u => [(a0, .inr (13, [.int 1, .int 0, .ref a1, .ref a2, .ref a3, .ref a4, .ref a5, .ref a6, .ref a7, .int 0, .long 0])), (a1, .inl (yc 0, 12, .inl (upd (fun _ => 0) (0 : Int32).toNatClampNeg 0))), (a2, .inl (yc 6, 12, .inr (.inr (.inr (.inr (fun i => if i < 12 then some (g0 i) else none)))))), (a3, .inl (yc 6, 12, .inr (.inr (.inr (.inr (fun i => if i < 12 then some (g1 i) else none)))))), ((g0 0), .inl (yc 0, 2, .inl (upd (upd (fun _ => 0) (0 : Int32).toNatClampNeg (-1)) (1 : Int32).toNatClampNeg (-1)))), ((g1 0), .inl (yc 0, 4, .inl (va_cpy (upd (fun _ => 0) (0 : Int32).toNatClampNeg p0) (fun _ => 0) (0 : Int32).toNatClampNeg (0 : Int32).toNatClampNeg (1 : Int32).toNatClampNeg)))])) A) (by decide) (Nat.le_of_ble_eq_true rfl) ?_
  intro p e s m args below meth c A ls hx hb hml hr hlk hown hnm hts hP hD hS hA hC hl
  have hK := hC.1
  have hN := hC.2.1
  have hl : lv_has ls 2 [(0, .ref a0), (1, .int p0)] := hl
  generalize hHH : s.heap = H at hP ⊢
  have hS : va_S A s.heap H [] := by rw [← hHH]; exact hS
  refine lv_aload_n hx hb dX14_addSource_0 rfl (lv_at hl 0 rfl) ?_
  refine lv_iconst (v := 0) hx hb dX14_addSource_1 (by decide) ?_
  refine va_put (D := D) (ci := 13) (v := .int 0) (ty := .int) (C := RX14) (T := TX14) (N := 11) hx hb hts iX14 tyX14 tyX14_ok nmX14 hown hK hP hD hS 0 rfl rfl 9 (by decide) (hts _ wq1542) (fun _ h9 => h9) rfl (by decide +kernel) rfl rfl (Nat.le_of_ble_eq_true rfl) dX14_addSource_2 (fun H locs hP hD hS => ?_)
  have hP : va_P D vwCl [(a0, .inr (13, [.int 0, .int 0, .ref a1, .ref a2, .ref a3, .ref a4, .ref a5, .ref a6, .ref a7, .int 0, .long 0])), (a1, .inl (yc 0, 12, .inl (fun _ => 0))), (a2, .inl (yc 6, 12, .inr (.inr (.inr (.inr (fun i => if i < 12 then some (g0 i) else none)))))), (a3, .inl (yc 6, 12, .inr (.inr (.inr (.inr (fun i => if i < 12 then some (g1 i) else none)))))), (a4, .inl (yc 4, 12, .inr (.inr (.inr (.inr (fun _ => none)))))), ((g0 0), .inl (yc 0, 2, .inl (fun _ => 0))), ((g1 0), .inl (yc 0, 4, .inl (fun _ => 0)))] H := hP
  have hD : va_D A [(a0, .inr (13, [.int 0, .int 0, .ref a1, .ref a2, .ref a3, .ref a4, .ref a5, .ref a6, .ref a7, .int 0, .long 0])), (a1, .inl (yc 0, 12, .inl (fun _ => 0))), (a2, .inl (yc 6, 12, .inr (.inr (.inr (.inr (fun i => if i < 12 then some (g0 i) else none)))))), (a3, .inl (yc 6, 12, .inr (.inr (.inr (.inr (fun i => if i < 12 then some (g1 i) else none)))))), (a4, .inl (yc 4, 12, .inr (.inr (.inr (.inr (fun _ => none)))))), ((g0 0), .inl (yc 0, 2, .inl (fun _ => 0))), ((g1 0), .inl (yc 0, 4, .inl (fun _ => 0)))] := hD
  refine lv_iload_n hx hb dX14_addSource_5 rfl (lv_at hl 1 rfl) ?_
  refine lv_iconst (v := 0) hx hb dX14_addSource_6 (by decide) ?_
  refine lv_sipush (v := 1000) hx hb dX14_addSource_7 (by decide) ?_
  refine zk_i (wr := [(a0, .inr (13, [.int 0, .int 0, .ref a1, .ref a2, .ref a3, .ref a4, .ref a5, .ref a6, .ref a7, .int 0, .long 0])), (a1, .inl (yc 0, 12, .inl (fun _ => 0))), (a2, .inl (yc 6, 12, .inr (.inr (.inr (.inr (fun i => if i < 12 then some (g0 i) else none)))))), (a3, .inl (yc 6, 12, .inr (.inr (.inr (.inr (fun i => if i < 12 then some (g1 i) else none)))))), (a4, .inl (yc 4, 12, .inr (.inr (.inr (.inr (fun _ => none)))))), ((g0 0), .inl (yc 0, 2, .inl (fun _ => 0))), ((g1 0), .inl (yc 0, 4, .inl (fun _ => 0)))]) (va_runS (As := [.int p0, .int 0, .int 1000]) (rest := []) ⟨hx, hb, hml, hown, hts⟩ (kX14_is_2 l hst D yc e0 H.size p0 h0 h1) (va_cwS 3 hts (lw_S wq1575 wq1576 wq6 wq1577) rfl rfl rfl (by decide +kernel) ⟨(Nat.le_of_ble_eq_true rfl), (Nat.le_of_ble_eq_true rfl)⟩) (zk_pS hC hP hD hS hA [] rfl rfl) rfl rfl hl.1 rfl (lv_room (Nat.le_of_ble_eq_true rfl)) dX14_addSource_10 ⟨(Nat.le_of_ble_eq_true rfl), (Nat.le_of_ble_eq_true rfl)⟩) hP hD hS hA [] [0, 1, 2, 3, 4, 5, 6] rfl rfl rfl (by decide) (fun u1 H locs hP hD hS => ?_)
  have hP : va_P D vwCl [(a0, .inr (13, [.int 0, .int 0, .ref a1, .ref a2, .ref a3, .ref a4, .ref a5, .ref a6, .ref a7, .int 0, .long 0])), (a1, .inl (yc 0, 12, .inl (fun _ => 0))), (a2, .inl (yc 6, 12, .inr (.inr (.inr (.inr (fun i => if i < 12 then some (g0 i) else none)))))), (a3, .inl (yc 6, 12, .inr (.inr (.inr (.inr (fun i => if i < 12 then some (g1 i) else none)))))), (a4, .inl (yc 4, 12, .inr (.inr (.inr (.inr (fun _ => none)))))), ((g0 0), .inl (yc 0, 2, .inl (fun _ => 0))), ((g1 0), .inl (yc 0, 4, .inl (fun _ => 0)))] H := hP
  have hD : va_D A [(a0, .inr (13, [.int 0, .int 0, .ref a1, .ref a2, .ref a3, .ref a4, .ref a5, .ref a6, .ref a7, .int 0, .long 0])), (a1, .inl (yc 0, 12, .inl (fun _ => 0))), (a2, .inl (yc 6, 12, .inr (.inr (.inr (.inr (fun i => if i < 12 then some (g0 i) else none)))))), (a3, .inl (yc 6, 12, .inr (.inr (.inr (.inr (fun i => if i < 12 then some (g1 i) else none)))))), (a4, .inl (yc 4, 12, .inr (.inr (.inr (.inr (fun _ => none)))))), ((g0 0), .inl (yc 0, 2, .inl (fun _ => 0))), ((g1 0), .inl (yc 0, 4, .inl (fun _ => 0)))] := hD
  refine W.widen (k := 0) (n := 0) (Nat.le_of_ble_eq_true rfl) (Nat.le_of_ble_eq_true rfl) ?_
  refine lv_if_eq (tgt := 34) hx hb dX14_addSource_13 (by decide) (fun h9 => absurd h9 (by decide)) (fun _ => ?_)
  refine lv_aload_n hx hb dX14_addSource_16 rfl (lv_at hl 0 rfl) ?_
  refine lv_iconst (v := 2) hx hb dX14_addSource_17 (by decide) ?_
  refine lv_iconst (v := 0) hx hb dX14_addSource_18 (by decide) ?_
  refine lv_iconst (v := (-1)) hx hb dX14_addSource_19 (by decide) ?_
  refine lv_iconst (v := (-1)) hx hb dX14_addSource_20 (by decide) ?_
  refine lv_iconst (v := 1) hx hb dX14_addSource_21 (by decide) ?_
  refine va_newa (atype := .int) (a0 := (1, .inl (fun _ => 0))) hx hb (hts _ wq1400) rfl hK hP hD hS hA (fun cA => rfl) (by decide) (N' := 1) (by decide) (Nat.le_of_ble_eq_true rfl) (Nat.le_of_ble_eq_true rfl) (Nat.le_of_ble_eq_true rfl) dX14_addSource_22 (fun q2 cA H hK1 hP hD hS => ?_)
  obtain rfl : cA = yc 0 := zk_same hK1 9 0 rfl rfl
  have hP : va_P D vwCl [(a0, .inr (13, [.int 0, .int 0, .ref a1, .ref a2, .ref a3, .ref a4, .ref a5, .ref a6, .ref a7, .int 0, .long 0])), (a1, .inl (yc 0, 12, .inl (fun _ => 0))), (a2, .inl (yc 6, 12, .inr (.inr (.inr (.inr (fun i => if i < 12 then some (g0 i) else none)))))), (a3, .inl (yc 6, 12, .inr (.inr (.inr (.inr (fun i => if i < 12 then some (g1 i) else none)))))), (a4, .inl (yc 4, 12, .inr (.inr (.inr (.inr (fun _ => none)))))), ((g0 0), .inl (yc 0, 2, .inl (fun _ => 0))), ((g1 0), .inl (yc 0, 4, .inl (fun _ => 0))), (q2, .inl (yc 0, 1, .inl (fun _ => 0)))] H := hP
  have hD : va_D A [(a0, .inr (13, [.int 0, .int 0, .ref a1, .ref a2, .ref a3, .ref a4, .ref a5, .ref a6, .ref a7, .int 0, .long 0])), (a1, .inl (yc 0, 12, .inl (fun _ => 0))), (a2, .inl (yc 6, 12, .inr (.inr (.inr (.inr (fun i => if i < 12 then some (g0 i) else none)))))), (a3, .inl (yc 6, 12, .inr (.inr (.inr (.inr (fun i => if i < 12 then some (g1 i) else none)))))), (a4, .inl (yc 4, 12, .inr (.inr (.inr (.inr (fun _ => none)))))), ((g0 0), .inl (yc 0, 2, .inl (fun _ => 0))), ((g1 0), .inl (yc 0, 4, .inl (fun _ => 0))), (q2, .inl (yc 0, 1, .inl (fun _ => 0)))] := hD
  refine W.widen (k := 1) (n := 1) (Nat.le_of_ble_eq_true rfl) (Nat.le_of_ble_eq_true rfl) ?_
  refine lv_dup hx hb dX14_addSource_24 rfl ?_
  refine lv_iconst (v := 0) hx hb dX14_addSource_25 (by decide) ?_
  refine lv_iload_n hx hb dX14_addSource_26 rfl (lv_at hl 1 rfl) ?_
  refine va_iast hx hb hK hP hD hS 7 0 rfl rfl (by unfold vp_in; decide) dX14_addSource_27 (fun H locs hP hD hS => ?_)
  have hP : va_P D vwCl [(a0, .inr (13, [.int 0, .int 0, .ref a1, .ref a2, .ref a3, .ref a4, .ref a5, .ref a6, .ref a7, .int 0, .long 0])), (a1, .inl (yc 0, 12, .inl (fun _ => 0))), (a2, .inl (yc 6, 12, .inr (.inr (.inr (.inr (fun i => if i < 12 then some (g0 i) else none)))))), (a3, .inl (yc 6, 12, .inr (.inr (.inr (.inr (fun i => if i < 12 then some (g1 i) else none)))))), (a4, .inl (yc 4, 12, .inr (.inr (.inr (.inr (fun _ => none)))))), ((g0 0), .inl (yc 0, 2, .inl (fun _ => 0))), ((g1 0), .inl (yc 0, 4, .inl (fun _ => 0))), (q2, .inl (yc 0, 1, .inl (upd (fun _ => 0) (0 : Int32).toNatClampNeg p0)))] H := hP
  have hD : va_D A [(a0, .inr (13, [.int 0, .int 0, .ref a1, .ref a2, .ref a3, .ref a4, .ref a5, .ref a6, .ref a7, .int 0, .long 0])), (a1, .inl (yc 0, 12, .inl (fun _ => 0))), (a2, .inl (yc 6, 12, .inr (.inr (.inr (.inr (fun i => if i < 12 then some (g0 i) else none)))))), (a3, .inl (yc 6, 12, .inr (.inr (.inr (.inr (fun i => if i < 12 then some (g1 i) else none)))))), (a4, .inl (yc 4, 12, .inr (.inr (.inr (.inr (fun _ => none)))))), ((g0 0), .inl (yc 0, 2, .inl (fun _ => 0))), ((g1 0), .inl (yc 0, 4, .inl (fun _ => 0))), (q2, .inl (yc 0, 1, .inl (upd (fun _ => 0) (0 : Int32).toNatClampNeg p0)))] := hD
  refine zk_i (wr := []) (va_runV (As := [.int 2, .int 0, .int (-1), .int (-1), .ref q2]) (rest := []) ⟨hx, hb, hml, hown, hts⟩ (kX14_add_0 l hst D yc e0 H.size a0 q2 a1 a2 a3 a4 a5 a6 a7 (upd (fun _ => 0) (0 : Int32).toNatClampNeg p0) g0 g1) (cwV 5 hts (lw_V wq1578 wq1580 ws32 wq6 wq1581) rfl rfl rfl (by decide +kernel) ⟨(Nat.le_of_ble_eq_true rfl), (Nat.le_of_ble_eq_true rfl)⟩) (zk_pV hC hP hD hS hA [0, 7, 1, 2, 3, 4, 5, 6] rfl rfl 0 13 rfl rfl) rfl rfl hl.1 rfl (lv_room (Nat.le_of_ble_eq_true rfl)) dX14_addSource_28 ⟨(Nat.le_of_ble_eq_true rfl), (Nat.le_of_ble_eq_true rfl)⟩) hP hD hS hA [0, 7, 1, 2, 3, 4, 5, 6] [] rfl rfl rfl (by decide) (fun u3 H locs hP hD hS => ?_)
  have hP : va_P D vwCl [(a0, .inr (13, [.int 1, .int 0, .ref a1, .ref a2, .ref a3, .ref a4, .ref a5, .ref a6, .ref a7, .int 0, .long 0])), (q2, .inl (yc 0, 1, .inl (upd (fun _ => 0) (0 : Int32).toNatClampNeg p0))), (a1, .inl (yc 0, 12, .inl (upd (fun _ => 0) (0 : Int32).toNatClampNeg 0))), (a2, .inl (yc 6, 12, .inr (.inr (.inr (.inr (fun i => if i < 12 then some (g0 i) else none)))))), (a3, .inl (yc 6, 12, .inr (.inr (.inr (.inr (fun i => if i < 12 then some (g1 i) else none)))))), ((g0 0), .inl (yc 0, 2, .inl (upd (upd (fun _ => 0) (0 : Int32).toNatClampNeg (-1)) (1 : Int32).toNatClampNeg (-1)))), ((g1 0), .inl (yc 0, 4, .inl (va_cpy (upd (fun _ => 0) (0 : Int32).toNatClampNeg p0) (fun _ => 0) (0 : Int32).toNatClampNeg (0 : Int32).toNatClampNeg (1 : Int32).toNatClampNeg)))] H := hP
  have hD : va_D A [(a0, .inr (13, [.int 1, .int 0, .ref a1, .ref a2, .ref a3, .ref a4, .ref a5, .ref a6, .ref a7, .int 0, .long 0])), (q2, .inl (yc 0, 1, .inl (upd (fun _ => 0) (0 : Int32).toNatClampNeg p0))), (a1, .inl (yc 0, 12, .inl (upd (fun _ => 0) (0 : Int32).toNatClampNeg 0))), (a2, .inl (yc 6, 12, .inr (.inr (.inr (.inr (fun i => if i < 12 then some (g0 i) else none)))))), (a3, .inl (yc 6, 12, .inr (.inr (.inr (.inr (fun i => if i < 12 then some (g1 i) else none)))))), ((g0 0), .inl (yc 0, 2, .inl (upd (upd (fun _ => 0) (0 : Int32).toNatClampNeg (-1)) (1 : Int32).toNatClampNeg (-1)))), ((g1 0), .inl (yc 0, 4, .inl (va_cpy (upd (fun _ => 0) (0 : Int32).toNatClampNeg p0) (fun _ => 0) (0 : Int32).toNatClampNeg (0 : Int32).toNatClampNeg (1 : Int32).toNatClampNeg)))] := hD
  refine W.widen (k := 3) (n := 16) (Nat.le_of_ble_eq_true rfl) (Nat.le_of_ble_eq_true rfl) ?_
  refine lv_goto (tgt := 39) hx hb dX14_addSource_31 (by decide) ?_
  exact zk_ri (r0 := fun u => 0) (w1 := fun u => [(a0, .inr (13, [.int 1, .int 0, .ref a1, .ref a2, .ref a3, .ref a4, .ref a5, .ref a6, .ref a7, .int 0, .long 0])), (a1, .inl (yc 0, 12, .inl (upd (fun _ => 0) (0 : Int32).toNatClampNeg 0))), (a2, .inl (yc 6, 12, .inr (.inr (.inr (.inr (fun i => if i < 12 then some (g0 i) else none)))))), (a3, .inl (yc 6, 12, .inr (.inr (.inr (.inr (fun i => if i < 12 then some (g1 i) else none)))))), ((g0 0), .inl (yc 0, 2, .inl (upd (upd (fun _ => 0) (0 : Int32).toNatClampNeg (-1)) (1 : Int32).toNatClampNeg (-1)))), ((g1 0), .inl (yc 0, 4, .inl (va_cpy (upd (fun _ => 0) (0 : Int32).toNatClampNeg p0) (fun _ => 0) (0 : Int32).toNatClampNeg (0 : Int32).toNatClampNeg (1 : Int32).toNatClampNeg)))]) hx hb hr hlk hP hD hS (fun _ _ => 0) rfl rfl [0, 2, 3, 4, 5, 6] rfl rfl (Nat.le_of_ble_eq_true rfl) (Nat.le_of_ble_eq_true rfl) dX14_addSource_39
set_option maxHeartbeats 4000000 in
set_option maxRecDepth 100000 in
theorem kX14_thrown_1 (l : Launch) (hst : l.stackTraces = false) (D : va_G) (yc : Nat → ClassId) (e0 sz : Nat) (a0 : Nat) (a1 : Nat) (a2 : Nat) (a3 : Nat) (a4 : Nat) (a5 : Nat) (a6 : Nat) (a7 : Nat)  : Met l yX14_thrown (ws_ yX14_thrown cX14_thrown 1 (some .int)) ({ frames := 0, cells := 0, slots := 0, locals := 0 }) (PR D yc e0 [(a0, .inr (13, [.int 1, .int 0, .ref a1, .ref a2, .ref a3, .ref a4, .ref a5, .ref a6, .ref a7, .int 0, .long 0]))] sz [.ref a0]) (va_Qi (fun r u => r = (fun u : Nat → Nat → Nat => 0) u) (WD D (va_A [(a0, .inr (13, [.int 1, .int 0, .ref a1, .ref a2, .ref a3, .ref a4, .ref a5, .ref a6, .ref a7, .int 0, .long 0]))] sz) (fun u => [(a0, .inr (13, [.int 1, .int 0, .ref a1, .ref a2, .ref a3, .ref a4, .ref a5, .ref a6, .ref a7, .int 0, .long 0]))])) (va_A [(a0, .inr (13, [.int 1, .int 0, .ref a1, .ref a2, .ref a3, .ref a4, .ref a5, .ref a6, .ref a7, .int 0, .long 0]))] sz)) 0 0 (va_A [(a0, .inr (13, [.int 1, .int 0, .ref a1, .ref a2, .ref a3, .ref a4, .ref a5, .ref a6, .ref a7, .int 0, .long 0]))] sz) := by
  refine zk_M (Qc := fun A => va_Qi (fun r u => r = (fun u : Nat → Nat → Nat => 0) u) (WD D A (fun u => [(a0, .inr (13, [.int 1, .int 0, .ref a1, .ref a2, .ref a3, .ref a4, .ref a5, .ref a6, .ref a7, .int 0, .long 0]))])) A) (by decide) (Nat.le_of_ble_eq_true rfl) ?_
  intro p e s m args below meth c A ls hx hb hml hr hlk hown hnm hts hP hD hS hA hC hl
  have hK := hC.1
  have hN := hC.2.1
  have hl : lv_has ls 1 [(0, .ref a0)] := hl
  generalize hHH : s.heap = H at hP ⊢
  have hS : va_S A s.heap H [] := by rw [← hHH]; exact hS
  refine lv_aload_n hx hb dX14_thrown_0 rfl (lv_at hl 0 rfl) ?_
  refine va_get (D := D) (ci := 13) (v := .int 0) (C := RX14) (T := TX14) (N := 11) hx hb hts iX14 hown hK hP 0 rfl rfl 9 (by decide) (hts _ wq1542) (fun _ h9 => h9) rfl dX14_thrown_1 ?_
  exact zk_ri (r0 := fun u => 0) (w1 := fun u => [(a0, .inr (13, [.int 1, .int 0, .ref a1, .ref a2, .ref a3, .ref a4, .ref a5, .ref a6, .ref a7, .int 0, .long 0]))]) hx hb hr hlk hP hD hS (fun _ _ => 0) rfl rfl [0] rfl rfl (Nat.le_of_ble_eq_true rfl) (Nat.le_of_ble_eq_true rfl) dX14_thrown_4
set_option maxHeartbeats 4000000 in
set_option maxRecDepth 100000 in
theorem kX2_at_1 (l : Launch) (hst : l.stackTraces = false) (D : va_G) (yc : Nat → ClassId) (e0 sz : Nat) (a0 : Nat) (p0 : Int32) (a1 : Nat)  : Met l yX2_at (ws_ yX2_at cX2_at 2 (some (.object "WeirStream$Stage"))) ({ frames := 1, cells := 0, slots := 0, locals := 20 }) (PR D yc e0 [(a0, .inr (2, [.int 0, .ref a1, .int 8, .int (-1), .int 0, .int 0, .int 0, .int 0])), (a1, .inr (0, [.int 0, .ref e0, .int 0]))] sz [.ref a0, .int p0]) (va_Qq (fun r u => r = (fun u : Nat → Nat → Nat => none) u) (WD D (va_A [(a0, .inr (2, [.int 0, .ref a1, .int 8, .int (-1), .int 0, .int 0, .int 0, .int 0])), (a1, .inr (0, [.int 0, .ref e0, .int 0]))] sz) (fun u => [(a0, .inr (2, [.int 0, .ref a1, .int 8, .int (-1), .int 0, .int 0, .int 0, .int 0])), (a1, .inr (0, [.int 0, .ref e0, .int 0]))])) (va_A [(a0, .inr (2, [.int 0, .ref a1, .int 8, .int (-1), .int 0, .int 0, .int 0, .int 0])), (a1, .inr (0, [.int 0, .ref e0, .int 0]))] sz)) 0 0 (va_A [(a0, .inr (2, [.int 0, .ref a1, .int 8, .int (-1), .int 0, .int 0, .int 0, .int 0])), (a1, .inr (0, [.int 0, .ref e0, .int 0]))] sz) := by
  refine zk_M (Qc := fun A => va_Qq (fun r u => r = (fun u : Nat → Nat → Nat => none) u) (WD D A (fun u => [(a0, .inr (2, [.int 0, .ref a1, .int 8, .int (-1), .int 0, .int 0, .int 0, .int 0])), (a1, .inr (0, [.int 0, .ref e0, .int 0]))])) A) (by decide) (Nat.le_of_ble_eq_true rfl) ?_
  intro p e s m args below meth c A ls hx hb hml hr hlk hown hnm hts hP hD hS hA hC hl
  have hK := hC.1
  have hN := hC.2.1
  have hl : lv_has ls 2 [(0, .ref a0), (1, .int p0)] := hl
  generalize hHH : s.heap = H at hP ⊢
  have hS : va_S A s.heap H [] := by rw [← hHH]; exact hS
  refine lv_iload_n hx hb dX2_at_0 rfl (lv_at hl 1 rfl) ?_
  refine lv_if_lt (tgt := 29) hx hb dX2_at_1 (by decide) (fun hb1 => ?_) (fun hb1 => ?_)
  · refine lv_null hx hb dX2_at_29 ?_
    exact zk_rq (r0 := fun u => none) (w1 := fun u => [(a0, .inr (2, [.int 0, .ref a1, .int 8, .int (-1), .int 0, .int 0, .int 0, .int 0])), (a1, .inr (0, [.int 0, .ref e0, .int 0]))]) hx hb hr (by first | exact Or.inl ⟨_, rfl⟩ | exact Or.inr ⟨_, rfl⟩) hlk hP hD hS (fun _ _ => 0) rfl [0, 1] rfl rfl (Nat.le_of_ble_eq_true rfl) (Nat.le_of_ble_eq_true rfl) dX2_at_30
  · refine lv_iload_n hx hb dX2_at_4 rfl (lv_at hl 1 rfl) ?_
    refine lv_aload_n hx hb dX2_at_5 rfl (lv_at hl 0 rfl) ?_
    refine va_get (D := D) (ci := 2) (v := .ref a1) (C := RX2) (T := TX2) (N := 8) hx hb hts iX2 hown hK hP 0 rfl rfl 1 (by decide) (hts _ wq72) (fun _ h9 => h9) rfl dX2_at_6 ?_
    refine zk_i (wr := [(a0, .inr (2, [.int 0, .ref a1, .int 8, .int (-1), .int 0, .int 0, .int 0, .int 0]))]) (va_runV (As := []) (rest := [.int p0]) ⟨hx, hb, hml, hown, hts⟩ (kJx4a65c_size_8abf5_0 l hst D yc e0 H.size a1) (cwV 0 hts (lw_V wq123 wq124 wq125 wq5 wq126) rfl rfl rfl (by decide +kernel) ⟨(Nat.le_of_ble_eq_true rfl), (Nat.le_of_ble_eq_true rfl)⟩) (zk_pV hC hP hD hS hA [1] rfl rfl 1 0 rfl rfl) rfl rfl hl.1 rfl (lv_room (Nat.le_of_ble_eq_true rfl)) dX2_at_9 ⟨(Nat.le_of_ble_eq_true rfl), (Nat.le_of_ble_eq_true rfl)⟩) hP hD hS hA [1] [0] rfl rfl rfl (by decide) (fun u2 H locs hP hD hS => ?_)
    have hP : va_P D vwCl [(a0, .inr (2, [.int 0, .ref a1, .int 8, .int (-1), .int 0, .int 0, .int 0, .int 0])), (a1, .inr (0, [.int 0, .ref e0, .int 0]))] H := hP
    have hD : va_D A [(a0, .inr (2, [.int 0, .ref a1, .int 8, .int (-1), .int 0, .int 0, .int 0, .int 0])), (a1, .inr (0, [.int 0, .ref e0, .int 0]))] := hD
    refine W.widen (k := 0) (n := 0) (Nat.le_of_ble_eq_true rfl) (Nat.le_of_ble_eq_true rfl) ?_
    refine lv_icmp_ge (tgt := 29) hx hb dX2_at_12 (by decide) (fun _ => ?_) (fun h9 => absurd (zk_ge hb1) h9)
    refine lv_null hx hb dX2_at_29 ?_
    exact zk_rq (r0 := fun u => none) (w1 := fun u => [(a0, .inr (2, [.int 0, .ref a1, .int 8, .int (-1), .int 0, .int 0, .int 0, .int 0])), (a1, .inr (0, [.int 0, .ref e0, .int 0]))]) hx hb hr (by first | exact Or.inl ⟨_, rfl⟩ | exact Or.inr ⟨_, rfl⟩) hlk hP hD hS (fun _ _ => 0) rfl [0, 1] rfl rfl (Nat.le_of_ble_eq_true rfl) (Nat.le_of_ble_eq_true rfl) dX2_at_30
set_option maxHeartbeats 4000000 in
set_option maxRecDepth 100000 in
theorem kX10_stageOf_0 (l : Launch) (hst : l.stackTraces = false) (D : va_G) (yc : Nat → ClassId) (e0 sz : Nat) (a0 : Nat) (p0 : Int32) (a1 : Nat) (a2 : Nat) (a3 : Nat)  : vx_Met l yX10_stageOf (ws_ yX10_stageOf cX10_stageOf 3 (some (.object "WeirStream$Stage"))) ({ frames := 6, cells := 1, slots := 6, locals := 81 }) (PR D yc e0 [(a0, .inr (9, [.ref a1, .ref a2, .int 0, .int 0, .int 0])), (a1, .inr (2, [.int 0, .ref a3, .int 8, .int (-1), .int 0, .int 0, .int 0, .int 0])), (a3, .inr (0, [.int 0, .ref e0, .int 0]))] sz [.ref a0, .int p0]) (fun _ _ _ _ => False) (zk_X D (va_A [(a0, .inr (9, [.ref a1, .ref a2, .int 0, .int 0, .int 0])), (a1, .inr (2, [.int 0, .ref a3, .int 8, .int (-1), .int 0, .int 0, .int 0, .int 0])), (a3, .inr (0, [.int 0, .ref e0, .int 0]))] sz) "java/lang/IndexOutOfBoundsException" (fun u => [(a0, .inr (9, [.ref a1, .ref a2, .int 0, .int 0, .int 0])), (a1, .inr (2, [.int 0, .ref a3, .int 8, .int (-1), .int 0, .int 0, .int 0, .int 0])), (a3, .inr (0, [.int 0, .ref e0, .int 0]))])) 1 6 (va_A [(a0, .inr (9, [.ref a1, .ref a2, .int 0, .int 0, .int 0])), (a1, .inr (2, [.int 0, .ref a3, .int 8, .int (-1), .int 0, .int 0, .int 0, .int 0])), (a3, .inr (0, [.int 0, .ref e0, .int 0]))] sz) := by
  refine zk_MX (by decide) (Nat.le_of_ble_eq_true rfl) ?_
  intro p e s m args below meth c A ls hx hb hml hr hlk hown hnm hts hP hD hS hA hC hl hnx
  have hK := hC.1
  have hN := hC.2.1
  have hl : lv_has ls 3 [(0, .ref a0), (1, .int p0)] := hl
  generalize hHH : s.heap = H at hP ⊢
  have hS : va_S A s.heap H [] := by rw [← hHH]; exact hS
  refine W.widen (k := 0) (n := 0) (Nat.le_of_ble_eq_true rfl) (Nat.le_of_ble_eq_true rfl) ?_
  refine lv_aload_n hx hb dX10_stageOf_0 rfl (lv_at hl 0 rfl) ?_
  refine va_get (D := D) (ci := 9) (v := .ref a1) (C := RX10) (T := TX10) (N := 5) hx hb hts iX10 hown hK hP 0 rfl rfl 0 (by decide) (hts _ wq99) (fun _ h9 => h9) rfl dX10_stageOf_1 ?_
  refine lv_iload_n hx hb dX10_stageOf_4 rfl (lv_at hl 1 rfl) ?_
  refine zk_q (wr := [(a0, .inr (9, [.ref a1, .ref a2, .int 0, .int 0, .int 0]))]) (va_runV (As := [.int p0]) (rest := []) ⟨hx, hb, hml, hown, hts⟩ (kX2_at_1 l hst D yc e0 H.size a1 p0 a3) (cwV 1 hts (lw_V wq258 wq187 wq188 wq2 wq189) rfl rfl rfl (by decide +kernel) ⟨(Nat.le_of_ble_eq_true rfl), (Nat.le_of_ble_eq_true rfl)⟩) (zk_pV hC hP hD hS hA [1, 2] rfl rfl 1 2 rfl rfl) rfl rfl hl.1 rfl (lv_room (Nat.le_of_ble_eq_true rfl)) dX10_stageOf_5 ⟨(Nat.le_of_ble_eq_true rfl), (Nat.le_of_ble_eq_true rfl)⟩) hP hD hS hA [1, 2] [0] rfl rfl rfl (by decide) (fun u1 H locs hP hD hS => ?_)
  have hP : va_P D vwCl [(a0, .inr (9, [.ref a1, .ref a2, .int 0, .int 0, .int 0])), (a1, .inr (2, [.int 0, .ref a3, .int 8, .int (-1), .int 0, .int 0, .int 0, .int 0])), (a3, .inr (0, [.int 0, .ref e0, .int 0]))] H := hP
  have hD : va_D A [(a0, .inr (9, [.ref a1, .ref a2, .int 0, .int 0, .int 0])), (a1, .inr (2, [.int 0, .ref a3, .int 8, .int (-1), .int 0, .int 0, .int 0, .int 0])), (a3, .inr (0, [.int 0, .ref e0, .int 0]))] := hD
  refine W.widen (k := 0) (n := 0) (Nat.le_of_ble_eq_true rfl) (Nat.le_of_ble_eq_true rfl) ?_
  refine zk_tv (y := .null) rfl ?_
  refine lv_astore_nN (lv' := [(2, .null), (0, .ref a0), (1, .int p0)]) hx hb dX10_stageOf_8 rfl hl (by decide) rfl (fun ls hl => ?_)
  refine lv_aload_nN hx hb dX10_stageOf_9 rfl (lv_at hl 0 rfl) ?_
  refine lv_ifnonnullN hx hb dX10_stageOf_10 ?_
  exact vx_throw0 (own := RX10) (cls := "java/lang/IndexOutOfBoundsException") (names := ["java/lang/RuntimeException", "java/lang/Exception"]) (ik := 357) (ic := 359) (A := A) hx hb hst hown (by decide +kernel) (by decide +kernel) (hts _ wq259) (hts _ wq28) (zk_hat hts hN at0_X10_357) at0_X10_357_g hC.2.2.2.1 hC.2.2.2.2.1 hS (by rw [hml]; exact hl.1) dX10_stageOf_13 dX10_stageOf_16 dX10_stageOf_17 dX10_stageOf_20 (fun x9 hx9 => (hnx x9 hx9).elim) (Nat.le_of_ble_eq_true rfl) (Nat.le_of_ble_eq_true rfl) (Nat.le_of_ble_eq_true rfl) (Nat.le_of_ble_eq_true rfl) hlk (zk_thr hP hD hS (fun _ _ => 0) [0, 1, 2] rfl rfl) hS.2.2 (Nat.le_of_ble_eq_true rfl) (Nat.le_of_ble_eq_true rfl)
set_option maxHeartbeats 4000000 in
set_option maxRecDepth 100000 in
theorem kX10_addFilter_0 (l : Launch) (hst : l.stackTraces = false) (D : va_G) (yc : Nat → ClassId) (e0 sz : Nat) (a0 : Nat) (p0 : Int32) (p1 : Int32) (p2 : Int32) (a1 : Nat) (a2 : Nat) (a3 : Nat)  : vx_Met l yX10_addFilter (ws_ yX10_addFilter cX10_addFilter 6 (some .int)) ({ frames := 7, cells := 1, slots := 6, locals := 103 }) (PR D yc e0 [(a0, .inr (9, [.ref a1, .ref a2, .int 0, .int 0, .int 0])), (a1, .inr (2, [.int 0, .ref a3, .int 8, .int (-1), .int 0, .int 0, .int 0, .int 0])), (a3, .inr (0, [.int 0, .ref e0, .int 0]))] sz [.ref a0, .int p0, .int p1, .int p2]) (fun _ _ _ _ => False) (zk_X D (va_A [(a0, .inr (9, [.ref a1, .ref a2, .int 0, .int 0, .int 0])), (a1, .inr (2, [.int 0, .ref a3, .int 8, .int (-1), .int 0, .int 0, .int 0, .int 0])), (a3, .inr (0, [.int 0, .ref e0, .int 0]))] sz) "java/lang/IndexOutOfBoundsException" (fun u => [(a0, .inr (9, [.ref a1, .ref a2, .int 0, .int 0, .int 0])), (a1, .inr (2, [.int 0, .ref a3, .int 8, .int (-1), .int 0, .int 0, .int 0, .int 0])), (a3, .inr (0, [.int 0, .ref e0, .int 0]))])) 1 6 (va_A [(a0, .inr (9, [.ref a1, .ref a2, .int 0, .int 0, .int 0])), (a1, .inr (2, [.int 0, .ref a3, .int 8, .int (-1), .int 0, .int 0, .int 0, .int 0])), (a3, .inr (0, [.int 0, .ref e0, .int 0]))] sz) := by
  refine zk_MX (by decide) (Nat.le_of_ble_eq_true rfl) ?_
  intro p e s m args below meth c A ls hx hb hml hr hlk hown hnm hts hP hD hS hA hC hl hnx
  have hK := hC.1
  have hN := hC.2.1
  have hl : lv_has ls 6 [(0, .ref a0), (1, .int p0), (2, .int p1), (3, .int p2)] := hl
  generalize hHH : s.heap = H at hP ⊢
  have hS : va_S A s.heap H [] := by rw [← hHH]; exact hS
  refine W.widen (k := 0) (n := 0) (Nat.le_of_ble_eq_true rfl) (Nat.le_of_ble_eq_true rfl) ?_
  refine lv_aload_n hx hb dX10_addFilter_0 rfl (lv_at hl 0 rfl) ?_
  refine lv_iload_n hx hb dX10_addFilter_1 rfl (lv_at hl 1 rfl) ?_
  refine zk_x (wr := []) (vx_runV (As := [.int p0]) (rest := []) ⟨hx, hb, hml, hown, hts⟩ (kX10_stageOf_0 l hst D yc e0 H.size a0 p0 a1 a2 a3) (cwV 1 hts (lw_V wq254 wq256 ws2 wq1 wq257) rfl rfl rfl (by decide +kernel) ⟨(Nat.le_of_ble_eq_true rfl), (Nat.le_of_ble_eq_true rfl)⟩) (zk_pV hC hP hD hS hA [0, 1, 2] rfl rfl 0 9 rfl rfl) rfl rfl hl.1 rfl (lv_room (Nat.le_of_ble_eq_true rfl)) dX10_addFilter_2 ⟨(Nat.le_of_ble_eq_true rfl), (Nat.le_of_ble_eq_true rfl)⟩) hP hD hS hA [0, 1, 2] [] rfl rfl rfl (by decide) (fun u1 ce q9 H locs hP hD hS hce hcv hcl => ?_)
  have hP : va_P D vwCl [(a0, .inr (9, [.ref a1, .ref a2, .int 0, .int 0, .int 0])), (a1, .inr (2, [.int 0, .ref a3, .int 8, .int (-1), .int 0, .int 0, .int 0, .int 0])), (a3, .inr (0, [.int 0, .ref e0, .int 0]))] H := hP
  have hD : va_D A [(a0, .inr (9, [.ref a1, .ref a2, .int 0, .int 0, .int 0])), (a1, .inr (2, [.int 0, .ref a3, .int 8, .int (-1), .int 0, .int 0, .int 0, .int 0])), (a3, .inr (0, [.int 0, .ref e0, .int 0]))] := hD
  exact vx_out (fun x9 hx9 => (hnx x9 hx9).elim) hlk hce hcv hcl (zk_out hP hD hS (fun _ _ => 0) [0, 1, 2] rfl rfl) hS.2.2 (Nat.le_of_ble_eq_true rfl) (Nat.le_of_ble_eq_true rfl)
set_option maxHeartbeats 4000000 in
set_option maxRecDepth 100000 in
theorem kL_addFilter_0 (l : Launch) (hst : l.stackTraces = false) (D : va_G) (yc : Nat → ClassId) (e0 sz : Nat) (a0 : Nat) (p0 : Int32) (p1 : Int32) (p2 : Int32) (a1 : Nat) (a2 : Nat) (a3 : Nat) (a4 : Nat)  : Met l yL_addFilter (ww_ yL_addFilter cL_addFilter 6 (some .int) [(0, 12, 15, 21), (0, 12, 19, 13), (0, 12, 23, 15)]) ({ frames := 8, cells := 1, slots := 6, locals := 128 }) (PR D yc e0 [(a0, .inr (9, [.ref a2, .ref a3, .int 0, .int 0, .int 0])), (a2, .inr (2, [.int 0, .ref a4, .int 8, .int (-1), .int 0, .int 0, .int 0, .int 0])), (a4, .inr (0, [.int 0, .ref e0, .int 0]))] sz [.ref a0, .int p0, .int p1, .int p2, .ref a1]) (va_Qi (fun r u => r = (fun u : Nat → Nat → Nat => 1) u) (WD D (va_A [(a0, .inr (9, [.ref a2, .ref a3, .int 0, .int 0, .int 0])), (a2, .inr (2, [.int 0, .ref a4, .int 8, .int (-1), .int 0, .int 0, .int 0, .int 0])), (a4, .inr (0, [.int 0, .ref e0, .int 0]))] sz) (fun u => [(a0, .inr (9, [.ref a2, .ref a3, .int 0, .int 0, .int 0])), (a2, .inr (2, [.int 0, .ref a4, .int 8, .int (-1), .int 0, .int 0, .int 0, .int 0])), (a4, .inr (0, [.int 0, .ref e0, .int 0]))])) (va_A [(a0, .inr (9, [.ref a2, .ref a3, .int 0, .int 0, .int 0])), (a2, .inr (2, [.int 0, .ref a4, .int 8, .int (-1), .int 0, .int 0, .int 0, .int 0])), (a4, .inr (0, [.int 0, .ref e0, .int 0]))] sz)) 1 6 (va_A [(a0, .inr (9, [.ref a2, .ref a3, .int 0, .int 0, .int 0])), (a2, .inr (2, [.int 0, .ref a4, .int 8, .int (-1), .int 0, .int 0, .int 0, .int 0])), (a4, .inr (0, [.int 0, .ref e0, .int 0]))] sz) := by
  refine zk_MW (Qc := fun A => va_Qi (fun r u => r = (fun u : Nat → Nat → Nat => 1) u) (WD D A (fun u => [(a0, .inr (9, [.ref a2, .ref a3, .int 0, .int 0, .int 0])), (a2, .inr (2, [.int 0, .ref a4, .int 8, .int (-1), .int 0, .int 0, .int 0, .int 0])), (a4, .inr (0, [.int 0, .ref e0, .int 0]))])) A) (by decide) (Nat.le_of_ble_eq_true rfl) ?_
  intro p e s m args below meth c A ls hx hb hml hr hlk hown hts hP hD hS hA hC hl hex
  have hK := hC.1
  have hN := hC.2.1
  have hl : lv_has ls 6 [(0, .ref a0), (1, .int p0), (2, .int p1), (3, .int p2), (4, .ref a1)] := hl
  generalize hHH : s.heap = H at hP ⊢
  have hS : va_S A s.heap H [] := by rw [← hHH]; exact hS
  refine lv_aload hx hb dL_addFilter_0 (lv_at hl 4 rfl) ?_
  refine lv_iconst (v := 0) hx hb dL_addFilter_2 (by decide) ?_
  refine lv_aload_n hx hb dL_addFilter_3 rfl (lv_at hl 0 rfl) ?_
  refine lv_iload_n hx hb dL_addFilter_4 rfl (lv_at hl 1 rfl) ?_
  refine lv_iload_n hx hb dL_addFilter_5 rfl (lv_at hl 2 rfl) ?_
  refine lv_iload_n hx hb dL_addFilter_6 rfl (lv_at hl 3 rfl) ?_
  refine zk_x (wr := []) (vx_runV (As := [.int p0, .int p1, .int p2]) (rest := [.int 0, .ref a1]) ⟨hx, hb, hml, hown, hts⟩ (kX10_addFilter_0 l hst D yc e0 H.size a0 p0 p1 p2 a2 a3 a4) (cwV 3 hts (lw_V wq834 wq835 wq836 wq1 wq837) rfl rfl rfl (by decide +kernel) ⟨(Nat.le_of_ble_eq_true rfl), (Nat.le_of_ble_eq_true rfl)⟩) (zk_pV hC hP hD hS hA [0, 1, 2] rfl rfl 0 9 rfl rfl) rfl rfl hl.1 rfl (lv_room (Nat.le_of_ble_eq_true rfl)) dL_addFilter_7 ⟨(Nat.le_of_ble_eq_true rfl), (Nat.le_of_ble_eq_true rfl)⟩) hP hD hS hA [0, 1, 2] [] rfl rfl rfl (by decide) (fun u1 ce q9 H locs hP hD hS hce hcv hcl => ?_)
  have hP : va_P D vwCl [(a0, .inr (9, [.ref a2, .ref a3, .int 0, .int 0, .int 0])), (a2, .inr (2, [.int 0, .ref a4, .int 8, .int (-1), .int 0, .int 0, .int 0, .int 0])), (a4, .inr (0, [.int 0, .ref e0, .int 0]))] H := hP
  have hD : va_D A [(a0, .inr (9, [.ref a2, .ref a3, .int 0, .int 0, .int 0])), (a2, .inr (2, [.int 0, .ref a4, .int 8, .int (-1), .int 0, .int 0, .int 0, .int 0])), (a4, .inr (0, [.int 0, .ref e0, .int 0]))] := hD
  refine vx_catch (own := RL) (name := "java/lang/IndexOutOfBoundsException") hown (tableOf []) ⟨0, 12, 15, 21⟩ (tableOf [(0, 12, 19, 13), (0, 12, 23, 15)]) hex (fun z hz => False.elim (List.not_mem_nil hz)) (by decide) (by decide) (hts _ wq833) (zk_tab rfl (hN _ wr261 rfl)) hce hcv hcl ?_
  refine W.widen (k := 1) (n := 6) (Nat.le_of_ble_eq_true rfl) (Nat.le_of_ble_eq_true rfl) ?_
  refine lv_astore (lv' := [(5, .ref q9), (0, .ref a0), (1, .int p0), (2, .int p1), (3, .int p2), (4, .ref a1)]) hx hb dL_addFilter_15 hl (by decide) rfl (fun ls hl => ?_)
  refine lv_iconst (v := 1) hx hb dL_addFilter_17 (by decide) ?_
  exact zk_ri (r0 := fun u => 1) (w1 := fun u => [(a0, .inr (9, [.ref a2, .ref a3, .int 0, .int 0, .int 0])), (a2, .inr (2, [.int 0, .ref a4, .int 8, .int (-1), .int 0, .int 0, .int 0, .int 0])), (a4, .inr (0, [.int 0, .ref e0, .int 0]))]) hx hb hr hlk hP hD hS (fun _ _ => 0) rfl rfl [0, 1, 2] rfl rfl (Nat.le_of_ble_eq_true rfl) (Nat.le_of_ble_eq_true rfl) dL_addFilter_18
set_option maxHeartbeats 4000000 in
set_option maxRecDepth 100000 in
theorem kX14_is_3 (l : Launch) (hst : l.stackTraces = false) (D : va_G) (yc : Nat → ClassId) (e0 sz : Nat) (p0 : Int32)  : Met l yX14_is (ws_ yX14_is cX14_is 3 (some .boolean)) ({ frames := 0, cells := 0, slots := 0, locals := 0 }) (PR D yc e0 [] sz [.int p0, .int 0, .int (-1)]) (va_Qi (fun r u => r = (fun u : Nat → Nat → Nat => 0) u) (WD D (va_A [] sz) (fun u => [])) (va_A [] sz)) 0 0 (va_A [] sz) := by
  refine zk_M (Qc := fun A => va_Qi (fun r u => r = (fun u : Nat → Nat → Nat => 0) u) (WD D A (fun u => [])) A) (by decide) (Nat.le_of_ble_eq_true rfl) ?_
  intro p e s m args below meth c A ls hx hb hml hr hlk hown hnm hts hP hD hS hA hC hl
  have hK := hC.1
  have hN := hC.2.1
  have hl : lv_has ls 3 [(0, .int p0), (1, .int 0), (2, .int (-1))] := hl
  generalize hHH : s.heap = H at hP ⊢
  have hS : va_S A s.heap H [] := by rw [← hHH]; exact hS
  refine lv_iload_n hx hb dX14_is_0 rfl (lv_at hl 0 rfl) ?_
  refine lv_iload_n hx hb dX14_is_1 rfl (lv_at hl 1 rfl) ?_
  refine lv_icmp_lt (tgt := 14) hx hb dX14_is_2 (by decide) (fun hb1 => ?_) (fun hb1 => ?_)
  · refine lv_iconst (v := 0) hx hb dX14_is_14 (by decide) ?_
    exact zk_ri (r0 := fun u => 0) (w1 := fun u => []) hx hb hr hlk hP hD hS (fun _ _ => 0) rfl rfl [] rfl rfl (Nat.le_of_ble_eq_true rfl) (Nat.le_of_ble_eq_true rfl) dX14_is_15
  · refine lv_iload_n hx hb dX14_is_5 rfl (lv_at hl 0 rfl) ?_
    refine lv_iload_n hx hb dX14_is_6 rfl (lv_at hl 2 rfl) ?_
    refine lv_icmp_gt (tgt := 14) hx hb dX14_is_7 (by decide) (fun _ => ?_) (fun h9 => absurd (zk_m1 hb1) h9)
    refine lv_iconst (v := 0) hx hb dX14_is_14 (by decide) ?_
    exact zk_ri (r0 := fun u => 0) (w1 := fun u => []) hx hb hr hlk hP hD hS (fun _ _ => 0) rfl rfl [] rfl rfl (Nat.le_of_ble_eq_true rfl) (Nat.le_of_ble_eq_true rfl) dX14_is_15
set_option maxHeartbeats 4000000 in
set_option maxRecDepth 100000 in
theorem kX14_isStage_0 (l : Launch) (hst : l.stackTraces = false) (D : va_G) (yc : Nat → ClassId) (e0 sz : Nat) (a0 : Nat) (p0 : Int32) (a1 : Nat) (a2 : Nat) (a3 : Nat) (a4 : Nat) (a5 : Nat) (a6 : Nat) (a7 : Nat)  : Met l yX14_isStage (ws_ yX14_isStage cX14_isStage 2 (some .boolean)) ({ frames := 1, cells := 0, slots := 0, locals := 22 }) (PR D yc e0 [(a0, .inr (13, [.int 0, .int 0, .ref a1, .ref a2, .ref a3, .ref a4, .ref a5, .ref a6, .ref a7, .int 0, .long 0]))] sz [.ref a0, .int p0]) (va_Qi (fun r u => r = (fun u : Nat → Nat → Nat => 0) u) (WD D (va_A [(a0, .inr (13, [.int 0, .int 0, .ref a1, .ref a2, .ref a3, .ref a4, .ref a5, .ref a6, .ref a7, .int 0, .long 0]))] sz) (fun u => [(a0, .inr (13, [.int 0, .int 0, .ref a1, .ref a2, .ref a3, .ref a4, .ref a5, .ref a6, .ref a7, .int 0, .long 0]))])) (va_A [(a0, .inr (13, [.int 0, .int 0, .ref a1, .ref a2, .ref a3, .ref a4, .ref a5, .ref a6, .ref a7, .int 0, .long 0]))] sz)) 0 0 (va_A [(a0, .inr (13, [.int 0, .int 0, .ref a1, .ref a2, .ref a3, .ref a4, .ref a5, .ref a6, .ref a7, .int 0, .long 0]))] sz) := by
  refine zk_M (Qc := fun A => va_Qi (fun r u => r = (fun u : Nat → Nat → Nat => 0) u) (WD D A (fun u => [(a0, .inr (13, [.int 0, .int 0, .ref a1, .ref a2, .ref a3, .ref a4, .ref a5, .ref a6, .ref a7, .int 0, .long 0]))])) A) (by decide) (Nat.le_of_ble_eq_true rfl) ?_
  intro p e s m args below meth c A ls hx hb hml hr hlk hown hnm hts hP hD hS hA hC hl
  have hK := hC.1
  have hN := hC.2.1
  have hl : lv_has ls 2 [(0, .ref a0), (1, .int p0)] := hl
  generalize hHH : s.heap = H at hP ⊢
  have hS : va_S A s.heap H [] := by rw [← hHH]; exact hS
  refine lv_iload_n hx hb dX14_isStage_0 rfl (lv_at hl 1 rfl) ?_
  refine lv_iconst (v := 0) hx hb dX14_isStage_1 (by decide) ?_
  refine lv_aload_n hx hb dX14_isStage_2 rfl (lv_at hl 0 rfl) ?_
  refine va_get (D := D) (ci := 13) (v := .int 0) (C := RX14) (T := TX14) (N := 11) hx hb hts iX14 hown hK hP 0 rfl rfl 0 (by decide) (hts _ wq1528) (fun _ h9 => h9) rfl dX14_isStage_3 ?_
  refine lv_iconst (v := 1) hx hb dX14_isStage_6 (by decide) ?_
  refine lv_isub hx hb dX14_isStage_7 ?_
  refine zk_ti (y := (-1)) (by decide) ?_
  refine zk_i (wr := [(a0, .inr (13, [.int 0, .int 0, .ref a1, .ref a2, .ref a3, .ref a4, .ref a5, .ref a6, .ref a7, .int 0, .long 0]))]) (va_runS (As := [.int p0, .int 0, .int (-1)]) (rest := []) ⟨hx, hb, hml, hown, hts⟩ (kX14_is_3 l hst D yc e0 H.size p0) (va_cwS 3 hts (lw_S wq1575 wq1576 wq6 wq1577) rfl rfl rfl (by decide +kernel) ⟨(Nat.le_of_ble_eq_true rfl), (Nat.le_of_ble_eq_true rfl)⟩) (zk_pS hC hP hD hS hA [] rfl rfl) rfl rfl hl.1 rfl (lv_room (Nat.le_of_ble_eq_true rfl)) dX14_isStage_8 ⟨(Nat.le_of_ble_eq_true rfl), (Nat.le_of_ble_eq_true rfl)⟩) hP hD hS hA [] [0] rfl rfl rfl (by decide) (fun u1 H locs hP hD hS => ?_)
  have hP : va_P D vwCl [(a0, .inr (13, [.int 0, .int 0, .ref a1, .ref a2, .ref a3, .ref a4, .ref a5, .ref a6, .ref a7, .int 0, .long 0]))] H := hP
  have hD : va_D A [(a0, .inr (13, [.int 0, .int 0, .ref a1, .ref a2, .ref a3, .ref a4, .ref a5, .ref a6, .ref a7, .int 0, .long 0]))] := hD
  refine W.widen (k := 0) (n := 0) (Nat.le_of_ble_eq_true rfl) (Nat.le_of_ble_eq_true rfl) ?_
  exact zk_ri (r0 := fun u => 0) (w1 := fun u => [(a0, .inr (13, [.int 0, .int 0, .ref a1, .ref a2, .ref a3, .ref a4, .ref a5, .ref a6, .ref a7, .int 0, .long 0]))]) hx hb hr hlk hP hD hS (fun _ _ => 0) rfl rfl [0] rfl rfl (Nat.le_of_ble_eq_true rfl) (Nat.le_of_ble_eq_true rfl) dX14_isStage_11
set_option maxHeartbeats 4000000 in
set_option maxRecDepth 100000 in
theorem kX14_canBegin_0 (l : Launch) (hst : l.stackTraces = false) (D : va_G) (yc : Nat → ClassId) (e0 sz : Nat) (a0 : Nat) (p0 : Int32) (a1 : Nat) (a2 : Nat) (a3 : Nat) (a4 : Nat) (a5 : Nat) (a6 : Nat) (a7 : Nat)  : Met l yX14_canBegin (ws_ yX14_canBegin cX14_canBegin 3 (some .boolean)) ({ frames := 2, cells := 0, slots := 0, locals := 43 }) (PR D yc e0 [(a0, .inr (13, [.int 0, .int 0, .ref a1, .ref a2, .ref a3, .ref a4, .ref a5, .ref a6, .ref a7, .int 0, .long 0]))] sz [.ref a0, .int p0, .int p0]) (va_Qi (fun r u => r = (fun u : Nat → Nat → Nat => 0) u) (WD D (va_A [(a0, .inr (13, [.int 0, .int 0, .ref a1, .ref a2, .ref a3, .ref a4, .ref a5, .ref a6, .ref a7, .int 0, .long 0]))] sz) (fun u => [(a0, .inr (13, [.int 0, .int 0, .ref a1, .ref a2, .ref a3, .ref a4, .ref a5, .ref a6, .ref a7, .int 1, .long 0]))])) (va_A [(a0, .inr (13, [.int 0, .int 0, .ref a1, .ref a2, .ref a3, .ref a4, .ref a5, .ref a6, .ref a7, .int 0, .long 0]))] sz)) 0 0 (va_A [(a0, .inr (13, [.int 0, .int 0, .ref a1, .ref a2, .ref a3, .ref a4, .ref a5, .ref a6, .ref a7, .int 0, .long 0]))] sz) := by
  refine zk_M (Qc := fun A => va_Qi (fun r u => r = (fun u : Nat → Nat → Nat => 0) u) (WD D A (fun u => [(a0, .inr (13, [.int 0, .int 0, .ref a1, .ref a2, .ref a3, .ref a4, .ref a5, .ref a6, .ref a7, .int 1, .long 0]))])) A) (by decide) (Nat.le_of_ble_eq_true rfl) ?_
  intro p e s m args below meth c A ls hx hb hml hr hlk hown hnm hts hP hD hS hA hC hl
  have hK := hC.1
  have hN := hC.2.1
  have hl : lv_has ls 3 [(0, .ref a0), (1, .int p0), (2, .int p0)] := hl
  generalize hHH : s.heap = H at hP ⊢
  have hS : va_S A s.heap H [] := by rw [← hHH]; exact hS
  refine lv_aload_n hx hb dX14_canBegin_0 rfl (lv_at hl 0 rfl) ?_
  refine lv_aload_n hx hb dX14_canBegin_1 rfl (lv_at hl 0 rfl) ?_
  refine lv_iload_n hx hb dX14_canBegin_2 rfl (lv_at hl 1 rfl) ?_
  refine zk_i (wr := []) (va_runV (As := [.int p0]) (rest := [.ref a0]) ⟨hx, hb, hml, hown, hts⟩ (kX14_isStage_0 l hst D yc e0 H.size a0 p0 a1 a2 a3 a4 a5 a6 a7) (cwV 1 hts (lw_V wq1596 wq1598 ws35 wq6 wq1599) rfl rfl rfl (by decide +kernel) ⟨(Nat.le_of_ble_eq_true rfl), (Nat.le_of_ble_eq_true rfl)⟩) (zk_pV hC hP hD hS hA [0] rfl rfl 0 13 rfl rfl) rfl rfl hl.1 rfl (lv_room (Nat.le_of_ble_eq_true rfl)) dX14_canBegin_3 ⟨(Nat.le_of_ble_eq_true rfl), (Nat.le_of_ble_eq_true rfl)⟩) hP hD hS hA [0] [] rfl rfl rfl (by decide) (fun u1 H locs hP hD hS => ?_)
  have hP : va_P D vwCl [(a0, .inr (13, [.int 0, .int 0, .ref a1, .ref a2, .ref a3, .ref a4, .ref a5, .ref a6, .ref a7, .int 0, .long 0]))] H := hP
  have hD : va_D A [(a0, .inr (13, [.int 0, .int 0, .ref a1, .ref a2, .ref a3, .ref a4, .ref a5, .ref a6, .ref a7, .int 0, .long 0]))] := hD
  refine W.widen (k := 0) (n := 0) (Nat.le_of_ble_eq_true rfl) (Nat.le_of_ble_eq_true rfl) ?_
  refine lv_if_eq (tgt := 17) hx hb dX14_canBegin_6 (by decide) (fun _ => ?_) (fun h9 => absurd (by decide) h9)
  refine lv_iconst (v := 1) hx hb dX14_canBegin_17 (by decide) ?_
  refine lv_goto (tgt := 42) hx hb dX14_canBegin_18 (by decide) ?_
  refine va_put (D := D) (ci := 13) (v := .int 1) (ty := .int) (C := RX14) (T := TX14) (N := 11) hx hb hts iX14 tyX14 tyX14_ok nmX14 hown hK hP hD hS 0 rfl rfl 9 (by decide) (hts _ wq1542) (fun _ h9 => h9) rfl (by decide +kernel) rfl rfl (Nat.le_of_ble_eq_true rfl) dX14_canBegin_42 (fun H locs hP hD hS => ?_)
  have hP : va_P D vwCl [(a0, .inr (13, [.int 0, .int 0, .ref a1, .ref a2, .ref a3, .ref a4, .ref a5, .ref a6, .ref a7, .int 1, .long 0]))] H := hP
  have hD : va_D A [(a0, .inr (13, [.int 0, .int 0, .ref a1, .ref a2, .ref a3, .ref a4, .ref a5, .ref a6, .ref a7, .int 1, .long 0]))] := hD
  refine lv_aload_n hx hb dX14_canBegin_45 rfl (lv_at hl 0 rfl) ?_
  refine va_get (D := D) (ci := 13) (v := .int 1) (C := RX14) (T := TX14) (N := 11) hx hb hts iX14 hown hK hP 0 rfl rfl 9 (by decide) (hts _ wq1542) (fun _ h9 => h9) rfl dX14_canBegin_46 ?_
  refine lv_if_ne (tgt := 56) hx hb dX14_canBegin_49 (by decide) (fun _ => ?_) (fun h9 => absurd h9 (by decide))
  refine lv_iconst (v := 0) hx hb dX14_canBegin_56 (by decide) ?_
  exact zk_ri (r0 := fun u => 0) (w1 := fun u => [(a0, .inr (13, [.int 0, .int 0, .ref a1, .ref a2, .ref a3, .ref a4, .ref a5, .ref a6, .ref a7, .int 1, .long 0]))]) hx hb hr hlk hP hD hS (fun _ _ => 0) rfl rfl [0] rfl rfl (Nat.le_of_ble_eq_true rfl) (Nat.le_of_ble_eq_true rfl) dX14_canBegin_57
set_option maxHeartbeats 4000000 in
set_option maxRecDepth 100000 in
theorem kX14_addFilter_0 (l : Launch) (hst : l.stackTraces = false) (D : va_G) (yc : Nat → ClassId) (e0 sz : Nat) (a0 : Nat) (p0 : Int32) (p1 : Int32) (p2 : Int32) (a1 : Nat) (a2 : Nat) (a3 : Nat) (a4 : Nat) (a5 : Nat) (a6 : Nat) (a7 : Nat)  : Met l yX14_addFilter (ws_ yX14_addFilter cX14_addFilter 4 (some .int)) ({ frames := 3, cells := 0, slots := 0, locals := 65 }) (PR D yc e0 [(a0, .inr (13, [.int 0, .int 0, .ref a1, .ref a2, .ref a3, .ref a4, .ref a5, .ref a6, .ref a7, .int 0, .long 0]))] sz [.ref a0, .int p0, .int p1, .int p2]) (va_Qi (fun r u => r = (fun u : Nat → Nat → Nat => 0) u) (WD D (va_A [(a0, .inr (13, [.int 0, .int 0, .ref a1, .ref a2, .ref a3, .ref a4, .ref a5, .ref a6, .ref a7, .int 0, .long 0]))] sz) (fun u => [(a0, .inr (13, [.int 0, .int 0, .ref a1, .ref a2, .ref a3, .ref a4, .ref a5, .ref a6, .ref a7, .int 1, .long 0]))])) (va_A [(a0, .inr (13, [.int 0, .int 0, .ref a1, .ref a2, .ref a3, .ref a4, .ref a5, .ref a6, .ref a7, .int 0, .long 0]))] sz)) 0 0 (va_A [(a0, .inr (13, [.int 0, .int 0, .ref a1, .ref a2, .ref a3, .ref a4, .ref a5, .ref a6, .ref a7, .int 0, .long 0]))] sz) := by
  refine zk_M (Qc := fun A => va_Qi (fun r u => r = (fun u : Nat → Nat → Nat => 0) u) (WD D A (fun u => [(a0, .inr (13, [.int 0, .int 0, .ref a1, .ref a2, .ref a3, .ref a4, .ref a5, .ref a6, .ref a7, .int 1, .long 0]))])) A) (by decide) (Nat.le_of_ble_eq_true rfl) ?_
  intro p e s m args below meth c A ls hx hb hml hr hlk hown hnm hts hP hD hS hA hC hl
  have hK := hC.1
  have hN := hC.2.1
  have hl : lv_has ls 4 [(0, .ref a0), (1, .int p0), (2, .int p1), (3, .int p2)] := hl
  generalize hHH : s.heap = H at hP ⊢
  have hS : va_S A s.heap H [] := by rw [← hHH]; exact hS
  refine lv_aload_n hx hb dX14_addFilter_0 rfl (lv_at hl 0 rfl) ?_
  refine lv_iload_n hx hb dX14_addFilter_1 rfl (lv_at hl 1 rfl) ?_
  refine lv_iload_n hx hb dX14_addFilter_2 rfl (lv_at hl 1 rfl) ?_
  refine zk_i (wr := []) (va_runV (As := [.int p0, .int p0]) (rest := []) ⟨hx, hb, hml, hown, hts⟩ (kX14_canBegin_0 l hst D yc e0 H.size a0 p0 a1 a2 a3 a4 a5 a6 a7) (cwV 2 hts (lw_V wq1592 wq1594 ws34 wq6 wq1595) rfl rfl rfl (by decide +kernel) ⟨(Nat.le_of_ble_eq_true rfl), (Nat.le_of_ble_eq_true rfl)⟩) (zk_pV hC hP hD hS hA [0] rfl rfl 0 13 rfl rfl) rfl rfl hl.1 rfl (lv_room (Nat.le_of_ble_eq_true rfl)) dX14_addFilter_3 ⟨(Nat.le_of_ble_eq_true rfl), (Nat.le_of_ble_eq_true rfl)⟩) hP hD hS hA [0] [] rfl rfl rfl (by decide) (fun u1 H locs hP hD hS => ?_)
  have hP : va_P D vwCl [(a0, .inr (13, [.int 0, .int 0, .ref a1, .ref a2, .ref a3, .ref a4, .ref a5, .ref a6, .ref a7, .int 1, .long 0]))] H := hP
  have hD : va_D A [(a0, .inr (13, [.int 0, .int 0, .ref a1, .ref a2, .ref a3, .ref a4, .ref a5, .ref a6, .ref a7, .int 1, .long 0]))] := hD
  refine W.widen (k := 0) (n := 0) (Nat.le_of_ble_eq_true rfl) (Nat.le_of_ble_eq_true rfl) ?_
  refine lv_if_ne (tgt := 11) hx hb dX14_addFilter_6 (by decide) (fun h9 => absurd (by decide) h9) (fun _ => ?_)
  refine lv_iconst (v := 0) hx hb dX14_addFilter_9 (by decide) ?_
  exact zk_ri (r0 := fun u => 0) (w1 := fun u => [(a0, .inr (13, [.int 0, .int 0, .ref a1, .ref a2, .ref a3, .ref a4, .ref a5, .ref a6, .ref a7, .int 1, .long 0]))]) hx hb hr hlk hP hD hS (fun _ _ => 0) rfl rfl [0] rfl rfl (Nat.le_of_ble_eq_true rfl) (Nat.le_of_ble_eq_true rfl) dX14_addFilter_10
set_option maxHeartbeats 4000000 in
set_option maxRecDepth 100000 in
theorem kX10_addMap_0 (l : Launch) (hst : l.stackTraces = false) (D : va_G) (yc : Nat → ClassId) (e0 sz : Nat) (a0 : Nat) (p0 : Int32) (p1 : Int32) (p2 : Int32) (a1 : Nat) (a2 : Nat) (a3 : Nat)  : vx_Met l yX10_addMap (ws_ yX10_addMap cX10_addMap 6 (some .int)) ({ frames := 7, cells := 1, slots := 6, locals := 103 }) (PR D yc e0 [(a0, .inr (9, [.ref a1, .ref a2, .int 0, .int 0, .int 0])), (a1, .inr (2, [.int 0, .ref a3, .int 8, .int (-1), .int 0, .int 0, .int 0, .int 0])), (a3, .inr (0, [.int 0, .ref e0, .int 0]))] sz [.ref a0, .int p0, .int p1, .int p2]) (fun _ _ _ _ => False) (zk_X D (va_A [(a0, .inr (9, [.ref a1, .ref a2, .int 0, .int 0, .int 0])), (a1, .inr (2, [.int 0, .ref a3, .int 8, .int (-1), .int 0, .int 0, .int 0, .int 0])), (a3, .inr (0, [.int 0, .ref e0, .int 0]))] sz) "java/lang/IndexOutOfBoundsException" (fun u => [(a0, .inr (9, [.ref a1, .ref a2, .int 0, .int 0, .int 0])), (a1, .inr (2, [.int 0, .ref a3, .int 8, .int (-1), .int 0, .int 0, .int 0, .int 0])), (a3, .inr (0, [.int 0, .ref e0, .int 0]))])) 1 6 (va_A [(a0, .inr (9, [.ref a1, .ref a2, .int 0, .int 0, .int 0])), (a1, .inr (2, [.int 0, .ref a3, .int 8, .int (-1), .int 0, .int 0, .int 0, .int 0])), (a3, .inr (0, [.int 0, .ref e0, .int 0]))] sz) := by
  refine zk_MX (by decide) (Nat.le_of_ble_eq_true rfl) ?_
  intro p e s m args below meth c A ls hx hb hml hr hlk hown hnm hts hP hD hS hA hC hl hnx
  have hK := hC.1
  have hN := hC.2.1
  have hl : lv_has ls 6 [(0, .ref a0), (1, .int p0), (2, .int p1), (3, .int p2)] := hl
  generalize hHH : s.heap = H at hP ⊢
  have hS : va_S A s.heap H [] := by rw [← hHH]; exact hS
  refine W.widen (k := 0) (n := 0) (Nat.le_of_ble_eq_true rfl) (Nat.le_of_ble_eq_true rfl) ?_
  refine lv_aload_n hx hb dX10_addMap_0 rfl (lv_at hl 0 rfl) ?_
  refine lv_iload_n hx hb dX10_addMap_1 rfl (lv_at hl 1 rfl) ?_
  refine zk_x (wr := []) (vx_runV (As := [.int p0]) (rest := []) ⟨hx, hb, hml, hown, hts⟩ (kX10_stageOf_0 l hst D yc e0 H.size a0 p0 a1 a2 a3) (cwV 1 hts (lw_V wq254 wq256 ws2 wq1 wq257) rfl rfl rfl (by decide +kernel) ⟨(Nat.le_of_ble_eq_true rfl), (Nat.le_of_ble_eq_true rfl)⟩) (zk_pV hC hP hD hS hA [0, 1, 2] rfl rfl 0 9 rfl rfl) rfl rfl hl.1 rfl (lv_room (Nat.le_of_ble_eq_true rfl)) dX10_addMap_2 ⟨(Nat.le_of_ble_eq_true rfl), (Nat.le_of_ble_eq_true rfl)⟩) hP hD hS hA [0, 1, 2] [] rfl rfl rfl (by decide) (fun u1 ce q9 H locs hP hD hS hce hcv hcl => ?_)
  have hP : va_P D vwCl [(a0, .inr (9, [.ref a1, .ref a2, .int 0, .int 0, .int 0])), (a1, .inr (2, [.int 0, .ref a3, .int 8, .int (-1), .int 0, .int 0, .int 0, .int 0])), (a3, .inr (0, [.int 0, .ref e0, .int 0]))] H := hP
  have hD : va_D A [(a0, .inr (9, [.ref a1, .ref a2, .int 0, .int 0, .int 0])), (a1, .inr (2, [.int 0, .ref a3, .int 8, .int (-1), .int 0, .int 0, .int 0, .int 0])), (a3, .inr (0, [.int 0, .ref e0, .int 0]))] := hD
  exact vx_out (fun x9 hx9 => (hnx x9 hx9).elim) hlk hce hcv hcl (zk_out hP hD hS (fun _ _ => 0) [0, 1, 2] rfl rfl) hS.2.2 (Nat.le_of_ble_eq_true rfl) (Nat.le_of_ble_eq_true rfl)
set_option maxHeartbeats 4000000 in
set_option maxRecDepth 100000 in
theorem kL_addMap_0 (l : Launch) (hst : l.stackTraces = false) (D : va_G) (yc : Nat → ClassId) (e0 sz : Nat) (a0 : Nat) (p0 : Int32) (p1 : Int32) (p2 : Int32) (a1 : Nat) (a2 : Nat) (a3 : Nat) (a4 : Nat)  : Met l yL_addMap (ww_ yL_addMap cL_addMap 6 (some .int) [(0, 12, 15, 21), (0, 12, 19, 13), (0, 12, 23, 15)]) ({ frames := 8, cells := 1, slots := 6, locals := 128 }) (PR D yc e0 [(a0, .inr (9, [.ref a2, .ref a3, .int 0, .int 0, .int 0])), (a2, .inr (2, [.int 0, .ref a4, .int 8, .int (-1), .int 0, .int 0, .int 0, .int 0])), (a4, .inr (0, [.int 0, .ref e0, .int 0]))] sz [.ref a0, .int p0, .int p1, .int p2, .ref a1]) (va_Qi (fun r u => r = (fun u : Nat → Nat → Nat => 1) u) (WD D (va_A [(a0, .inr (9, [.ref a2, .ref a3, .int 0, .int 0, .int 0])), (a2, .inr (2, [.int 0, .ref a4, .int 8, .int (-1), .int 0, .int 0, .int 0, .int 0])), (a4, .inr (0, [.int 0, .ref e0, .int 0]))] sz) (fun u => [(a0, .inr (9, [.ref a2, .ref a3, .int 0, .int 0, .int 0])), (a2, .inr (2, [.int 0, .ref a4, .int 8, .int (-1), .int 0, .int 0, .int 0, .int 0])), (a4, .inr (0, [.int 0, .ref e0, .int 0]))])) (va_A [(a0, .inr (9, [.ref a2, .ref a3, .int 0, .int 0, .int 0])), (a2, .inr (2, [.int 0, .ref a4, .int 8, .int (-1), .int 0, .int 0, .int 0, .int 0])), (a4, .inr (0, [.int 0, .ref e0, .int 0]))] sz)) 1 6 (va_A [(a0, .inr (9, [.ref a2, .ref a3, .int 0, .int 0, .int 0])), (a2, .inr (2, [.int 0, .ref a4, .int 8, .int (-1), .int 0, .int 0, .int 0, .int 0])), (a4, .inr (0, [.int 0, .ref e0, .int 0]))] sz) := by
  refine zk_MW (Qc := fun A => va_Qi (fun r u => r = (fun u : Nat → Nat → Nat => 1) u) (WD D A (fun u => [(a0, .inr (9, [.ref a2, .ref a3, .int 0, .int 0, .int 0])), (a2, .inr (2, [.int 0, .ref a4, .int 8, .int (-1), .int 0, .int 0, .int 0, .int 0])), (a4, .inr (0, [.int 0, .ref e0, .int 0]))])) A) (by decide) (Nat.le_of_ble_eq_true rfl) ?_
  intro p e s m args below meth c A ls hx hb hml hr hlk hown hts hP hD hS hA hC hl hex
  have hK := hC.1
  have hN := hC.2.1
  have hl : lv_has ls 6 [(0, .ref a0), (1, .int p0), (2, .int p1), (3, .int p2), (4, .ref a1)] := hl
  generalize hHH : s.heap = H at hP ⊢
  have hS : va_S A s.heap H [] := by rw [← hHH]; exact hS
  refine lv_aload hx hb dL_addMap_0 (lv_at hl 4 rfl) ?_
  refine lv_iconst (v := 0) hx hb dL_addMap_2 (by decide) ?_
  refine lv_aload_n hx hb dL_addMap_3 rfl (lv_at hl 0 rfl) ?_
  refine lv_iload_n hx hb dL_addMap_4 rfl (lv_at hl 1 rfl) ?_
  refine lv_iload_n hx hb dL_addMap_5 rfl (lv_at hl 2 rfl) ?_
  refine lv_iload_n hx hb dL_addMap_6 rfl (lv_at hl 3 rfl) ?_
  refine zk_x (wr := []) (vx_runV (As := [.int p0, .int p1, .int p2]) (rest := [.int 0, .ref a1]) ⟨hx, hb, hml, hown, hts⟩ (kX10_addMap_0 l hst D yc e0 H.size a0 p0 p1 p2 a2 a3 a4) (cwV 3 hts (lw_V wq841 wq842 wq843 wq1 wq844) rfl rfl rfl (by decide +kernel) ⟨(Nat.le_of_ble_eq_true rfl), (Nat.le_of_ble_eq_true rfl)⟩) (zk_pV hC hP hD hS hA [0, 1, 2] rfl rfl 0 9 rfl rfl) rfl rfl hl.1 rfl (lv_room (Nat.le_of_ble_eq_true rfl)) dL_addMap_7 ⟨(Nat.le_of_ble_eq_true rfl), (Nat.le_of_ble_eq_true rfl)⟩) hP hD hS hA [0, 1, 2] [] rfl rfl rfl (by decide) (fun u1 ce q9 H locs hP hD hS hce hcv hcl => ?_)
  have hP : va_P D vwCl [(a0, .inr (9, [.ref a2, .ref a3, .int 0, .int 0, .int 0])), (a2, .inr (2, [.int 0, .ref a4, .int 8, .int (-1), .int 0, .int 0, .int 0, .int 0])), (a4, .inr (0, [.int 0, .ref e0, .int 0]))] H := hP
  have hD : va_D A [(a0, .inr (9, [.ref a2, .ref a3, .int 0, .int 0, .int 0])), (a2, .inr (2, [.int 0, .ref a4, .int 8, .int (-1), .int 0, .int 0, .int 0, .int 0])), (a4, .inr (0, [.int 0, .ref e0, .int 0]))] := hD
  refine vx_catch (own := RL) (name := "java/lang/IndexOutOfBoundsException") hown (tableOf []) ⟨0, 12, 15, 21⟩ (tableOf [(0, 12, 19, 13), (0, 12, 23, 15)]) hex (fun z hz => False.elim (List.not_mem_nil hz)) (by decide) (by decide) (hts _ wq833) (zk_tab rfl (hN _ wr261 rfl)) hce hcv hcl ?_
  refine W.widen (k := 1) (n := 6) (Nat.le_of_ble_eq_true rfl) (Nat.le_of_ble_eq_true rfl) ?_
  refine lv_astore (lv' := [(5, .ref q9), (0, .ref a0), (1, .int p0), (2, .int p1), (3, .int p2), (4, .ref a1)]) hx hb dL_addMap_15 hl (by decide) rfl (fun ls hl => ?_)
  refine lv_iconst (v := 1) hx hb dL_addMap_17 (by decide) ?_
  exact zk_ri (r0 := fun u => 1) (w1 := fun u => [(a0, .inr (9, [.ref a2, .ref a3, .int 0, .int 0, .int 0])), (a2, .inr (2, [.int 0, .ref a4, .int 8, .int (-1), .int 0, .int 0, .int 0, .int 0])), (a4, .inr (0, [.int 0, .ref e0, .int 0]))]) hx hb hr hlk hP hD hS (fun _ _ => 0) rfl rfl [0, 1, 2] rfl rfl (Nat.le_of_ble_eq_true rfl) (Nat.le_of_ble_eq_true rfl) dL_addMap_18
set_option maxHeartbeats 4000000 in
set_option maxRecDepth 100000 in
theorem kX14_addMap_0 (l : Launch) (hst : l.stackTraces = false) (D : va_G) (yc : Nat → ClassId) (e0 sz : Nat) (a0 : Nat) (p0 : Int32) (p1 : Int32) (p2 : Int32) (a1 : Nat) (a2 : Nat) (a3 : Nat) (a4 : Nat) (a5 : Nat) (a6 : Nat) (a7 : Nat)  : Met l yX14_addMap (ws_ yX14_addMap cX14_addMap 4 (some .int)) ({ frames := 3, cells := 0, slots := 0, locals := 65 }) (PR D yc e0 [(a0, .inr (13, [.int 0, .int 0, .ref a1, .ref a2, .ref a3, .ref a4, .ref a5, .ref a6, .ref a7, .int 0, .long 0]))] sz [.ref a0, .int p0, .int p1, .int p2]) (va_Qi (fun r u => r = (fun u : Nat → Nat → Nat => 0) u) (WD D (va_A [(a0, .inr (13, [.int 0, .int 0, .ref a1, .ref a2, .ref a3, .ref a4, .ref a5, .ref a6, .ref a7, .int 0, .long 0]))] sz) (fun u => [(a0, .inr (13, [.int 0, .int 0, .ref a1, .ref a2, .ref a3, .ref a4, .ref a5, .ref a6, .ref a7, .int 1, .long 0]))])) (va_A [(a0, .inr (13, [.int 0, .int 0, .ref a1, .ref a2, .ref a3, .ref a4, .ref a5, .ref a6, .ref a7, .int 0, .long 0]))] sz)) 0 0 (va_A [(a0, .inr (13, [.int 0, .int 0, .ref a1, .ref a2, .ref a3, .ref a4, .ref a5, .ref a6, .ref a7, .int 0, .long 0]))] sz) := by
  refine zk_M (Qc := fun A => va_Qi (fun r u => r = (fun u : Nat → Nat → Nat => 0) u) (WD D A (fun u => [(a0, .inr (13, [.int 0, .int 0, .ref a1, .ref a2, .ref a3, .ref a4, .ref a5, .ref a6, .ref a7, .int 1, .long 0]))])) A) (by decide) (Nat.le_of_ble_eq_true rfl) ?_
  intro p e s m args below meth c A ls hx hb hml hr hlk hown hnm hts hP hD hS hA hC hl
  have hK := hC.1
  have hN := hC.2.1
  have hl : lv_has ls 4 [(0, .ref a0), (1, .int p0), (2, .int p1), (3, .int p2)] := hl
  generalize hHH : s.heap = H at hP ⊢
  have hS : va_S A s.heap H [] := by rw [← hHH]; exact hS
  refine lv_aload_n hx hb dX14_addMap_0 rfl (lv_at hl 0 rfl) ?_
  refine lv_iload_n hx hb dX14_addMap_1 rfl (lv_at hl 1 rfl) ?_
  refine lv_iload_n hx hb dX14_addMap_2 rfl (lv_at hl 1 rfl) ?_
  refine zk_i (wr := []) (va_runV (As := [.int p0, .int p0]) (rest := []) ⟨hx, hb, hml, hown, hts⟩ (kX14_canBegin_0 l hst D yc e0 H.size a0 p0 a1 a2 a3 a4 a5 a6 a7) (cwV 2 hts (lw_V wq1592 wq1594 ws34 wq6 wq1595) rfl rfl rfl (by decide +kernel) ⟨(Nat.le_of_ble_eq_true rfl), (Nat.le_of_ble_eq_true rfl)⟩) (zk_pV hC hP hD hS hA [0] rfl rfl 0 13 rfl rfl) rfl rfl hl.1 rfl (lv_room (Nat.le_of_ble_eq_true rfl)) dX14_addMap_3 ⟨(Nat.le_of_ble_eq_true rfl), (Nat.le_of_ble_eq_true rfl)⟩) hP hD hS hA [0] [] rfl rfl rfl (by decide) (fun u1 H locs hP hD hS => ?_)
  have hP : va_P D vwCl [(a0, .inr (13, [.int 0, .int 0, .ref a1, .ref a2, .ref a3, .ref a4, .ref a5, .ref a6, .ref a7, .int 1, .long 0]))] H := hP
  have hD : va_D A [(a0, .inr (13, [.int 0, .int 0, .ref a1, .ref a2, .ref a3, .ref a4, .ref a5, .ref a6, .ref a7, .int 1, .long 0]))] := hD
  refine W.widen (k := 0) (n := 0) (Nat.le_of_ble_eq_true rfl) (Nat.le_of_ble_eq_true rfl) ?_
  refine lv_if_ne (tgt := 11) hx hb dX14_addMap_6 (by decide) (fun h9 => absurd (by decide) h9) (fun _ => ?_)
  refine lv_iconst (v := 0) hx hb dX14_addMap_9 (by decide) ?_
  exact zk_ri (r0 := fun u => 0) (w1 := fun u => [(a0, .inr (13, [.int 0, .int 0, .ref a1, .ref a2, .ref a3, .ref a4, .ref a5, .ref a6, .ref a7, .int 1, .long 0]))]) hx hb hr hlk hP hD hS (fun _ _ => 0) rfl rfl [0] rfl rfl (Nat.le_of_ble_eq_true rfl) (Nat.le_of_ble_eq_true rfl) dX14_addMap_10
set_option maxHeartbeats 4000000 in
set_option maxRecDepth 100000 in
theorem kX10_addWindow_0 (l : Launch) (hst : l.stackTraces = false) (D : va_G) (yc : Nat → ClassId) (e0 sz : Nat) (a0 : Nat) (p0 : Int32) (p1 : Int32) (p2 : Int32) (p3 : Int32) (p4 : Int32) (a1 : Nat) (a2 : Nat) (a3 : Nat)  : vx_Met l yX10_addWindow (ws_ yX10_addWindow cX10_addWindow 8 (some .int)) ({ frames := 7, cells := 1, slots := 6, locals := 103 }) (PR D yc e0 [(a0, .inr (9, [.ref a1, .ref a2, .int 0, .int 0, .int 0])), (a1, .inr (2, [.int 0, .ref a3, .int 8, .int (-1), .int 0, .int 0, .int 0, .int 0])), (a3, .inr (0, [.int 0, .ref e0, .int 0]))] sz [.ref a0, .int p0, .int p1, .int p2, .int p3, .int p4]) (fun _ _ _ _ => False) (zk_X D (va_A [(a0, .inr (9, [.ref a1, .ref a2, .int 0, .int 0, .int 0])), (a1, .inr (2, [.int 0, .ref a3, .int 8, .int (-1), .int 0, .int 0, .int 0, .int 0])), (a3, .inr (0, [.int 0, .ref e0, .int 0]))] sz) "java/lang/IndexOutOfBoundsException" (fun u => [(a0, .inr (9, [.ref a1, .ref a2, .int 0, .int 0, .int 0])), (a1, .inr (2, [.int 0, .ref a3, .int 8, .int (-1), .int 0, .int 0, .int 0, .int 0])), (a3, .inr (0, [.int 0, .ref e0, .int 0]))])) 1 6 (va_A [(a0, .inr (9, [.ref a1, .ref a2, .int 0, .int 0, .int 0])), (a1, .inr (2, [.int 0, .ref a3, .int 8, .int (-1), .int 0, .int 0, .int 0, .int 0])), (a3, .inr (0, [.int 0, .ref e0, .int 0]))] sz) := by
  refine zk_MX (by decide) (Nat.le_of_ble_eq_true rfl) ?_
  intro p e s m args below meth c A ls hx hb hml hr hlk hown hnm hts hP hD hS hA hC hl hnx
  have hK := hC.1
  have hN := hC.2.1
  have hl : lv_has ls 8 [(0, .ref a0), (1, .int p0), (2, .int p1), (3, .int p2), (4, .int p3), (5, .int p4)] := hl
  generalize hHH : s.heap = H at hP ⊢
  have hS : va_S A s.heap H [] := by rw [← hHH]; exact hS
  refine W.widen (k := 0) (n := 0) (Nat.le_of_ble_eq_true rfl) (Nat.le_of_ble_eq_true rfl) ?_
  refine lv_aload_n hx hb dX10_addWindow_0 rfl (lv_at hl 0 rfl) ?_
  refine lv_iload_n hx hb dX10_addWindow_1 rfl (lv_at hl 1 rfl) ?_
  refine zk_x (wr := []) (vx_runV (As := [.int p0]) (rest := []) ⟨hx, hb, hml, hown, hts⟩ (kX10_stageOf_0 l hst D yc e0 H.size a0 p0 a1 a2 a3) (cwV 1 hts (lw_V wq254 wq256 ws2 wq1 wq257) rfl rfl rfl (by decide +kernel) ⟨(Nat.le_of_ble_eq_true rfl), (Nat.le_of_ble_eq_true rfl)⟩) (zk_pV hC hP hD hS hA [0, 1, 2] rfl rfl 0 9 rfl rfl) rfl rfl hl.1 rfl (lv_room (Nat.le_of_ble_eq_true rfl)) dX10_addWindow_2 ⟨(Nat.le_of_ble_eq_true rfl), (Nat.le_of_ble_eq_true rfl)⟩) hP hD hS hA [0, 1, 2] [] rfl rfl rfl (by decide) (fun u1 ce q9 H locs hP hD hS hce hcv hcl => ?_)
  have hP : va_P D vwCl [(a0, .inr (9, [.ref a1, .ref a2, .int 0, .int 0, .int 0])), (a1, .inr (2, [.int 0, .ref a3, .int 8, .int (-1), .int 0, .int 0, .int 0, .int 0])), (a3, .inr (0, [.int 0, .ref e0, .int 0]))] H := hP
  have hD : va_D A [(a0, .inr (9, [.ref a1, .ref a2, .int 0, .int 0, .int 0])), (a1, .inr (2, [.int 0, .ref a3, .int 8, .int (-1), .int 0, .int 0, .int 0, .int 0])), (a3, .inr (0, [.int 0, .ref e0, .int 0]))] := hD
  exact vx_out (fun x9 hx9 => (hnx x9 hx9).elim) hlk hce hcv hcl (zk_out hP hD hS (fun _ _ => 0) [0, 1, 2] rfl rfl) hS.2.2 (Nat.le_of_ble_eq_true rfl) (Nat.le_of_ble_eq_true rfl)
set_option maxHeartbeats 4000000 in
set_option maxRecDepth 100000 in
theorem kL_addWindow_0 (l : Launch) (hst : l.stackTraces = false) (D : va_G) (yc : Nat → ClassId) (e0 sz : Nat) (a0 : Nat) (p0 : Int32) (p1 : Int32) (p2 : Int32) (p3 : Int32) (p4 : Int32) (a1 : Nat) (a2 : Nat) (a3 : Nat) (a4 : Nat)  : Met l yL_addWindow (ww_ yL_addWindow cL_addWindow 8 (some .int) [(0, 16, 19, 21), (0, 16, 23, 13), (0, 16, 27, 15)]) ({ frames := 8, cells := 1, slots := 6, locals := 130 }) (PR D yc e0 [(a0, .inr (9, [.ref a2, .ref a3, .int 0, .int 0, .int 0])), (a2, .inr (2, [.int 0, .ref a4, .int 8, .int (-1), .int 0, .int 0, .int 0, .int 0])), (a4, .inr (0, [.int 0, .ref e0, .int 0]))] sz [.ref a0, .int p0, .int p1, .int p2, .int p3, .int p4, .ref a1]) (va_Qi (fun r u => r = (fun u : Nat → Nat → Nat => 1) u) (WD D (va_A [(a0, .inr (9, [.ref a2, .ref a3, .int 0, .int 0, .int 0])), (a2, .inr (2, [.int 0, .ref a4, .int 8, .int (-1), .int 0, .int 0, .int 0, .int 0])), (a4, .inr (0, [.int 0, .ref e0, .int 0]))] sz) (fun u => [(a0, .inr (9, [.ref a2, .ref a3, .int 0, .int 0, .int 0])), (a2, .inr (2, [.int 0, .ref a4, .int 8, .int (-1), .int 0, .int 0, .int 0, .int 0])), (a4, .inr (0, [.int 0, .ref e0, .int 0]))])) (va_A [(a0, .inr (9, [.ref a2, .ref a3, .int 0, .int 0, .int 0])), (a2, .inr (2, [.int 0, .ref a4, .int 8, .int (-1), .int 0, .int 0, .int 0, .int 0])), (a4, .inr (0, [.int 0, .ref e0, .int 0]))] sz)) 1 6 (va_A [(a0, .inr (9, [.ref a2, .ref a3, .int 0, .int 0, .int 0])), (a2, .inr (2, [.int 0, .ref a4, .int 8, .int (-1), .int 0, .int 0, .int 0, .int 0])), (a4, .inr (0, [.int 0, .ref e0, .int 0]))] sz) := by
  refine zk_MW (Qc := fun A => va_Qi (fun r u => r = (fun u : Nat → Nat → Nat => 1) u) (WD D A (fun u => [(a0, .inr (9, [.ref a2, .ref a3, .int 0, .int 0, .int 0])), (a2, .inr (2, [.int 0, .ref a4, .int 8, .int (-1), .int 0, .int 0, .int 0, .int 0])), (a4, .inr (0, [.int 0, .ref e0, .int 0]))])) A) (by decide) (Nat.le_of_ble_eq_true rfl) ?_
  intro p e s m args below meth c A ls hx hb hml hr hlk hown hts hP hD hS hA hC hl hex
  have hK := hC.1
  have hN := hC.2.1
  have hl : lv_has ls 8 [(0, .ref a0), (1, .int p0), (2, .int p1), (3, .int p2), (4, .int p3), (5, .int p4), (6, .ref a1)] := hl
  generalize hHH : s.heap = H at hP ⊢
  have hS : va_S A s.heap H [] := by rw [← hHH]; exact hS
  refine lv_aload hx hb dL_addWindow_0 (lv_at hl 6 rfl) ?_
  refine lv_iconst (v := 0) hx hb dL_addWindow_2 (by decide) ?_
  refine lv_aload_n hx hb dL_addWindow_3 rfl (lv_at hl 0 rfl) ?_
  refine lv_iload_n hx hb dL_addWindow_4 rfl (lv_at hl 1 rfl) ?_
  refine lv_iload_n hx hb dL_addWindow_5 rfl (lv_at hl 2 rfl) ?_
  refine lv_iload_n hx hb dL_addWindow_6 rfl (lv_at hl 3 rfl) ?_
  refine lv_iload hx hb dL_addWindow_7 (lv_at hl 4 rfl) ?_
  refine lv_iload hx hb dL_addWindow_9 (lv_at hl 5 rfl) ?_
  refine zk_x (wr := []) (vx_runV (As := [.int p0, .int p1, .int p2, .int p3, .int p4]) (rest := [.int 0, .ref a1]) ⟨hx, hb, hml, hown, hts⟩ (kX10_addWindow_0 l hst D yc e0 H.size a0 p0 p1 p2 p3 p4 a2 a3 a4) (cwV 5 hts (lw_V wq848 wq849 wq850 wq1 wq851) rfl rfl rfl (by decide +kernel) ⟨(Nat.le_of_ble_eq_true rfl), (Nat.le_of_ble_eq_true rfl)⟩) (zk_pV hC hP hD hS hA [0, 1, 2] rfl rfl 0 9 rfl rfl) rfl rfl hl.1 rfl (lv_room (Nat.le_of_ble_eq_true rfl)) dL_addWindow_11 ⟨(Nat.le_of_ble_eq_true rfl), (Nat.le_of_ble_eq_true rfl)⟩) hP hD hS hA [0, 1, 2] [] rfl rfl rfl (by decide) (fun u1 ce q9 H locs hP hD hS hce hcv hcl => ?_)
  have hP : va_P D vwCl [(a0, .inr (9, [.ref a2, .ref a3, .int 0, .int 0, .int 0])), (a2, .inr (2, [.int 0, .ref a4, .int 8, .int (-1), .int 0, .int 0, .int 0, .int 0])), (a4, .inr (0, [.int 0, .ref e0, .int 0]))] H := hP
  have hD : va_D A [(a0, .inr (9, [.ref a2, .ref a3, .int 0, .int 0, .int 0])), (a2, .inr (2, [.int 0, .ref a4, .int 8, .int (-1), .int 0, .int 0, .int 0, .int 0])), (a4, .inr (0, [.int 0, .ref e0, .int 0]))] := hD
  refine vx_catch (own := RL) (name := "java/lang/IndexOutOfBoundsException") hown (tableOf []) ⟨0, 16, 19, 21⟩ (tableOf [(0, 16, 23, 13), (0, 16, 27, 15)]) hex (fun z hz => False.elim (List.not_mem_nil hz)) (by decide) (by decide) (hts _ wq833) (zk_tab rfl (hN _ wr261 rfl)) hce hcv hcl ?_
  refine W.widen (k := 1) (n := 6) (Nat.le_of_ble_eq_true rfl) (Nat.le_of_ble_eq_true rfl) ?_
  refine lv_astore (lv' := [(7, .ref q9), (0, .ref a0), (1, .int p0), (2, .int p1), (3, .int p2), (4, .int p3), (5, .int p4), (6, .ref a1)]) hx hb dL_addWindow_19 hl (by decide) rfl (fun ls hl => ?_)
  refine lv_iconst (v := 1) hx hb dL_addWindow_21 (by decide) ?_
  exact zk_ri (r0 := fun u => 1) (w1 := fun u => [(a0, .inr (9, [.ref a2, .ref a3, .int 0, .int 0, .int 0])), (a2, .inr (2, [.int 0, .ref a4, .int 8, .int (-1), .int 0, .int 0, .int 0, .int 0])), (a4, .inr (0, [.int 0, .ref e0, .int 0]))]) hx hb hr hlk hP hD hS (fun _ _ => 0) rfl rfl [0, 1, 2] rfl rfl (Nat.le_of_ble_eq_true rfl) (Nat.le_of_ble_eq_true rfl) dL_addWindow_22
set_option maxHeartbeats 4000000 in
set_option maxRecDepth 100000 in
theorem kX14_addWindow_0 (l : Launch) (hst : l.stackTraces = false) (D : va_G) (yc : Nat → ClassId) (e0 sz : Nat) (a0 : Nat) (p0 : Int32) (p1 : Int32) (p2 : Int32) (p3 : Int32) (p4 : Int32) (a1 : Nat) (a2 : Nat) (a3 : Nat) (a4 : Nat) (a5 : Nat) (a6 : Nat) (a7 : Nat)  : Met l yX14_addWindow (ws_ yX14_addWindow cX14_addWindow 6 (some .int)) ({ frames := 3, cells := 0, slots := 0, locals := 65 }) (PR D yc e0 [(a0, .inr (13, [.int 0, .int 0, .ref a1, .ref a2, .ref a3, .ref a4, .ref a5, .ref a6, .ref a7, .int 0, .long 0]))] sz [.ref a0, .int p0, .int p1, .int p2, .int p3, .int p4]) (va_Qi (fun r u => r = (fun u : Nat → Nat → Nat => 0) u) (WD D (va_A [(a0, .inr (13, [.int 0, .int 0, .ref a1, .ref a2, .ref a3, .ref a4, .ref a5, .ref a6, .ref a7, .int 0, .long 0]))] sz) (fun u => [(a0, .inr (13, [.int 0, .int 0, .ref a1, .ref a2, .ref a3, .ref a4, .ref a5, .ref a6, .ref a7, .int 1, .long 0]))])) (va_A [(a0, .inr (13, [.int 0, .int 0, .ref a1, .ref a2, .ref a3, .ref a4, .ref a5, .ref a6, .ref a7, .int 0, .long 0]))] sz)) 0 0 (va_A [(a0, .inr (13, [.int 0, .int 0, .ref a1, .ref a2, .ref a3, .ref a4, .ref a5, .ref a6, .ref a7, .int 0, .long 0]))] sz) := by
  refine zk_M (Qc := fun A => va_Qi (fun r u => r = (fun u : Nat → Nat → Nat => 0) u) (WD D A (fun u => [(a0, .inr (13, [.int 0, .int 0, .ref a1, .ref a2, .ref a3, .ref a4, .ref a5, .ref a6, .ref a7, .int 1, .long 0]))])) A) (by decide) (Nat.le_of_ble_eq_true rfl) ?_
  intro p e s m args below meth c A ls hx hb hml hr hlk hown hnm hts hP hD hS hA hC hl
  have hK := hC.1
  have hN := hC.2.1
  have hl : lv_has ls 6 [(0, .ref a0), (1, .int p0), (2, .int p1), (3, .int p2), (4, .int p3), (5, .int p4)] := hl
  generalize hHH : s.heap = H at hP ⊢
  have hS : va_S A s.heap H [] := by rw [← hHH]; exact hS
  refine lv_aload_n hx hb dX14_addWindow_0 rfl (lv_at hl 0 rfl) ?_
  refine lv_iload_n hx hb dX14_addWindow_1 rfl (lv_at hl 1 rfl) ?_
  refine lv_iload_n hx hb dX14_addWindow_2 rfl (lv_at hl 1 rfl) ?_
  refine zk_i (wr := []) (va_runV (As := [.int p0, .int p0]) (rest := []) ⟨hx, hb, hml, hown, hts⟩ (kX14_canBegin_0 l hst D yc e0 H.size a0 p0 a1 a2 a3 a4 a5 a6 a7) (cwV 2 hts (lw_V wq1592 wq1594 ws34 wq6 wq1595) rfl rfl rfl (by decide +kernel) ⟨(Nat.le_of_ble_eq_true rfl), (Nat.le_of_ble_eq_true rfl)⟩) (zk_pV hC hP hD hS hA [0] rfl rfl 0 13 rfl rfl) rfl rfl hl.1 rfl (lv_room (Nat.le_of_ble_eq_true rfl)) dX14_addWindow_3 ⟨(Nat.le_of_ble_eq_true rfl), (Nat.le_of_ble_eq_true rfl)⟩) hP hD hS hA [0] [] rfl rfl rfl (by decide) (fun u1 H locs hP hD hS => ?_)
  have hP : va_P D vwCl [(a0, .inr (13, [.int 0, .int 0, .ref a1, .ref a2, .ref a3, .ref a4, .ref a5, .ref a6, .ref a7, .int 1, .long 0]))] H := hP
  have hD : va_D A [(a0, .inr (13, [.int 0, .int 0, .ref a1, .ref a2, .ref a3, .ref a4, .ref a5, .ref a6, .ref a7, .int 1, .long 0]))] := hD
  refine W.widen (k := 0) (n := 0) (Nat.le_of_ble_eq_true rfl) (Nat.le_of_ble_eq_true rfl) ?_
  refine lv_if_ne (tgt := 11) hx hb dX14_addWindow_6 (by decide) (fun h9 => absurd (by decide) h9) (fun _ => ?_)
  refine lv_iconst (v := 0) hx hb dX14_addWindow_9 (by decide) ?_
  exact zk_ri (r0 := fun u => 0) (w1 := fun u => [(a0, .inr (13, [.int 0, .int 0, .ref a1, .ref a2, .ref a3, .ref a4, .ref a5, .ref a6, .ref a7, .int 1, .long 0]))]) hx hb hr hlk hP hD hS (fun _ _ => 0) rfl rfl [0] rfl rfl (Nat.le_of_ble_eq_true rfl) (Nat.le_of_ble_eq_true rfl) dX14_addWindow_10
set_option maxHeartbeats 4000000 in
set_option maxRecDepth 100000 in
theorem kX10_addSession_0 (l : Launch) (hst : l.stackTraces = false) (D : va_G) (yc : Nat → ClassId) (e0 sz : Nat) (a0 : Nat) (p0 : Int32) (p1 : Int32) (p2 : Int32) (a1 : Nat) (a2 : Nat) (a3 : Nat)  : vx_Met l yX10_addSession (ws_ yX10_addSession cX10_addSession 6 (some .int)) ({ frames := 7, cells := 1, slots := 6, locals := 103 }) (PR D yc e0 [(a0, .inr (9, [.ref a1, .ref a2, .int 0, .int 0, .int 0])), (a1, .inr (2, [.int 0, .ref a3, .int 8, .int (-1), .int 0, .int 0, .int 0, .int 0])), (a3, .inr (0, [.int 0, .ref e0, .int 0]))] sz [.ref a0, .int p0, .int p1, .int p2]) (fun _ _ _ _ => False) (zk_X D (va_A [(a0, .inr (9, [.ref a1, .ref a2, .int 0, .int 0, .int 0])), (a1, .inr (2, [.int 0, .ref a3, .int 8, .int (-1), .int 0, .int 0, .int 0, .int 0])), (a3, .inr (0, [.int 0, .ref e0, .int 0]))] sz) "java/lang/IndexOutOfBoundsException" (fun u => [(a0, .inr (9, [.ref a1, .ref a2, .int 0, .int 0, .int 0])), (a1, .inr (2, [.int 0, .ref a3, .int 8, .int (-1), .int 0, .int 0, .int 0, .int 0])), (a3, .inr (0, [.int 0, .ref e0, .int 0]))])) 1 6 (va_A [(a0, .inr (9, [.ref a1, .ref a2, .int 0, .int 0, .int 0])), (a1, .inr (2, [.int 0, .ref a3, .int 8, .int (-1), .int 0, .int 0, .int 0, .int 0])), (a3, .inr (0, [.int 0, .ref e0, .int 0]))] sz) := by
  refine zk_MX (by decide) (Nat.le_of_ble_eq_true rfl) ?_
  intro p e s m args below meth c A ls hx hb hml hr hlk hown hnm hts hP hD hS hA hC hl hnx
  have hK := hC.1
  have hN := hC.2.1
  have hl : lv_has ls 6 [(0, .ref a0), (1, .int p0), (2, .int p1), (3, .int p2)] := hl
  generalize hHH : s.heap = H at hP ⊢
  have hS : va_S A s.heap H [] := by rw [← hHH]; exact hS
  refine W.widen (k := 0) (n := 0) (Nat.le_of_ble_eq_true rfl) (Nat.le_of_ble_eq_true rfl) ?_
  refine lv_aload_n hx hb dX10_addSession_0 rfl (lv_at hl 0 rfl) ?_
  refine lv_iload_n hx hb dX10_addSession_1 rfl (lv_at hl 1 rfl) ?_
  refine zk_x (wr := []) (vx_runV (As := [.int p0]) (rest := []) ⟨hx, hb, hml, hown, hts⟩ (kX10_stageOf_0 l hst D yc e0 H.size a0 p0 a1 a2 a3) (cwV 1 hts (lw_V wq254 wq256 ws2 wq1 wq257) rfl rfl rfl (by decide +kernel) ⟨(Nat.le_of_ble_eq_true rfl), (Nat.le_of_ble_eq_true rfl)⟩) (zk_pV hC hP hD hS hA [0, 1, 2] rfl rfl 0 9 rfl rfl) rfl rfl hl.1 rfl (lv_room (Nat.le_of_ble_eq_true rfl)) dX10_addSession_2 ⟨(Nat.le_of_ble_eq_true rfl), (Nat.le_of_ble_eq_true rfl)⟩) hP hD hS hA [0, 1, 2] [] rfl rfl rfl (by decide) (fun u1 ce q9 H locs hP hD hS hce hcv hcl => ?_)
  have hP : va_P D vwCl [(a0, .inr (9, [.ref a1, .ref a2, .int 0, .int 0, .int 0])), (a1, .inr (2, [.int 0, .ref a3, .int 8, .int (-1), .int 0, .int 0, .int 0, .int 0])), (a3, .inr (0, [.int 0, .ref e0, .int 0]))] H := hP
  have hD : va_D A [(a0, .inr (9, [.ref a1, .ref a2, .int 0, .int 0, .int 0])), (a1, .inr (2, [.int 0, .ref a3, .int 8, .int (-1), .int 0, .int 0, .int 0, .int 0])), (a3, .inr (0, [.int 0, .ref e0, .int 0]))] := hD
  exact vx_out (fun x9 hx9 => (hnx x9 hx9).elim) hlk hce hcv hcl (zk_out hP hD hS (fun _ _ => 0) [0, 1, 2] rfl rfl) hS.2.2 (Nat.le_of_ble_eq_true rfl) (Nat.le_of_ble_eq_true rfl)
set_option maxHeartbeats 4000000 in
set_option maxRecDepth 100000 in
theorem kL_addSession_0 (l : Launch) (hst : l.stackTraces = false) (D : va_G) (yc : Nat → ClassId) (e0 sz : Nat) (a0 : Nat) (p0 : Int32) (p1 : Int32) (p2 : Int32) (a1 : Nat) (a2 : Nat) (a3 : Nat) (a4 : Nat)  : Met l yL_addSession (ww_ yL_addSession cL_addSession 6 (some .int) [(0, 12, 15, 21), (0, 12, 19, 13), (0, 12, 23, 15)]) ({ frames := 8, cells := 1, slots := 6, locals := 128 }) (PR D yc e0 [(a0, .inr (9, [.ref a2, .ref a3, .int 0, .int 0, .int 0])), (a2, .inr (2, [.int 0, .ref a4, .int 8, .int (-1), .int 0, .int 0, .int 0, .int 0])), (a4, .inr (0, [.int 0, .ref e0, .int 0]))] sz [.ref a0, .int p0, .int p1, .int p2, .ref a1]) (va_Qi (fun r u => r = (fun u : Nat → Nat → Nat => 1) u) (WD D (va_A [(a0, .inr (9, [.ref a2, .ref a3, .int 0, .int 0, .int 0])), (a2, .inr (2, [.int 0, .ref a4, .int 8, .int (-1), .int 0, .int 0, .int 0, .int 0])), (a4, .inr (0, [.int 0, .ref e0, .int 0]))] sz) (fun u => [(a0, .inr (9, [.ref a2, .ref a3, .int 0, .int 0, .int 0])), (a2, .inr (2, [.int 0, .ref a4, .int 8, .int (-1), .int 0, .int 0, .int 0, .int 0])), (a4, .inr (0, [.int 0, .ref e0, .int 0]))])) (va_A [(a0, .inr (9, [.ref a2, .ref a3, .int 0, .int 0, .int 0])), (a2, .inr (2, [.int 0, .ref a4, .int 8, .int (-1), .int 0, .int 0, .int 0, .int 0])), (a4, .inr (0, [.int 0, .ref e0, .int 0]))] sz)) 1 6 (va_A [(a0, .inr (9, [.ref a2, .ref a3, .int 0, .int 0, .int 0])), (a2, .inr (2, [.int 0, .ref a4, .int 8, .int (-1), .int 0, .int 0, .int 0, .int 0])), (a4, .inr (0, [.int 0, .ref e0, .int 0]))] sz) := by
  refine zk_MW (Qc := fun A => va_Qi (fun r u => r = (fun u : Nat → Nat → Nat => 1) u) (WD D A (fun u => [(a0, .inr (9, [.ref a2, .ref a3, .int 0, .int 0, .int 0])), (a2, .inr (2, [.int 0, .ref a4, .int 8, .int (-1), .int 0, .int 0, .int 0, .int 0])), (a4, .inr (0, [.int 0, .ref e0, .int 0]))])) A) (by decide) (Nat.le_of_ble_eq_true rfl) ?_
  intro p e s m args below meth c A ls hx hb hml hr hlk hown hts hP hD hS hA hC hl hex
  have hK := hC.1
  have hN := hC.2.1
  have hl : lv_has ls 6 [(0, .ref a0), (1, .int p0), (2, .int p1), (3, .int p2), (4, .ref a1)] := hl
  generalize hHH : s.heap = H at hP ⊢
  have hS : va_S A s.heap H [] := by rw [← hHH]; exact hS
  refine lv_aload hx hb dL_addSession_0 (lv_at hl 4 rfl) ?_
  refine lv_iconst (v := 0) hx hb dL_addSession_2 (by decide) ?_
  refine lv_aload_n hx hb dL_addSession_3 rfl (lv_at hl 0 rfl) ?_
  refine lv_iload_n hx hb dL_addSession_4 rfl (lv_at hl 1 rfl) ?_
  refine lv_iload_n hx hb dL_addSession_5 rfl (lv_at hl 2 rfl) ?_
  refine lv_iload_n hx hb dL_addSession_6 rfl (lv_at hl 3 rfl) ?_
  refine zk_x (wr := []) (vx_runV (As := [.int p0, .int p1, .int p2]) (rest := [.int 0, .ref a1]) ⟨hx, hb, hml, hown, hts⟩ (kX10_addSession_0 l hst D yc e0 H.size a0 p0 p1 p2 a2 a3 a4) (cwV 3 hts (lw_V wq855 wq856 wq857 wq1 wq858) rfl rfl rfl (by decide +kernel) ⟨(Nat.le_of_ble_eq_true rfl), (Nat.le_of_ble_eq_true rfl)⟩) (zk_pV hC hP hD hS hA [0, 1, 2] rfl rfl 0 9 rfl rfl) rfl rfl hl.1 rfl (lv_room (Nat.le_of_ble_eq_true rfl)) dL_addSession_7 ⟨(Nat.le_of_ble_eq_true rfl), (Nat.le_of_ble_eq_true rfl)⟩) hP hD hS hA [0, 1, 2] [] rfl rfl rfl (by decide) (fun u1 ce q9 H locs hP hD hS hce hcv hcl => ?_)
  have hP : va_P D vwCl [(a0, .inr (9, [.ref a2, .ref a3, .int 0, .int 0, .int 0])), (a2, .inr (2, [.int 0, .ref a4, .int 8, .int (-1), .int 0, .int 0, .int 0, .int 0])), (a4, .inr (0, [.int 0, .ref e0, .int 0]))] H := hP
  have hD : va_D A [(a0, .inr (9, [.ref a2, .ref a3, .int 0, .int 0, .int 0])), (a2, .inr (2, [.int 0, .ref a4, .int 8, .int (-1), .int 0, .int 0, .int 0, .int 0])), (a4, .inr (0, [.int 0, .ref e0, .int 0]))] := hD
  refine vx_catch (own := RL) (name := "java/lang/IndexOutOfBoundsException") hown (tableOf []) ⟨0, 12, 15, 21⟩ (tableOf [(0, 12, 19, 13), (0, 12, 23, 15)]) hex (fun z hz => False.elim (List.not_mem_nil hz)) (by decide) (by decide) (hts _ wq833) (zk_tab rfl (hN _ wr261 rfl)) hce hcv hcl ?_
  refine W.widen (k := 1) (n := 6) (Nat.le_of_ble_eq_true rfl) (Nat.le_of_ble_eq_true rfl) ?_
  refine lv_astore (lv' := [(5, .ref q9), (0, .ref a0), (1, .int p0), (2, .int p1), (3, .int p2), (4, .ref a1)]) hx hb dL_addSession_15 hl (by decide) rfl (fun ls hl => ?_)
  refine lv_iconst (v := 1) hx hb dL_addSession_17 (by decide) ?_
  exact zk_ri (r0 := fun u => 1) (w1 := fun u => [(a0, .inr (9, [.ref a2, .ref a3, .int 0, .int 0, .int 0])), (a2, .inr (2, [.int 0, .ref a4, .int 8, .int (-1), .int 0, .int 0, .int 0, .int 0])), (a4, .inr (0, [.int 0, .ref e0, .int 0]))]) hx hb hr hlk hP hD hS (fun _ _ => 0) rfl rfl [0, 1, 2] rfl rfl (Nat.le_of_ble_eq_true rfl) (Nat.le_of_ble_eq_true rfl) dL_addSession_18
set_option maxHeartbeats 4000000 in
set_option maxRecDepth 100000 in
theorem kX14_addSession_0 (l : Launch) (hst : l.stackTraces = false) (D : va_G) (yc : Nat → ClassId) (e0 sz : Nat) (a0 : Nat) (p0 : Int32) (p1 : Int32) (p2 : Int32) (a1 : Nat) (a2 : Nat) (a3 : Nat) (a4 : Nat) (a5 : Nat) (a6 : Nat) (a7 : Nat)  : Met l yX14_addSession (ws_ yX14_addSession cX14_addSession 4 (some .int)) ({ frames := 3, cells := 0, slots := 0, locals := 65 }) (PR D yc e0 [(a0, .inr (13, [.int 0, .int 0, .ref a1, .ref a2, .ref a3, .ref a4, .ref a5, .ref a6, .ref a7, .int 0, .long 0]))] sz [.ref a0, .int p0, .int p1, .int p2]) (va_Qi (fun r u => r = (fun u : Nat → Nat → Nat => 0) u) (WD D (va_A [(a0, .inr (13, [.int 0, .int 0, .ref a1, .ref a2, .ref a3, .ref a4, .ref a5, .ref a6, .ref a7, .int 0, .long 0]))] sz) (fun u => [(a0, .inr (13, [.int 0, .int 0, .ref a1, .ref a2, .ref a3, .ref a4, .ref a5, .ref a6, .ref a7, .int 1, .long 0]))])) (va_A [(a0, .inr (13, [.int 0, .int 0, .ref a1, .ref a2, .ref a3, .ref a4, .ref a5, .ref a6, .ref a7, .int 0, .long 0]))] sz)) 0 0 (va_A [(a0, .inr (13, [.int 0, .int 0, .ref a1, .ref a2, .ref a3, .ref a4, .ref a5, .ref a6, .ref a7, .int 0, .long 0]))] sz) := by
  refine zk_M (Qc := fun A => va_Qi (fun r u => r = (fun u : Nat → Nat → Nat => 0) u) (WD D A (fun u => [(a0, .inr (13, [.int 0, .int 0, .ref a1, .ref a2, .ref a3, .ref a4, .ref a5, .ref a6, .ref a7, .int 1, .long 0]))])) A) (by decide) (Nat.le_of_ble_eq_true rfl) ?_
  intro p e s m args below meth c A ls hx hb hml hr hlk hown hnm hts hP hD hS hA hC hl
  have hK := hC.1
  have hN := hC.2.1
  have hl : lv_has ls 4 [(0, .ref a0), (1, .int p0), (2, .int p1), (3, .int p2)] := hl
  generalize hHH : s.heap = H at hP ⊢
  have hS : va_S A s.heap H [] := by rw [← hHH]; exact hS
  refine lv_aload_n hx hb dX14_addSession_0 rfl (lv_at hl 0 rfl) ?_
  refine lv_iload_n hx hb dX14_addSession_1 rfl (lv_at hl 1 rfl) ?_
  refine lv_iload_n hx hb dX14_addSession_2 rfl (lv_at hl 1 rfl) ?_
  refine zk_i (wr := []) (va_runV (As := [.int p0, .int p0]) (rest := []) ⟨hx, hb, hml, hown, hts⟩ (kX14_canBegin_0 l hst D yc e0 H.size a0 p0 a1 a2 a3 a4 a5 a6 a7) (cwV 2 hts (lw_V wq1592 wq1594 ws34 wq6 wq1595) rfl rfl rfl (by decide +kernel) ⟨(Nat.le_of_ble_eq_true rfl), (Nat.le_of_ble_eq_true rfl)⟩) (zk_pV hC hP hD hS hA [0] rfl rfl 0 13 rfl rfl) rfl rfl hl.1 rfl (lv_room (Nat.le_of_ble_eq_true rfl)) dX14_addSession_3 ⟨(Nat.le_of_ble_eq_true rfl), (Nat.le_of_ble_eq_true rfl)⟩) hP hD hS hA [0] [] rfl rfl rfl (by decide) (fun u1 H locs hP hD hS => ?_)
  have hP : va_P D vwCl [(a0, .inr (13, [.int 0, .int 0, .ref a1, .ref a2, .ref a3, .ref a4, .ref a5, .ref a6, .ref a7, .int 1, .long 0]))] H := hP
  have hD : va_D A [(a0, .inr (13, [.int 0, .int 0, .ref a1, .ref a2, .ref a3, .ref a4, .ref a5, .ref a6, .ref a7, .int 1, .long 0]))] := hD
  refine W.widen (k := 0) (n := 0) (Nat.le_of_ble_eq_true rfl) (Nat.le_of_ble_eq_true rfl) ?_
  refine lv_if_ne (tgt := 11) hx hb dX14_addSession_6 (by decide) (fun h9 => absurd (by decide) h9) (fun _ => ?_)
  refine lv_iconst (v := 0) hx hb dX14_addSession_9 (by decide) ?_
  exact zk_ri (r0 := fun u => 0) (w1 := fun u => [(a0, .inr (13, [.int 0, .int 0, .ref a1, .ref a2, .ref a3, .ref a4, .ref a5, .ref a6, .ref a7, .int 1, .long 0]))]) hx hb hr hlk hP hD hS (fun _ _ => 0) rfl rfl [0] rfl rfl (Nat.le_of_ble_eq_true rfl) (Nat.le_of_ble_eq_true rfl) dX14_addSession_10
set_option maxHeartbeats 4000000 in
set_option maxRecDepth 100000 in
theorem kX10_addJoin_0 (l : Launch) (hst : l.stackTraces = false) (D : va_G) (yc : Nat → ClassId) (e0 sz : Nat) (a0 : Nat) (p0 : Int32) (p1 : Int32) (p2 : Int32) (p3 : Int32) (p4 : Int32) (a1 : Nat) (a2 : Nat) (a3 : Nat)  : vx_Met l yX10_addJoin (ws_ yX10_addJoin cX10_addJoin 9 (some .int)) ({ frames := 7, cells := 1, slots := 6, locals := 103 }) (PR D yc e0 [(a0, .inr (9, [.ref a1, .ref a2, .int 0, .int 0, .int 0])), (a1, .inr (2, [.int 0, .ref a3, .int 8, .int (-1), .int 0, .int 0, .int 0, .int 0])), (a3, .inr (0, [.int 0, .ref e0, .int 0]))] sz [.ref a0, .int p0, .int p1, .int p2, .int p3, .int p4]) (fun _ _ _ _ => False) (zk_X D (va_A [(a0, .inr (9, [.ref a1, .ref a2, .int 0, .int 0, .int 0])), (a1, .inr (2, [.int 0, .ref a3, .int 8, .int (-1), .int 0, .int 0, .int 0, .int 0])), (a3, .inr (0, [.int 0, .ref e0, .int 0]))] sz) "java/lang/IndexOutOfBoundsException" (fun u => [(a0, .inr (9, [.ref a1, .ref a2, .int 0, .int 0, .int 0])), (a1, .inr (2, [.int 0, .ref a3, .int 8, .int (-1), .int 0, .int 0, .int 0, .int 0])), (a3, .inr (0, [.int 0, .ref e0, .int 0]))])) 1 6 (va_A [(a0, .inr (9, [.ref a1, .ref a2, .int 0, .int 0, .int 0])), (a1, .inr (2, [.int 0, .ref a3, .int 8, .int (-1), .int 0, .int 0, .int 0, .int 0])), (a3, .inr (0, [.int 0, .ref e0, .int 0]))] sz) := by
  refine zk_MX (by decide) (Nat.le_of_ble_eq_true rfl) ?_
  intro p e s m args below meth c A ls hx hb hml hr hlk hown hnm hts hP hD hS hA hC hl hnx
  have hK := hC.1
  have hN := hC.2.1
  have hl : lv_has ls 9 [(0, .ref a0), (1, .int p0), (2, .int p1), (3, .int p2), (4, .int p3), (5, .int p4)] := hl
  generalize hHH : s.heap = H at hP ⊢
  have hS : va_S A s.heap H [] := by rw [← hHH]; exact hS
  refine W.widen (k := 0) (n := 0) (Nat.le_of_ble_eq_true rfl) (Nat.le_of_ble_eq_true rfl) ?_
  refine lv_aload_n hx hb dX10_addJoin_0 rfl (lv_at hl 0 rfl) ?_
  refine lv_iload_n hx hb dX10_addJoin_1 rfl (lv_at hl 1 rfl) ?_
  refine zk_x (wr := []) (vx_runV (As := [.int p0]) (rest := []) ⟨hx, hb, hml, hown, hts⟩ (kX10_stageOf_0 l hst D yc e0 H.size a0 p0 a1 a2 a3) (cwV 1 hts (lw_V wq254 wq256 ws2 wq1 wq257) rfl rfl rfl (by decide +kernel) ⟨(Nat.le_of_ble_eq_true rfl), (Nat.le_of_ble_eq_true rfl)⟩) (zk_pV hC hP hD hS hA [0, 1, 2] rfl rfl 0 9 rfl rfl) rfl rfl hl.1 rfl (lv_room (Nat.le_of_ble_eq_true rfl)) dX10_addJoin_2 ⟨(Nat.le_of_ble_eq_true rfl), (Nat.le_of_ble_eq_true rfl)⟩) hP hD hS hA [0, 1, 2] [] rfl rfl rfl (by decide) (fun u1 ce q9 H locs hP hD hS hce hcv hcl => ?_)
  have hP : va_P D vwCl [(a0, .inr (9, [.ref a1, .ref a2, .int 0, .int 0, .int 0])), (a1, .inr (2, [.int 0, .ref a3, .int 8, .int (-1), .int 0, .int 0, .int 0, .int 0])), (a3, .inr (0, [.int 0, .ref e0, .int 0]))] H := hP
  have hD : va_D A [(a0, .inr (9, [.ref a1, .ref a2, .int 0, .int 0, .int 0])), (a1, .inr (2, [.int 0, .ref a3, .int 8, .int (-1), .int 0, .int 0, .int 0, .int 0])), (a3, .inr (0, [.int 0, .ref e0, .int 0]))] := hD
  exact vx_out (fun x9 hx9 => (hnx x9 hx9).elim) hlk hce hcv hcl (zk_out hP hD hS (fun _ _ => 0) [0, 1, 2] rfl rfl) hS.2.2 (Nat.le_of_ble_eq_true rfl) (Nat.le_of_ble_eq_true rfl)
set_option maxHeartbeats 4000000 in
set_option maxRecDepth 100000 in
theorem kL_addJoin_0 (l : Launch) (hst : l.stackTraces = false) (D : va_G) (yc : Nat → ClassId) (e0 sz : Nat) (a0 : Nat) (p0 : Int32) (p1 : Int32) (p2 : Int32) (p3 : Int32) (p4 : Int32) (a1 : Nat) (a2 : Nat) (a3 : Nat) (a4 : Nat)  : Met l yL_addJoin (ww_ yL_addJoin cL_addJoin 8 (some .int) [(0, 16, 19, 21), (0, 16, 23, 13), (0, 16, 27, 15)]) ({ frames := 8, cells := 1, slots := 6, locals := 131 }) (PR D yc e0 [(a0, .inr (9, [.ref a2, .ref a3, .int 0, .int 0, .int 0])), (a2, .inr (2, [.int 0, .ref a4, .int 8, .int (-1), .int 0, .int 0, .int 0, .int 0])), (a4, .inr (0, [.int 0, .ref e0, .int 0]))] sz [.ref a0, .int p0, .int p1, .int p2, .int p3, .int p4, .ref a1]) (va_Qi (fun r u => r = (fun u : Nat → Nat → Nat => 1) u) (WD D (va_A [(a0, .inr (9, [.ref a2, .ref a3, .int 0, .int 0, .int 0])), (a2, .inr (2, [.int 0, .ref a4, .int 8, .int (-1), .int 0, .int 0, .int 0, .int 0])), (a4, .inr (0, [.int 0, .ref e0, .int 0]))] sz) (fun u => [(a0, .inr (9, [.ref a2, .ref a3, .int 0, .int 0, .int 0])), (a2, .inr (2, [.int 0, .ref a4, .int 8, .int (-1), .int 0, .int 0, .int 0, .int 0])), (a4, .inr (0, [.int 0, .ref e0, .int 0]))])) (va_A [(a0, .inr (9, [.ref a2, .ref a3, .int 0, .int 0, .int 0])), (a2, .inr (2, [.int 0, .ref a4, .int 8, .int (-1), .int 0, .int 0, .int 0, .int 0])), (a4, .inr (0, [.int 0, .ref e0, .int 0]))] sz)) 1 6 (va_A [(a0, .inr (9, [.ref a2, .ref a3, .int 0, .int 0, .int 0])), (a2, .inr (2, [.int 0, .ref a4, .int 8, .int (-1), .int 0, .int 0, .int 0, .int 0])), (a4, .inr (0, [.int 0, .ref e0, .int 0]))] sz) := by
  refine zk_MW (Qc := fun A => va_Qi (fun r u => r = (fun u : Nat → Nat → Nat => 1) u) (WD D A (fun u => [(a0, .inr (9, [.ref a2, .ref a3, .int 0, .int 0, .int 0])), (a2, .inr (2, [.int 0, .ref a4, .int 8, .int (-1), .int 0, .int 0, .int 0, .int 0])), (a4, .inr (0, [.int 0, .ref e0, .int 0]))])) A) (by decide) (Nat.le_of_ble_eq_true rfl) ?_
  intro p e s m args below meth c A ls hx hb hml hr hlk hown hts hP hD hS hA hC hl hex
  have hK := hC.1
  have hN := hC.2.1
  have hl : lv_has ls 8 [(0, .ref a0), (1, .int p0), (2, .int p1), (3, .int p2), (4, .int p3), (5, .int p4), (6, .ref a1)] := hl
  generalize hHH : s.heap = H at hP ⊢
  have hS : va_S A s.heap H [] := by rw [← hHH]; exact hS
  refine lv_aload hx hb dL_addJoin_0 (lv_at hl 6 rfl) ?_
  refine lv_iconst (v := 0) hx hb dL_addJoin_2 (by decide) ?_
  refine lv_aload_n hx hb dL_addJoin_3 rfl (lv_at hl 0 rfl) ?_
  refine lv_iload_n hx hb dL_addJoin_4 rfl (lv_at hl 1 rfl) ?_
  refine lv_iload_n hx hb dL_addJoin_5 rfl (lv_at hl 2 rfl) ?_
  refine lv_iload_n hx hb dL_addJoin_6 rfl (lv_at hl 3 rfl) ?_
  refine lv_iload hx hb dL_addJoin_7 (lv_at hl 4 rfl) ?_
  refine lv_iload hx hb dL_addJoin_9 (lv_at hl 5 rfl) ?_
  refine zk_x (wr := []) (vx_runV (As := [.int p0, .int p1, .int p2, .int p3, .int p4]) (rest := [.int 0, .ref a1]) ⟨hx, hb, hml, hown, hts⟩ (kX10_addJoin_0 l hst D yc e0 H.size a0 p0 p1 p2 p3 p4 a2 a3 a4) (cwV 5 hts (lw_V wq862 wq863 wq864 wq1 wq865) rfl rfl rfl (by decide +kernel) ⟨(Nat.le_of_ble_eq_true rfl), (Nat.le_of_ble_eq_true rfl)⟩) (zk_pV hC hP hD hS hA [0, 1, 2] rfl rfl 0 9 rfl rfl) rfl rfl hl.1 rfl (lv_room (Nat.le_of_ble_eq_true rfl)) dL_addJoin_11 ⟨(Nat.le_of_ble_eq_true rfl), (Nat.le_of_ble_eq_true rfl)⟩) hP hD hS hA [0, 1, 2] [] rfl rfl rfl (by decide) (fun u1 ce q9 H locs hP hD hS hce hcv hcl => ?_)
  have hP : va_P D vwCl [(a0, .inr (9, [.ref a2, .ref a3, .int 0, .int 0, .int 0])), (a2, .inr (2, [.int 0, .ref a4, .int 8, .int (-1), .int 0, .int 0, .int 0, .int 0])), (a4, .inr (0, [.int 0, .ref e0, .int 0]))] H := hP
  have hD : va_D A [(a0, .inr (9, [.ref a2, .ref a3, .int 0, .int 0, .int 0])), (a2, .inr (2, [.int 0, .ref a4, .int 8, .int (-1), .int 0, .int 0, .int 0, .int 0])), (a4, .inr (0, [.int 0, .ref e0, .int 0]))] := hD
  refine vx_catch (own := RL) (name := "java/lang/IndexOutOfBoundsException") hown (tableOf []) ⟨0, 16, 19, 21⟩ (tableOf [(0, 16, 23, 13), (0, 16, 27, 15)]) hex (fun z hz => False.elim (List.not_mem_nil hz)) (by decide) (by decide) (hts _ wq833) (zk_tab rfl (hN _ wr261 rfl)) hce hcv hcl ?_
  refine W.widen (k := 1) (n := 6) (Nat.le_of_ble_eq_true rfl) (Nat.le_of_ble_eq_true rfl) ?_
  refine lv_astore (lv' := [(7, .ref q9), (0, .ref a0), (1, .int p0), (2, .int p1), (3, .int p2), (4, .int p3), (5, .int p4), (6, .ref a1)]) hx hb dL_addJoin_19 hl (by decide) rfl (fun ls hl => ?_)
  refine lv_iconst (v := 1) hx hb dL_addJoin_21 (by decide) ?_
  exact zk_ri (r0 := fun u => 1) (w1 := fun u => [(a0, .inr (9, [.ref a2, .ref a3, .int 0, .int 0, .int 0])), (a2, .inr (2, [.int 0, .ref a4, .int 8, .int (-1), .int 0, .int 0, .int 0, .int 0])), (a4, .inr (0, [.int 0, .ref e0, .int 0]))]) hx hb hr hlk hP hD hS (fun _ _ => 0) rfl rfl [0, 1, 2] rfl rfl (Nat.le_of_ble_eq_true rfl) (Nat.le_of_ble_eq_true rfl) dL_addJoin_22
set_option maxHeartbeats 4000000 in
set_option maxRecDepth 100000 in
theorem kX14_canBegin_1 (l : Launch) (hst : l.stackTraces = false) (D : va_G) (yc : Nat → ClassId) (e0 sz : Nat) (a0 : Nat) (p0 : Int32) (p1 : Int32) (a1 : Nat) (a2 : Nat) (a3 : Nat) (a4 : Nat) (a5 : Nat) (a6 : Nat) (a7 : Nat)  : Met l yX14_canBegin (ws_ yX14_canBegin cX14_canBegin 3 (some .boolean)) ({ frames := 2, cells := 0, slots := 0, locals := 43 }) (PR D yc e0 [(a0, .inr (13, [.int 0, .int 0, .ref a1, .ref a2, .ref a3, .ref a4, .ref a5, .ref a6, .ref a7, .int 0, .long 0]))] sz [.ref a0, .int p0, .int p1]) (va_Qi (fun r u => r = (fun u : Nat → Nat → Nat => 0) u) (WD D (va_A [(a0, .inr (13, [.int 0, .int 0, .ref a1, .ref a2, .ref a3, .ref a4, .ref a5, .ref a6, .ref a7, .int 0, .long 0]))] sz) (fun u => [(a0, .inr (13, [.int 0, .int 0, .ref a1, .ref a2, .ref a3, .ref a4, .ref a5, .ref a6, .ref a7, .int 1, .long 0]))])) (va_A [(a0, .inr (13, [.int 0, .int 0, .ref a1, .ref a2, .ref a3, .ref a4, .ref a5, .ref a6, .ref a7, .int 0, .long 0]))] sz)) 0 0 (va_A [(a0, .inr (13, [.int 0, .int 0, .ref a1, .ref a2, .ref a3, .ref a4, .ref a5, .ref a6, .ref a7, .int 0, .long 0]))] sz) := by
  refine zk_M (Qc := fun A => va_Qi (fun r u => r = (fun u : Nat → Nat → Nat => 0) u) (WD D A (fun u => [(a0, .inr (13, [.int 0, .int 0, .ref a1, .ref a2, .ref a3, .ref a4, .ref a5, .ref a6, .ref a7, .int 1, .long 0]))])) A) (by decide) (Nat.le_of_ble_eq_true rfl) ?_
  intro p e s m args below meth c A ls hx hb hml hr hlk hown hnm hts hP hD hS hA hC hl
  have hK := hC.1
  have hN := hC.2.1
  have hl : lv_has ls 3 [(0, .ref a0), (1, .int p0), (2, .int p1)] := hl
  generalize hHH : s.heap = H at hP ⊢
  have hS : va_S A s.heap H [] := by rw [← hHH]; exact hS
  refine lv_aload_n hx hb dX14_canBegin_0 rfl (lv_at hl 0 rfl) ?_
  refine lv_aload_n hx hb dX14_canBegin_1 rfl (lv_at hl 0 rfl) ?_
  refine lv_iload_n hx hb dX14_canBegin_2 rfl (lv_at hl 1 rfl) ?_
  refine zk_i (wr := []) (va_runV (As := [.int p0]) (rest := [.ref a0]) ⟨hx, hb, hml, hown, hts⟩ (kX14_isStage_0 l hst D yc e0 H.size a0 p0 a1 a2 a3 a4 a5 a6 a7) (cwV 1 hts (lw_V wq1596 wq1598 ws35 wq6 wq1599) rfl rfl rfl (by decide +kernel) ⟨(Nat.le_of_ble_eq_true rfl), (Nat.le_of_ble_eq_true rfl)⟩) (zk_pV hC hP hD hS hA [0] rfl rfl 0 13 rfl rfl) rfl rfl hl.1 rfl (lv_room (Nat.le_of_ble_eq_true rfl)) dX14_canBegin_3 ⟨(Nat.le_of_ble_eq_true rfl), (Nat.le_of_ble_eq_true rfl)⟩) hP hD hS hA [0] [] rfl rfl rfl (by decide) (fun u1 H locs hP hD hS => ?_)
  have hP : va_P D vwCl [(a0, .inr (13, [.int 0, .int 0, .ref a1, .ref a2, .ref a3, .ref a4, .ref a5, .ref a6, .ref a7, .int 0, .long 0]))] H := hP
  have hD : va_D A [(a0, .inr (13, [.int 0, .int 0, .ref a1, .ref a2, .ref a3, .ref a4, .ref a5, .ref a6, .ref a7, .int 0, .long 0]))] := hD
  refine W.widen (k := 0) (n := 0) (Nat.le_of_ble_eq_true rfl) (Nat.le_of_ble_eq_true rfl) ?_
  refine lv_if_eq (tgt := 17) hx hb dX14_canBegin_6 (by decide) (fun _ => ?_) (fun h9 => absurd (by decide) h9)
  refine lv_iconst (v := 1) hx hb dX14_canBegin_17 (by decide) ?_
  refine lv_goto (tgt := 42) hx hb dX14_canBegin_18 (by decide) ?_
  refine va_put (D := D) (ci := 13) (v := .int 1) (ty := .int) (C := RX14) (T := TX14) (N := 11) hx hb hts iX14 tyX14 tyX14_ok nmX14 hown hK hP hD hS 0 rfl rfl 9 (by decide) (hts _ wq1542) (fun _ h9 => h9) rfl (by decide +kernel) rfl rfl (Nat.le_of_ble_eq_true rfl) dX14_canBegin_42 (fun H locs hP hD hS => ?_)
  have hP : va_P D vwCl [(a0, .inr (13, [.int 0, .int 0, .ref a1, .ref a2, .ref a3, .ref a4, .ref a5, .ref a6, .ref a7, .int 1, .long 0]))] H := hP
  have hD : va_D A [(a0, .inr (13, [.int 0, .int 0, .ref a1, .ref a2, .ref a3, .ref a4, .ref a5, .ref a6, .ref a7, .int 1, .long 0]))] := hD
  refine lv_aload_n hx hb dX14_canBegin_45 rfl (lv_at hl 0 rfl) ?_
  refine va_get (D := D) (ci := 13) (v := .int 1) (C := RX14) (T := TX14) (N := 11) hx hb hts iX14 hown hK hP 0 rfl rfl 9 (by decide) (hts _ wq1542) (fun _ h9 => h9) rfl dX14_canBegin_46 ?_
  refine lv_if_ne (tgt := 56) hx hb dX14_canBegin_49 (by decide) (fun _ => ?_) (fun h9 => absurd h9 (by decide))
  refine lv_iconst (v := 0) hx hb dX14_canBegin_56 (by decide) ?_
  exact zk_ri (r0 := fun u => 0) (w1 := fun u => [(a0, .inr (13, [.int 0, .int 0, .ref a1, .ref a2, .ref a3, .ref a4, .ref a5, .ref a6, .ref a7, .int 1, .long 0]))]) hx hb hr hlk hP hD hS (fun _ _ => 0) rfl rfl [0] rfl rfl (Nat.le_of_ble_eq_true rfl) (Nat.le_of_ble_eq_true rfl) dX14_canBegin_57
set_option maxHeartbeats 4000000 in
set_option maxRecDepth 100000 in
theorem kX14_addJoin_0 (l : Launch) (hst : l.stackTraces = false) (D : va_G) (yc : Nat → ClassId) (e0 sz : Nat) (a0 : Nat) (p0 : Int32) (p1 : Int32) (p2 : Int32) (p3 : Int32) (p4 : Int32) (a1 : Nat) (a2 : Nat) (a3 : Nat) (a4 : Nat) (a5 : Nat) (a6 : Nat) (a7 : Nat)  : Met l yX14_addJoin (ws_ yX14_addJoin cX14_addJoin 6 (some .int)) ({ frames := 3, cells := 0, slots := 0, locals := 65 }) (PR D yc e0 [(a0, .inr (13, [.int 0, .int 0, .ref a1, .ref a2, .ref a3, .ref a4, .ref a5, .ref a6, .ref a7, .int 0, .long 0]))] sz [.ref a0, .int p0, .int p1, .int p2, .int p3, .int p4]) (va_Qi (fun r u => r = (fun u : Nat → Nat → Nat => 0) u) (WD D (va_A [(a0, .inr (13, [.int 0, .int 0, .ref a1, .ref a2, .ref a3, .ref a4, .ref a5, .ref a6, .ref a7, .int 0, .long 0]))] sz) (fun u => [(a0, .inr (13, [.int 0, .int 0, .ref a1, .ref a2, .ref a3, .ref a4, .ref a5, .ref a6, .ref a7, .int 1, .long 0]))])) (va_A [(a0, .inr (13, [.int 0, .int 0, .ref a1, .ref a2, .ref a3, .ref a4, .ref a5, .ref a6, .ref a7, .int 0, .long 0]))] sz)) 0 0 (va_A [(a0, .inr (13, [.int 0, .int 0, .ref a1, .ref a2, .ref a3, .ref a4, .ref a5, .ref a6, .ref a7, .int 0, .long 0]))] sz) := by
  refine zk_M (Qc := fun A => va_Qi (fun r u => r = (fun u : Nat → Nat → Nat => 0) u) (WD D A (fun u => [(a0, .inr (13, [.int 0, .int 0, .ref a1, .ref a2, .ref a3, .ref a4, .ref a5, .ref a6, .ref a7, .int 1, .long 0]))])) A) (by decide) (Nat.le_of_ble_eq_true rfl) ?_
  intro p e s m args below meth c A ls hx hb hml hr hlk hown hnm hts hP hD hS hA hC hl
  have hK := hC.1
  have hN := hC.2.1
  have hl : lv_has ls 6 [(0, .ref a0), (1, .int p0), (2, .int p1), (3, .int p2), (4, .int p3), (5, .int p4)] := hl
  generalize hHH : s.heap = H at hP ⊢
  have hS : va_S A s.heap H [] := by rw [← hHH]; exact hS
  refine lv_aload_n hx hb dX14_addJoin_0 rfl (lv_at hl 0 rfl) ?_
  refine lv_iload_n hx hb dX14_addJoin_1 rfl (lv_at hl 1 rfl) ?_
  refine lv_iload_n hx hb dX14_addJoin_2 rfl (lv_at hl 2 rfl) ?_
  refine zk_i (wr := []) (va_runV (As := [.int p0, .int p1]) (rest := []) ⟨hx, hb, hml, hown, hts⟩ (kX14_canBegin_1 l hst D yc e0 H.size a0 p0 p1 a1 a2 a3 a4 a5 a6 a7) (cwV 2 hts (lw_V wq1592 wq1594 ws34 wq6 wq1595) rfl rfl rfl (by decide +kernel) ⟨(Nat.le_of_ble_eq_true rfl), (Nat.le_of_ble_eq_true rfl)⟩) (zk_pV hC hP hD hS hA [0] rfl rfl 0 13 rfl rfl) rfl rfl hl.1 rfl (lv_room (Nat.le_of_ble_eq_true rfl)) dX14_addJoin_3 ⟨(Nat.le_of_ble_eq_true rfl), (Nat.le_of_ble_eq_true rfl)⟩) hP hD hS hA [0] [] rfl rfl rfl (by decide) (fun u1 H locs hP hD hS => ?_)
  have hP : va_P D vwCl [(a0, .inr (13, [.int 0, .int 0, .ref a1, .ref a2, .ref a3, .ref a4, .ref a5, .ref a6, .ref a7, .int 1, .long 0]))] H := hP
  have hD : va_D A [(a0, .inr (13, [.int 0, .int 0, .ref a1, .ref a2, .ref a3, .ref a4, .ref a5, .ref a6, .ref a7, .int 1, .long 0]))] := hD
  refine W.widen (k := 0) (n := 0) (Nat.le_of_ble_eq_true rfl) (Nat.le_of_ble_eq_true rfl) ?_
  refine lv_if_ne (tgt := 11) hx hb dX14_addJoin_6 (by decide) (fun h9 => absurd (by decide) h9) (fun _ => ?_)
  refine lv_iconst (v := 0) hx hb dX14_addJoin_9 (by decide) ?_
  exact zk_ri (r0 := fun u => 0) (w1 := fun u => [(a0, .inr (13, [.int 0, .int 0, .ref a1, .ref a2, .ref a3, .ref a4, .ref a5, .ref a6, .ref a7, .int 1, .long 0]))]) hx hb hr hlk hP hD hS (fun _ _ => 0) rfl rfl [0] rfl rfl (Nat.le_of_ble_eq_true rfl) (Nat.le_of_ble_eq_true rfl) dX14_addJoin_10
set_option maxHeartbeats 4000000 in
set_option maxRecDepth 100000 in
theorem kX10_addMerge_0 (l : Launch) (hst : l.stackTraces = false) (D : va_G) (yc : Nat → ClassId) (e0 sz : Nat) (a0 : Nat) (p0 : Int32) (p1 : Int32) (a1 : Nat) (a2 : Nat) (a3 : Nat)  : vx_Met l yX10_addMerge (ws_ yX10_addMerge cX10_addMerge 5 (some .int)) ({ frames := 7, cells := 1, slots := 6, locals := 103 }) (PR D yc e0 [(a0, .inr (9, [.ref a1, .ref a2, .int 0, .int 0, .int 0])), (a1, .inr (2, [.int 0, .ref a3, .int 8, .int (-1), .int 0, .int 0, .int 0, .int 0])), (a3, .inr (0, [.int 0, .ref e0, .int 0]))] sz [.ref a0, .int p0, .int p1]) (fun _ _ _ _ => False) (zk_X D (va_A [(a0, .inr (9, [.ref a1, .ref a2, .int 0, .int 0, .int 0])), (a1, .inr (2, [.int 0, .ref a3, .int 8, .int (-1), .int 0, .int 0, .int 0, .int 0])), (a3, .inr (0, [.int 0, .ref e0, .int 0]))] sz) "java/lang/IndexOutOfBoundsException" (fun u => [(a0, .inr (9, [.ref a1, .ref a2, .int 0, .int 0, .int 0])), (a1, .inr (2, [.int 0, .ref a3, .int 8, .int (-1), .int 0, .int 0, .int 0, .int 0])), (a3, .inr (0, [.int 0, .ref e0, .int 0]))])) 1 6 (va_A [(a0, .inr (9, [.ref a1, .ref a2, .int 0, .int 0, .int 0])), (a1, .inr (2, [.int 0, .ref a3, .int 8, .int (-1), .int 0, .int 0, .int 0, .int 0])), (a3, .inr (0, [.int 0, .ref e0, .int 0]))] sz) := by
  refine zk_MX (by decide) (Nat.le_of_ble_eq_true rfl) ?_
  intro p e s m args below meth c A ls hx hb hml hr hlk hown hnm hts hP hD hS hA hC hl hnx
  have hK := hC.1
  have hN := hC.2.1
  have hl : lv_has ls 5 [(0, .ref a0), (1, .int p0), (2, .int p1)] := hl
  generalize hHH : s.heap = H at hP ⊢
  have hS : va_S A s.heap H [] := by rw [← hHH]; exact hS
  refine W.widen (k := 0) (n := 0) (Nat.le_of_ble_eq_true rfl) (Nat.le_of_ble_eq_true rfl) ?_
  refine lv_aload_n hx hb dX10_addMerge_0 rfl (lv_at hl 0 rfl) ?_
  refine lv_iload_n hx hb dX10_addMerge_1 rfl (lv_at hl 1 rfl) ?_
  refine zk_x (wr := []) (vx_runV (As := [.int p0]) (rest := []) ⟨hx, hb, hml, hown, hts⟩ (kX10_stageOf_0 l hst D yc e0 H.size a0 p0 a1 a2 a3) (cwV 1 hts (lw_V wq254 wq256 ws2 wq1 wq257) rfl rfl rfl (by decide +kernel) ⟨(Nat.le_of_ble_eq_true rfl), (Nat.le_of_ble_eq_true rfl)⟩) (zk_pV hC hP hD hS hA [0, 1, 2] rfl rfl 0 9 rfl rfl) rfl rfl hl.1 rfl (lv_room (Nat.le_of_ble_eq_true rfl)) dX10_addMerge_2 ⟨(Nat.le_of_ble_eq_true rfl), (Nat.le_of_ble_eq_true rfl)⟩) hP hD hS hA [0, 1, 2] [] rfl rfl rfl (by decide) (fun u1 ce q9 H locs hP hD hS hce hcv hcl => ?_)
  have hP : va_P D vwCl [(a0, .inr (9, [.ref a1, .ref a2, .int 0, .int 0, .int 0])), (a1, .inr (2, [.int 0, .ref a3, .int 8, .int (-1), .int 0, .int 0, .int 0, .int 0])), (a3, .inr (0, [.int 0, .ref e0, .int 0]))] H := hP
  have hD : va_D A [(a0, .inr (9, [.ref a1, .ref a2, .int 0, .int 0, .int 0])), (a1, .inr (2, [.int 0, .ref a3, .int 8, .int (-1), .int 0, .int 0, .int 0, .int 0])), (a3, .inr (0, [.int 0, .ref e0, .int 0]))] := hD
  exact vx_out (fun x9 hx9 => (hnx x9 hx9).elim) hlk hce hcv hcl (zk_out hP hD hS (fun _ _ => 0) [0, 1, 2] rfl rfl) hS.2.2 (Nat.le_of_ble_eq_true rfl) (Nat.le_of_ble_eq_true rfl)
set_option maxHeartbeats 4000000 in
set_option maxRecDepth 100000 in
theorem kL_addMerge_0 (l : Launch) (hst : l.stackTraces = false) (D : va_G) (yc : Nat → ClassId) (e0 sz : Nat) (a0 : Nat) (p0 : Int32) (p1 : Int32) (a1 : Nat) (a2 : Nat) (a3 : Nat) (a4 : Nat)  : Met l yL_addMerge (ww_ yL_addMerge cL_addMerge 5 (some .int) [(0, 10, 13, 21), (0, 10, 17, 13), (0, 10, 21, 15)]) ({ frames := 8, cells := 1, slots := 6, locals := 127 }) (PR D yc e0 [(a0, .inr (9, [.ref a2, .ref a3, .int 0, .int 0, .int 0])), (a2, .inr (2, [.int 0, .ref a4, .int 8, .int (-1), .int 0, .int 0, .int 0, .int 0])), (a4, .inr (0, [.int 0, .ref e0, .int 0]))] sz [.ref a0, .int p0, .int p1, .ref a1]) (va_Qi (fun r u => r = (fun u : Nat → Nat → Nat => 1) u) (WD D (va_A [(a0, .inr (9, [.ref a2, .ref a3, .int 0, .int 0, .int 0])), (a2, .inr (2, [.int 0, .ref a4, .int 8, .int (-1), .int 0, .int 0, .int 0, .int 0])), (a4, .inr (0, [.int 0, .ref e0, .int 0]))] sz) (fun u => [(a0, .inr (9, [.ref a2, .ref a3, .int 0, .int 0, .int 0])), (a2, .inr (2, [.int 0, .ref a4, .int 8, .int (-1), .int 0, .int 0, .int 0, .int 0])), (a4, .inr (0, [.int 0, .ref e0, .int 0]))])) (va_A [(a0, .inr (9, [.ref a2, .ref a3, .int 0, .int 0, .int 0])), (a2, .inr (2, [.int 0, .ref a4, .int 8, .int (-1), .int 0, .int 0, .int 0, .int 0])), (a4, .inr (0, [.int 0, .ref e0, .int 0]))] sz)) 1 6 (va_A [(a0, .inr (9, [.ref a2, .ref a3, .int 0, .int 0, .int 0])), (a2, .inr (2, [.int 0, .ref a4, .int 8, .int (-1), .int 0, .int 0, .int 0, .int 0])), (a4, .inr (0, [.int 0, .ref e0, .int 0]))] sz) := by
  refine zk_MW (Qc := fun A => va_Qi (fun r u => r = (fun u : Nat → Nat → Nat => 1) u) (WD D A (fun u => [(a0, .inr (9, [.ref a2, .ref a3, .int 0, .int 0, .int 0])), (a2, .inr (2, [.int 0, .ref a4, .int 8, .int (-1), .int 0, .int 0, .int 0, .int 0])), (a4, .inr (0, [.int 0, .ref e0, .int 0]))])) A) (by decide) (Nat.le_of_ble_eq_true rfl) ?_
  intro p e s m args below meth c A ls hx hb hml hr hlk hown hts hP hD hS hA hC hl hex
  have hK := hC.1
  have hN := hC.2.1
  have hl : lv_has ls 5 [(0, .ref a0), (1, .int p0), (2, .int p1), (3, .ref a1)] := hl
  generalize hHH : s.heap = H at hP ⊢
  have hS : va_S A s.heap H [] := by rw [← hHH]; exact hS
  refine lv_aload_n hx hb dL_addMerge_0 rfl (lv_at hl 3 rfl) ?_
  refine lv_iconst (v := 0) hx hb dL_addMerge_1 (by decide) ?_
  refine lv_aload_n hx hb dL_addMerge_2 rfl (lv_at hl 0 rfl) ?_
  refine lv_iload_n hx hb dL_addMerge_3 rfl (lv_at hl 1 rfl) ?_
  refine lv_iload_n hx hb dL_addMerge_4 rfl (lv_at hl 2 rfl) ?_
  refine zk_x (wr := []) (vx_runV (As := [.int p0, .int p1]) (rest := [.int 0, .ref a1]) ⟨hx, hb, hml, hown, hts⟩ (kX10_addMerge_0 l hst D yc e0 H.size a0 p0 p1 a2 a3 a4) (cwV 2 hts (lw_V wq869 wq870 wq871 wq1 wq872) rfl rfl rfl (by decide +kernel) ⟨(Nat.le_of_ble_eq_true rfl), (Nat.le_of_ble_eq_true rfl)⟩) (zk_pV hC hP hD hS hA [0, 1, 2] rfl rfl 0 9 rfl rfl) rfl rfl hl.1 rfl (lv_room (Nat.le_of_ble_eq_true rfl)) dL_addMerge_5 ⟨(Nat.le_of_ble_eq_true rfl), (Nat.le_of_ble_eq_true rfl)⟩) hP hD hS hA [0, 1, 2] [] rfl rfl rfl (by decide) (fun u1 ce q9 H locs hP hD hS hce hcv hcl => ?_)
  have hP : va_P D vwCl [(a0, .inr (9, [.ref a2, .ref a3, .int 0, .int 0, .int 0])), (a2, .inr (2, [.int 0, .ref a4, .int 8, .int (-1), .int 0, .int 0, .int 0, .int 0])), (a4, .inr (0, [.int 0, .ref e0, .int 0]))] H := hP
  have hD : va_D A [(a0, .inr (9, [.ref a2, .ref a3, .int 0, .int 0, .int 0])), (a2, .inr (2, [.int 0, .ref a4, .int 8, .int (-1), .int 0, .int 0, .int 0, .int 0])), (a4, .inr (0, [.int 0, .ref e0, .int 0]))] := hD
  refine vx_catch (own := RL) (name := "java/lang/IndexOutOfBoundsException") hown (tableOf []) ⟨0, 10, 13, 21⟩ (tableOf [(0, 10, 17, 13), (0, 10, 21, 15)]) hex (fun z hz => False.elim (List.not_mem_nil hz)) (by decide) (by decide) (hts _ wq833) (zk_tab rfl (hN _ wr261 rfl)) hce hcv hcl ?_
  refine W.widen (k := 1) (n := 6) (Nat.le_of_ble_eq_true rfl) (Nat.le_of_ble_eq_true rfl) ?_
  refine lv_astore (lv' := [(4, .ref q9), (0, .ref a0), (1, .int p0), (2, .int p1), (3, .ref a1)]) hx hb dL_addMerge_13 hl (by decide) rfl (fun ls hl => ?_)
  refine lv_iconst (v := 1) hx hb dL_addMerge_15 (by decide) ?_
  exact zk_ri (r0 := fun u => 1) (w1 := fun u => [(a0, .inr (9, [.ref a2, .ref a3, .int 0, .int 0, .int 0])), (a2, .inr (2, [.int 0, .ref a4, .int 8, .int (-1), .int 0, .int 0, .int 0, .int 0])), (a4, .inr (0, [.int 0, .ref e0, .int 0]))]) hx hb hr hlk hP hD hS (fun _ _ => 0) rfl rfl [0, 1, 2] rfl rfl (Nat.le_of_ble_eq_true rfl) (Nat.le_of_ble_eq_true rfl) dL_addMerge_16
set_option maxHeartbeats 4000000 in
set_option maxRecDepth 100000 in
theorem kX14_addMerge_0 (l : Launch) (hst : l.stackTraces = false) (D : va_G) (yc : Nat → ClassId) (e0 sz : Nat) (a0 : Nat) (p0 : Int32) (p1 : Int32) (a1 : Nat) (a2 : Nat) (a3 : Nat) (a4 : Nat) (a5 : Nat) (a6 : Nat) (a7 : Nat)  : Met l yX14_addMerge (ws_ yX14_addMerge cX14_addMerge 3 (some .int)) ({ frames := 3, cells := 0, slots := 0, locals := 65 }) (PR D yc e0 [(a0, .inr (13, [.int 0, .int 0, .ref a1, .ref a2, .ref a3, .ref a4, .ref a5, .ref a6, .ref a7, .int 0, .long 0]))] sz [.ref a0, .int p0, .int p1]) (va_Qi (fun r u => r = (fun u : Nat → Nat → Nat => 0) u) (WD D (va_A [(a0, .inr (13, [.int 0, .int 0, .ref a1, .ref a2, .ref a3, .ref a4, .ref a5, .ref a6, .ref a7, .int 0, .long 0]))] sz) (fun u => [(a0, .inr (13, [.int 0, .int 0, .ref a1, .ref a2, .ref a3, .ref a4, .ref a5, .ref a6, .ref a7, .int 1, .long 0]))])) (va_A [(a0, .inr (13, [.int 0, .int 0, .ref a1, .ref a2, .ref a3, .ref a4, .ref a5, .ref a6, .ref a7, .int 0, .long 0]))] sz)) 0 0 (va_A [(a0, .inr (13, [.int 0, .int 0, .ref a1, .ref a2, .ref a3, .ref a4, .ref a5, .ref a6, .ref a7, .int 0, .long 0]))] sz) := by
  refine zk_M (Qc := fun A => va_Qi (fun r u => r = (fun u : Nat → Nat → Nat => 0) u) (WD D A (fun u => [(a0, .inr (13, [.int 0, .int 0, .ref a1, .ref a2, .ref a3, .ref a4, .ref a5, .ref a6, .ref a7, .int 1, .long 0]))])) A) (by decide) (Nat.le_of_ble_eq_true rfl) ?_
  intro p e s m args below meth c A ls hx hb hml hr hlk hown hnm hts hP hD hS hA hC hl
  have hK := hC.1
  have hN := hC.2.1
  have hl : lv_has ls 3 [(0, .ref a0), (1, .int p0), (2, .int p1)] := hl
  generalize hHH : s.heap = H at hP ⊢
  have hS : va_S A s.heap H [] := by rw [← hHH]; exact hS
  refine lv_aload_n hx hb dX14_addMerge_0 rfl (lv_at hl 0 rfl) ?_
  refine lv_iload_n hx hb dX14_addMerge_1 rfl (lv_at hl 1 rfl) ?_
  refine lv_iload_n hx hb dX14_addMerge_2 rfl (lv_at hl 2 rfl) ?_
  refine zk_i (wr := []) (va_runV (As := [.int p0, .int p1]) (rest := []) ⟨hx, hb, hml, hown, hts⟩ (kX14_canBegin_1 l hst D yc e0 H.size a0 p0 p1 a1 a2 a3 a4 a5 a6 a7) (cwV 2 hts (lw_V wq1592 wq1594 ws34 wq6 wq1595) rfl rfl rfl (by decide +kernel) ⟨(Nat.le_of_ble_eq_true rfl), (Nat.le_of_ble_eq_true rfl)⟩) (zk_pV hC hP hD hS hA [0] rfl rfl 0 13 rfl rfl) rfl rfl hl.1 rfl (lv_room (Nat.le_of_ble_eq_true rfl)) dX14_addMerge_3 ⟨(Nat.le_of_ble_eq_true rfl), (Nat.le_of_ble_eq_true rfl)⟩) hP hD hS hA [0] [] rfl rfl rfl (by decide) (fun u1 H locs hP hD hS => ?_)
  have hP : va_P D vwCl [(a0, .inr (13, [.int 0, .int 0, .ref a1, .ref a2, .ref a3, .ref a4, .ref a5, .ref a6, .ref a7, .int 1, .long 0]))] H := hP
  have hD : va_D A [(a0, .inr (13, [.int 0, .int 0, .ref a1, .ref a2, .ref a3, .ref a4, .ref a5, .ref a6, .ref a7, .int 1, .long 0]))] := hD
  refine W.widen (k := 0) (n := 0) (Nat.le_of_ble_eq_true rfl) (Nat.le_of_ble_eq_true rfl) ?_
  refine lv_if_ne (tgt := 11) hx hb dX14_addMerge_6 (by decide) (fun h9 => absurd (by decide) h9) (fun _ => ?_)
  refine lv_iconst (v := 0) hx hb dX14_addMerge_9 (by decide) ?_
  exact zk_ri (r0 := fun u => 0) (w1 := fun u => [(a0, .inr (13, [.int 0, .int 0, .ref a1, .ref a2, .ref a3, .ref a4, .ref a5, .ref a6, .ref a7, .int 1, .long 0]))]) hx hb hr hlk hP hD hS (fun _ _ => 0) rfl rfl [0] rfl rfl (Nat.le_of_ble_eq_true rfl) (Nat.le_of_ble_eq_true rfl) dX14_addMerge_10
set_option maxHeartbeats 4000000 in
set_option maxRecDepth 100000 in
theorem kX10_addSink_0 (l : Launch) (hst : l.stackTraces = false) (D : va_G) (yc : Nat → ClassId) (e0 sz : Nat) (a0 : Nat) (p0 : Int32) (a1 : Nat) (a2 : Nat) (a3 : Nat)  : vx_Met l yX10_addSink (ws_ yX10_addSink cX10_addSink 3 (some .int)) ({ frames := 7, cells := 1, slots := 6, locals := 103 }) (PR D yc e0 [(a0, .inr (9, [.ref a1, .ref a2, .int 0, .int 0, .int 0])), (a1, .inr (2, [.int 0, .ref a3, .int 8, .int (-1), .int 0, .int 0, .int 0, .int 0])), (a3, .inr (0, [.int 0, .ref e0, .int 0]))] sz [.ref a0, .int p0]) (fun _ _ _ _ => False) (zk_X D (va_A [(a0, .inr (9, [.ref a1, .ref a2, .int 0, .int 0, .int 0])), (a1, .inr (2, [.int 0, .ref a3, .int 8, .int (-1), .int 0, .int 0, .int 0, .int 0])), (a3, .inr (0, [.int 0, .ref e0, .int 0]))] sz) "java/lang/IndexOutOfBoundsException" (fun u => [(a0, .inr (9, [.ref a1, .ref a2, .int 0, .int 0, .int 0])), (a1, .inr (2, [.int 0, .ref a3, .int 8, .int (-1), .int 0, .int 0, .int 0, .int 0])), (a3, .inr (0, [.int 0, .ref e0, .int 0]))])) 1 6 (va_A [(a0, .inr (9, [.ref a1, .ref a2, .int 0, .int 0, .int 0])), (a1, .inr (2, [.int 0, .ref a3, .int 8, .int (-1), .int 0, .int 0, .int 0, .int 0])), (a3, .inr (0, [.int 0, .ref e0, .int 0]))] sz) := by
  refine zk_MX (by decide) (Nat.le_of_ble_eq_true rfl) ?_
  intro p e s m args below meth c A ls hx hb hml hr hlk hown hnm hts hP hD hS hA hC hl hnx
  have hK := hC.1
  have hN := hC.2.1
  have hl : lv_has ls 3 [(0, .ref a0), (1, .int p0)] := hl
  generalize hHH : s.heap = H at hP ⊢
  have hS : va_S A s.heap H [] := by rw [← hHH]; exact hS
  refine W.widen (k := 0) (n := 0) (Nat.le_of_ble_eq_true rfl) (Nat.le_of_ble_eq_true rfl) ?_
  refine lv_aload_n hx hb dX10_addSink_0 rfl (lv_at hl 0 rfl) ?_
  refine lv_iload_n hx hb dX10_addSink_1 rfl (lv_at hl 1 rfl) ?_
  refine zk_x (wr := []) (vx_runV (As := [.int p0]) (rest := []) ⟨hx, hb, hml, hown, hts⟩ (kX10_stageOf_0 l hst D yc e0 H.size a0 p0 a1 a2 a3) (cwV 1 hts (lw_V wq254 wq256 ws2 wq1 wq257) rfl rfl rfl (by decide +kernel) ⟨(Nat.le_of_ble_eq_true rfl), (Nat.le_of_ble_eq_true rfl)⟩) (zk_pV hC hP hD hS hA [0, 1, 2] rfl rfl 0 9 rfl rfl) rfl rfl hl.1 rfl (lv_room (Nat.le_of_ble_eq_true rfl)) dX10_addSink_2 ⟨(Nat.le_of_ble_eq_true rfl), (Nat.le_of_ble_eq_true rfl)⟩) hP hD hS hA [0, 1, 2] [] rfl rfl rfl (by decide) (fun u1 ce q9 H locs hP hD hS hce hcv hcl => ?_)
  have hP : va_P D vwCl [(a0, .inr (9, [.ref a1, .ref a2, .int 0, .int 0, .int 0])), (a1, .inr (2, [.int 0, .ref a3, .int 8, .int (-1), .int 0, .int 0, .int 0, .int 0])), (a3, .inr (0, [.int 0, .ref e0, .int 0]))] H := hP
  have hD : va_D A [(a0, .inr (9, [.ref a1, .ref a2, .int 0, .int 0, .int 0])), (a1, .inr (2, [.int 0, .ref a3, .int 8, .int (-1), .int 0, .int 0, .int 0, .int 0])), (a3, .inr (0, [.int 0, .ref e0, .int 0]))] := hD
  exact vx_out (fun x9 hx9 => (hnx x9 hx9).elim) hlk hce hcv hcl (zk_out hP hD hS (fun _ _ => 0) [0, 1, 2] rfl rfl) hS.2.2 (Nat.le_of_ble_eq_true rfl) (Nat.le_of_ble_eq_true rfl)
set_option maxHeartbeats 4000000 in
set_option maxRecDepth 100000 in
theorem kL_addSink_0 (l : Launch) (hst : l.stackTraces = false) (D : va_G) (yc : Nat → ClassId) (e0 sz : Nat) (a0 : Nat) (p0 : Int32) (a1 : Nat) (a2 : Nat) (a3 : Nat) (a4 : Nat)  : Met l yL_addSink (ww_ yL_addSink cL_addSink 4 (some .int) [(0, 9, 12, 21), (0, 9, 15, 13), (0, 9, 18, 15)]) ({ frames := 8, cells := 1, slots := 6, locals := 125 }) (PR D yc e0 [(a0, .inr (9, [.ref a2, .ref a3, .int 0, .int 0, .int 0])), (a2, .inr (2, [.int 0, .ref a4, .int 8, .int (-1), .int 0, .int 0, .int 0, .int 0])), (a4, .inr (0, [.int 0, .ref e0, .int 0]))] sz [.ref a0, .int p0, .ref a1]) (va_Qi (fun r u => r = (fun u : Nat → Nat → Nat => 1) u) (WD D (va_A [(a0, .inr (9, [.ref a2, .ref a3, .int 0, .int 0, .int 0])), (a2, .inr (2, [.int 0, .ref a4, .int 8, .int (-1), .int 0, .int 0, .int 0, .int 0])), (a4, .inr (0, [.int 0, .ref e0, .int 0]))] sz) (fun u => [(a0, .inr (9, [.ref a2, .ref a3, .int 0, .int 0, .int 0])), (a2, .inr (2, [.int 0, .ref a4, .int 8, .int (-1), .int 0, .int 0, .int 0, .int 0])), (a4, .inr (0, [.int 0, .ref e0, .int 0]))])) (va_A [(a0, .inr (9, [.ref a2, .ref a3, .int 0, .int 0, .int 0])), (a2, .inr (2, [.int 0, .ref a4, .int 8, .int (-1), .int 0, .int 0, .int 0, .int 0])), (a4, .inr (0, [.int 0, .ref e0, .int 0]))] sz)) 1 6 (va_A [(a0, .inr (9, [.ref a2, .ref a3, .int 0, .int 0, .int 0])), (a2, .inr (2, [.int 0, .ref a4, .int 8, .int (-1), .int 0, .int 0, .int 0, .int 0])), (a4, .inr (0, [.int 0, .ref e0, .int 0]))] sz) := by
  refine zk_MW (Qc := fun A => va_Qi (fun r u => r = (fun u : Nat → Nat → Nat => 1) u) (WD D A (fun u => [(a0, .inr (9, [.ref a2, .ref a3, .int 0, .int 0, .int 0])), (a2, .inr (2, [.int 0, .ref a4, .int 8, .int (-1), .int 0, .int 0, .int 0, .int 0])), (a4, .inr (0, [.int 0, .ref e0, .int 0]))])) A) (by decide) (Nat.le_of_ble_eq_true rfl) ?_
  intro p e s m args below meth c A ls hx hb hml hr hlk hown hts hP hD hS hA hC hl hex
  have hK := hC.1
  have hN := hC.2.1
  have hl : lv_has ls 4 [(0, .ref a0), (1, .int p0), (2, .ref a1)] := hl
  generalize hHH : s.heap = H at hP ⊢
  have hS : va_S A s.heap H [] := by rw [← hHH]; exact hS
  refine lv_aload_n hx hb dL_addSink_0 rfl (lv_at hl 2 rfl) ?_
  refine lv_iconst (v := 0) hx hb dL_addSink_1 (by decide) ?_
  refine lv_aload_n hx hb dL_addSink_2 rfl (lv_at hl 0 rfl) ?_
  refine lv_iload_n hx hb dL_addSink_3 rfl (lv_at hl 1 rfl) ?_
  refine zk_x (wr := []) (vx_runV (As := [.int p0]) (rest := [.int 0, .ref a1]) ⟨hx, hb, hml, hown, hts⟩ (kX10_addSink_0 l hst D yc e0 H.size a0 p0 a2 a3 a4) (cwV 1 hts (lw_V wq876 wq877 wq878 wq1 wq879) rfl rfl rfl (by decide +kernel) ⟨(Nat.le_of_ble_eq_true rfl), (Nat.le_of_ble_eq_true rfl)⟩) (zk_pV hC hP hD hS hA [0, 1, 2] rfl rfl 0 9 rfl rfl) rfl rfl hl.1 rfl (lv_room (Nat.le_of_ble_eq_true rfl)) dL_addSink_4 ⟨(Nat.le_of_ble_eq_true rfl), (Nat.le_of_ble_eq_true rfl)⟩) hP hD hS hA [0, 1, 2] [] rfl rfl rfl (by decide) (fun u1 ce q9 H locs hP hD hS hce hcv hcl => ?_)
  have hP : va_P D vwCl [(a0, .inr (9, [.ref a2, .ref a3, .int 0, .int 0, .int 0])), (a2, .inr (2, [.int 0, .ref a4, .int 8, .int (-1), .int 0, .int 0, .int 0, .int 0])), (a4, .inr (0, [.int 0, .ref e0, .int 0]))] H := hP
  have hD : va_D A [(a0, .inr (9, [.ref a2, .ref a3, .int 0, .int 0, .int 0])), (a2, .inr (2, [.int 0, .ref a4, .int 8, .int (-1), .int 0, .int 0, .int 0, .int 0])), (a4, .inr (0, [.int 0, .ref e0, .int 0]))] := hD
  refine vx_catch (own := RL) (name := "java/lang/IndexOutOfBoundsException") hown (tableOf []) ⟨0, 9, 12, 21⟩ (tableOf [(0, 9, 15, 13), (0, 9, 18, 15)]) hex (fun z hz => False.elim (List.not_mem_nil hz)) (by decide) (by decide) (hts _ wq833) (zk_tab rfl (hN _ wr261 rfl)) hce hcv hcl ?_
  refine W.widen (k := 1) (n := 6) (Nat.le_of_ble_eq_true rfl) (Nat.le_of_ble_eq_true rfl) ?_
  refine lv_astore_n (lv' := [(3, .ref q9), (0, .ref a0), (1, .int p0), (2, .ref a1)]) hx hb dL_addSink_12 rfl hl (by decide) rfl (fun ls hl => ?_)
  refine lv_iconst (v := 1) hx hb dL_addSink_13 (by decide) ?_
  exact zk_ri (r0 := fun u => 1) (w1 := fun u => [(a0, .inr (9, [.ref a2, .ref a3, .int 0, .int 0, .int 0])), (a2, .inr (2, [.int 0, .ref a4, .int 8, .int (-1), .int 0, .int 0, .int 0, .int 0])), (a4, .inr (0, [.int 0, .ref e0, .int 0]))]) hx hb hr hlk hP hD hS (fun _ _ => 0) rfl rfl [0, 1, 2] rfl rfl (Nat.le_of_ble_eq_true rfl) (Nat.le_of_ble_eq_true rfl) dL_addSink_14
set_option maxHeartbeats 4000000 in
set_option maxRecDepth 100000 in
theorem kX14_addSink_0 (l : Launch) (hst : l.stackTraces = false) (D : va_G) (yc : Nat → ClassId) (e0 sz : Nat) (a0 : Nat) (p0 : Int32) (a1 : Nat) (a2 : Nat) (a3 : Nat) (a4 : Nat) (a5 : Nat) (a6 : Nat) (a7 : Nat)  : Met l yX14_addSink (ws_ yX14_addSink cX14_addSink 2 (some .int)) ({ frames := 3, cells := 0, slots := 0, locals := 65 }) (PR D yc e0 [(a0, .inr (13, [.int 0, .int 0, .ref a1, .ref a2, .ref a3, .ref a4, .ref a5, .ref a6, .ref a7, .int 0, .long 0]))] sz [.ref a0, .int p0]) (va_Qi (fun r u => r = (fun u : Nat → Nat → Nat => 0) u) (WD D (va_A [(a0, .inr (13, [.int 0, .int 0, .ref a1, .ref a2, .ref a3, .ref a4, .ref a5, .ref a6, .ref a7, .int 0, .long 0]))] sz) (fun u => [(a0, .inr (13, [.int 0, .int 0, .ref a1, .ref a2, .ref a3, .ref a4, .ref a5, .ref a6, .ref a7, .int 1, .long 0]))])) (va_A [(a0, .inr (13, [.int 0, .int 0, .ref a1, .ref a2, .ref a3, .ref a4, .ref a5, .ref a6, .ref a7, .int 0, .long 0]))] sz)) 0 0 (va_A [(a0, .inr (13, [.int 0, .int 0, .ref a1, .ref a2, .ref a3, .ref a4, .ref a5, .ref a6, .ref a7, .int 0, .long 0]))] sz) := by
  refine zk_M (Qc := fun A => va_Qi (fun r u => r = (fun u : Nat → Nat → Nat => 0) u) (WD D A (fun u => [(a0, .inr (13, [.int 0, .int 0, .ref a1, .ref a2, .ref a3, .ref a4, .ref a5, .ref a6, .ref a7, .int 1, .long 0]))])) A) (by decide) (Nat.le_of_ble_eq_true rfl) ?_
  intro p e s m args below meth c A ls hx hb hml hr hlk hown hnm hts hP hD hS hA hC hl
  have hK := hC.1
  have hN := hC.2.1
  have hl : lv_has ls 2 [(0, .ref a0), (1, .int p0)] := hl
  generalize hHH : s.heap = H at hP ⊢
  have hS : va_S A s.heap H [] := by rw [← hHH]; exact hS
  refine lv_aload_n hx hb dX14_addSink_0 rfl (lv_at hl 0 rfl) ?_
  refine lv_iload_n hx hb dX14_addSink_1 rfl (lv_at hl 1 rfl) ?_
  refine lv_iload_n hx hb dX14_addSink_2 rfl (lv_at hl 1 rfl) ?_
  refine zk_i (wr := []) (va_runV (As := [.int p0, .int p0]) (rest := []) ⟨hx, hb, hml, hown, hts⟩ (kX14_canBegin_0 l hst D yc e0 H.size a0 p0 a1 a2 a3 a4 a5 a6 a7) (cwV 2 hts (lw_V wq1592 wq1594 ws34 wq6 wq1595) rfl rfl rfl (by decide +kernel) ⟨(Nat.le_of_ble_eq_true rfl), (Nat.le_of_ble_eq_true rfl)⟩) (zk_pV hC hP hD hS hA [0] rfl rfl 0 13 rfl rfl) rfl rfl hl.1 rfl (lv_room (Nat.le_of_ble_eq_true rfl)) dX14_addSink_3 ⟨(Nat.le_of_ble_eq_true rfl), (Nat.le_of_ble_eq_true rfl)⟩) hP hD hS hA [0] [] rfl rfl rfl (by decide) (fun u1 H locs hP hD hS => ?_)
  have hP : va_P D vwCl [(a0, .inr (13, [.int 0, .int 0, .ref a1, .ref a2, .ref a3, .ref a4, .ref a5, .ref a6, .ref a7, .int 1, .long 0]))] H := hP
  have hD : va_D A [(a0, .inr (13, [.int 0, .int 0, .ref a1, .ref a2, .ref a3, .ref a4, .ref a5, .ref a6, .ref a7, .int 1, .long 0]))] := hD
  refine W.widen (k := 0) (n := 0) (Nat.le_of_ble_eq_true rfl) (Nat.le_of_ble_eq_true rfl) ?_
  refine lv_if_eq (tgt := 24) hx hb dX14_addSink_6 (by decide) (fun _ => ?_) (fun h9 => absurd (by decide) h9)
  refine lv_iconst (v := 0) hx hb dX14_addSink_24 (by decide) ?_
  exact zk_ri (r0 := fun u => 0) (w1 := fun u => [(a0, .inr (13, [.int 0, .int 0, .ref a1, .ref a2, .ref a3, .ref a4, .ref a5, .ref a6, .ref a7, .int 1, .long 0]))]) hx hb hr hlk hP hD hS (fun _ _ => 0) rfl rfl [0] rfl rfl (Nat.le_of_ble_eq_true rfl) (Nat.le_of_ble_eq_true rfl) dX14_addSink_25
set_option maxHeartbeats 4000000 in
set_option maxRecDepth 100000 in
theorem kX10_start_0 (l : Launch) (hst : l.stackTraces = false) (D : va_G) (yc : Nat → ClassId) (e0 sz : Nat) (a0 : Nat) (a1 : Nat) (a2 : Nat) (a3 : Nat)  : vx_Met l yX10_start (ws_ yX10_start cX10_start 1 (some .int)) ({ frames := 6, cells := 1, slots := 6, locals := 81 }) (PR D yc e0 [(a0, .inr (9, [.ref a1, .ref a2, .int 0, .int 0, .int 0])), (a1, .inr (2, [.int 0, .ref a3, .int 8, .int (-1), .int 0, .int 0, .int 0, .int 0])), (a3, .inr (0, [.int 0, .ref e0, .int 0]))] sz [.ref a0]) (fun _ _ _ _ => False) (zk_X D (va_A [(a0, .inr (9, [.ref a1, .ref a2, .int 0, .int 0, .int 0])), (a1, .inr (2, [.int 0, .ref a3, .int 8, .int (-1), .int 0, .int 0, .int 0, .int 0])), (a3, .inr (0, [.int 0, .ref e0, .int 0]))] sz) "java/lang/IllegalStateException" (fun u => [(a0, .inr (9, [.ref a1, .ref a2, .int 0, .int 0, .int 0])), (a1, .inr (2, [.int 0, .ref a3, .int 8, .int (-1), .int 0, .int 0, .int 0, .int 0])), (a3, .inr (0, [.int 0, .ref e0, .int 0]))])) 1 6 (va_A [(a0, .inr (9, [.ref a1, .ref a2, .int 0, .int 0, .int 0])), (a1, .inr (2, [.int 0, .ref a3, .int 8, .int (-1), .int 0, .int 0, .int 0, .int 0])), (a3, .inr (0, [.int 0, .ref e0, .int 0]))] sz) := by
  refine zk_MX (by decide) (Nat.le_of_ble_eq_true rfl) ?_
  intro p e s m args below meth c A ls hx hb hml hr hlk hown hnm hts hP hD hS hA hC hl hnx
  have hK := hC.1
  have hN := hC.2.1
  have hl : lv_has ls 1 [(0, .ref a0)] := hl
  generalize hHH : s.heap = H at hP ⊢
  have hS : va_S A s.heap H [] := by rw [← hHH]; exact hS
  refine W.widen (k := 0) (n := 0) (Nat.le_of_ble_eq_true rfl) (Nat.le_of_ble_eq_true rfl) ?_
  refine lv_aload_n hx hb dX10_start_0 rfl (lv_at hl 0 rfl) ?_
  refine va_get (D := D) (ci := 9) (v := .int 0) (C := RX10) (T := TX10) (N := 5) hx hb hts iX10 hown hK hP 0 rfl rfl 2 (by decide) (hts _ wq101) (fun _ h9 => h9) rfl dX10_start_1 ?_
  refine lv_if_ne (tgt := 17) hx hb dX10_start_4 (by decide) (fun h9 => absurd (by decide) h9) (fun _ => ?_)
  refine lv_aload_n hx hb dX10_start_7 rfl (lv_at hl 0 rfl) ?_
  refine va_get (D := D) (ci := 9) (v := .ref a1) (C := RX10) (T := TX10) (N := 5) hx hb hts iX10 hown hK hP 0 rfl rfl 0 (by decide) (hts _ wq99) (fun _ h9 => h9) rfl dX10_start_8 ?_
  refine zk_i (wr := [(a0, .inr (9, [.ref a1, .ref a2, .int 0, .int 0, .int 0]))]) (va_runV (As := []) (rest := []) ⟨hx, hb, hml, hown, hts⟩ (kX2_size_0 l hst D yc e0 H.size a1 a3) (cwV 0 hts (lw_V wq119 wq120 wq121 wq2 wq122) rfl rfl rfl (by decide +kernel) ⟨(Nat.le_of_ble_eq_true rfl), (Nat.le_of_ble_eq_true rfl)⟩) (zk_pV hC hP hD hS hA [1, 2] rfl rfl 1 2 rfl rfl) rfl rfl hl.1 rfl (lv_room (Nat.le_of_ble_eq_true rfl)) dX10_start_11 ⟨(Nat.le_of_ble_eq_true rfl), (Nat.le_of_ble_eq_true rfl)⟩) hP hD hS hA [1, 2] [0] rfl rfl rfl (by decide) (fun u1 H locs hP hD hS => ?_)
  have hP : va_P D vwCl [(a0, .inr (9, [.ref a1, .ref a2, .int 0, .int 0, .int 0])), (a1, .inr (2, [.int 0, .ref a3, .int 8, .int (-1), .int 0, .int 0, .int 0, .int 0])), (a3, .inr (0, [.int 0, .ref e0, .int 0]))] H := hP
  have hD : va_D A [(a0, .inr (9, [.ref a1, .ref a2, .int 0, .int 0, .int 0])), (a1, .inr (2, [.int 0, .ref a3, .int 8, .int (-1), .int 0, .int 0, .int 0, .int 0])), (a3, .inr (0, [.int 0, .ref e0, .int 0]))] := hD
  refine W.widen (k := 0) (n := 0) (Nat.le_of_ble_eq_true rfl) (Nat.le_of_ble_eq_true rfl) ?_
  refine lv_if_ne (tgt := 25) hx hb dX10_start_14 (by decide) (fun h9 => absurd (by decide) h9) (fun _ => ?_)
  exact vx_throw0 (own := RX10) (cls := "java/lang/IllegalStateException") (names := ["java/lang/RuntimeException", "java/lang/Exception"]) (ik := 91) (ic := 93) (A := A) hx hb hst hown (by decide +kernel) (by decide +kernel) (hts _ wq471) (hts _ wq14) (zk_hat hts hN at0_X10_91) at0_X10_91_g hC.2.2.2.1 hC.2.2.2.2.1 hS (by rw [hml]; exact hl.1) dX10_start_17 dX10_start_20 dX10_start_21 dX10_start_24 (fun x9 hx9 => (hnx x9 hx9).elim) (Nat.le_of_ble_eq_true rfl) (Nat.le_of_ble_eq_true rfl) (Nat.le_of_ble_eq_true rfl) (Nat.le_of_ble_eq_true rfl) hlk (zk_thr hP hD hS (fun _ _ => 0) [0, 1, 2] rfl rfl) hS.2.2 (Nat.le_of_ble_eq_true rfl) (Nat.le_of_ble_eq_true rfl)
set_option maxHeartbeats 4000000 in
set_option maxRecDepth 100000 in
theorem kL_start_0 (l : Launch) (hst : l.stackTraces = false) (D : va_G) (yc : Nat → ClassId) (e0 sz : Nat) (a0 : Nat) (a1 : Nat) (a2 : Nat) (a3 : Nat) (a4 : Nat)  : Met l yL_start (ww_ yL_start cL_start 3 (some .int) [(0, 8, 11, 15)]) ({ frames := 7, cells := 1, slots := 6, locals := 101 }) (PR D yc e0 [(a0, .inr (9, [.ref a2, .ref a3, .int 0, .int 0, .int 0])), (a2, .inr (2, [.int 0, .ref a4, .int 8, .int (-1), .int 0, .int 0, .int 0, .int 0])), (a4, .inr (0, [.int 0, .ref e0, .int 0]))] sz [.ref a0, .ref a1]) (va_Qi (fun r u => r = (fun u : Nat → Nat → Nat => 1) u) (WD D (va_A [(a0, .inr (9, [.ref a2, .ref a3, .int 0, .int 0, .int 0])), (a2, .inr (2, [.int 0, .ref a4, .int 8, .int (-1), .int 0, .int 0, .int 0, .int 0])), (a4, .inr (0, [.int 0, .ref e0, .int 0]))] sz) (fun u => [(a0, .inr (9, [.ref a2, .ref a3, .int 0, .int 0, .int 0])), (a2, .inr (2, [.int 0, .ref a4, .int 8, .int (-1), .int 0, .int 0, .int 0, .int 0])), (a4, .inr (0, [.int 0, .ref e0, .int 0]))])) (va_A [(a0, .inr (9, [.ref a2, .ref a3, .int 0, .int 0, .int 0])), (a2, .inr (2, [.int 0, .ref a4, .int 8, .int (-1), .int 0, .int 0, .int 0, .int 0])), (a4, .inr (0, [.int 0, .ref e0, .int 0]))] sz)) 1 6 (va_A [(a0, .inr (9, [.ref a2, .ref a3, .int 0, .int 0, .int 0])), (a2, .inr (2, [.int 0, .ref a4, .int 8, .int (-1), .int 0, .int 0, .int 0, .int 0])), (a4, .inr (0, [.int 0, .ref e0, .int 0]))] sz) := by
  refine zk_MW (Qc := fun A => va_Qi (fun r u => r = (fun u : Nat → Nat → Nat => 1) u) (WD D A (fun u => [(a0, .inr (9, [.ref a2, .ref a3, .int 0, .int 0, .int 0])), (a2, .inr (2, [.int 0, .ref a4, .int 8, .int (-1), .int 0, .int 0, .int 0, .int 0])), (a4, .inr (0, [.int 0, .ref e0, .int 0]))])) A) (by decide) (Nat.le_of_ble_eq_true rfl) ?_
  intro p e s m args below meth c A ls hx hb hml hr hlk hown hts hP hD hS hA hC hl hex
  have hK := hC.1
  have hN := hC.2.1
  have hl : lv_has ls 3 [(0, .ref a0), (1, .ref a1)] := hl
  generalize hHH : s.heap = H at hP ⊢
  have hS : va_S A s.heap H [] := by rw [← hHH]; exact hS
  refine lv_aload_n hx hb dL_start_0 rfl (lv_at hl 1 rfl) ?_
  refine lv_iconst (v := 0) hx hb dL_start_1 (by decide) ?_
  refine lv_aload_n hx hb dL_start_2 rfl (lv_at hl 0 rfl) ?_
  refine zk_x (wr := []) (vx_runV (As := []) (rest := [.int 0, .ref a1]) ⟨hx, hb, hml, hown, hts⟩ (kX10_start_0 l hst D yc e0 H.size a0 a2 a3 a4) (cwV 0 hts (lw_V wq883 wq884 wq885 wq1 wq886) rfl rfl rfl (by decide +kernel) ⟨(Nat.le_of_ble_eq_true rfl), (Nat.le_of_ble_eq_true rfl)⟩) (zk_pV hC hP hD hS hA [0, 1, 2] rfl rfl 0 9 rfl rfl) rfl rfl hl.1 rfl (lv_room (Nat.le_of_ble_eq_true rfl)) dL_start_3 ⟨(Nat.le_of_ble_eq_true rfl), (Nat.le_of_ble_eq_true rfl)⟩) hP hD hS hA [0, 1, 2] [] rfl rfl rfl (by decide) (fun u1 ce q9 H locs hP hD hS hce hcv hcl => ?_)
  have hP : va_P D vwCl [(a0, .inr (9, [.ref a2, .ref a3, .int 0, .int 0, .int 0])), (a2, .inr (2, [.int 0, .ref a4, .int 8, .int (-1), .int 0, .int 0, .int 0, .int 0])), (a4, .inr (0, [.int 0, .ref e0, .int 0]))] H := hP
  have hD : va_D A [(a0, .inr (9, [.ref a2, .ref a3, .int 0, .int 0, .int 0])), (a2, .inr (2, [.int 0, .ref a4, .int 8, .int (-1), .int 0, .int 0, .int 0, .int 0])), (a4, .inr (0, [.int 0, .ref e0, .int 0]))] := hD
  refine vx_catch (own := RL) (name := "java/lang/IllegalStateException") hown (tableOf []) ⟨0, 8, 11, 15⟩ (tableOf []) hex (fun z hz => False.elim (List.not_mem_nil hz)) (by decide) (by decide) (hts _ wq459) (zk_tab rfl (hN _ wr473 rfl)) hce hcv hcl ?_
  refine W.widen (k := 1) (n := 6) (Nat.le_of_ble_eq_true rfl) (Nat.le_of_ble_eq_true rfl) ?_
  refine lv_astore_n (lv' := [(2, .ref q9), (0, .ref a0), (1, .ref a1)]) hx hb dL_start_11 rfl hl (by decide) rfl (fun ls hl => ?_)
  refine lv_iconst (v := 1) hx hb dL_start_12 (by decide) ?_
  exact zk_ri (r0 := fun u => 1) (w1 := fun u => [(a0, .inr (9, [.ref a2, .ref a3, .int 0, .int 0, .int 0])), (a2, .inr (2, [.int 0, .ref a4, .int 8, .int (-1), .int 0, .int 0, .int 0, .int 0])), (a4, .inr (0, [.int 0, .ref e0, .int 0]))]) hx hb hr hlk hP hD hS (fun _ _ => 0) rfl rfl [0, 1, 2] rfl rfl (Nat.le_of_ble_eq_true rfl) (Nat.le_of_ble_eq_true rfl) dL_start_13
set_option maxHeartbeats 4000000 in
set_option maxRecDepth 100000 in
theorem kX14_start_0 (l : Launch) (hst : l.stackTraces = false) (D : va_G) (yc : Nat → ClassId) (e0 sz : Nat) (a0 : Nat) (a1 : Nat) (a2 : Nat) (a3 : Nat) (a4 : Nat) (a5 : Nat) (a6 : Nat) (a7 : Nat)  : Met l yX14_start (ws_ yX14_start cX14_start 3 (some .int)) ({ frames := 1, cells := 0, slots := 0, locals := 21 }) (PR D yc e0 [(a0, .inr (13, [.int 0, .int 0, .ref a1, .ref a2, .ref a3, .ref a4, .ref a5, .ref a6, .ref a7, .int 0, .long 0]))] sz [.ref a0]) (va_Qi (fun r u => r = (fun u : Nat → Nat → Nat => 0) u) (WD D (va_A [(a0, .inr (13, [.int 0, .int 0, .ref a1, .ref a2, .ref a3, .ref a4, .ref a5, .ref a6, .ref a7, .int 0, .long 0]))] sz) (fun u => [(a0, .inr (13, [.int 0, .int 0, .ref a1, .ref a2, .ref a3, .ref a4, .ref a5, .ref a6, .ref a7, .int 1, .long 0]))])) (va_A [(a0, .inr (13, [.int 0, .int 0, .ref a1, .ref a2, .ref a3, .ref a4, .ref a5, .ref a6, .ref a7, .int 0, .long 0]))] sz)) 0 0 (va_A [(a0, .inr (13, [.int 0, .int 0, .ref a1, .ref a2, .ref a3, .ref a4, .ref a5, .ref a6, .ref a7, .int 0, .long 0]))] sz) := by
  refine zk_M (Qc := fun A => va_Qi (fun r u => r = (fun u : Nat → Nat → Nat => 0) u) (WD D A (fun u => [(a0, .inr (13, [.int 0, .int 0, .ref a1, .ref a2, .ref a3, .ref a4, .ref a5, .ref a6, .ref a7, .int 1, .long 0]))])) A) (by decide) (Nat.le_of_ble_eq_true rfl) ?_
  intro p e s m args below meth c A ls hx hb hml hr hlk hown hnm hts hP hD hS hA hC hl
  have hK := hC.1
  have hN := hC.2.1
  have hl : lv_has ls 3 [(0, .ref a0)] := hl
  generalize hHH : s.heap = H at hP ⊢
  have hS : va_S A s.heap H [] := by rw [← hHH]; exact hS
  refine lv_aload_n hx hb dX14_start_0 rfl (lv_at hl 0 rfl) ?_
  refine lv_iconst (v := 0) hx hb dX14_start_1 (by decide) ?_
  refine va_put (D := D) (ci := 13) (v := .int 0) (ty := .int) (C := RX14) (T := TX14) (N := 11) hx hb hts iX14 tyX14 tyX14_ok nmX14 hown hK hP hD hS 0 rfl rfl 9 (by decide) (hts _ wq1542) (fun _ h9 => h9) rfl (by decide +kernel) rfl rfl (Nat.le_of_ble_eq_true rfl) dX14_start_2 (fun H locs hP hD hS => ?_)
  have hP : va_P D vwCl [(a0, .inr (13, [.int 0, .int 0, .ref a1, .ref a2, .ref a3, .ref a4, .ref a5, .ref a6, .ref a7, .int 0, .long 0]))] H := hP
  have hD : va_D A [(a0, .inr (13, [.int 0, .int 0, .ref a1, .ref a2, .ref a3, .ref a4, .ref a5, .ref a6, .ref a7, .int 0, .long 0]))] := hD
  refine lv_iconst (v := 0) hx hb dX14_start_5 (by decide) ?_
  refine lv_istore_n (lv' := [(1, .int 0), (0, .ref a0)]) hx hb dX14_start_6 rfl hl (by decide) rfl (fun ls hl => ?_)
  refine lv_iconst (v := 0) hx hb dX14_start_7 (by decide) ?_
  refine lv_istore_n (lv' := [(2, .int 0), (1, .int 0), (0, .ref a0)]) hx hb dX14_start_8 rfl hl (by decide) rfl (fun ls hl => ?_)
  refine lv_iload_n hx hb dX14_start_9 rfl (lv_at hl 0 rfl) ?_
  refine lv_aload_n hx hb dX14_start_10 rfl (lv_at hl 2 rfl) ?_
  refine va_get (D := D) (ci := 13) (v := .int 0) (C := RX14) (T := TX14) (N := 11) hx hb hts iX14 hown hK hP 0 rfl rfl 0 (by decide) (hts _ wq1528) (fun _ h9 => h9) rfl dX14_start_11 ?_
  refine lv_icmp_ge (tgt := 40) hx hb dX14_start_14 (by decide) (fun _ => ?_) (fun h9 => absurd (by decide) h9)
  refine lv_aload_n hx hb dX14_start_40 rfl (lv_at hl 2 rfl) ?_
  refine va_get (D := D) (ci := 13) (v := .int 0) (C := RX14) (T := TX14) (N := 11) hx hb hts iX14 hown hK hP 0 rfl rfl 1 (by decide) (hts _ wq1529) (fun _ h9 => h9) rfl dX14_start_41 ?_
  refine lv_if_ne (tgt := 51) hx hb dX14_start_44 (by decide) (fun h9 => absurd (by decide) h9) (fun _ => ?_)
  refine lv_iload_n hx hb dX14_start_47 rfl (lv_at hl 1 rfl) ?_
  refine lv_if_ne (tgt := 57) hx hb dX14_start_48 (by decide) (fun h9 => absurd (by decide) h9) (fun _ => ?_)
  refine lv_aload_n hx hb dX14_start_51 rfl (lv_at hl 2 rfl) ?_
  refine lv_iconst (v := 1) hx hb dX14_start_52 (by decide) ?_
  refine zk_i (wr := []) (va_runV (As := [.int 1]) (rest := []) ⟨hx, hb, hml, hown, hts⟩ (kX14_refuse_0 l hst D yc e0 H.size a0 a1 a2 a3 a4 a5 a6 a7) (cwV 1 hts (lw_V wq1582 wq1584 ws33 wq6 wq1585) rfl rfl rfl (by decide +kernel) ⟨(Nat.le_of_ble_eq_true rfl), (Nat.le_of_ble_eq_true rfl)⟩) (zk_pV hC hP hD hS hA [0] rfl rfl 0 13 rfl rfl) rfl rfl hl.1 rfl (lv_room (Nat.le_of_ble_eq_true rfl)) dX14_start_53 ⟨(Nat.le_of_ble_eq_true rfl), (Nat.le_of_ble_eq_true rfl)⟩) hP hD hS hA [0] [] rfl rfl rfl (by decide) (fun u1 H locs hP hD hS => ?_)
  have hP : va_P D vwCl [(a0, .inr (13, [.int 0, .int 0, .ref a1, .ref a2, .ref a3, .ref a4, .ref a5, .ref a6, .ref a7, .int 1, .long 0]))] H := hP
  have hD : va_D A [(a0, .inr (13, [.int 0, .int 0, .ref a1, .ref a2, .ref a3, .ref a4, .ref a5, .ref a6, .ref a7, .int 1, .long 0]))] := hD
  refine W.widen (k := 0) (n := 0) (Nat.le_of_ble_eq_true rfl) (Nat.le_of_ble_eq_true rfl) ?_
  exact zk_ri (r0 := fun u => 0) (w1 := fun u => [(a0, .inr (13, [.int 0, .int 0, .ref a1, .ref a2, .ref a3, .ref a4, .ref a5, .ref a6, .ref a7, .int 1, .long 0]))]) hx hb hr hlk hP hD hS (fun _ _ => 0) rfl rfl [0] rfl rfl (Nat.le_of_ble_eq_true rfl) (Nat.le_of_ble_eq_true rfl) dX14_start_56
set_option maxHeartbeats 4000000 in
set_option maxRecDepth 100000 in
theorem kX10_isWithin_3 (l : Launch) (hst : l.stackTraces = false) (D : va_G) (yc : Nat → ClassId) (e0 sz : Nat) (p0 : Int32) (h0 : p0 < 1) : Met l yX10_isWithin (ws_ yX10_isWithin cX10_isWithin 3 (some .boolean)) ({ frames := 0, cells := 0, slots := 0, locals := 0 }) (PR D yc e0 [] sz [.int p0, .int 1, .int 20]) (va_Qi (fun r u => r = (fun u : Nat → Nat → Nat => 0) u) (WD D (va_A [] sz) (fun u => [])) (va_A [] sz)) 0 0 (va_A [] sz) := by
  refine zk_M (Qc := fun A => va_Qi (fun r u => r = (fun u : Nat → Nat → Nat => 0) u) (WD D A (fun u => [])) A) (by decide) (Nat.le_of_ble_eq_true rfl) ?_
  intro p e s m args below meth c A ls hx hb hml hr hlk hown hnm hts hP hD hS hA hC hl
  have hK := hC.1
  have hN := hC.2.1
  have hl : lv_has ls 3 [(0, .int p0), (1, .int 1), (2, .int 20)] := hl
  generalize hHH : s.heap = H at hP ⊢
  have hS : va_S A s.heap H [] := by rw [← hHH]; exact hS
  refine lv_iload_n hx hb dX10_isWithin_0 rfl (lv_at hl 0 rfl) ?_
  refine lv_iload_n hx hb dX10_isWithin_1 rfl (lv_at hl 1 rfl) ?_
  refine lv_icmp_lt (tgt := 14) hx hb dX10_isWithin_2 (by decide) (fun _ => ?_) (fun h9 => absurd h0 h9)
  refine lv_iconst (v := 0) hx hb dX10_isWithin_14 (by decide) ?_
  exact zk_ri (r0 := fun u => 0) (w1 := fun u => []) hx hb hr hlk hP hD hS (fun _ _ => 0) rfl rfl [] rfl rfl (Nat.le_of_ble_eq_true rfl) (Nat.le_of_ble_eq_true rfl) dX10_isWithin_15
set_option maxHeartbeats 4000000 in
set_option maxRecDepth 100000 in
theorem kX10_setCapacity_0 (l : Launch) (hst : l.stackTraces = false) (D : va_G) (yc : Nat → ClassId) (e0 sz : Nat) (a0 : Nat) (p0 : Int32) (h0 : p0 < 1) : vx_Met l yX10_setCapacity (ws_ yX10_setCapacity cX10_setCapacity 3 (some .int)) ({ frames := 7, cells := 1, slots := 6, locals := 101 }) (PR D yc e0 [] sz [.ref a0, .int p0]) (fun _ _ _ _ => False) (zk_X D (va_A [] sz) "java/lang/IllegalArgumentException" (fun u => [])) 1 6 (va_A [] sz) := by
  refine zk_MX (by decide) (Nat.le_of_ble_eq_true rfl) ?_
  intro p e s m args below meth c A ls hx hb hml hr hlk hown hnm hts hP hD hS hA hC hl hnx
  have hK := hC.1
  have hN := hC.2.1
  have hl : lv_has ls 3 [(0, .ref a0), (1, .int p0)] := hl
  generalize hHH : s.heap = H at hP ⊢
  have hS : va_S A s.heap H [] := by rw [← hHH]; exact hS
  refine W.widen (k := 0) (n := 0) (Nat.le_of_ble_eq_true rfl) (Nat.le_of_ble_eq_true rfl) ?_
  refine lv_iload_n hx hb dX10_setCapacity_0 rfl (lv_at hl 1 rfl) ?_
  refine lv_iconst (v := 1) hx hb dX10_setCapacity_1 (by decide) ?_
  refine lv_bipush (v := 20) hx hb dX10_setCapacity_2 (by decide) ?_
  refine zk_i (wr := []) (va_runS (As := [.int p0, .int 1, .int 20]) (rest := []) ⟨hx, hb, hml, hown, hts⟩ (kX10_isWithin_3 l hst D yc e0 H.size p0 h0) (va_cwS 3 hts (lw_S wq464 wq465 wq1 wq466) rfl rfl rfl (by decide +kernel) ⟨(Nat.le_of_ble_eq_true rfl), (Nat.le_of_ble_eq_true rfl)⟩) (zk_pS hC hP hD hS hA [] rfl rfl) rfl rfl hl.1 rfl (lv_room (Nat.le_of_ble_eq_true rfl)) dX10_setCapacity_4 ⟨(Nat.le_of_ble_eq_true rfl), (Nat.le_of_ble_eq_true rfl)⟩) hP hD hS hA [] [] rfl rfl rfl (by decide) (fun u1 H locs hP hD hS => ?_)
  have hP : va_P D vwCl [] H := hP
  have hD : va_D A [] := hD
  refine W.widen (k := 0) (n := 0) (Nat.le_of_ble_eq_true rfl) (Nat.le_of_ble_eq_true rfl) ?_
  refine zk_x (wr := []) (vx_runS (As := [.int 0]) (rest := []) ⟨hx, hb, hml, hown, hts⟩ (kX10_refuseUnless_0 l hst D yc e0 H.size) (va_cwS 1 hts (lw_S wq388 wq389 wq1 wq390) rfl rfl rfl (by decide +kernel) ⟨(Nat.le_of_ble_eq_true rfl), (Nat.le_of_ble_eq_true rfl)⟩) (zk_pS hC hP hD hS hA [] rfl rfl) rfl rfl hl.1 rfl (lv_room (Nat.le_of_ble_eq_true rfl)) dX10_setCapacity_7 ⟨(Nat.le_of_ble_eq_true rfl), (Nat.le_of_ble_eq_true rfl)⟩) hP hD hS hA [] [] rfl rfl rfl (by decide) (fun u2 ce q9 H locs hP hD hS hce hcv hcl => ?_)
  have hP : va_P D vwCl [] H := hP
  have hD : va_D A [] := hD
  exact vx_out (fun x9 hx9 => (hnx x9 hx9).elim) hlk hce hcv hcl (zk_out hP hD hS (fun _ _ => 0) [] rfl rfl) hS.2.2 (Nat.le_of_ble_eq_true rfl) (Nat.le_of_ble_eq_true rfl)
set_option maxHeartbeats 4000000 in
set_option maxRecDepth 100000 in
theorem kL_setCapacity_0 (l : Launch) (hst : l.stackTraces = false) (D : va_G) (yc : Nat → ClassId) (e0 sz : Nat) (a0 : Nat) (p0 : Int32) (a1 : Nat) (a2 : Nat) (a3 : Nat) (h0 : p0 < 1) : Met l yL_setCapacity (ww_ yL_setCapacity cL_setCapacity 4 (some .int) [(0, 9, 12, 13)]) ({ frames := 8, cells := 1, slots := 6, locals := 123 }) (PR D yc e0 [(a0, .inr (9, [.ref a2, .ref a3, .int 0, .int 0, .int 0]))] sz [.ref a0, .int p0, .ref a1]) (va_Qi (fun r u => r = (fun u : Nat → Nat → Nat => 1) u) (WD D (va_A [(a0, .inr (9, [.ref a2, .ref a3, .int 0, .int 0, .int 0]))] sz) (fun u => [(a0, .inr (9, [.ref a2, .ref a3, .int 0, .int 0, .int 0]))])) (va_A [(a0, .inr (9, [.ref a2, .ref a3, .int 0, .int 0, .int 0]))] sz)) 1 6 (va_A [(a0, .inr (9, [.ref a2, .ref a3, .int 0, .int 0, .int 0]))] sz) := by
  refine zk_MW (Qc := fun A => va_Qi (fun r u => r = (fun u : Nat → Nat → Nat => 1) u) (WD D A (fun u => [(a0, .inr (9, [.ref a2, .ref a3, .int 0, .int 0, .int 0]))])) A) (by decide) (Nat.le_of_ble_eq_true rfl) ?_
  intro p e s m args below meth c A ls hx hb hml hr hlk hown hts hP hD hS hA hC hl hex
  have hK := hC.1
  have hN := hC.2.1
  have hl : lv_has ls 4 [(0, .ref a0), (1, .int p0), (2, .ref a1)] := hl
  generalize hHH : s.heap = H at hP ⊢
  have hS : va_S A s.heap H [] := by rw [← hHH]; exact hS
  refine lv_aload_n hx hb dL_setCapacity_0 rfl (lv_at hl 2 rfl) ?_
  refine lv_iconst (v := 0) hx hb dL_setCapacity_1 (by decide) ?_
  refine lv_aload_n hx hb dL_setCapacity_2 rfl (lv_at hl 0 rfl) ?_
  refine lv_iload_n hx hb dL_setCapacity_3 rfl (lv_at hl 1 rfl) ?_
  refine zk_x (wr := [(a0, .inr (9, [.ref a2, .ref a3, .int 0, .int 0, .int 0]))]) (vx_runV (As := [.int p0]) (rest := [.int 0, .ref a1]) ⟨hx, hb, hml, hown, hts⟩ (kX10_setCapacity_0 l hst D yc e0 H.size a0 p0 h0) (cwV 1 hts (lw_V wq890 wq891 wq892 wq1 wq893) rfl rfl rfl (by decide +kernel) ⟨(Nat.le_of_ble_eq_true rfl), (Nat.le_of_ble_eq_true rfl)⟩) (zk_pV hC hP hD hS hA [] rfl rfl 0 9 rfl rfl) rfl rfl hl.1 rfl (lv_room (Nat.le_of_ble_eq_true rfl)) dL_setCapacity_4 ⟨(Nat.le_of_ble_eq_true rfl), (Nat.le_of_ble_eq_true rfl)⟩) hP hD hS hA [] [0] rfl rfl rfl (by decide) (fun u1 ce q9 H locs hP hD hS hce hcv hcl => ?_)
  have hP : va_P D vwCl [(a0, .inr (9, [.ref a2, .ref a3, .int 0, .int 0, .int 0]))] H := hP
  have hD : va_D A [(a0, .inr (9, [.ref a2, .ref a3, .int 0, .int 0, .int 0]))] := hD
  refine vx_catch (own := RL) (name := "java/lang/IllegalArgumentException") hown (tableOf []) ⟨0, 9, 12, 13⟩ (tableOf []) hex (fun z hz => False.elim (List.not_mem_nil hz)) (by decide) (by decide) (hts _ wq458) (zk_tab rfl (hN _ wr393 rfl)) hce hcv hcl ?_
  refine W.widen (k := 1) (n := 6) (Nat.le_of_ble_eq_true rfl) (Nat.le_of_ble_eq_true rfl) ?_
  refine lv_astore_n (lv' := [(3, .ref q9), (0, .ref a0), (1, .int p0), (2, .ref a1)]) hx hb dL_setCapacity_12 rfl hl (by decide) rfl (fun ls hl => ?_)
  refine lv_iconst (v := 1) hx hb dL_setCapacity_13 (by decide) ?_
  exact zk_ri (r0 := fun u => 1) (w1 := fun u => [(a0, .inr (9, [.ref a2, .ref a3, .int 0, .int 0, .int 0]))]) hx hb hr hlk hP hD hS (fun _ _ => 0) rfl rfl [0] rfl rfl (Nat.le_of_ble_eq_true rfl) (Nat.le_of_ble_eq_true rfl) dL_setCapacity_14
set_option maxHeartbeats 4000000 in
set_option maxRecDepth 100000 in
theorem kX14_is_4 (l : Launch) (hst : l.stackTraces = false) (D : va_G) (yc : Nat → ClassId) (e0 sz : Nat) (p0 : Int32) (h0 : p0 < 1) : Met l yX14_is (ws_ yX14_is cX14_is 3 (some .boolean)) ({ frames := 0, cells := 0, slots := 0, locals := 0 }) (PR D yc e0 [] sz [.int p0, .int 1, .int 20]) (va_Qi (fun r u => r = (fun u : Nat → Nat → Nat => 0) u) (WD D (va_A [] sz) (fun u => [])) (va_A [] sz)) 0 0 (va_A [] sz) := by
  refine zk_M (Qc := fun A => va_Qi (fun r u => r = (fun u : Nat → Nat → Nat => 0) u) (WD D A (fun u => [])) A) (by decide) (Nat.le_of_ble_eq_true rfl) ?_
  intro p e s m args below meth c A ls hx hb hml hr hlk hown hnm hts hP hD hS hA hC hl
  have hK := hC.1
  have hN := hC.2.1
  have hl : lv_has ls 3 [(0, .int p0), (1, .int 1), (2, .int 20)] := hl
  generalize hHH : s.heap = H at hP ⊢
  have hS : va_S A s.heap H [] := by rw [← hHH]; exact hS
  refine lv_iload_n hx hb dX14_is_0 rfl (lv_at hl 0 rfl) ?_
  refine lv_iload_n hx hb dX14_is_1 rfl (lv_at hl 1 rfl) ?_
  refine lv_icmp_lt (tgt := 14) hx hb dX14_is_2 (by decide) (fun _ => ?_) (fun h9 => absurd h0 h9)
  refine lv_iconst (v := 0) hx hb dX14_is_14 (by decide) ?_
  exact zk_ri (r0 := fun u => 0) (w1 := fun u => []) hx hb hr hlk hP hD hS (fun _ _ => 0) rfl rfl [] rfl rfl (Nat.le_of_ble_eq_true rfl) (Nat.le_of_ble_eq_true rfl) dX14_is_15
set_option maxHeartbeats 4000000 in
set_option maxRecDepth 100000 in
theorem kX14_setCapacity_0 (l : Launch) (hst : l.stackTraces = false) (D : va_G) (yc : Nat → ClassId) (e0 sz : Nat) (a0 : Nat) (p0 : Int32) (a1 : Nat) (a2 : Nat) (a3 : Nat) (a4 : Nat) (a5 : Nat) (a6 : Nat) (a7 : Nat) (h0 : p0 < 1) : Met l yX14_setCapacity (ws_ yX14_setCapacity cX14_setCapacity 3 (some .int)) ({ frames := 1, cells := 0, slots := 0, locals := 22 }) (PR D yc e0 [(a0, .inr (13, [.int 0, .int 0, .ref a1, .ref a2, .ref a3, .ref a4, .ref a5, .ref a6, .ref a7, .int 0, .long 0]))] sz [.ref a0, .int p0]) (va_Qi (fun r u => r = (fun u : Nat → Nat → Nat => 0) u) (WD D (va_A [(a0, .inr (13, [.int 0, .int 0, .ref a1, .ref a2, .ref a3, .ref a4, .ref a5, .ref a6, .ref a7, .int 0, .long 0]))] sz) (fun u => [(a0, .inr (13, [.int 0, .int 0, .ref a1, .ref a2, .ref a3, .ref a4, .ref a5, .ref a6, .ref a7, .int 1, .long 0]))])) (va_A [(a0, .inr (13, [.int 0, .int 0, .ref a1, .ref a2, .ref a3, .ref a4, .ref a5, .ref a6, .ref a7, .int 0, .long 0]))] sz)) 0 0 (va_A [(a0, .inr (13, [.int 0, .int 0, .ref a1, .ref a2, .ref a3, .ref a4, .ref a5, .ref a6, .ref a7, .int 0, .long 0]))] sz) := by
  refine zk_M (Qc := fun A => va_Qi (fun r u => r = (fun u : Nat → Nat → Nat => 0) u) (WD D A (fun u => [(a0, .inr (13, [.int 0, .int 0, .ref a1, .ref a2, .ref a3, .ref a4, .ref a5, .ref a6, .ref a7, .int 1, .long 0]))])) A) (by decide) (Nat.le_of_ble_eq_true rfl) ?_
  intro p e s m args below meth c A ls hx hb hml hr hlk hown hnm hts hP hD hS hA hC hl
  have hK := hC.1
  have hN := hC.2.1
  have hl : lv_has ls 3 [(0, .ref a0), (1, .int p0)] := hl
  generalize hHH : s.heap = H at hP ⊢
  have hS : va_S A s.heap H [] := by rw [← hHH]; exact hS
  refine lv_aload_n hx hb dX14_setCapacity_0 rfl (lv_at hl 0 rfl) ?_
  refine lv_iconst (v := 0) hx hb dX14_setCapacity_1 (by decide) ?_
  refine va_put (D := D) (ci := 13) (v := .int 0) (ty := .int) (C := RX14) (T := TX14) (N := 11) hx hb hts iX14 tyX14 tyX14_ok nmX14 hown hK hP hD hS 0 rfl rfl 9 (by decide) (hts _ wq1542) (fun _ h9 => h9) rfl (by decide +kernel) rfl rfl (Nat.le_of_ble_eq_true rfl) dX14_setCapacity_2 (fun H locs hP hD hS => ?_)
  have hP : va_P D vwCl [(a0, .inr (13, [.int 0, .int 0, .ref a1, .ref a2, .ref a3, .ref a4, .ref a5, .ref a6, .ref a7, .int 0, .long 0]))] H := hP
  have hD : va_D A [(a0, .inr (13, [.int 0, .int 0, .ref a1, .ref a2, .ref a3, .ref a4, .ref a5, .ref a6, .ref a7, .int 0, .long 0]))] := hD
  refine lv_iload_n hx hb dX14_setCapacity_5 rfl (lv_at hl 1 rfl) ?_
  refine lv_iconst (v := 1) hx hb dX14_setCapacity_6 (by decide) ?_
  refine lv_bipush (v := 20) hx hb dX14_setCapacity_7 (by decide) ?_
  refine zk_i (wr := [(a0, .inr (13, [.int 0, .int 0, .ref a1, .ref a2, .ref a3, .ref a4, .ref a5, .ref a6, .ref a7, .int 0, .long 0]))]) (va_runS (As := [.int p0, .int 1, .int 20]) (rest := []) ⟨hx, hb, hml, hown, hts⟩ (kX14_is_4 l hst D yc e0 H.size p0 h0) (va_cwS 3 hts (lw_S wq1575 wq1576 wq6 wq1577) rfl rfl rfl (by decide +kernel) ⟨(Nat.le_of_ble_eq_true rfl), (Nat.le_of_ble_eq_true rfl)⟩) (zk_pS hC hP hD hS hA [] rfl rfl) rfl rfl hl.1 rfl (lv_room (Nat.le_of_ble_eq_true rfl)) dX14_setCapacity_9 ⟨(Nat.le_of_ble_eq_true rfl), (Nat.le_of_ble_eq_true rfl)⟩) hP hD hS hA [] [0] rfl rfl rfl (by decide) (fun u1 H locs hP hD hS => ?_)
  have hP : va_P D vwCl [(a0, .inr (13, [.int 0, .int 0, .ref a1, .ref a2, .ref a3, .ref a4, .ref a5, .ref a6, .ref a7, .int 0, .long 0]))] H := hP
  have hD : va_D A [(a0, .inr (13, [.int 0, .int 0, .ref a1, .ref a2, .ref a3, .ref a4, .ref a5, .ref a6, .ref a7, .int 0, .long 0]))] := hD
  refine W.widen (k := 0) (n := 0) (Nat.le_of_ble_eq_true rfl) (Nat.le_of_ble_eq_true rfl) ?_
  refine lv_if_ne (tgt := 21) hx hb dX14_setCapacity_12 (by decide) (fun h9 => absurd (by decide) h9) (fun _ => ?_)
  refine lv_aload_n hx hb dX14_setCapacity_15 rfl (lv_at hl 0 rfl) ?_
  refine lv_iconst (v := 1) hx hb dX14_setCapacity_16 (by decide) ?_
  refine zk_i (wr := []) (va_runV (As := [.int 1]) (rest := []) ⟨hx, hb, hml, hown, hts⟩ (kX14_refuse_0 l hst D yc e0 H.size a0 a1 a2 a3 a4 a5 a6 a7) (cwV 1 hts (lw_V wq1582 wq1584 ws33 wq6 wq1585) rfl rfl rfl (by decide +kernel) ⟨(Nat.le_of_ble_eq_true rfl), (Nat.le_of_ble_eq_true rfl)⟩) (zk_pV hC hP hD hS hA [0] rfl rfl 0 13 rfl rfl) rfl rfl hl.1 rfl (lv_room (Nat.le_of_ble_eq_true rfl)) dX14_setCapacity_17 ⟨(Nat.le_of_ble_eq_true rfl), (Nat.le_of_ble_eq_true rfl)⟩) hP hD hS hA [0] [] rfl rfl rfl (by decide) (fun u2 H locs hP hD hS => ?_)
  have hP : va_P D vwCl [(a0, .inr (13, [.int 0, .int 0, .ref a1, .ref a2, .ref a3, .ref a4, .ref a5, .ref a6, .ref a7, .int 1, .long 0]))] H := hP
  have hD : va_D A [(a0, .inr (13, [.int 0, .int 0, .ref a1, .ref a2, .ref a3, .ref a4, .ref a5, .ref a6, .ref a7, .int 1, .long 0]))] := hD
  refine W.widen (k := 0) (n := 0) (Nat.le_of_ble_eq_true rfl) (Nat.le_of_ble_eq_true rfl) ?_
  exact zk_ri (r0 := fun u => 0) (w1 := fun u => [(a0, .inr (13, [.int 0, .int 0, .ref a1, .ref a2, .ref a3, .ref a4, .ref a5, .ref a6, .ref a7, .int 1, .long 0]))]) hx hb hr hlk hP hD hS (fun _ _ => 0) rfl rfl [0] rfl rfl (Nat.le_of_ble_eq_true rfl) (Nat.le_of_ble_eq_true rfl) dX14_setCapacity_20
set_option maxHeartbeats 4000000 in
set_option maxRecDepth 100000 in
theorem kX10_isWithin_4 (l : Launch) (hst : l.stackTraces = false) (D : va_G) (yc : Nat → ClassId) (e0 sz : Nat) (p0 : Int32) (h0 : ¬ p0 < 1) (h1 : 20 < p0) : Met l yX10_isWithin (ws_ yX10_isWithin cX10_isWithin 3 (some .boolean)) ({ frames := 0, cells := 0, slots := 0, locals := 0 }) (PR D yc e0 [] sz [.int p0, .int 1, .int 20]) (va_Qi (fun r u => r = (fun u : Nat → Nat → Nat => 0) u) (WD D (va_A [] sz) (fun u => [])) (va_A [] sz)) 0 0 (va_A [] sz) := by
  refine zk_M (Qc := fun A => va_Qi (fun r u => r = (fun u : Nat → Nat → Nat => 0) u) (WD D A (fun u => [])) A) (by decide) (Nat.le_of_ble_eq_true rfl) ?_
  intro p e s m args below meth c A ls hx hb hml hr hlk hown hnm hts hP hD hS hA hC hl
  have hK := hC.1
  have hN := hC.2.1
  have hl : lv_has ls 3 [(0, .int p0), (1, .int 1), (2, .int 20)] := hl
  generalize hHH : s.heap = H at hP ⊢
  have hS : va_S A s.heap H [] := by rw [← hHH]; exact hS
  refine lv_iload_n hx hb dX10_isWithin_0 rfl (lv_at hl 0 rfl) ?_
  refine lv_iload_n hx hb dX10_isWithin_1 rfl (lv_at hl 1 rfl) ?_
  refine lv_icmp_lt (tgt := 14) hx hb dX10_isWithin_2 (by decide) (fun h9 => absurd h9 h0) (fun _ => ?_)
  refine lv_iload_n hx hb dX10_isWithin_5 rfl (lv_at hl 0 rfl) ?_
  refine lv_iload_n hx hb dX10_isWithin_6 rfl (lv_at hl 2 rfl) ?_
  refine lv_icmp_gt (tgt := 14) hx hb dX10_isWithin_7 (by decide) (fun _ => ?_) (fun h9 => absurd h1 h9)
  refine lv_iconst (v := 0) hx hb dX10_isWithin_14 (by decide) ?_
  exact zk_ri (r0 := fun u => 0) (w1 := fun u => []) hx hb hr hlk hP hD hS (fun _ _ => 0) rfl rfl [] rfl rfl (Nat.le_of_ble_eq_true rfl) (Nat.le_of_ble_eq_true rfl) dX10_isWithin_15
set_option maxHeartbeats 4000000 in
set_option maxRecDepth 100000 in
theorem kX10_setCapacity_1 (l : Launch) (hst : l.stackTraces = false) (D : va_G) (yc : Nat → ClassId) (e0 sz : Nat) (a0 : Nat) (p0 : Int32) (h0 : ¬ p0 < 1) (h1 : 20 < p0) : vx_Met l yX10_setCapacity (ws_ yX10_setCapacity cX10_setCapacity 3 (some .int)) ({ frames := 7, cells := 1, slots := 6, locals := 101 }) (PR D yc e0 [] sz [.ref a0, .int p0]) (fun _ _ _ _ => False) (zk_X D (va_A [] sz) "java/lang/IllegalArgumentException" (fun u => [])) 1 6 (va_A [] sz) := by
  refine zk_MX (by decide) (Nat.le_of_ble_eq_true rfl) ?_
  intro p e s m args below meth c A ls hx hb hml hr hlk hown hnm hts hP hD hS hA hC hl hnx
  have hK := hC.1
  have hN := hC.2.1
  have hl : lv_has ls 3 [(0, .ref a0), (1, .int p0)] := hl
  generalize hHH : s.heap = H at hP ⊢
  have hS : va_S A s.heap H [] := by rw [← hHH]; exact hS
  refine W.widen (k := 0) (n := 0) (Nat.le_of_ble_eq_true rfl) (Nat.le_of_ble_eq_true rfl) ?_
  refine lv_iload_n hx hb dX10_setCapacity_0 rfl (lv_at hl 1 rfl) ?_
  refine lv_iconst (v := 1) hx hb dX10_setCapacity_1 (by decide) ?_
  refine lv_bipush (v := 20) hx hb dX10_setCapacity_2 (by decide) ?_
  refine zk_i (wr := []) (va_runS (As := [.int p0, .int 1, .int 20]) (rest := []) ⟨hx, hb, hml, hown, hts⟩ (kX10_isWithin_4 l hst D yc e0 H.size p0 h0 h1) (va_cwS 3 hts (lw_S wq464 wq465 wq1 wq466) rfl rfl rfl (by decide +kernel) ⟨(Nat.le_of_ble_eq_true rfl), (Nat.le_of_ble_eq_true rfl)⟩) (zk_pS hC hP hD hS hA [] rfl rfl) rfl rfl hl.1 rfl (lv_room (Nat.le_of_ble_eq_true rfl)) dX10_setCapacity_4 ⟨(Nat.le_of_ble_eq_true rfl), (Nat.le_of_ble_eq_true rfl)⟩) hP hD hS hA [] [] rfl rfl rfl (by decide) (fun u1 H locs hP hD hS => ?_)
  have hP : va_P D vwCl [] H := hP
  have hD : va_D A [] := hD
  refine W.widen (k := 0) (n := 0) (Nat.le_of_ble_eq_true rfl) (Nat.le_of_ble_eq_true rfl) ?_
  refine zk_x (wr := []) (vx_runS (As := [.int 0]) (rest := []) ⟨hx, hb, hml, hown, hts⟩ (kX10_refuseUnless_0 l hst D yc e0 H.size) (va_cwS 1 hts (lw_S wq388 wq389 wq1 wq390) rfl rfl rfl (by decide +kernel) ⟨(Nat.le_of_ble_eq_true rfl), (Nat.le_of_ble_eq_true rfl)⟩) (zk_pS hC hP hD hS hA [] rfl rfl) rfl rfl hl.1 rfl (lv_room (Nat.le_of_ble_eq_true rfl)) dX10_setCapacity_7 ⟨(Nat.le_of_ble_eq_true rfl), (Nat.le_of_ble_eq_true rfl)⟩) hP hD hS hA [] [] rfl rfl rfl (by decide) (fun u2 ce q9 H locs hP hD hS hce hcv hcl => ?_)
  have hP : va_P D vwCl [] H := hP
  have hD : va_D A [] := hD
  exact vx_out (fun x9 hx9 => (hnx x9 hx9).elim) hlk hce hcv hcl (zk_out hP hD hS (fun _ _ => 0) [] rfl rfl) hS.2.2 (Nat.le_of_ble_eq_true rfl) (Nat.le_of_ble_eq_true rfl)
set_option maxHeartbeats 4000000 in
set_option maxRecDepth 100000 in
theorem kL_setCapacity_1 (l : Launch) (hst : l.stackTraces = false) (D : va_G) (yc : Nat → ClassId) (e0 sz : Nat) (a0 : Nat) (p0 : Int32) (a1 : Nat) (a2 : Nat) (a3 : Nat) (h0 : ¬ p0 < 1) (h1 : 20 < p0) : Met l yL_setCapacity (ww_ yL_setCapacity cL_setCapacity 4 (some .int) [(0, 9, 12, 13)]) ({ frames := 8, cells := 1, slots := 6, locals := 123 }) (PR D yc e0 [(a0, .inr (9, [.ref a2, .ref a3, .int 0, .int 0, .int 0]))] sz [.ref a0, .int p0, .ref a1]) (va_Qi (fun r u => r = (fun u : Nat → Nat → Nat => 1) u) (WD D (va_A [(a0, .inr (9, [.ref a2, .ref a3, .int 0, .int 0, .int 0]))] sz) (fun u => [(a0, .inr (9, [.ref a2, .ref a3, .int 0, .int 0, .int 0]))])) (va_A [(a0, .inr (9, [.ref a2, .ref a3, .int 0, .int 0, .int 0]))] sz)) 1 6 (va_A [(a0, .inr (9, [.ref a2, .ref a3, .int 0, .int 0, .int 0]))] sz) := by
  refine zk_MW (Qc := fun A => va_Qi (fun r u => r = (fun u : Nat → Nat → Nat => 1) u) (WD D A (fun u => [(a0, .inr (9, [.ref a2, .ref a3, .int 0, .int 0, .int 0]))])) A) (by decide) (Nat.le_of_ble_eq_true rfl) ?_
  intro p e s m args below meth c A ls hx hb hml hr hlk hown hts hP hD hS hA hC hl hex
  have hK := hC.1
  have hN := hC.2.1
  have hl : lv_has ls 4 [(0, .ref a0), (1, .int p0), (2, .ref a1)] := hl
  generalize hHH : s.heap = H at hP ⊢
  have hS : va_S A s.heap H [] := by rw [← hHH]; exact hS
  refine lv_aload_n hx hb dL_setCapacity_0 rfl (lv_at hl 2 rfl) ?_
  refine lv_iconst (v := 0) hx hb dL_setCapacity_1 (by decide) ?_
  refine lv_aload_n hx hb dL_setCapacity_2 rfl (lv_at hl 0 rfl) ?_
  refine lv_iload_n hx hb dL_setCapacity_3 rfl (lv_at hl 1 rfl) ?_
  refine zk_x (wr := [(a0, .inr (9, [.ref a2, .ref a3, .int 0, .int 0, .int 0]))]) (vx_runV (As := [.int p0]) (rest := [.int 0, .ref a1]) ⟨hx, hb, hml, hown, hts⟩ (kX10_setCapacity_1 l hst D yc e0 H.size a0 p0 h0 h1) (cwV 1 hts (lw_V wq890 wq891 wq892 wq1 wq893) rfl rfl rfl (by decide +kernel) ⟨(Nat.le_of_ble_eq_true rfl), (Nat.le_of_ble_eq_true rfl)⟩) (zk_pV hC hP hD hS hA [] rfl rfl 0 9 rfl rfl) rfl rfl hl.1 rfl (lv_room (Nat.le_of_ble_eq_true rfl)) dL_setCapacity_4 ⟨(Nat.le_of_ble_eq_true rfl), (Nat.le_of_ble_eq_true rfl)⟩) hP hD hS hA [] [0] rfl rfl rfl (by decide) (fun u1 ce q9 H locs hP hD hS hce hcv hcl => ?_)
  have hP : va_P D vwCl [(a0, .inr (9, [.ref a2, .ref a3, .int 0, .int 0, .int 0]))] H := hP
  have hD : va_D A [(a0, .inr (9, [.ref a2, .ref a3, .int 0, .int 0, .int 0]))] := hD
  refine vx_catch (own := RL) (name := "java/lang/IllegalArgumentException") hown (tableOf []) ⟨0, 9, 12, 13⟩ (tableOf []) hex (fun z hz => False.elim (List.not_mem_nil hz)) (by decide) (by decide) (hts _ wq458) (zk_tab rfl (hN _ wr393 rfl)) hce hcv hcl ?_
  refine W.widen (k := 1) (n := 6) (Nat.le_of_ble_eq_true rfl) (Nat.le_of_ble_eq_true rfl) ?_
  refine lv_astore_n (lv' := [(3, .ref q9), (0, .ref a0), (1, .int p0), (2, .ref a1)]) hx hb dL_setCapacity_12 rfl hl (by decide) rfl (fun ls hl => ?_)
  refine lv_iconst (v := 1) hx hb dL_setCapacity_13 (by decide) ?_
  exact zk_ri (r0 := fun u => 1) (w1 := fun u => [(a0, .inr (9, [.ref a2, .ref a3, .int 0, .int 0, .int 0]))]) hx hb hr hlk hP hD hS (fun _ _ => 0) rfl rfl [0] rfl rfl (Nat.le_of_ble_eq_true rfl) (Nat.le_of_ble_eq_true rfl) dL_setCapacity_14
set_option maxHeartbeats 4000000 in
set_option maxRecDepth 100000 in
theorem kX14_is_5 (l : Launch) (hst : l.stackTraces = false) (D : va_G) (yc : Nat → ClassId) (e0 sz : Nat) (p0 : Int32) (h0 : ¬ p0 < 1) (h1 : 20 < p0) : Met l yX14_is (ws_ yX14_is cX14_is 3 (some .boolean)) ({ frames := 0, cells := 0, slots := 0, locals := 0 }) (PR D yc e0 [] sz [.int p0, .int 1, .int 20]) (va_Qi (fun r u => r = (fun u : Nat → Nat → Nat => 0) u) (WD D (va_A [] sz) (fun u => [])) (va_A [] sz)) 0 0 (va_A [] sz) := by
  refine zk_M (Qc := fun A => va_Qi (fun r u => r = (fun u : Nat → Nat → Nat => 0) u) (WD D A (fun u => [])) A) (by decide) (Nat.le_of_ble_eq_true rfl) ?_
  intro p e s m args below meth c A ls hx hb hml hr hlk hown hnm hts hP hD hS hA hC hl
  have hK := hC.1
  have hN := hC.2.1
  have hl : lv_has ls 3 [(0, .int p0), (1, .int 1), (2, .int 20)] := hl
  generalize hHH : s.heap = H at hP ⊢
  have hS : va_S A s.heap H [] := by rw [← hHH]; exact hS
  refine lv_iload_n hx hb dX14_is_0 rfl (lv_at hl 0 rfl) ?_
  refine lv_iload_n hx hb dX14_is_1 rfl (lv_at hl 1 rfl) ?_
  refine lv_icmp_lt (tgt := 14) hx hb dX14_is_2 (by decide) (fun h9 => absurd h9 h0) (fun _ => ?_)
  refine lv_iload_n hx hb dX14_is_5 rfl (lv_at hl 0 rfl) ?_
  refine lv_iload_n hx hb dX14_is_6 rfl (lv_at hl 2 rfl) ?_
  refine lv_icmp_gt (tgt := 14) hx hb dX14_is_7 (by decide) (fun _ => ?_) (fun h9 => absurd h1 h9)
  refine lv_iconst (v := 0) hx hb dX14_is_14 (by decide) ?_
  exact zk_ri (r0 := fun u => 0) (w1 := fun u => []) hx hb hr hlk hP hD hS (fun _ _ => 0) rfl rfl [] rfl rfl (Nat.le_of_ble_eq_true rfl) (Nat.le_of_ble_eq_true rfl) dX14_is_15
set_option maxHeartbeats 4000000 in
set_option maxRecDepth 100000 in
theorem kX14_setCapacity_1 (l : Launch) (hst : l.stackTraces = false) (D : va_G) (yc : Nat → ClassId) (e0 sz : Nat) (a0 : Nat) (p0 : Int32) (a1 : Nat) (a2 : Nat) (a3 : Nat) (a4 : Nat) (a5 : Nat) (a6 : Nat) (a7 : Nat) (h0 : ¬ p0 < 1) (h1 : 20 < p0) : Met l yX14_setCapacity (ws_ yX14_setCapacity cX14_setCapacity 3 (some .int)) ({ frames := 1, cells := 0, slots := 0, locals := 22 }) (PR D yc e0 [(a0, .inr (13, [.int 0, .int 0, .ref a1, .ref a2, .ref a3, .ref a4, .ref a5, .ref a6, .ref a7, .int 0, .long 0]))] sz [.ref a0, .int p0]) (va_Qi (fun r u => r = (fun u : Nat → Nat → Nat => 0) u) (WD D (va_A [(a0, .inr (13, [.int 0, .int 0, .ref a1, .ref a2, .ref a3, .ref a4, .ref a5, .ref a6, .ref a7, .int 0, .long 0]))] sz) (fun u => [(a0, .inr (13, [.int 0, .int 0, .ref a1, .ref a2, .ref a3, .ref a4, .ref a5, .ref a6, .ref a7, .int 1, .long 0]))])) (va_A [(a0, .inr (13, [.int 0, .int 0, .ref a1, .ref a2, .ref a3, .ref a4, .ref a5, .ref a6, .ref a7, .int 0, .long 0]))] sz)) 0 0 (va_A [(a0, .inr (13, [.int 0, .int 0, .ref a1, .ref a2, .ref a3, .ref a4, .ref a5, .ref a6, .ref a7, .int 0, .long 0]))] sz) := by
  refine zk_M (Qc := fun A => va_Qi (fun r u => r = (fun u : Nat → Nat → Nat => 0) u) (WD D A (fun u => [(a0, .inr (13, [.int 0, .int 0, .ref a1, .ref a2, .ref a3, .ref a4, .ref a5, .ref a6, .ref a7, .int 1, .long 0]))])) A) (by decide) (Nat.le_of_ble_eq_true rfl) ?_
  intro p e s m args below meth c A ls hx hb hml hr hlk hown hnm hts hP hD hS hA hC hl
  have hK := hC.1
  have hN := hC.2.1
  have hl : lv_has ls 3 [(0, .ref a0), (1, .int p0)] := hl
  generalize hHH : s.heap = H at hP ⊢
  have hS : va_S A s.heap H [] := by rw [← hHH]; exact hS
  refine lv_aload_n hx hb dX14_setCapacity_0 rfl (lv_at hl 0 rfl) ?_
  refine lv_iconst (v := 0) hx hb dX14_setCapacity_1 (by decide) ?_
  refine va_put (D := D) (ci := 13) (v := .int 0) (ty := .int) (C := RX14) (T := TX14) (N := 11) hx hb hts iX14 tyX14 tyX14_ok nmX14 hown hK hP hD hS 0 rfl rfl 9 (by decide) (hts _ wq1542) (fun _ h9 => h9) rfl (by decide +kernel) rfl rfl (Nat.le_of_ble_eq_true rfl) dX14_setCapacity_2 (fun H locs hP hD hS => ?_)
  have hP : va_P D vwCl [(a0, .inr (13, [.int 0, .int 0, .ref a1, .ref a2, .ref a3, .ref a4, .ref a5, .ref a6, .ref a7, .int 0, .long 0]))] H := hP
  have hD : va_D A [(a0, .inr (13, [.int 0, .int 0, .ref a1, .ref a2, .ref a3, .ref a4, .ref a5, .ref a6, .ref a7, .int 0, .long 0]))] := hD
  refine lv_iload_n hx hb dX14_setCapacity_5 rfl (lv_at hl 1 rfl) ?_
  refine lv_iconst (v := 1) hx hb dX14_setCapacity_6 (by decide) ?_
  refine lv_bipush (v := 20) hx hb dX14_setCapacity_7 (by decide) ?_
  refine zk_i (wr := [(a0, .inr (13, [.int 0, .int 0, .ref a1, .ref a2, .ref a3, .ref a4, .ref a5, .ref a6, .ref a7, .int 0, .long 0]))]) (va_runS (As := [.int p0, .int 1, .int 20]) (rest := []) ⟨hx, hb, hml, hown, hts⟩ (kX14_is_5 l hst D yc e0 H.size p0 h0 h1) (va_cwS 3 hts (lw_S wq1575 wq1576 wq6 wq1577) rfl rfl rfl (by decide +kernel) ⟨(Nat.le_of_ble_eq_true rfl), (Nat.le_of_ble_eq_true rfl)⟩) (zk_pS hC hP hD hS hA [] rfl rfl) rfl rfl hl.1 rfl (lv_room (Nat.le_of_ble_eq_true rfl)) dX14_setCapacity_9 ⟨(Nat.le_of_ble_eq_true rfl), (Nat.le_of_ble_eq_true rfl)⟩) hP hD hS hA [] [0] rfl rfl rfl (by decide) (fun u1 H locs hP hD hS => ?_)
  have hP : va_P D vwCl [(a0, .inr (13, [.int 0, .int 0, .ref a1, .ref a2, .ref a3, .ref a4, .ref a5, .ref a6, .ref a7, .int 0, .long 0]))] H := hP
  have hD : va_D A [(a0, .inr (13, [.int 0, .int 0, .ref a1, .ref a2, .ref a3, .ref a4, .ref a5, .ref a6, .ref a7, .int 0, .long 0]))] := hD
  refine W.widen (k := 0) (n := 0) (Nat.le_of_ble_eq_true rfl) (Nat.le_of_ble_eq_true rfl) ?_
  refine lv_if_ne (tgt := 21) hx hb dX14_setCapacity_12 (by decide) (fun h9 => absurd (by decide) h9) (fun _ => ?_)
  refine lv_aload_n hx hb dX14_setCapacity_15 rfl (lv_at hl 0 rfl) ?_
  refine lv_iconst (v := 1) hx hb dX14_setCapacity_16 (by decide) ?_
  refine zk_i (wr := []) (va_runV (As := [.int 1]) (rest := []) ⟨hx, hb, hml, hown, hts⟩ (kX14_refuse_0 l hst D yc e0 H.size a0 a1 a2 a3 a4 a5 a6 a7) (cwV 1 hts (lw_V wq1582 wq1584 ws33 wq6 wq1585) rfl rfl rfl (by decide +kernel) ⟨(Nat.le_of_ble_eq_true rfl), (Nat.le_of_ble_eq_true rfl)⟩) (zk_pV hC hP hD hS hA [0] rfl rfl 0 13 rfl rfl) rfl rfl hl.1 rfl (lv_room (Nat.le_of_ble_eq_true rfl)) dX14_setCapacity_17 ⟨(Nat.le_of_ble_eq_true rfl), (Nat.le_of_ble_eq_true rfl)⟩) hP hD hS hA [0] [] rfl rfl rfl (by decide) (fun u2 H locs hP hD hS => ?_)
  have hP : va_P D vwCl [(a0, .inr (13, [.int 0, .int 0, .ref a1, .ref a2, .ref a3, .ref a4, .ref a5, .ref a6, .ref a7, .int 1, .long 0]))] H := hP
  have hD : va_D A [(a0, .inr (13, [.int 0, .int 0, .ref a1, .ref a2, .ref a3, .ref a4, .ref a5, .ref a6, .ref a7, .int 1, .long 0]))] := hD
  refine W.widen (k := 0) (n := 0) (Nat.le_of_ble_eq_true rfl) (Nat.le_of_ble_eq_true rfl) ?_
  exact zk_ri (r0 := fun u => 0) (w1 := fun u => [(a0, .inr (13, [.int 0, .int 0, .ref a1, .ref a2, .ref a3, .ref a4, .ref a5, .ref a6, .ref a7, .int 1, .long 0]))]) hx hb hr hlk hP hD hS (fun _ _ => 0) rfl rfl [0] rfl rfl (Nat.le_of_ble_eq_true rfl) (Nat.le_of_ble_eq_true rfl) dX14_setCapacity_20
set_option maxHeartbeats 4000000 in
set_option maxRecDepth 100000 in
theorem kX10_isWithin_5 (l : Launch) (hst : l.stackTraces = false) (D : va_G) (yc : Nat → ClassId) (e0 sz : Nat) (p0 : Int32) (h0 : ¬ p0 < 1) (h1 : ¬ 20 < p0) : Met l yX10_isWithin (ws_ yX10_isWithin cX10_isWithin 3 (some .boolean)) ({ frames := 0, cells := 0, slots := 0, locals := 0 }) (PR D yc e0 [] sz [.int p0, .int 1, .int 20]) (va_Qi (fun r u => r = (fun u : Nat → Nat → Nat => 1) u) (WD D (va_A [] sz) (fun u => [])) (va_A [] sz)) 0 0 (va_A [] sz) := by
  refine zk_M (Qc := fun A => va_Qi (fun r u => r = (fun u : Nat → Nat → Nat => 1) u) (WD D A (fun u => [])) A) (by decide) (Nat.le_of_ble_eq_true rfl) ?_
  intro p e s m args below meth c A ls hx hb hml hr hlk hown hnm hts hP hD hS hA hC hl
  have hK := hC.1
  have hN := hC.2.1
  have hl : lv_has ls 3 [(0, .int p0), (1, .int 1), (2, .int 20)] := hl
  generalize hHH : s.heap = H at hP ⊢
  have hS : va_S A s.heap H [] := by rw [← hHH]; exact hS
  refine lv_iload_n hx hb dX10_isWithin_0 rfl (lv_at hl 0 rfl) ?_
  refine lv_iload_n hx hb dX10_isWithin_1 rfl (lv_at hl 1 rfl) ?_
  refine lv_icmp_lt (tgt := 14) hx hb dX10_isWithin_2 (by decide) (fun h9 => absurd h9 h0) (fun _ => ?_)
  refine lv_iload_n hx hb dX10_isWithin_5 rfl (lv_at hl 0 rfl) ?_
  refine lv_iload_n hx hb dX10_isWithin_6 rfl (lv_at hl 2 rfl) ?_
  refine lv_icmp_gt (tgt := 14) hx hb dX10_isWithin_7 (by decide) (fun h9 => absurd h9 h1) (fun _ => ?_)
  refine lv_iconst (v := 1) hx hb dX10_isWithin_10 (by decide) ?_
  refine lv_goto (tgt := 15) hx hb dX10_isWithin_11 (by decide) ?_
  exact zk_ri (r0 := fun u => 1) (w1 := fun u => []) hx hb hr hlk hP hD hS (fun _ _ => 0) rfl rfl [] rfl rfl (Nat.le_of_ble_eq_true rfl) (Nat.le_of_ble_eq_true rfl) dX10_isWithin_15
set_option maxHeartbeats 4000000 in
set_option maxRecDepth 100000 in
theorem kX10_setCapacity_2 (l : Launch) (hst : l.stackTraces = false) (D : va_G) (yc : Nat → ClassId) (e0 sz : Nat) (a0 : Nat) (p0 : Int32) (a1 : Nat) (a2 : Nat) (a3 : Nat) (h0 : ¬ p0 < 1) (h1 : ¬ 20 < p0) : Met l yX10_setCapacity (ws_ yX10_setCapacity cX10_setCapacity 3 (some .int)) ({ frames := 1, cells := 0, slots := 0, locals := 22 }) (PR D yc e0 [(a0, .inr (9, [.ref a1, .ref a2, .int 0, .int 0, .int 0])), (a1, .inr (2, [.int 0, .ref a3, .int 8, .int (-1), .int 0, .int 0, .int 0, .int 0]))] sz [.ref a0, .int p0]) (va_Qi (fun r u => r = (fun u : Nat → Nat → Nat => 8) u) (WD D (va_A [(a0, .inr (9, [.ref a1, .ref a2, .int 0, .int 0, .int 0])), (a1, .inr (2, [.int 0, .ref a3, .int 8, .int (-1), .int 0, .int 0, .int 0, .int 0]))] sz) (fun u => [(a0, .inr (9, [.ref a1, .ref a2, .int 0, .int 0, .int 0])), (a1, .inr (2, [.int 0, .ref a3, .int p0, .int (-1), .int 0, .int 0, .int 0, .int 0]))])) (va_A [(a0, .inr (9, [.ref a1, .ref a2, .int 0, .int 0, .int 0])), (a1, .inr (2, [.int 0, .ref a3, .int 8, .int (-1), .int 0, .int 0, .int 0, .int 0]))] sz)) 0 0 (va_A [(a0, .inr (9, [.ref a1, .ref a2, .int 0, .int 0, .int 0])), (a1, .inr (2, [.int 0, .ref a3, .int 8, .int (-1), .int 0, .int 0, .int 0, .int 0]))] sz) := by
  refine zk_M (Qc := fun A => va_Qi (fun r u => r = (fun u : Nat → Nat → Nat => 8) u) (WD D A (fun u => [(a0, .inr (9, [.ref a1, .ref a2, .int 0, .int 0, .int 0])), (a1, .inr (2, [.int 0, .ref a3, .int p0, .int (-1), .int 0, .int 0, .int 0, .int 0]))])) A) (by decide) (Nat.le_of_ble_eq_true rfl) ?_
  intro p e s m args below meth c A ls hx hb hml hr hlk hown hnm hts hP hD hS hA hC hl
  have hK := hC.1
  have hN := hC.2.1
  have hl : lv_has ls 3 [(0, .ref a0), (1, .int p0)] := hl
  generalize hHH : s.heap = H at hP ⊢
  have hS : va_S A s.heap H [] := by rw [← hHH]; exact hS
  refine lv_iload_n hx hb dX10_setCapacity_0 rfl (lv_at hl 1 rfl) ?_
  refine lv_iconst (v := 1) hx hb dX10_setCapacity_1 (by decide) ?_
  refine lv_bipush (v := 20) hx hb dX10_setCapacity_2 (by decide) ?_
  refine zk_i (wr := [(a0, .inr (9, [.ref a1, .ref a2, .int 0, .int 0, .int 0])), (a1, .inr (2, [.int 0, .ref a3, .int 8, .int (-1), .int 0, .int 0, .int 0, .int 0]))]) (va_runS (As := [.int p0, .int 1, .int 20]) (rest := []) ⟨hx, hb, hml, hown, hts⟩ (kX10_isWithin_5 l hst D yc e0 H.size p0 h0 h1) (va_cwS 3 hts (lw_S wq464 wq465 wq1 wq466) rfl rfl rfl (by decide +kernel) ⟨(Nat.le_of_ble_eq_true rfl), (Nat.le_of_ble_eq_true rfl)⟩) (zk_pS hC hP hD hS hA [] rfl rfl) rfl rfl hl.1 rfl (lv_room (Nat.le_of_ble_eq_true rfl)) dX10_setCapacity_4 ⟨(Nat.le_of_ble_eq_true rfl), (Nat.le_of_ble_eq_true rfl)⟩) hP hD hS hA [] [0, 1] rfl rfl rfl (by decide) (fun u1 H locs hP hD hS => ?_)
  have hP : va_P D vwCl [(a0, .inr (9, [.ref a1, .ref a2, .int 0, .int 0, .int 0])), (a1, .inr (2, [.int 0, .ref a3, .int 8, .int (-1), .int 0, .int 0, .int 0, .int 0]))] H := hP
  have hD : va_D A [(a0, .inr (9, [.ref a1, .ref a2, .int 0, .int 0, .int 0])), (a1, .inr (2, [.int 0, .ref a3, .int 8, .int (-1), .int 0, .int 0, .int 0, .int 0]))] := hD
  refine W.widen (k := 0) (n := 0) (Nat.le_of_ble_eq_true rfl) (Nat.le_of_ble_eq_true rfl) ?_
  refine zk_v (wr := [(a0, .inr (9, [.ref a1, .ref a2, .int 0, .int 0, .int 0])), (a1, .inr (2, [.int 0, .ref a3, .int 8, .int (-1), .int 0, .int 0, .int 0, .int 0]))]) (va_runS (As := [.int 1]) (rest := []) ⟨hx, hb, hml, hown, hts⟩ (kX10_refuseUnless_1 l hst D yc e0 H.size) (va_cwS 1 hts (lw_S wq388 wq389 wq1 wq390) rfl rfl rfl (by decide +kernel) ⟨(Nat.le_of_ble_eq_true rfl), (Nat.le_of_ble_eq_true rfl)⟩) (zk_pS hC hP hD hS hA [] rfl rfl) rfl rfl hl.1 rfl (lv_room (Nat.le_of_ble_eq_true rfl)) dX10_setCapacity_7 ⟨(Nat.le_of_ble_eq_true rfl), (Nat.le_of_ble_eq_true rfl)⟩) hP hD hS hA [] [0, 1] rfl rfl rfl (by decide) (fun u2 H locs hP hD hS => ?_)
  have hP : va_P D vwCl [(a0, .inr (9, [.ref a1, .ref a2, .int 0, .int 0, .int 0])), (a1, .inr (2, [.int 0, .ref a3, .int 8, .int (-1), .int 0, .int 0, .int 0, .int 0]))] H := hP
  have hD : va_D A [(a0, .inr (9, [.ref a1, .ref a2, .int 0, .int 0, .int 0])), (a1, .inr (2, [.int 0, .ref a3, .int 8, .int (-1), .int 0, .int 0, .int 0, .int 0]))] := hD
  refine W.widen (k := 0) (n := 0) (Nat.le_of_ble_eq_true rfl) (Nat.le_of_ble_eq_true rfl) ?_
  refine lv_aload_n hx hb dX10_setCapacity_10 rfl (lv_at hl 0 rfl) ?_
  refine va_get (D := D) (ci := 9) (v := .ref a1) (C := RX10) (T := TX10) (N := 5) hx hb hts iX10 hown hK hP 0 rfl rfl 0 (by decide) (hts _ wq99) (fun _ h9 => h9) rfl dX10_setCapacity_11 ?_
  refine va_getN (D := D) (ci := 2) (v := .int 8) (C := RX2) (T := TX2) (N := 8) hx hb hts iX2 hown hK hP 1 rfl rfl 2 (by decide) (zk_tab rfl (hN _ wr74 rfl)) (fun _ h9 => h9) rfl dX10_setCapacity_14 ?_
  refine lv_istore_n (lv' := [(2, .int 8), (0, .ref a0), (1, .int p0)]) hx hb dX10_setCapacity_17 rfl hl (by decide) rfl (fun ls hl => ?_)
  refine lv_aload_n hx hb dX10_setCapacity_18 rfl (lv_at hl 1 rfl) ?_
  refine va_get (D := D) (ci := 9) (v := .ref a1) (C := RX10) (T := TX10) (N := 5) hx hb hts iX10 hown hK hP 0 rfl rfl 0 (by decide) (hts _ wq99) (fun _ h9 => h9) rfl dX10_setCapacity_19 ?_
  refine lv_iload_n hx hb dX10_setCapacity_22 rfl (lv_at hl 2 rfl) ?_
  refine va_putN (D := D) (ci := 2) (v := .int p0) (ty := .int) (C := RX2) (T := TX2) (N := 8) hx hb hts iX2 tyX2 tyX2_ok nmX2 hown hK hP hD hS 1 rfl rfl 2 (by decide) (zk_tab rfl (hN _ wr74 rfl)) (fun _ h9 => h9) rfl (by decide +kernel) rfl rfl (Nat.le_of_ble_eq_true rfl) dX10_setCapacity_23 (fun H locs hP hD hS => ?_)
  have hP : va_P D vwCl [(a0, .inr (9, [.ref a1, .ref a2, .int 0, .int 0, .int 0])), (a1, .inr (2, [.int 0, .ref a3, .int p0, .int (-1), .int 0, .int 0, .int 0, .int 0]))] H := hP
  have hD : va_D A [(a0, .inr (9, [.ref a1, .ref a2, .int 0, .int 0, .int 0])), (a1, .inr (2, [.int 0, .ref a3, .int p0, .int (-1), .int 0, .int 0, .int 0, .int 0]))] := hD
  refine lv_iload_n hx hb dX10_setCapacity_26 rfl (lv_at hl 0 rfl) ?_
  exact zk_ri (r0 := fun u => 8) (w1 := fun u => [(a0, .inr (9, [.ref a1, .ref a2, .int 0, .int 0, .int 0])), (a1, .inr (2, [.int 0, .ref a3, .int p0, .int (-1), .int 0, .int 0, .int 0, .int 0]))]) hx hb hr hlk hP hD hS (fun _ _ => 0) rfl rfl [0, 1] rfl rfl (Nat.le_of_ble_eq_true rfl) (Nat.le_of_ble_eq_true rfl) dX10_setCapacity_27
set_option maxHeartbeats 4000000 in
set_option maxRecDepth 100000 in
theorem kL_setCapacity_2 (l : Launch) (hst : l.stackTraces = false) (D : va_G) (yc : Nat → ClassId) (e0 sz : Nat) (a0 : Nat) (p0 : Int32) (a1 : Nat) (a2 : Nat) (a3 : Nat) (a4 : Nat) (h0 : ¬ p0 < 1) (h1 : ¬ 20 < p0) : Met l yL_setCapacity (ww_ yL_setCapacity cL_setCapacity 4 (some .int) [(0, 9, 12, 13)]) ({ frames := 2, cells := 0, slots := 0, locals := 44 }) (PR D yc e0 [(a0, .inr (9, [.ref a2, .ref a3, .int 0, .int 0, .int 0])), (a1, .inl (yc 1, 1, .inr (.inl (fun _ => 0)))), (a2, .inr (2, [.int 0, .ref a4, .int 8, .int (-1), .int 0, .int 0, .int 0, .int 0]))] sz [.ref a0, .int p0, .ref a1]) (va_Qi (fun r u => r = (fun u : Nat → Nat → Nat => 0) u) (WD D (va_A [(a0, .inr (9, [.ref a2, .ref a3, .int 0, .int 0, .int 0])), (a1, .inl (yc 1, 1, .inr (.inl (fun _ => 0)))), (a2, .inr (2, [.int 0, .ref a4, .int 8, .int (-1), .int 0, .int 0, .int 0, .int 0]))] sz) (fun u => [(a1, .inl (yc 1, 1, .inr (.inl (vp_updL (fun _ => 0) (0 : Int32).toNatClampNeg 8)))), (a0, .inr (9, [.ref a2, .ref a3, .int 0, .int 0, .int 0])), (a2, .inr (2, [.int 0, .ref a4, .int p0, .int (-1), .int 0, .int 0, .int 0, .int 0]))])) (va_A [(a0, .inr (9, [.ref a2, .ref a3, .int 0, .int 0, .int 0])), (a1, .inl (yc 1, 1, .inr (.inl (fun _ => 0)))), (a2, .inr (2, [.int 0, .ref a4, .int 8, .int (-1), .int 0, .int 0, .int 0, .int 0]))] sz)) 0 0 (va_A [(a0, .inr (9, [.ref a2, .ref a3, .int 0, .int 0, .int 0])), (a1, .inl (yc 1, 1, .inr (.inl (fun _ => 0)))), (a2, .inr (2, [.int 0, .ref a4, .int 8, .int (-1), .int 0, .int 0, .int 0, .int 0]))] sz) := by
  refine zk_MW (Qc := fun A => va_Qi (fun r u => r = (fun u : Nat → Nat → Nat => 0) u) (WD D A (fun u => [(a1, .inl (yc 1, 1, .inr (.inl (vp_updL (fun _ => 0) (0 : Int32).toNatClampNeg 8)))), (a0, .inr (9, [.ref a2, .ref a3, .int 0, .int 0, .int 0])), (a2, .inr (2, [.int 0, .ref a4, .int p0, .int (-1), .int 0, .int 0, .int 0, .int 0]))])) A) (by decide) (Nat.le_of_ble_eq_true rfl) ?_
  intro p e s m args below meth c A ls hx hb hml hr hlk hown hts hP hD hS hA hC hl hex
  have hK := hC.1
  have hN := hC.2.1
  have hl : lv_has ls 4 [(0, .ref a0), (1, .int p0), (2, .ref a1)] := hl
  generalize hHH : s.heap = H at hP ⊢
  have hS : va_S A s.heap H [] := by rw [← hHH]; exact hS
  refine lv_aload_n hx hb dL_setCapacity_0 rfl (lv_at hl 2 rfl) ?_
  refine lv_iconst (v := 0) hx hb dL_setCapacity_1 (by decide) ?_
  refine lv_aload_n hx hb dL_setCapacity_2 rfl (lv_at hl 0 rfl) ?_
  refine lv_iload_n hx hb dL_setCapacity_3 rfl (lv_at hl 1 rfl) ?_
  refine zk_i (wr := [(a1, .inl (yc 1, 1, .inr (.inl (fun _ => 0))))]) (va_runV (As := [.int p0]) (rest := [.int 0, .ref a1]) ⟨hx, hb, hml, hown, hts⟩ (kX10_setCapacity_2 l hst D yc e0 H.size a0 p0 a2 a3 a4 h0 h1) (cwV 1 hts (lw_V wq890 wq891 wq892 wq1 wq893) rfl rfl rfl (by decide +kernel) ⟨(Nat.le_of_ble_eq_true rfl), (Nat.le_of_ble_eq_true rfl)⟩) (zk_pV hC hP hD hS hA [0, 2] rfl rfl 0 9 rfl rfl) rfl rfl hl.1 rfl (lv_room (Nat.le_of_ble_eq_true rfl)) dL_setCapacity_4 ⟨(Nat.le_of_ble_eq_true rfl), (Nat.le_of_ble_eq_true rfl)⟩) hP hD hS hA [0, 2] [1] rfl rfl rfl (by decide) (fun u1 H locs hP hD hS => ?_)
  have hP : va_P D vwCl [(a1, .inl (yc 1, 1, .inr (.inl (fun _ => 0)))), (a0, .inr (9, [.ref a2, .ref a3, .int 0, .int 0, .int 0])), (a2, .inr (2, [.int 0, .ref a4, .int p0, .int (-1), .int 0, .int 0, .int 0, .int 0]))] H := hP
  have hD : va_D A [(a1, .inl (yc 1, 1, .inr (.inl (fun _ => 0)))), (a0, .inr (9, [.ref a2, .ref a3, .int 0, .int 0, .int 0])), (a2, .inr (2, [.int 0, .ref a4, .int p0, .int (-1), .int 0, .int 0, .int 0, .int 0]))] := hD
  refine W.widen (k := 0) (n := 0) (Nat.le_of_ble_eq_true rfl) (Nat.le_of_ble_eq_true rfl) ?_
  refine lv_i2l (v := 8) hx hb dL_setCapacity_7 (by decide) ?_
  refine va_last hx hb hK hP hD hS 0 1 rfl rfl (by unfold vp_in; decide) dL_setCapacity_8 (fun H locs hP hD hS => ?_)
  have hP : va_P D vwCl [(a1, .inl (yc 1, 1, .inr (.inl (vp_updL (fun _ => 0) (0 : Int32).toNatClampNeg 8)))), (a0, .inr (9, [.ref a2, .ref a3, .int 0, .int 0, .int 0])), (a2, .inr (2, [.int 0, .ref a4, .int p0, .int (-1), .int 0, .int 0, .int 0, .int 0]))] H := hP
  have hD : va_D A [(a1, .inl (yc 1, 1, .inr (.inl (vp_updL (fun _ => 0) (0 : Int32).toNatClampNeg 8)))), (a0, .inr (9, [.ref a2, .ref a3, .int 0, .int 0, .int 0])), (a2, .inr (2, [.int 0, .ref a4, .int p0, .int (-1), .int 0, .int 0, .int 0, .int 0]))] := hD
  refine lv_goto (tgt := 15) hx hb dL_setCapacity_9 (by decide) ?_
  refine lv_iconst (v := 0) hx hb dL_setCapacity_15 (by decide) ?_
  exact zk_ri (r0 := fun u => 0) (w1 := fun u => [(a1, .inl (yc 1, 1, .inr (.inl (vp_updL (fun _ => 0) (0 : Int32).toNatClampNeg 8)))), (a0, .inr (9, [.ref a2, .ref a3, .int 0, .int 0, .int 0])), (a2, .inr (2, [.int 0, .ref a4, .int p0, .int (-1), .int 0, .int 0, .int 0, .int 0]))]) hx hb hr hlk hP hD hS (fun _ _ => 0) rfl rfl [0, 1, 2] rfl rfl (Nat.le_of_ble_eq_true rfl) (Nat.le_of_ble_eq_true rfl) dL_setCapacity_16
set_option maxHeartbeats 4000000 in
set_option maxRecDepth 100000 in
theorem kX14_is_6 (l : Launch) (hst : l.stackTraces = false) (D : va_G) (yc : Nat → ClassId) (e0 sz : Nat) (p0 : Int32) (h0 : ¬ p0 < 1) (h1 : ¬ 20 < p0) : Met l yX14_is (ws_ yX14_is cX14_is 3 (some .boolean)) ({ frames := 0, cells := 0, slots := 0, locals := 0 }) (PR D yc e0 [] sz [.int p0, .int 1, .int 20]) (va_Qi (fun r u => r = (fun u : Nat → Nat → Nat => 1) u) (WD D (va_A [] sz) (fun u => [])) (va_A [] sz)) 0 0 (va_A [] sz) := by
  refine zk_M (Qc := fun A => va_Qi (fun r u => r = (fun u : Nat → Nat → Nat => 1) u) (WD D A (fun u => [])) A) (by decide) (Nat.le_of_ble_eq_true rfl) ?_
  intro p e s m args below meth c A ls hx hb hml hr hlk hown hnm hts hP hD hS hA hC hl
  have hK := hC.1
  have hN := hC.2.1
  have hl : lv_has ls 3 [(0, .int p0), (1, .int 1), (2, .int 20)] := hl
  generalize hHH : s.heap = H at hP ⊢
  have hS : va_S A s.heap H [] := by rw [← hHH]; exact hS
  refine lv_iload_n hx hb dX14_is_0 rfl (lv_at hl 0 rfl) ?_
  refine lv_iload_n hx hb dX14_is_1 rfl (lv_at hl 1 rfl) ?_
  refine lv_icmp_lt (tgt := 14) hx hb dX14_is_2 (by decide) (fun h9 => absurd h9 h0) (fun _ => ?_)
  refine lv_iload_n hx hb dX14_is_5 rfl (lv_at hl 0 rfl) ?_
  refine lv_iload_n hx hb dX14_is_6 rfl (lv_at hl 2 rfl) ?_
  refine lv_icmp_gt (tgt := 14) hx hb dX14_is_7 (by decide) (fun h9 => absurd h9 h1) (fun _ => ?_)
  refine lv_iconst (v := 1) hx hb dX14_is_10 (by decide) ?_
  refine lv_goto (tgt := 15) hx hb dX14_is_11 (by decide) ?_
  exact zk_ri (r0 := fun u => 1) (w1 := fun u => []) hx hb hr hlk hP hD hS (fun _ _ => 0) rfl rfl [] rfl rfl (Nat.le_of_ble_eq_true rfl) (Nat.le_of_ble_eq_true rfl) dX14_is_15
set_option maxHeartbeats 4000000 in
set_option maxRecDepth 100000 in
theorem kX14_setCapacity_2 (l : Launch) (hst : l.stackTraces = false) (D : va_G) (yc : Nat → ClassId) (e0 sz : Nat) (a0 : Nat) (p0 : Int32) (a1 : Nat) (a2 : Nat) (a3 : Nat) (a4 : Nat) (a5 : Nat) (a6 : Nat) (a7 : Nat) (a8 : Nat) (a9 : Nat) (a10 : Nat) (a11 : Nat) (a12 : Nat) (a13 : Nat) (a14 : Nat) (a15 : Nat) (a16 : Nat) (h0 : ¬ p0 < 1) (h1 : ¬ 20 < p0) : Met l yX14_setCapacity (ws_ yX14_setCapacity cX14_setCapacity 3 (some .int)) ({ frames := 1, cells := 0, slots := 0, locals := 22 }) (PR D yc e0 [(a0, .inr (13, [.int 0, .int 0, .ref a1, .ref a2, .ref a3, .ref a4, .ref a5, .ref a6, .ref a7, .int 0, .long 0])), (a6, .inr (12, [.int 8, .int (-1), .int 0, .int 0, .int 0, .int 0, .int 0, .ref a8, .ref a9, .ref a10, .ref a11, .ref a12, .ref a13, .ref a14, .ref a15, .ref a16, .ref a0]))] sz [.ref a0, .int p0]) (va_Qi (fun r u => r = (fun u : Nat → Nat → Nat => 8) u) (WD D (va_A [(a0, .inr (13, [.int 0, .int 0, .ref a1, .ref a2, .ref a3, .ref a4, .ref a5, .ref a6, .ref a7, .int 0, .long 0])), (a6, .inr (12, [.int 8, .int (-1), .int 0, .int 0, .int 0, .int 0, .int 0, .ref a8, .ref a9, .ref a10, .ref a11, .ref a12, .ref a13, .ref a14, .ref a15, .ref a16, .ref a0]))] sz) (fun u => [(a0, .inr (13, [.int 0, .int 0, .ref a1, .ref a2, .ref a3, .ref a4, .ref a5, .ref a6, .ref a7, .int 0, .long 0])), (a6, .inr (12, [.int p0, .int (-1), .int 0, .int 0, .int 0, .int 0, .int 0, .ref a8, .ref a9, .ref a10, .ref a11, .ref a12, .ref a13, .ref a14, .ref a15, .ref a16, .ref a0]))])) (va_A [(a0, .inr (13, [.int 0, .int 0, .ref a1, .ref a2, .ref a3, .ref a4, .ref a5, .ref a6, .ref a7, .int 0, .long 0])), (a6, .inr (12, [.int 8, .int (-1), .int 0, .int 0, .int 0, .int 0, .int 0, .ref a8, .ref a9, .ref a10, .ref a11, .ref a12, .ref a13, .ref a14, .ref a15, .ref a16, .ref a0]))] sz)) 0 0 (va_A [(a0, .inr (13, [.int 0, .int 0, .ref a1, .ref a2, .ref a3, .ref a4, .ref a5, .ref a6, .ref a7, .int 0, .long 0])), (a6, .inr (12, [.int 8, .int (-1), .int 0, .int 0, .int 0, .int 0, .int 0, .ref a8, .ref a9, .ref a10, .ref a11, .ref a12, .ref a13, .ref a14, .ref a15, .ref a16, .ref a0]))] sz) := by
  refine zk_M (Qc := fun A => va_Qi (fun r u => r = (fun u : Nat → Nat → Nat => 8) u) (WD D A (fun u => [(a0, .inr (13, [.int 0, .int 0, .ref a1, .ref a2, .ref a3, .ref a4, .ref a5, .ref a6, .ref a7, .int 0, .long 0])), (a6, .inr (12, [.int p0, .int (-1), .int 0, .int 0, .int 0, .int 0, .int 0, .ref a8, .ref a9, .ref a10, .ref a11, .ref a12, .ref a13, .ref a14, .ref a15, .ref a16, .ref a0]))])) A) (by decide) (Nat.le_of_ble_eq_true rfl) ?_
  intro p e s m args below meth c A ls hx hb hml hr hlk hown hnm hts hP hD hS hA hC hl
  have hK := hC.1
  have hN := hC.2.1
  have hl : lv_has ls 3 [(0, .ref a0), (1, .int p0)] := hl
  generalize hHH : s.heap = H at hP ⊢
  have hS : va_S A s.heap H [] := by rw [← hHH]; exact hS
  refine lv_aload_n hx hb dX14_setCapacity_0 rfl (lv_at hl 0 rfl) ?_
  refine lv_iconst (v := 0) hx hb dX14_setCapacity_1 (by decide) ?_
  refine va_put (D := D) (ci := 13) (v := .int 0) (ty := .int) (C := RX14) (T := TX14) (N := 11) hx hb hts iX14 tyX14 tyX14_ok nmX14 hown hK hP hD hS 0 rfl rfl 9 (by decide) (hts _ wq1542) (fun _ h9 => h9) rfl (by decide +kernel) rfl rfl (Nat.le_of_ble_eq_true rfl) dX14_setCapacity_2 (fun H locs hP hD hS => ?_)
  have hP : va_P D vwCl [(a0, .inr (13, [.int 0, .int 0, .ref a1, .ref a2, .ref a3, .ref a4, .ref a5, .ref a6, .ref a7, .int 0, .long 0])), (a6, .inr (12, [.int 8, .int (-1), .int 0, .int 0, .int 0, .int 0, .int 0, .ref a8, .ref a9, .ref a10, .ref a11, .ref a12, .ref a13, .ref a14, .ref a15, .ref a16, .ref a0]))] H := hP
  have hD : va_D A [(a0, .inr (13, [.int 0, .int 0, .ref a1, .ref a2, .ref a3, .ref a4, .ref a5, .ref a6, .ref a7, .int 0, .long 0])), (a6, .inr (12, [.int 8, .int (-1), .int 0, .int 0, .int 0, .int 0, .int 0, .ref a8, .ref a9, .ref a10, .ref a11, .ref a12, .ref a13, .ref a14, .ref a15, .ref a16, .ref a0]))] := hD
  refine lv_iload_n hx hb dX14_setCapacity_5 rfl (lv_at hl 1 rfl) ?_
  refine lv_iconst (v := 1) hx hb dX14_setCapacity_6 (by decide) ?_
  refine lv_bipush (v := 20) hx hb dX14_setCapacity_7 (by decide) ?_
  refine zk_i (wr := [(a0, .inr (13, [.int 0, .int 0, .ref a1, .ref a2, .ref a3, .ref a4, .ref a5, .ref a6, .ref a7, .int 0, .long 0])), (a6, .inr (12, [.int 8, .int (-1), .int 0, .int 0, .int 0, .int 0, .int 0, .ref a8, .ref a9, .ref a10, .ref a11, .ref a12, .ref a13, .ref a14, .ref a15, .ref a16, .ref a0]))]) (va_runS (As := [.int p0, .int 1, .int 20]) (rest := []) ⟨hx, hb, hml, hown, hts⟩ (kX14_is_6 l hst D yc e0 H.size p0 h0 h1) (va_cwS 3 hts (lw_S wq1575 wq1576 wq6 wq1577) rfl rfl rfl (by decide +kernel) ⟨(Nat.le_of_ble_eq_true rfl), (Nat.le_of_ble_eq_true rfl)⟩) (zk_pS hC hP hD hS hA [] rfl rfl) rfl rfl hl.1 rfl (lv_room (Nat.le_of_ble_eq_true rfl)) dX14_setCapacity_9 ⟨(Nat.le_of_ble_eq_true rfl), (Nat.le_of_ble_eq_true rfl)⟩) hP hD hS hA [] [0, 1] rfl rfl rfl (by decide) (fun u1 H locs hP hD hS => ?_)
  have hP : va_P D vwCl [(a0, .inr (13, [.int 0, .int 0, .ref a1, .ref a2, .ref a3, .ref a4, .ref a5, .ref a6, .ref a7, .int 0, .long 0])), (a6, .inr (12, [.int 8, .int (-1), .int 0, .int 0, .int 0, .int 0, .int 0, .ref a8, .ref a9, .ref a10, .ref a11, .ref a12, .ref a13, .ref a14, .ref a15, .ref a16, .ref a0]))] H := hP
  have hD : va_D A [(a0, .inr (13, [.int 0, .int 0, .ref a1, .ref a2, .ref a3, .ref a4, .ref a5, .ref a6, .ref a7, .int 0, .long 0])), (a6, .inr (12, [.int 8, .int (-1), .int 0, .int 0, .int 0, .int 0, .int 0, .ref a8, .ref a9, .ref a10, .ref a11, .ref a12, .ref a13, .ref a14, .ref a15, .ref a16, .ref a0]))] := hD
  refine W.widen (k := 0) (n := 0) (Nat.le_of_ble_eq_true rfl) (Nat.le_of_ble_eq_true rfl) ?_
  refine lv_if_ne (tgt := 21) hx hb dX14_setCapacity_12 (by decide) (fun _ => ?_) (fun h9 => absurd h9 (by decide))
  refine lv_aload_n hx hb dX14_setCapacity_21 rfl (lv_at hl 0 rfl) ?_
  refine va_get (D := D) (ci := 13) (v := .ref a6) (C := RX14) (T := TX14) (N := 11) hx hb hts iX14 hown hK hP 0 rfl rfl 7 (by decide) (hts _ wq1540) (fun _ h9 => h9) rfl dX14_setCapacity_22 ?_
  refine va_getN (D := D) (ci := 12) (v := .int 8) (C := RX13) (T := TX13) (N := 17) hx hb hts iX13 hown hK hP 1 rfl rfl 0 (by decide) (zk_tab rfl (hN _ wr1465 rfl)) (fun _ h9 => h9) rfl dX14_setCapacity_25 ?_
  refine lv_istore_n (lv' := [(2, .int 8), (0, .ref a0), (1, .int p0)]) hx hb dX14_setCapacity_28 rfl hl (by decide) rfl (fun ls hl => ?_)
  refine lv_aload_n hx hb dX14_setCapacity_29 rfl (lv_at hl 1 rfl) ?_
  refine va_get (D := D) (ci := 13) (v := .ref a6) (C := RX14) (T := TX14) (N := 11) hx hb hts iX14 hown hK hP 0 rfl rfl 7 (by decide) (hts _ wq1540) (fun _ h9 => h9) rfl dX14_setCapacity_30 ?_
  refine lv_iload_n hx hb dX14_setCapacity_33 rfl (lv_at hl 2 rfl) ?_
  refine va_putN (D := D) (ci := 12) (v := .int p0) (ty := .int) (C := RX13) (T := TX13) (N := 17) hx hb hts iX13 tyX13 tyX13_ok nmX13 hown hK hP hD hS 1 rfl rfl 0 (by decide) (zk_tab rfl (hN _ wr1465 rfl)) (fun _ h9 => h9) rfl (by decide +kernel) rfl rfl (Nat.le_of_ble_eq_true rfl) dX14_setCapacity_34 (fun H locs hP hD hS => ?_)
  have hP : va_P D vwCl [(a0, .inr (13, [.int 0, .int 0, .ref a1, .ref a2, .ref a3, .ref a4, .ref a5, .ref a6, .ref a7, .int 0, .long 0])), (a6, .inr (12, [.int p0, .int (-1), .int 0, .int 0, .int 0, .int 0, .int 0, .ref a8, .ref a9, .ref a10, .ref a11, .ref a12, .ref a13, .ref a14, .ref a15, .ref a16, .ref a0]))] H := hP
  have hD : va_D A [(a0, .inr (13, [.int 0, .int 0, .ref a1, .ref a2, .ref a3, .ref a4, .ref a5, .ref a6, .ref a7, .int 0, .long 0])), (a6, .inr (12, [.int p0, .int (-1), .int 0, .int 0, .int 0, .int 0, .int 0, .ref a8, .ref a9, .ref a10, .ref a11, .ref a12, .ref a13, .ref a14, .ref a15, .ref a16, .ref a0]))] := hD
  refine lv_iload_n hx hb dX14_setCapacity_37 rfl (lv_at hl 0 rfl) ?_
  exact zk_ri (r0 := fun u => 8) (w1 := fun u => [(a0, .inr (13, [.int 0, .int 0, .ref a1, .ref a2, .ref a3, .ref a4, .ref a5, .ref a6, .ref a7, .int 0, .long 0])), (a6, .inr (12, [.int p0, .int (-1), .int 0, .int 0, .int 0, .int 0, .int 0, .ref a8, .ref a9, .ref a10, .ref a11, .ref a12, .ref a13, .ref a14, .ref a15, .ref a16, .ref a0]))]) hx hb hr hlk hP hD hS (fun _ _ => 0) rfl rfl [0, 1] rfl rfl (Nat.le_of_ble_eq_true rfl) (Nat.le_of_ble_eq_true rfl) dX14_setCapacity_38
set_option maxHeartbeats 4000000 in
set_option maxRecDepth 100000 in
theorem kX14_thrown_2 (l : Launch) (hst : l.stackTraces = false) (D : va_G) (yc : Nat → ClassId) (e0 sz : Nat) (a0 : Nat) (a1 : Nat) (a2 : Nat) (a3 : Nat) (a4 : Nat) (a5 : Nat) (a6 : Nat) (a7 : Nat)  : Met l yX14_thrown (ws_ yX14_thrown cX14_thrown 1 (some .int)) ({ frames := 0, cells := 0, slots := 0, locals := 0 }) (PR D yc e0 [(a0, .inr (13, [.int 0, .int 0, .ref a1, .ref a2, .ref a3, .ref a4, .ref a5, .ref a6, .ref a7, .int 0, .long 0]))] sz [.ref a0]) (va_Qi (fun r u => r = (fun u : Nat → Nat → Nat => 0) u) (WD D (va_A [(a0, .inr (13, [.int 0, .int 0, .ref a1, .ref a2, .ref a3, .ref a4, .ref a5, .ref a6, .ref a7, .int 0, .long 0]))] sz) (fun u => [(a0, .inr (13, [.int 0, .int 0, .ref a1, .ref a2, .ref a3, .ref a4, .ref a5, .ref a6, .ref a7, .int 0, .long 0]))])) (va_A [(a0, .inr (13, [.int 0, .int 0, .ref a1, .ref a2, .ref a3, .ref a4, .ref a5, .ref a6, .ref a7, .int 0, .long 0]))] sz)) 0 0 (va_A [(a0, .inr (13, [.int 0, .int 0, .ref a1, .ref a2, .ref a3, .ref a4, .ref a5, .ref a6, .ref a7, .int 0, .long 0]))] sz) := by
  refine zk_M (Qc := fun A => va_Qi (fun r u => r = (fun u : Nat → Nat → Nat => 0) u) (WD D A (fun u => [(a0, .inr (13, [.int 0, .int 0, .ref a1, .ref a2, .ref a3, .ref a4, .ref a5, .ref a6, .ref a7, .int 0, .long 0]))])) A) (by decide) (Nat.le_of_ble_eq_true rfl) ?_
  intro p e s m args below meth c A ls hx hb hml hr hlk hown hnm hts hP hD hS hA hC hl
  have hK := hC.1
  have hN := hC.2.1
  have hl : lv_has ls 1 [(0, .ref a0)] := hl
  generalize hHH : s.heap = H at hP ⊢
  have hS : va_S A s.heap H [] := by rw [← hHH]; exact hS
  refine lv_aload_n hx hb dX14_thrown_0 rfl (lv_at hl 0 rfl) ?_
  refine va_get (D := D) (ci := 13) (v := .int 0) (C := RX14) (T := TX14) (N := 11) hx hb hts iX14 hown hK hP 0 rfl rfl 9 (by decide) (hts _ wq1542) (fun _ h9 => h9) rfl dX14_thrown_1 ?_
  exact zk_ri (r0 := fun u => 0) (w1 := fun u => [(a0, .inr (13, [.int 0, .int 0, .ref a1, .ref a2, .ref a3, .ref a4, .ref a5, .ref a6, .ref a7, .int 0, .long 0]))]) hx hb hr hlk hP hD hS (fun _ _ => 0) rfl rfl [0] rfl rfl (Nat.le_of_ble_eq_true rfl) (Nat.le_of_ble_eq_true rfl) dX14_thrown_4
set_option maxHeartbeats 4000000 in
set_option maxRecDepth 100000 in
theorem kX10_sourceOf_0 (l : Launch) (hst : l.stackTraces = false) (D : va_G) (yc : Nat → ClassId) (e0 sz : Nat) (a0 : Nat) (p0 : Int32) (a1 : Nat) (a2 : Nat) (a3 : Nat)  : vx_Met l yX10_sourceOf (ws_ yX10_sourceOf cX10_sourceOf 3 (some (.object "WeirStream$Stage"))) ({ frames := 7, cells := 1, slots := 6, locals := 103 }) (PR D yc e0 [(a0, .inr (9, [.ref a1, .ref a2, .int 0, .int 0, .int 0])), (a1, .inr (2, [.int 0, .ref a3, .int 8, .int (-1), .int 0, .int 0, .int 0, .int 0])), (a3, .inr (0, [.int 0, .ref e0, .int 0]))] sz [.ref a0, .int p0]) (fun _ _ _ _ => False) (zk_X D (va_A [(a0, .inr (9, [.ref a1, .ref a2, .int 0, .int 0, .int 0])), (a1, .inr (2, [.int 0, .ref a3, .int 8, .int (-1), .int 0, .int 0, .int 0, .int 0])), (a3, .inr (0, [.int 0, .ref e0, .int 0]))] sz) "java/lang/IndexOutOfBoundsException" (fun u => [(a0, .inr (9, [.ref a1, .ref a2, .int 0, .int 0, .int 0])), (a1, .inr (2, [.int 0, .ref a3, .int 8, .int (-1), .int 0, .int 0, .int 0, .int 0])), (a3, .inr (0, [.int 0, .ref e0, .int 0]))])) 1 6 (va_A [(a0, .inr (9, [.ref a1, .ref a2, .int 0, .int 0, .int 0])), (a1, .inr (2, [.int 0, .ref a3, .int 8, .int (-1), .int 0, .int 0, .int 0, .int 0])), (a3, .inr (0, [.int 0, .ref e0, .int 0]))] sz) := by
  refine zk_MX (by decide) (Nat.le_of_ble_eq_true rfl) ?_
  intro p e s m args below meth c A ls hx hb hml hr hlk hown hnm hts hP hD hS hA hC hl hnx
  have hK := hC.1
  have hN := hC.2.1
  have hl : lv_has ls 3 [(0, .ref a0), (1, .int p0)] := hl
  generalize hHH : s.heap = H at hP ⊢
  have hS : va_S A s.heap H [] := by rw [← hHH]; exact hS
  refine W.widen (k := 0) (n := 0) (Nat.le_of_ble_eq_true rfl) (Nat.le_of_ble_eq_true rfl) ?_
  refine lv_aload_n hx hb dX10_sourceOf_0 rfl (lv_at hl 0 rfl) ?_
  refine lv_iload_n hx hb dX10_sourceOf_1 rfl (lv_at hl 1 rfl) ?_
  refine zk_x (wr := []) (vx_runV (As := [.int p0]) (rest := []) ⟨hx, hb, hml, hown, hts⟩ (kX10_stageOf_0 l hst D yc e0 H.size a0 p0 a1 a2 a3) (cwV 1 hts (lw_V wq254 wq256 ws2 wq1 wq257) rfl rfl rfl (by decide +kernel) ⟨(Nat.le_of_ble_eq_true rfl), (Nat.le_of_ble_eq_true rfl)⟩) (zk_pV hC hP hD hS hA [0, 1, 2] rfl rfl 0 9 rfl rfl) rfl rfl hl.1 rfl (lv_room (Nat.le_of_ble_eq_true rfl)) dX10_sourceOf_2 ⟨(Nat.le_of_ble_eq_true rfl), (Nat.le_of_ble_eq_true rfl)⟩) hP hD hS hA [0, 1, 2] [] rfl rfl rfl (by decide) (fun u1 ce q9 H locs hP hD hS hce hcv hcl => ?_)
  have hP : va_P D vwCl [(a0, .inr (9, [.ref a1, .ref a2, .int 0, .int 0, .int 0])), (a1, .inr (2, [.int 0, .ref a3, .int 8, .int (-1), .int 0, .int 0, .int 0, .int 0])), (a3, .inr (0, [.int 0, .ref e0, .int 0]))] H := hP
  have hD : va_D A [(a0, .inr (9, [.ref a1, .ref a2, .int 0, .int 0, .int 0])), (a1, .inr (2, [.int 0, .ref a3, .int 8, .int (-1), .int 0, .int 0, .int 0, .int 0])), (a3, .inr (0, [.int 0, .ref e0, .int 0]))] := hD
  exact vx_out (fun x9 hx9 => (hnx x9 hx9).elim) hlk hce hcv hcl (zk_out hP hD hS (fun _ _ => 0) [0, 1, 2] rfl rfl) hS.2.2 (Nat.le_of_ble_eq_true rfl) (Nat.le_of_ble_eq_true rfl)
set_option maxHeartbeats 4000000 in
set_option maxRecDepth 100000 in
theorem kX10_offer_0 (l : Launch) (hst : l.stackTraces = false) (D : va_G) (yc : Nat → ClassId) (e0 sz : Nat) (a0 : Nat) (p0 : Int32) (p1 : Int32) (p2 : Int32) (p3 : Int32) (a1 : Nat) (a2 : Nat) (a3 : Nat)  : vx_Met l yX10_offer (ws_ yX10_offer cX10_offer 6 (some .int)) ({ frames := 8, cells := 1, slots := 6, locals := 125 }) (PR D yc e0 [(a0, .inr (9, [.ref a1, .ref a2, .int 0, .int 0, .int 0])), (a1, .inr (2, [.int 0, .ref a3, .int 8, .int (-1), .int 0, .int 0, .int 0, .int 0])), (a3, .inr (0, [.int 0, .ref e0, .int 0]))] sz [.ref a0, .int p0, .int p1, .int p2, .int p3]) (fun _ _ _ _ => False) (zk_X D (va_A [(a0, .inr (9, [.ref a1, .ref a2, .int 0, .int 0, .int 0])), (a1, .inr (2, [.int 0, .ref a3, .int 8, .int (-1), .int 0, .int 0, .int 0, .int 0])), (a3, .inr (0, [.int 0, .ref e0, .int 0]))] sz) "java/lang/IndexOutOfBoundsException" (fun u => [(a0, .inr (9, [.ref a1, .ref a2, .int 0, .int 0, .int 0])), (a1, .inr (2, [.int 0, .ref a3, .int 8, .int (-1), .int 0, .int 0, .int 0, .int 0])), (a3, .inr (0, [.int 0, .ref e0, .int 0]))])) 1 6 (va_A [(a0, .inr (9, [.ref a1, .ref a2, .int 0, .int 0, .int 0])), (a1, .inr (2, [.int 0, .ref a3, .int 8, .int (-1), .int 0, .int 0, .int 0, .int 0])), (a3, .inr (0, [.int 0, .ref e0, .int 0]))] sz) := by
  refine zk_MX (by decide) (Nat.le_of_ble_eq_true rfl) ?_
  intro p e s m args below meth c A ls hx hb hml hr hlk hown hnm hts hP hD hS hA hC hl hnx
  have hK := hC.1
  have hN := hC.2.1
  have hl : lv_has ls 6 [(0, .ref a0), (1, .int p0), (2, .int p1), (3, .int p2), (4, .int p3)] := hl
  generalize hHH : s.heap = H at hP ⊢
  have hS : va_S A s.heap H [] := by rw [← hHH]; exact hS
  refine W.widen (k := 0) (n := 0) (Nat.le_of_ble_eq_true rfl) (Nat.le_of_ble_eq_true rfl) ?_
  refine lv_aload_n hx hb dX10_offer_0 rfl (lv_at hl 0 rfl) ?_
  refine lv_iload_n hx hb dX10_offer_1 rfl (lv_at hl 1 rfl) ?_
  refine zk_x (wr := []) (vx_runV (As := [.int p0]) (rest := []) ⟨hx, hb, hml, hown, hts⟩ (kX10_sourceOf_0 l hst D yc e0 H.size a0 p0 a1 a2 a3) (cwV 1 hts (lw_V wq901 wq903 ws15 wq1 wq904) rfl rfl rfl (by decide +kernel) ⟨(Nat.le_of_ble_eq_true rfl), (Nat.le_of_ble_eq_true rfl)⟩) (zk_pV hC hP hD hS hA [0, 1, 2] rfl rfl 0 9 rfl rfl) rfl rfl hl.1 rfl (lv_room (Nat.le_of_ble_eq_true rfl)) dX10_offer_2 ⟨(Nat.le_of_ble_eq_true rfl), (Nat.le_of_ble_eq_true rfl)⟩) hP hD hS hA [0, 1, 2] [] rfl rfl rfl (by decide) (fun u1 ce q9 H locs hP hD hS hce hcv hcl => ?_)
  have hP : va_P D vwCl [(a0, .inr (9, [.ref a1, .ref a2, .int 0, .int 0, .int 0])), (a1, .inr (2, [.int 0, .ref a3, .int 8, .int (-1), .int 0, .int 0, .int 0, .int 0])), (a3, .inr (0, [.int 0, .ref e0, .int 0]))] H := hP
  have hD : va_D A [(a0, .inr (9, [.ref a1, .ref a2, .int 0, .int 0, .int 0])), (a1, .inr (2, [.int 0, .ref a3, .int 8, .int (-1), .int 0, .int 0, .int 0, .int 0])), (a3, .inr (0, [.int 0, .ref e0, .int 0]))] := hD
  exact vx_out (fun x9 hx9 => (hnx x9 hx9).elim) hlk hce hcv hcl (zk_out hP hD hS (fun _ _ => 0) [0, 1, 2] rfl rfl) hS.2.2 (Nat.le_of_ble_eq_true rfl) (Nat.le_of_ble_eq_true rfl)
set_option maxHeartbeats 4000000 in
set_option maxRecDepth 100000 in
theorem kL_offer_0 (l : Launch) (hst : l.stackTraces = false) (D : va_G) (yc : Nat → ClassId) (e0 sz : Nat) (a0 : Nat) (p0 : Int32) (p1 : Int32) (p2 : Int32) (p3 : Int32) (a1 : Nat) (a2 : Nat) (a3 : Nat) (a4 : Nat)  : Met l yL_offer (ww_ yL_offer cL_offer 7 (some .int) [(0, 14, 17, 21), (0, 14, 21, 13), (0, 14, 25, 15)]) ({ frames := 9, cells := 1, slots := 6, locals := 150 }) (PR D yc e0 [(a0, .inr (9, [.ref a2, .ref a3, .int 0, .int 0, .int 0])), (a2, .inr (2, [.int 0, .ref a4, .int 8, .int (-1), .int 0, .int 0, .int 0, .int 0])), (a4, .inr (0, [.int 0, .ref e0, .int 0]))] sz [.ref a0, .int p0, .int p1, .int p2, .int p3, .ref a1]) (va_Qi (fun r u => r = (fun u : Nat → Nat → Nat => 1) u) (WD D (va_A [(a0, .inr (9, [.ref a2, .ref a3, .int 0, .int 0, .int 0])), (a2, .inr (2, [.int 0, .ref a4, .int 8, .int (-1), .int 0, .int 0, .int 0, .int 0])), (a4, .inr (0, [.int 0, .ref e0, .int 0]))] sz) (fun u => [(a0, .inr (9, [.ref a2, .ref a3, .int 0, .int 0, .int 0])), (a2, .inr (2, [.int 0, .ref a4, .int 8, .int (-1), .int 0, .int 0, .int 0, .int 0])), (a4, .inr (0, [.int 0, .ref e0, .int 0]))])) (va_A [(a0, .inr (9, [.ref a2, .ref a3, .int 0, .int 0, .int 0])), (a2, .inr (2, [.int 0, .ref a4, .int 8, .int (-1), .int 0, .int 0, .int 0, .int 0])), (a4, .inr (0, [.int 0, .ref e0, .int 0]))] sz)) 1 6 (va_A [(a0, .inr (9, [.ref a2, .ref a3, .int 0, .int 0, .int 0])), (a2, .inr (2, [.int 0, .ref a4, .int 8, .int (-1), .int 0, .int 0, .int 0, .int 0])), (a4, .inr (0, [.int 0, .ref e0, .int 0]))] sz) := by
  refine zk_MW (Qc := fun A => va_Qi (fun r u => r = (fun u : Nat → Nat → Nat => 1) u) (WD D A (fun u => [(a0, .inr (9, [.ref a2, .ref a3, .int 0, .int 0, .int 0])), (a2, .inr (2, [.int 0, .ref a4, .int 8, .int (-1), .int 0, .int 0, .int 0, .int 0])), (a4, .inr (0, [.int 0, .ref e0, .int 0]))])) A) (by decide) (Nat.le_of_ble_eq_true rfl) ?_
  intro p e s m args below meth c A ls hx hb hml hr hlk hown hts hP hD hS hA hC hl hex
  have hK := hC.1
  have hN := hC.2.1
  have hl : lv_has ls 7 [(0, .ref a0), (1, .int p0), (2, .int p1), (3, .int p2), (4, .int p3), (5, .ref a1)] := hl
  generalize hHH : s.heap = H at hP ⊢
  have hS : va_S A s.heap H [] := by rw [← hHH]; exact hS
  refine lv_aload hx hb dL_offer_0 (lv_at hl 5 rfl) ?_
  refine lv_iconst (v := 0) hx hb dL_offer_2 (by decide) ?_
  refine lv_aload_n hx hb dL_offer_3 rfl (lv_at hl 0 rfl) ?_
  refine lv_iload_n hx hb dL_offer_4 rfl (lv_at hl 1 rfl) ?_
  refine lv_iload_n hx hb dL_offer_5 rfl (lv_at hl 2 rfl) ?_
  refine lv_iload_n hx hb dL_offer_6 rfl (lv_at hl 3 rfl) ?_
  refine lv_iload hx hb dL_offer_7 (lv_at hl 4 rfl) ?_
  refine zk_x (wr := []) (vx_runV (As := [.int p0, .int p1, .int p2, .int p3]) (rest := [.int 0, .ref a1]) ⟨hx, hb, hml, hown, hts⟩ (kX10_offer_0 l hst D yc e0 H.size a0 p0 p1 p2 p3 a2 a3 a4) (cwV 4 hts (lw_V wq897 wq898 wq899 wq1 wq900) rfl rfl rfl (by decide +kernel) ⟨(Nat.le_of_ble_eq_true rfl), (Nat.le_of_ble_eq_true rfl)⟩) (zk_pV hC hP hD hS hA [0, 1, 2] rfl rfl 0 9 rfl rfl) rfl rfl hl.1 rfl (lv_room (Nat.le_of_ble_eq_true rfl)) dL_offer_9 ⟨(Nat.le_of_ble_eq_true rfl), (Nat.le_of_ble_eq_true rfl)⟩) hP hD hS hA [0, 1, 2] [] rfl rfl rfl (by decide) (fun u1 ce q9 H locs hP hD hS hce hcv hcl => ?_)
  have hP : va_P D vwCl [(a0, .inr (9, [.ref a2, .ref a3, .int 0, .int 0, .int 0])), (a2, .inr (2, [.int 0, .ref a4, .int 8, .int (-1), .int 0, .int 0, .int 0, .int 0])), (a4, .inr (0, [.int 0, .ref e0, .int 0]))] H := hP
  have hD : va_D A [(a0, .inr (9, [.ref a2, .ref a3, .int 0, .int 0, .int 0])), (a2, .inr (2, [.int 0, .ref a4, .int 8, .int (-1), .int 0, .int 0, .int 0, .int 0])), (a4, .inr (0, [.int 0, .ref e0, .int 0]))] := hD
  refine vx_catch (own := RL) (name := "java/lang/IndexOutOfBoundsException") hown (tableOf []) ⟨0, 14, 17, 21⟩ (tableOf [(0, 14, 21, 13), (0, 14, 25, 15)]) hex (fun z hz => False.elim (List.not_mem_nil hz)) (by decide) (by decide) (hts _ wq833) (zk_tab rfl (hN _ wr261 rfl)) hce hcv hcl ?_
  refine W.widen (k := 1) (n := 6) (Nat.le_of_ble_eq_true rfl) (Nat.le_of_ble_eq_true rfl) ?_
  refine lv_astore (lv' := [(6, .ref q9), (0, .ref a0), (1, .int p0), (2, .int p1), (3, .int p2), (4, .int p3), (5, .ref a1)]) hx hb dL_offer_17 hl (by decide) rfl (fun ls hl => ?_)
  refine lv_iconst (v := 1) hx hb dL_offer_19 (by decide) ?_
  exact zk_ri (r0 := fun u => 1) (w1 := fun u => [(a0, .inr (9, [.ref a2, .ref a3, .int 0, .int 0, .int 0])), (a2, .inr (2, [.int 0, .ref a4, .int 8, .int (-1), .int 0, .int 0, .int 0, .int 0])), (a4, .inr (0, [.int 0, .ref e0, .int 0]))]) hx hb hr hlk hP hD hS (fun _ _ => 0) rfl rfl [0, 1, 2] rfl rfl (Nat.le_of_ble_eq_true rfl) (Nat.le_of_ble_eq_true rfl) dL_offer_20
set_option maxHeartbeats 4000000 in
set_option maxRecDepth 100000 in
theorem kX14_offer_0 (l : Launch) (hst : l.stackTraces = false) (D : va_G) (yc : Nat → ClassId) (e0 sz : Nat) (a0 : Nat) (p0 : Int32) (p1 : Int32) (p2 : Int32) (p3 : Int32) (a1 : Nat) (a2 : Nat) (a3 : Nat) (a4 : Nat) (a5 : Nat) (a6 : Nat) (a7 : Nat)  : Met l yX14_offer (ws_ yX14_offer cX14_offer 5 (some .int)) ({ frames := 2, cells := 0, slots := 0, locals := 43 }) (PR D yc e0 [(a0, .inr (13, [.int 0, .int 0, .ref a1, .ref a2, .ref a3, .ref a4, .ref a5, .ref a6, .ref a7, .int 0, .long 0]))] sz [.ref a0, .int p0, .int p1, .int p2, .int p3]) (va_Qi (fun r u => r = (fun u : Nat → Nat → Nat => 0) u) (WD D (va_A [(a0, .inr (13, [.int 0, .int 0, .ref a1, .ref a2, .ref a3, .ref a4, .ref a5, .ref a6, .ref a7, .int 0, .long 0]))] sz) (fun u => [(a0, .inr (13, [.int 0, .int 0, .ref a1, .ref a2, .ref a3, .ref a4, .ref a5, .ref a6, .ref a7, .int 1, .long 0]))])) (va_A [(a0, .inr (13, [.int 0, .int 0, .ref a1, .ref a2, .ref a3, .ref a4, .ref a5, .ref a6, .ref a7, .int 0, .long 0]))] sz)) 0 0 (va_A [(a0, .inr (13, [.int 0, .int 0, .ref a1, .ref a2, .ref a3, .ref a4, .ref a5, .ref a6, .ref a7, .int 0, .long 0]))] sz) := by
  refine zk_M (Qc := fun A => va_Qi (fun r u => r = (fun u : Nat → Nat → Nat => 0) u) (WD D A (fun u => [(a0, .inr (13, [.int 0, .int 0, .ref a1, .ref a2, .ref a3, .ref a4, .ref a5, .ref a6, .ref a7, .int 1, .long 0]))])) A) (by decide) (Nat.le_of_ble_eq_true rfl) ?_
  intro p e s m args below meth c A ls hx hb hml hr hlk hown hnm hts hP hD hS hA hC hl
  have hK := hC.1
  have hN := hC.2.1
  have hl : lv_has ls 5 [(0, .ref a0), (1, .int p0), (2, .int p1), (3, .int p2), (4, .int p3)] := hl
  generalize hHH : s.heap = H at hP ⊢
  have hS : va_S A s.heap H [] := by rw [← hHH]; exact hS
  refine lv_aload_n hx hb dX14_offer_0 rfl (lv_at hl 0 rfl) ?_
  refine lv_iconst (v := 0) hx hb dX14_offer_1 (by decide) ?_
  refine va_put (D := D) (ci := 13) (v := .int 0) (ty := .int) (C := RX14) (T := TX14) (N := 11) hx hb hts iX14 tyX14 tyX14_ok nmX14 hown hK hP hD hS 0 rfl rfl 9 (by decide) (hts _ wq1542) (fun _ h9 => h9) rfl (by decide +kernel) rfl rfl (Nat.le_of_ble_eq_true rfl) dX14_offer_2 (fun H locs hP hD hS => ?_)
  have hP : va_P D vwCl [(a0, .inr (13, [.int 0, .int 0, .ref a1, .ref a2, .ref a3, .ref a4, .ref a5, .ref a6, .ref a7, .int 0, .long 0]))] H := hP
  have hD : va_D A [(a0, .inr (13, [.int 0, .int 0, .ref a1, .ref a2, .ref a3, .ref a4, .ref a5, .ref a6, .ref a7, .int 0, .long 0]))] := hD
  refine lv_aload_n hx hb dX14_offer_5 rfl (lv_at hl 0 rfl) ?_
  refine lv_iload_n hx hb dX14_offer_6 rfl (lv_at hl 1 rfl) ?_
  refine zk_i (wr := []) (va_runV (As := [.int p0]) (rest := []) ⟨hx, hb, hml, hown, hts⟩ (kX14_isStage_0 l hst D yc e0 H.size a0 p0 a1 a2 a3 a4 a5 a6 a7) (cwV 1 hts (lw_V wq1596 wq1598 ws35 wq6 wq1599) rfl rfl rfl (by decide +kernel) ⟨(Nat.le_of_ble_eq_true rfl), (Nat.le_of_ble_eq_true rfl)⟩) (zk_pV hC hP hD hS hA [0] rfl rfl 0 13 rfl rfl) rfl rfl hl.1 rfl (lv_room (Nat.le_of_ble_eq_true rfl)) dX14_offer_7 ⟨(Nat.le_of_ble_eq_true rfl), (Nat.le_of_ble_eq_true rfl)⟩) hP hD hS hA [0] [] rfl rfl rfl (by decide) (fun u1 H locs hP hD hS => ?_)
  have hP : va_P D vwCl [(a0, .inr (13, [.int 0, .int 0, .ref a1, .ref a2, .ref a3, .ref a4, .ref a5, .ref a6, .ref a7, .int 0, .long 0]))] H := hP
  have hD : va_D A [(a0, .inr (13, [.int 0, .int 0, .ref a1, .ref a2, .ref a3, .ref a4, .ref a5, .ref a6, .ref a7, .int 0, .long 0]))] := hD
  refine W.widen (k := 0) (n := 0) (Nat.le_of_ble_eq_true rfl) (Nat.le_of_ble_eq_true rfl) ?_
  refine lv_if_ne (tgt := 19) hx hb dX14_offer_10 (by decide) (fun h9 => absurd (by decide) h9) (fun _ => ?_)
  refine lv_aload_n hx hb dX14_offer_13 rfl (lv_at hl 0 rfl) ?_
  refine lv_iconst (v := 1) hx hb dX14_offer_14 (by decide) ?_
  refine zk_i (wr := []) (va_runV (As := [.int 1]) (rest := []) ⟨hx, hb, hml, hown, hts⟩ (kX14_refuse_0 l hst D yc e0 H.size a0 a1 a2 a3 a4 a5 a6 a7) (cwV 1 hts (lw_V wq1582 wq1584 ws33 wq6 wq1585) rfl rfl rfl (by decide +kernel) ⟨(Nat.le_of_ble_eq_true rfl), (Nat.le_of_ble_eq_true rfl)⟩) (zk_pV hC hP hD hS hA [0] rfl rfl 0 13 rfl rfl) rfl rfl hl.1 rfl (lv_room (Nat.le_of_ble_eq_true rfl)) dX14_offer_15 ⟨(Nat.le_of_ble_eq_true rfl), (Nat.le_of_ble_eq_true rfl)⟩) hP hD hS hA [0] [] rfl rfl rfl (by decide) (fun u2 H locs hP hD hS => ?_)
  have hP : va_P D vwCl [(a0, .inr (13, [.int 0, .int 0, .ref a1, .ref a2, .ref a3, .ref a4, .ref a5, .ref a6, .ref a7, .int 1, .long 0]))] H := hP
  have hD : va_D A [(a0, .inr (13, [.int 0, .int 0, .ref a1, .ref a2, .ref a3, .ref a4, .ref a5, .ref a6, .ref a7, .int 1, .long 0]))] := hD
  refine W.widen (k := 0) (n := 0) (Nat.le_of_ble_eq_true rfl) (Nat.le_of_ble_eq_true rfl) ?_
  exact zk_ri (r0 := fun u => 0) (w1 := fun u => [(a0, .inr (13, [.int 0, .int 0, .ref a1, .ref a2, .ref a3, .ref a4, .ref a5, .ref a6, .ref a7, .int 1, .long 0]))]) hx hb hr hlk hP hD hS (fun _ _ => 0) rfl rfl [0] rfl rfl (Nat.le_of_ble_eq_true rfl) (Nat.le_of_ble_eq_true rfl) dX14_offer_18
set_option maxHeartbeats 4000000 in
set_option maxRecDepth 100000 in
theorem kX10_close_0 (l : Launch) (hst : l.stackTraces = false) (D : va_G) (yc : Nat → ClassId) (e0 sz : Nat) (a0 : Nat) (p0 : Int32) (a1 : Nat) (a2 : Nat) (a3 : Nat)  : vx_Met l yX10_close (ws_ yX10_close cX10_close 3 (some .int)) ({ frames := 8, cells := 1, slots := 6, locals := 125 }) (PR D yc e0 [(a0, .inr (9, [.ref a1, .ref a2, .int 0, .int 0, .int 0])), (a1, .inr (2, [.int 0, .ref a3, .int 8, .int (-1), .int 0, .int 0, .int 0, .int 0])), (a3, .inr (0, [.int 0, .ref e0, .int 0]))] sz [.ref a0, .int p0]) (fun _ _ _ _ => False) (zk_X D (va_A [(a0, .inr (9, [.ref a1, .ref a2, .int 0, .int 0, .int 0])), (a1, .inr (2, [.int 0, .ref a3, .int 8, .int (-1), .int 0, .int 0, .int 0, .int 0])), (a3, .inr (0, [.int 0, .ref e0, .int 0]))] sz) "java/lang/IndexOutOfBoundsException" (fun u => [(a0, .inr (9, [.ref a1, .ref a2, .int 0, .int 0, .int 0])), (a1, .inr (2, [.int 0, .ref a3, .int 8, .int (-1), .int 0, .int 0, .int 0, .int 0])), (a3, .inr (0, [.int 0, .ref e0, .int 0]))])) 1 6 (va_A [(a0, .inr (9, [.ref a1, .ref a2, .int 0, .int 0, .int 0])), (a1, .inr (2, [.int 0, .ref a3, .int 8, .int (-1), .int 0, .int 0, .int 0, .int 0])), (a3, .inr (0, [.int 0, .ref e0, .int 0]))] sz) := by
  refine zk_MX (by decide) (Nat.le_of_ble_eq_true rfl) ?_
  intro p e s m args below meth c A ls hx hb hml hr hlk hown hnm hts hP hD hS hA hC hl hnx
  have hK := hC.1
  have hN := hC.2.1
  have hl : lv_has ls 3 [(0, .ref a0), (1, .int p0)] := hl
  generalize hHH : s.heap = H at hP ⊢
  have hS : va_S A s.heap H [] := by rw [← hHH]; exact hS
  refine W.widen (k := 0) (n := 0) (Nat.le_of_ble_eq_true rfl) (Nat.le_of_ble_eq_true rfl) ?_
  refine lv_aload_n hx hb dX10_close_0 rfl (lv_at hl 0 rfl) ?_
  refine lv_iload_n hx hb dX10_close_1 rfl (lv_at hl 1 rfl) ?_
  refine zk_x (wr := []) (vx_runV (As := [.int p0]) (rest := []) ⟨hx, hb, hml, hown, hts⟩ (kX10_sourceOf_0 l hst D yc e0 H.size a0 p0 a1 a2 a3) (cwV 1 hts (lw_V wq901 wq903 ws15 wq1 wq904) rfl rfl rfl (by decide +kernel) ⟨(Nat.le_of_ble_eq_true rfl), (Nat.le_of_ble_eq_true rfl)⟩) (zk_pV hC hP hD hS hA [0, 1, 2] rfl rfl 0 9 rfl rfl) rfl rfl hl.1 rfl (lv_room (Nat.le_of_ble_eq_true rfl)) dX10_close_2 ⟨(Nat.le_of_ble_eq_true rfl), (Nat.le_of_ble_eq_true rfl)⟩) hP hD hS hA [0, 1, 2] [] rfl rfl rfl (by decide) (fun u1 ce q9 H locs hP hD hS hce hcv hcl => ?_)
  have hP : va_P D vwCl [(a0, .inr (9, [.ref a1, .ref a2, .int 0, .int 0, .int 0])), (a1, .inr (2, [.int 0, .ref a3, .int 8, .int (-1), .int 0, .int 0, .int 0, .int 0])), (a3, .inr (0, [.int 0, .ref e0, .int 0]))] H := hP
  have hD : va_D A [(a0, .inr (9, [.ref a1, .ref a2, .int 0, .int 0, .int 0])), (a1, .inr (2, [.int 0, .ref a3, .int 8, .int (-1), .int 0, .int 0, .int 0, .int 0])), (a3, .inr (0, [.int 0, .ref e0, .int 0]))] := hD
  exact vx_out (fun x9 hx9 => (hnx x9 hx9).elim) hlk hce hcv hcl (zk_out hP hD hS (fun _ _ => 0) [0, 1, 2] rfl rfl) hS.2.2 (Nat.le_of_ble_eq_true rfl) (Nat.le_of_ble_eq_true rfl)
set_option maxHeartbeats 4000000 in
set_option maxRecDepth 100000 in
theorem kL_close_0 (l : Launch) (hst : l.stackTraces = false) (D : va_G) (yc : Nat → ClassId) (e0 sz : Nat) (a0 : Nat) (p0 : Int32) (a1 : Nat) (a2 : Nat) (a3 : Nat) (a4 : Nat)  : Met l yL_close (ww_ yL_close cL_close 4 (some .int) [(0, 9, 12, 21), (0, 9, 15, 13), (0, 9, 18, 15)]) ({ frames := 9, cells := 1, slots := 6, locals := 147 }) (PR D yc e0 [(a0, .inr (9, [.ref a2, .ref a3, .int 0, .int 0, .int 0])), (a2, .inr (2, [.int 0, .ref a4, .int 8, .int (-1), .int 0, .int 0, .int 0, .int 0])), (a4, .inr (0, [.int 0, .ref e0, .int 0]))] sz [.ref a0, .int p0, .ref a1]) (va_Qi (fun r u => r = (fun u : Nat → Nat → Nat => 1) u) (WD D (va_A [(a0, .inr (9, [.ref a2, .ref a3, .int 0, .int 0, .int 0])), (a2, .inr (2, [.int 0, .ref a4, .int 8, .int (-1), .int 0, .int 0, .int 0, .int 0])), (a4, .inr (0, [.int 0, .ref e0, .int 0]))] sz) (fun u => [(a0, .inr (9, [.ref a2, .ref a3, .int 0, .int 0, .int 0])), (a2, .inr (2, [.int 0, .ref a4, .int 8, .int (-1), .int 0, .int 0, .int 0, .int 0])), (a4, .inr (0, [.int 0, .ref e0, .int 0]))])) (va_A [(a0, .inr (9, [.ref a2, .ref a3, .int 0, .int 0, .int 0])), (a2, .inr (2, [.int 0, .ref a4, .int 8, .int (-1), .int 0, .int 0, .int 0, .int 0])), (a4, .inr (0, [.int 0, .ref e0, .int 0]))] sz)) 1 6 (va_A [(a0, .inr (9, [.ref a2, .ref a3, .int 0, .int 0, .int 0])), (a2, .inr (2, [.int 0, .ref a4, .int 8, .int (-1), .int 0, .int 0, .int 0, .int 0])), (a4, .inr (0, [.int 0, .ref e0, .int 0]))] sz) := by
  refine zk_MW (Qc := fun A => va_Qi (fun r u => r = (fun u : Nat → Nat → Nat => 1) u) (WD D A (fun u => [(a0, .inr (9, [.ref a2, .ref a3, .int 0, .int 0, .int 0])), (a2, .inr (2, [.int 0, .ref a4, .int 8, .int (-1), .int 0, .int 0, .int 0, .int 0])), (a4, .inr (0, [.int 0, .ref e0, .int 0]))])) A) (by decide) (Nat.le_of_ble_eq_true rfl) ?_
  intro p e s m args below meth c A ls hx hb hml hr hlk hown hts hP hD hS hA hC hl hex
  have hK := hC.1
  have hN := hC.2.1
  have hl : lv_has ls 4 [(0, .ref a0), (1, .int p0), (2, .ref a1)] := hl
  generalize hHH : s.heap = H at hP ⊢
  have hS : va_S A s.heap H [] := by rw [← hHH]; exact hS
  refine lv_aload_n hx hb dL_close_0 rfl (lv_at hl 2 rfl) ?_
  refine lv_iconst (v := 0) hx hb dL_close_1 (by decide) ?_
  refine lv_aload_n hx hb dL_close_2 rfl (lv_at hl 0 rfl) ?_
  refine lv_iload_n hx hb dL_close_3 rfl (lv_at hl 1 rfl) ?_
  refine zk_x (wr := []) (vx_runV (As := [.int p0]) (rest := [.int 0, .ref a1]) ⟨hx, hb, hml, hown, hts⟩ (kX10_close_0 l hst D yc e0 H.size a0 p0 a2 a3 a4) (cwV 1 hts (lw_V wq933 wq934 wq935 wq1 wq936) rfl rfl rfl (by decide +kernel) ⟨(Nat.le_of_ble_eq_true rfl), (Nat.le_of_ble_eq_true rfl)⟩) (zk_pV hC hP hD hS hA [0, 1, 2] rfl rfl 0 9 rfl rfl) rfl rfl hl.1 rfl (lv_room (Nat.le_of_ble_eq_true rfl)) dL_close_4 ⟨(Nat.le_of_ble_eq_true rfl), (Nat.le_of_ble_eq_true rfl)⟩) hP hD hS hA [0, 1, 2] [] rfl rfl rfl (by decide) (fun u1 ce q9 H locs hP hD hS hce hcv hcl => ?_)
  have hP : va_P D vwCl [(a0, .inr (9, [.ref a2, .ref a3, .int 0, .int 0, .int 0])), (a2, .inr (2, [.int 0, .ref a4, .int 8, .int (-1), .int 0, .int 0, .int 0, .int 0])), (a4, .inr (0, [.int 0, .ref e0, .int 0]))] H := hP
  have hD : va_D A [(a0, .inr (9, [.ref a2, .ref a3, .int 0, .int 0, .int 0])), (a2, .inr (2, [.int 0, .ref a4, .int 8, .int (-1), .int 0, .int 0, .int 0, .int 0])), (a4, .inr (0, [.int 0, .ref e0, .int 0]))] := hD
  refine vx_catch (own := RL) (name := "java/lang/IndexOutOfBoundsException") hown (tableOf []) ⟨0, 9, 12, 21⟩ (tableOf [(0, 9, 15, 13), (0, 9, 18, 15)]) hex (fun z hz => False.elim (List.not_mem_nil hz)) (by decide) (by decide) (hts _ wq833) (zk_tab rfl (hN _ wr261 rfl)) hce hcv hcl ?_
  refine W.widen (k := 1) (n := 6) (Nat.le_of_ble_eq_true rfl) (Nat.le_of_ble_eq_true rfl) ?_
  refine lv_astore_n (lv' := [(3, .ref q9), (0, .ref a0), (1, .int p0), (2, .ref a1)]) hx hb dL_close_12 rfl hl (by decide) rfl (fun ls hl => ?_)
  refine lv_iconst (v := 1) hx hb dL_close_13 (by decide) ?_
  exact zk_ri (r0 := fun u => 1) (w1 := fun u => [(a0, .inr (9, [.ref a2, .ref a3, .int 0, .int 0, .int 0])), (a2, .inr (2, [.int 0, .ref a4, .int 8, .int (-1), .int 0, .int 0, .int 0, .int 0])), (a4, .inr (0, [.int 0, .ref e0, .int 0]))]) hx hb hr hlk hP hD hS (fun _ _ => 0) rfl rfl [0, 1, 2] rfl rfl (Nat.le_of_ble_eq_true rfl) (Nat.le_of_ble_eq_true rfl) dL_close_14
set_option maxHeartbeats 4000000 in
set_option maxRecDepth 100000 in
theorem kX14_close_0 (l : Launch) (hst : l.stackTraces = false) (D : va_G) (yc : Nat → ClassId) (e0 sz : Nat) (a0 : Nat) (p0 : Int32) (a1 : Nat) (a2 : Nat) (a3 : Nat) (a4 : Nat) (a5 : Nat) (a6 : Nat) (a7 : Nat)  : Met l yX14_close (ws_ yX14_close cX14_close 2 (some .int)) ({ frames := 2, cells := 0, slots := 0, locals := 43 }) (PR D yc e0 [(a0, .inr (13, [.int 0, .int 0, .ref a1, .ref a2, .ref a3, .ref a4, .ref a5, .ref a6, .ref a7, .int 0, .long 0]))] sz [.ref a0, .int p0]) (va_Qi (fun r u => r = (fun u : Nat → Nat → Nat => 0) u) (WD D (va_A [(a0, .inr (13, [.int 0, .int 0, .ref a1, .ref a2, .ref a3, .ref a4, .ref a5, .ref a6, .ref a7, .int 0, .long 0]))] sz) (fun u => [(a0, .inr (13, [.int 0, .int 0, .ref a1, .ref a2, .ref a3, .ref a4, .ref a5, .ref a6, .ref a7, .int 1, .long 0]))])) (va_A [(a0, .inr (13, [.int 0, .int 0, .ref a1, .ref a2, .ref a3, .ref a4, .ref a5, .ref a6, .ref a7, .int 0, .long 0]))] sz)) 0 0 (va_A [(a0, .inr (13, [.int 0, .int 0, .ref a1, .ref a2, .ref a3, .ref a4, .ref a5, .ref a6, .ref a7, .int 0, .long 0]))] sz) := by
  refine zk_M (Qc := fun A => va_Qi (fun r u => r = (fun u : Nat → Nat → Nat => 0) u) (WD D A (fun u => [(a0, .inr (13, [.int 0, .int 0, .ref a1, .ref a2, .ref a3, .ref a4, .ref a5, .ref a6, .ref a7, .int 1, .long 0]))])) A) (by decide) (Nat.le_of_ble_eq_true rfl) ?_
  intro p e s m args below meth c A ls hx hb hml hr hlk hown hnm hts hP hD hS hA hC hl
  have hK := hC.1
  have hN := hC.2.1
  have hl : lv_has ls 2 [(0, .ref a0), (1, .int p0)] := hl
  generalize hHH : s.heap = H at hP ⊢
  have hS : va_S A s.heap H [] := by rw [← hHH]; exact hS
  refine lv_aload_n hx hb dX14_close_0 rfl (lv_at hl 0 rfl) ?_
  refine lv_iconst (v := 0) hx hb dX14_close_1 (by decide) ?_
  refine va_put (D := D) (ci := 13) (v := .int 0) (ty := .int) (C := RX14) (T := TX14) (N := 11) hx hb hts iX14 tyX14 tyX14_ok nmX14 hown hK hP hD hS 0 rfl rfl 9 (by decide) (hts _ wq1542) (fun _ h9 => h9) rfl (by decide +kernel) rfl rfl (Nat.le_of_ble_eq_true rfl) dX14_close_2 (fun H locs hP hD hS => ?_)
  have hP : va_P D vwCl [(a0, .inr (13, [.int 0, .int 0, .ref a1, .ref a2, .ref a3, .ref a4, .ref a5, .ref a6, .ref a7, .int 0, .long 0]))] H := hP
  have hD : va_D A [(a0, .inr (13, [.int 0, .int 0, .ref a1, .ref a2, .ref a3, .ref a4, .ref a5, .ref a6, .ref a7, .int 0, .long 0]))] := hD
  refine lv_aload_n hx hb dX14_close_5 rfl (lv_at hl 0 rfl) ?_
  refine lv_iload_n hx hb dX14_close_6 rfl (lv_at hl 1 rfl) ?_
  refine zk_i (wr := []) (va_runV (As := [.int p0]) (rest := []) ⟨hx, hb, hml, hown, hts⟩ (kX14_isStage_0 l hst D yc e0 H.size a0 p0 a1 a2 a3 a4 a5 a6 a7) (cwV 1 hts (lw_V wq1596 wq1598 ws35 wq6 wq1599) rfl rfl rfl (by decide +kernel) ⟨(Nat.le_of_ble_eq_true rfl), (Nat.le_of_ble_eq_true rfl)⟩) (zk_pV hC hP hD hS hA [0] rfl rfl 0 13 rfl rfl) rfl rfl hl.1 rfl (lv_room (Nat.le_of_ble_eq_true rfl)) dX14_close_7 ⟨(Nat.le_of_ble_eq_true rfl), (Nat.le_of_ble_eq_true rfl)⟩) hP hD hS hA [0] [] rfl rfl rfl (by decide) (fun u1 H locs hP hD hS => ?_)
  have hP : va_P D vwCl [(a0, .inr (13, [.int 0, .int 0, .ref a1, .ref a2, .ref a3, .ref a4, .ref a5, .ref a6, .ref a7, .int 0, .long 0]))] H := hP
  have hD : va_D A [(a0, .inr (13, [.int 0, .int 0, .ref a1, .ref a2, .ref a3, .ref a4, .ref a5, .ref a6, .ref a7, .int 0, .long 0]))] := hD
  refine W.widen (k := 0) (n := 0) (Nat.le_of_ble_eq_true rfl) (Nat.le_of_ble_eq_true rfl) ?_
  refine lv_if_ne (tgt := 19) hx hb dX14_close_10 (by decide) (fun h9 => absurd (by decide) h9) (fun _ => ?_)
  refine lv_aload_n hx hb dX14_close_13 rfl (lv_at hl 0 rfl) ?_
  refine lv_iconst (v := 1) hx hb dX14_close_14 (by decide) ?_
  refine zk_i (wr := []) (va_runV (As := [.int 1]) (rest := []) ⟨hx, hb, hml, hown, hts⟩ (kX14_refuse_0 l hst D yc e0 H.size a0 a1 a2 a3 a4 a5 a6 a7) (cwV 1 hts (lw_V wq1582 wq1584 ws33 wq6 wq1585) rfl rfl rfl (by decide +kernel) ⟨(Nat.le_of_ble_eq_true rfl), (Nat.le_of_ble_eq_true rfl)⟩) (zk_pV hC hP hD hS hA [0] rfl rfl 0 13 rfl rfl) rfl rfl hl.1 rfl (lv_room (Nat.le_of_ble_eq_true rfl)) dX14_close_15 ⟨(Nat.le_of_ble_eq_true rfl), (Nat.le_of_ble_eq_true rfl)⟩) hP hD hS hA [0] [] rfl rfl rfl (by decide) (fun u2 H locs hP hD hS => ?_)
  have hP : va_P D vwCl [(a0, .inr (13, [.int 0, .int 0, .ref a1, .ref a2, .ref a3, .ref a4, .ref a5, .ref a6, .ref a7, .int 1, .long 0]))] H := hP
  have hD : va_D A [(a0, .inr (13, [.int 0, .int 0, .ref a1, .ref a2, .ref a3, .ref a4, .ref a5, .ref a6, .ref a7, .int 1, .long 0]))] := hD
  refine W.widen (k := 0) (n := 0) (Nat.le_of_ble_eq_true rfl) (Nat.le_of_ble_eq_true rfl) ?_
  exact zk_ri (r0 := fun u => 0) (w1 := fun u => [(a0, .inr (13, [.int 0, .int 0, .ref a1, .ref a2, .ref a3, .ref a4, .ref a5, .ref a6, .ref a7, .int 1, .long 0]))]) hx hb hr hlk hP hD hS (fun _ _ => 0) rfl rfl [0] rfl rfl (Nat.le_of_ble_eq_true rfl) (Nat.le_of_ble_eq_true rfl) dX14_close_18
set_option maxHeartbeats 4000000 in
set_option maxRecDepth 100000 in
theorem kX10_isWithin_6 (l : Launch) (hst : l.stackTraces = false) (D : va_G) (yc : Nat → ClassId) (e0 sz : Nat) (p0 : Int32) (h0 : p0 < 1) : Met l yX10_isWithin (ws_ yX10_isWithin cX10_isWithin 3 (some .boolean)) ({ frames := 0, cells := 0, slots := 0, locals := 0 }) (PR D yc e0 [] sz [.int p0, .int 1, .int 200]) (va_Qi (fun r u => r = (fun u : Nat → Nat → Nat => 0) u) (WD D (va_A [] sz) (fun u => [])) (va_A [] sz)) 0 0 (va_A [] sz) := by
  refine zk_M (Qc := fun A => va_Qi (fun r u => r = (fun u : Nat → Nat → Nat => 0) u) (WD D A (fun u => [])) A) (by decide) (Nat.le_of_ble_eq_true rfl) ?_
  intro p e s m args below meth c A ls hx hb hml hr hlk hown hnm hts hP hD hS hA hC hl
  have hK := hC.1
  have hN := hC.2.1
  have hl : lv_has ls 3 [(0, .int p0), (1, .int 1), (2, .int 200)] := hl
  generalize hHH : s.heap = H at hP ⊢
  have hS : va_S A s.heap H [] := by rw [← hHH]; exact hS
  refine lv_iload_n hx hb dX10_isWithin_0 rfl (lv_at hl 0 rfl) ?_
  refine lv_iload_n hx hb dX10_isWithin_1 rfl (lv_at hl 1 rfl) ?_
  refine lv_icmp_lt (tgt := 14) hx hb dX10_isWithin_2 (by decide) (fun _ => ?_) (fun h9 => absurd h0 h9)
  refine lv_iconst (v := 0) hx hb dX10_isWithin_14 (by decide) ?_
  exact zk_ri (r0 := fun u => 0) (w1 := fun u => []) hx hb hr hlk hP hD hS (fun _ _ => 0) rfl rfl [] rfl rfl (Nat.le_of_ble_eq_true rfl) (Nat.le_of_ble_eq_true rfl) dX10_isWithin_15
set_option maxHeartbeats 4000000 in
set_option maxRecDepth 100000 in
theorem kX10_work_0 (l : Launch) (hst : l.stackTraces = false) (D : va_G) (yc : Nat → ClassId) (e0 sz : Nat) (a0 : Nat) (p0 : Int32) (h0 : p0 < 1) : vx_Met l yX10_work (ws_ yX10_work cX10_work 3 (some .int)) ({ frames := 7, cells := 1, slots := 6, locals := 101 }) (PR D yc e0 [] sz [.ref a0, .int p0]) (fun _ _ _ _ => False) (zk_X D (va_A [] sz) "java/lang/IllegalArgumentException" (fun u => [])) 1 6 (va_A [] sz) := by
  refine zk_MX (by decide) (Nat.le_of_ble_eq_true rfl) ?_
  intro p e s m args below meth c A ls hx hb hml hr hlk hown hnm hts hP hD hS hA hC hl hnx
  have hK := hC.1
  have hN := hC.2.1
  have hl : lv_has ls 3 [(0, .ref a0), (1, .int p0)] := hl
  generalize hHH : s.heap = H at hP ⊢
  have hS : va_S A s.heap H [] := by rw [← hHH]; exact hS
  refine W.widen (k := 0) (n := 0) (Nat.le_of_ble_eq_true rfl) (Nat.le_of_ble_eq_true rfl) ?_
  refine lv_iload_n hx hb dX10_work_0 rfl (lv_at hl 1 rfl) ?_
  refine lv_iconst (v := 1) hx hb dX10_work_1 (by decide) ?_
  refine lv_sipush (v := 200) hx hb dX10_work_2 (by decide) ?_
  refine zk_i (wr := []) (va_runS (As := [.int p0, .int 1, .int 200]) (rest := []) ⟨hx, hb, hml, hown, hts⟩ (kX10_isWithin_6 l hst D yc e0 H.size p0 h0) (va_cwS 3 hts (lw_S wq464 wq465 wq1 wq466) rfl rfl rfl (by decide +kernel) ⟨(Nat.le_of_ble_eq_true rfl), (Nat.le_of_ble_eq_true rfl)⟩) (zk_pS hC hP hD hS hA [] rfl rfl) rfl rfl hl.1 rfl (lv_room (Nat.le_of_ble_eq_true rfl)) dX10_work_5 ⟨(Nat.le_of_ble_eq_true rfl), (Nat.le_of_ble_eq_true rfl)⟩) hP hD hS hA [] [] rfl rfl rfl (by decide) (fun u1 H locs hP hD hS => ?_)
  have hP : va_P D vwCl [] H := hP
  have hD : va_D A [] := hD
  refine W.widen (k := 0) (n := 0) (Nat.le_of_ble_eq_true rfl) (Nat.le_of_ble_eq_true rfl) ?_
  refine zk_x (wr := []) (vx_runS (As := [.int 0]) (rest := []) ⟨hx, hb, hml, hown, hts⟩ (kX10_refuseUnless_0 l hst D yc e0 H.size) (va_cwS 1 hts (lw_S wq388 wq389 wq1 wq390) rfl rfl rfl (by decide +kernel) ⟨(Nat.le_of_ble_eq_true rfl), (Nat.le_of_ble_eq_true rfl)⟩) (zk_pS hC hP hD hS hA [] rfl rfl) rfl rfl hl.1 rfl (lv_room (Nat.le_of_ble_eq_true rfl)) dX10_work_8 ⟨(Nat.le_of_ble_eq_true rfl), (Nat.le_of_ble_eq_true rfl)⟩) hP hD hS hA [] [] rfl rfl rfl (by decide) (fun u2 ce q9 H locs hP hD hS hce hcv hcl => ?_)
  have hP : va_P D vwCl [] H := hP
  have hD : va_D A [] := hD
  exact vx_out (fun x9 hx9 => (hnx x9 hx9).elim) hlk hce hcv hcl (zk_out hP hD hS (fun _ _ => 0) [] rfl rfl) hS.2.2 (Nat.le_of_ble_eq_true rfl) (Nat.le_of_ble_eq_true rfl)
set_option maxHeartbeats 4000000 in
set_option maxRecDepth 100000 in
theorem kL_work_0 (l : Launch) (hst : l.stackTraces = false) (D : va_G) (yc : Nat → ClassId) (e0 sz : Nat) (a0 : Nat) (p0 : Int32) (a1 : Nat) (a2 : Nat) (a3 : Nat) (h0 : p0 < 1) : Met l yL_work (ww_ yL_work cL_work 4 (some .int) [(0, 9, 12, 13), (0, 9, 15, 15)]) ({ frames := 8, cells := 1, slots := 6, locals := 123 }) (PR D yc e0 [(a0, .inr (9, [.ref a2, .ref a3, .int 0, .int 0, .int 0]))] sz [.ref a0, .int p0, .ref a1]) (va_Qi (fun r u => r = (fun u : Nat → Nat → Nat => 1) u) (WD D (va_A [(a0, .inr (9, [.ref a2, .ref a3, .int 0, .int 0, .int 0]))] sz) (fun u => [(a0, .inr (9, [.ref a2, .ref a3, .int 0, .int 0, .int 0]))])) (va_A [(a0, .inr (9, [.ref a2, .ref a3, .int 0, .int 0, .int 0]))] sz)) 1 6 (va_A [(a0, .inr (9, [.ref a2, .ref a3, .int 0, .int 0, .int 0]))] sz) := by
  refine zk_MW (Qc := fun A => va_Qi (fun r u => r = (fun u : Nat → Nat → Nat => 1) u) (WD D A (fun u => [(a0, .inr (9, [.ref a2, .ref a3, .int 0, .int 0, .int 0]))])) A) (by decide) (Nat.le_of_ble_eq_true rfl) ?_
  intro p e s m args below meth c A ls hx hb hml hr hlk hown hts hP hD hS hA hC hl hex
  have hK := hC.1
  have hN := hC.2.1
  have hl : lv_has ls 4 [(0, .ref a0), (1, .int p0), (2, .ref a1)] := hl
  generalize hHH : s.heap = H at hP ⊢
  have hS : va_S A s.heap H [] := by rw [← hHH]; exact hS
  refine lv_aload_n hx hb dL_work_0 rfl (lv_at hl 2 rfl) ?_
  refine lv_iconst (v := 0) hx hb dL_work_1 (by decide) ?_
  refine lv_aload_n hx hb dL_work_2 rfl (lv_at hl 0 rfl) ?_
  refine lv_iload_n hx hb dL_work_3 rfl (lv_at hl 1 rfl) ?_
  refine zk_x (wr := [(a0, .inr (9, [.ref a2, .ref a3, .int 0, .int 0, .int 0]))]) (vx_runV (As := [.int p0]) (rest := [.int 0, .ref a1]) ⟨hx, hb, hml, hown, hts⟩ (kX10_work_0 l hst D yc e0 H.size a0 p0 h0) (cwV 1 hts (lw_V wq940 wq941 wq942 wq1 wq943) rfl rfl rfl (by decide +kernel) ⟨(Nat.le_of_ble_eq_true rfl), (Nat.le_of_ble_eq_true rfl)⟩) (zk_pV hC hP hD hS hA [] rfl rfl 0 9 rfl rfl) rfl rfl hl.1 rfl (lv_room (Nat.le_of_ble_eq_true rfl)) dL_work_4 ⟨(Nat.le_of_ble_eq_true rfl), (Nat.le_of_ble_eq_true rfl)⟩) hP hD hS hA [] [0] rfl rfl rfl (by decide) (fun u1 ce q9 H locs hP hD hS hce hcv hcl => ?_)
  have hP : va_P D vwCl [(a0, .inr (9, [.ref a2, .ref a3, .int 0, .int 0, .int 0]))] H := hP
  have hD : va_D A [(a0, .inr (9, [.ref a2, .ref a3, .int 0, .int 0, .int 0]))] := hD
  refine vx_catch (own := RL) (name := "java/lang/IllegalArgumentException") hown (tableOf []) ⟨0, 9, 12, 13⟩ (tableOf [(0, 9, 15, 15)]) hex (fun z hz => False.elim (List.not_mem_nil hz)) (by decide) (by decide) (hts _ wq458) (zk_tab rfl (hN _ wr393 rfl)) hce hcv hcl ?_
  refine W.widen (k := 1) (n := 6) (Nat.le_of_ble_eq_true rfl) (Nat.le_of_ble_eq_true rfl) ?_
  refine lv_astore_n (lv' := [(3, .ref q9), (0, .ref a0), (1, .int p0), (2, .ref a1)]) hx hb dL_work_12 rfl hl (by decide) rfl (fun ls hl => ?_)
  refine lv_iconst (v := 1) hx hb dL_work_13 (by decide) ?_
  exact zk_ri (r0 := fun u => 1) (w1 := fun u => [(a0, .inr (9, [.ref a2, .ref a3, .int 0, .int 0, .int 0]))]) hx hb hr hlk hP hD hS (fun _ _ => 0) rfl rfl [0] rfl rfl (Nat.le_of_ble_eq_true rfl) (Nat.le_of_ble_eq_true rfl) dL_work_14
set_option maxHeartbeats 4000000 in
set_option maxRecDepth 100000 in
theorem kX14_is_7 (l : Launch) (hst : l.stackTraces = false) (D : va_G) (yc : Nat → ClassId) (e0 sz : Nat) (p0 : Int32) (h0 : p0 < 1) : Met l yX14_is (ws_ yX14_is cX14_is 3 (some .boolean)) ({ frames := 0, cells := 0, slots := 0, locals := 0 }) (PR D yc e0 [] sz [.int p0, .int 1, .int 200]) (va_Qi (fun r u => r = (fun u : Nat → Nat → Nat => 0) u) (WD D (va_A [] sz) (fun u => [])) (va_A [] sz)) 0 0 (va_A [] sz) := by
  refine zk_M (Qc := fun A => va_Qi (fun r u => r = (fun u : Nat → Nat → Nat => 0) u) (WD D A (fun u => [])) A) (by decide) (Nat.le_of_ble_eq_true rfl) ?_
  intro p e s m args below meth c A ls hx hb hml hr hlk hown hnm hts hP hD hS hA hC hl
  have hK := hC.1
  have hN := hC.2.1
  have hl : lv_has ls 3 [(0, .int p0), (1, .int 1), (2, .int 200)] := hl
  generalize hHH : s.heap = H at hP ⊢
  have hS : va_S A s.heap H [] := by rw [← hHH]; exact hS
  refine lv_iload_n hx hb dX14_is_0 rfl (lv_at hl 0 rfl) ?_
  refine lv_iload_n hx hb dX14_is_1 rfl (lv_at hl 1 rfl) ?_
  refine lv_icmp_lt (tgt := 14) hx hb dX14_is_2 (by decide) (fun _ => ?_) (fun h9 => absurd h0 h9)
  refine lv_iconst (v := 0) hx hb dX14_is_14 (by decide) ?_
  exact zk_ri (r0 := fun u => 0) (w1 := fun u => []) hx hb hr hlk hP hD hS (fun _ _ => 0) rfl rfl [] rfl rfl (Nat.le_of_ble_eq_true rfl) (Nat.le_of_ble_eq_true rfl) dX14_is_15
set_option maxHeartbeats 4000000 in
set_option maxRecDepth 100000 in
theorem kX14_work_0 (l : Launch) (hst : l.stackTraces = false) (D : va_G) (yc : Nat → ClassId) (e0 sz : Nat) (a0 : Nat) (p0 : Int32) (a1 : Nat) (a2 : Nat) (a3 : Nat) (a4 : Nat) (a5 : Nat) (a6 : Nat) (a7 : Nat) (h0 : p0 < 1) : Met l yX14_work (ws_ yX14_work cX14_work 2 (some .int)) ({ frames := 1, cells := 0, slots := 0, locals := 22 }) (PR D yc e0 [(a0, .inr (13, [.int 0, .int 0, .ref a1, .ref a2, .ref a3, .ref a4, .ref a5, .ref a6, .ref a7, .int 0, .long 0]))] sz [.ref a0, .int p0]) (va_Qi (fun r u => r = (fun u : Nat → Nat → Nat => 0) u) (WD D (va_A [(a0, .inr (13, [.int 0, .int 0, .ref a1, .ref a2, .ref a3, .ref a4, .ref a5, .ref a6, .ref a7, .int 0, .long 0]))] sz) (fun u => [(a0, .inr (13, [.int 0, .int 0, .ref a1, .ref a2, .ref a3, .ref a4, .ref a5, .ref a6, .ref a7, .int 1, .long 0]))])) (va_A [(a0, .inr (13, [.int 0, .int 0, .ref a1, .ref a2, .ref a3, .ref a4, .ref a5, .ref a6, .ref a7, .int 0, .long 0]))] sz)) 0 0 (va_A [(a0, .inr (13, [.int 0, .int 0, .ref a1, .ref a2, .ref a3, .ref a4, .ref a5, .ref a6, .ref a7, .int 0, .long 0]))] sz) := by
  refine zk_M (Qc := fun A => va_Qi (fun r u => r = (fun u : Nat → Nat → Nat => 0) u) (WD D A (fun u => [(a0, .inr (13, [.int 0, .int 0, .ref a1, .ref a2, .ref a3, .ref a4, .ref a5, .ref a6, .ref a7, .int 1, .long 0]))])) A) (by decide) (Nat.le_of_ble_eq_true rfl) ?_
  intro p e s m args below meth c A ls hx hb hml hr hlk hown hnm hts hP hD hS hA hC hl
  have hK := hC.1
  have hN := hC.2.1
  have hl : lv_has ls 2 [(0, .ref a0), (1, .int p0)] := hl
  generalize hHH : s.heap = H at hP ⊢
  have hS : va_S A s.heap H [] := by rw [← hHH]; exact hS
  refine lv_aload_n hx hb dX14_work_0 rfl (lv_at hl 0 rfl) ?_
  refine lv_iconst (v := 0) hx hb dX14_work_1 (by decide) ?_
  refine va_put (D := D) (ci := 13) (v := .int 0) (ty := .int) (C := RX14) (T := TX14) (N := 11) hx hb hts iX14 tyX14 tyX14_ok nmX14 hown hK hP hD hS 0 rfl rfl 9 (by decide) (hts _ wq1542) (fun _ h9 => h9) rfl (by decide +kernel) rfl rfl (Nat.le_of_ble_eq_true rfl) dX14_work_2 (fun H locs hP hD hS => ?_)
  have hP : va_P D vwCl [(a0, .inr (13, [.int 0, .int 0, .ref a1, .ref a2, .ref a3, .ref a4, .ref a5, .ref a6, .ref a7, .int 0, .long 0]))] H := hP
  have hD : va_D A [(a0, .inr (13, [.int 0, .int 0, .ref a1, .ref a2, .ref a3, .ref a4, .ref a5, .ref a6, .ref a7, .int 0, .long 0]))] := hD
  refine lv_iload_n hx hb dX14_work_5 rfl (lv_at hl 1 rfl) ?_
  refine lv_iconst (v := 1) hx hb dX14_work_6 (by decide) ?_
  refine lv_sipush (v := 200) hx hb dX14_work_7 (by decide) ?_
  refine zk_i (wr := [(a0, .inr (13, [.int 0, .int 0, .ref a1, .ref a2, .ref a3, .ref a4, .ref a5, .ref a6, .ref a7, .int 0, .long 0]))]) (va_runS (As := [.int p0, .int 1, .int 200]) (rest := []) ⟨hx, hb, hml, hown, hts⟩ (kX14_is_7 l hst D yc e0 H.size p0 h0) (va_cwS 3 hts (lw_S wq1575 wq1576 wq6 wq1577) rfl rfl rfl (by decide +kernel) ⟨(Nat.le_of_ble_eq_true rfl), (Nat.le_of_ble_eq_true rfl)⟩) (zk_pS hC hP hD hS hA [] rfl rfl) rfl rfl hl.1 rfl (lv_room (Nat.le_of_ble_eq_true rfl)) dX14_work_10 ⟨(Nat.le_of_ble_eq_true rfl), (Nat.le_of_ble_eq_true rfl)⟩) hP hD hS hA [] [0] rfl rfl rfl (by decide) (fun u1 H locs hP hD hS => ?_)
  have hP : va_P D vwCl [(a0, .inr (13, [.int 0, .int 0, .ref a1, .ref a2, .ref a3, .ref a4, .ref a5, .ref a6, .ref a7, .int 0, .long 0]))] H := hP
  have hD : va_D A [(a0, .inr (13, [.int 0, .int 0, .ref a1, .ref a2, .ref a3, .ref a4, .ref a5, .ref a6, .ref a7, .int 0, .long 0]))] := hD
  refine W.widen (k := 0) (n := 0) (Nat.le_of_ble_eq_true rfl) (Nat.le_of_ble_eq_true rfl) ?_
  refine lv_if_ne (tgt := 22) hx hb dX14_work_13 (by decide) (fun h9 => absurd (by decide) h9) (fun _ => ?_)
  refine lv_aload_n hx hb dX14_work_16 rfl (lv_at hl 0 rfl) ?_
  refine lv_iconst (v := 1) hx hb dX14_work_17 (by decide) ?_
  refine zk_i (wr := []) (va_runV (As := [.int 1]) (rest := []) ⟨hx, hb, hml, hown, hts⟩ (kX14_refuse_0 l hst D yc e0 H.size a0 a1 a2 a3 a4 a5 a6 a7) (cwV 1 hts (lw_V wq1582 wq1584 ws33 wq6 wq1585) rfl rfl rfl (by decide +kernel) ⟨(Nat.le_of_ble_eq_true rfl), (Nat.le_of_ble_eq_true rfl)⟩) (zk_pV hC hP hD hS hA [0] rfl rfl 0 13 rfl rfl) rfl rfl hl.1 rfl (lv_room (Nat.le_of_ble_eq_true rfl)) dX14_work_18 ⟨(Nat.le_of_ble_eq_true rfl), (Nat.le_of_ble_eq_true rfl)⟩) hP hD hS hA [0] [] rfl rfl rfl (by decide) (fun u2 H locs hP hD hS => ?_)
  have hP : va_P D vwCl [(a0, .inr (13, [.int 0, .int 0, .ref a1, .ref a2, .ref a3, .ref a4, .ref a5, .ref a6, .ref a7, .int 1, .long 0]))] H := hP
  have hD : va_D A [(a0, .inr (13, [.int 0, .int 0, .ref a1, .ref a2, .ref a3, .ref a4, .ref a5, .ref a6, .ref a7, .int 1, .long 0]))] := hD
  refine W.widen (k := 0) (n := 0) (Nat.le_of_ble_eq_true rfl) (Nat.le_of_ble_eq_true rfl) ?_
  exact zk_ri (r0 := fun u => 0) (w1 := fun u => [(a0, .inr (13, [.int 0, .int 0, .ref a1, .ref a2, .ref a3, .ref a4, .ref a5, .ref a6, .ref a7, .int 1, .long 0]))]) hx hb hr hlk hP hD hS (fun _ _ => 0) rfl rfl [0] rfl rfl (Nat.le_of_ble_eq_true rfl) (Nat.le_of_ble_eq_true rfl) dX14_work_21
set_option maxHeartbeats 4000000 in
set_option maxRecDepth 100000 in
theorem kX10_isWithin_7 (l : Launch) (hst : l.stackTraces = false) (D : va_G) (yc : Nat → ClassId) (e0 sz : Nat) (p0 : Int32) (h0 : ¬ p0 < 1) (h1 : 200 < p0) : Met l yX10_isWithin (ws_ yX10_isWithin cX10_isWithin 3 (some .boolean)) ({ frames := 0, cells := 0, slots := 0, locals := 0 }) (PR D yc e0 [] sz [.int p0, .int 1, .int 200]) (va_Qi (fun r u => r = (fun u : Nat → Nat → Nat => 0) u) (WD D (va_A [] sz) (fun u => [])) (va_A [] sz)) 0 0 (va_A [] sz) := by
  refine zk_M (Qc := fun A => va_Qi (fun r u => r = (fun u : Nat → Nat → Nat => 0) u) (WD D A (fun u => [])) A) (by decide) (Nat.le_of_ble_eq_true rfl) ?_
  intro p e s m args below meth c A ls hx hb hml hr hlk hown hnm hts hP hD hS hA hC hl
  have hK := hC.1
  have hN := hC.2.1
  have hl : lv_has ls 3 [(0, .int p0), (1, .int 1), (2, .int 200)] := hl
  generalize hHH : s.heap = H at hP ⊢
  have hS : va_S A s.heap H [] := by rw [← hHH]; exact hS
  refine lv_iload_n hx hb dX10_isWithin_0 rfl (lv_at hl 0 rfl) ?_
  refine lv_iload_n hx hb dX10_isWithin_1 rfl (lv_at hl 1 rfl) ?_
  refine lv_icmp_lt (tgt := 14) hx hb dX10_isWithin_2 (by decide) (fun h9 => absurd h9 h0) (fun _ => ?_)
  refine lv_iload_n hx hb dX10_isWithin_5 rfl (lv_at hl 0 rfl) ?_
  refine lv_iload_n hx hb dX10_isWithin_6 rfl (lv_at hl 2 rfl) ?_
  refine lv_icmp_gt (tgt := 14) hx hb dX10_isWithin_7 (by decide) (fun _ => ?_) (fun h9 => absurd h1 h9)
  refine lv_iconst (v := 0) hx hb dX10_isWithin_14 (by decide) ?_
  exact zk_ri (r0 := fun u => 0) (w1 := fun u => []) hx hb hr hlk hP hD hS (fun _ _ => 0) rfl rfl [] rfl rfl (Nat.le_of_ble_eq_true rfl) (Nat.le_of_ble_eq_true rfl) dX10_isWithin_15
set_option maxHeartbeats 4000000 in
set_option maxRecDepth 100000 in
theorem kX10_work_1 (l : Launch) (hst : l.stackTraces = false) (D : va_G) (yc : Nat → ClassId) (e0 sz : Nat) (a0 : Nat) (p0 : Int32) (h0 : ¬ p0 < 1) (h1 : 200 < p0) : vx_Met l yX10_work (ws_ yX10_work cX10_work 3 (some .int)) ({ frames := 7, cells := 1, slots := 6, locals := 101 }) (PR D yc e0 [] sz [.ref a0, .int p0]) (fun _ _ _ _ => False) (zk_X D (va_A [] sz) "java/lang/IllegalArgumentException" (fun u => [])) 1 6 (va_A [] sz) := by
  refine zk_MX (by decide) (Nat.le_of_ble_eq_true rfl) ?_
  intro p e s m args below meth c A ls hx hb hml hr hlk hown hnm hts hP hD hS hA hC hl hnx
  have hK := hC.1
  have hN := hC.2.1
  have hl : lv_has ls 3 [(0, .ref a0), (1, .int p0)] := hl
  generalize hHH : s.heap = H at hP ⊢
  have hS : va_S A s.heap H [] := by rw [← hHH]; exact hS
  refine W.widen (k := 0) (n := 0) (Nat.le_of_ble_eq_true rfl) (Nat.le_of_ble_eq_true rfl) ?_
  refine lv_iload_n hx hb dX10_work_0 rfl (lv_at hl 1 rfl) ?_
  refine lv_iconst (v := 1) hx hb dX10_work_1 (by decide) ?_
  refine lv_sipush (v := 200) hx hb dX10_work_2 (by decide) ?_
  refine zk_i (wr := []) (va_runS (As := [.int p0, .int 1, .int 200]) (rest := []) ⟨hx, hb, hml, hown, hts⟩ (kX10_isWithin_7 l hst D yc e0 H.size p0 h0 h1) (va_cwS 3 hts (lw_S wq464 wq465 wq1 wq466) rfl rfl rfl (by decide +kernel) ⟨(Nat.le_of_ble_eq_true rfl), (Nat.le_of_ble_eq_true rfl)⟩) (zk_pS hC hP hD hS hA [] rfl rfl) rfl rfl hl.1 rfl (lv_room (Nat.le_of_ble_eq_true rfl)) dX10_work_5 ⟨(Nat.le_of_ble_eq_true rfl), (Nat.le_of_ble_eq_true rfl)⟩) hP hD hS hA [] [] rfl rfl rfl (by decide) (fun u1 H locs hP hD hS => ?_)
  have hP : va_P D vwCl [] H := hP
  have hD : va_D A [] := hD
  refine W.widen (k := 0) (n := 0) (Nat.le_of_ble_eq_true rfl) (Nat.le_of_ble_eq_true rfl) ?_
  refine zk_x (wr := []) (vx_runS (As := [.int 0]) (rest := []) ⟨hx, hb, hml, hown, hts⟩ (kX10_refuseUnless_0 l hst D yc e0 H.size) (va_cwS 1 hts (lw_S wq388 wq389 wq1 wq390) rfl rfl rfl (by decide +kernel) ⟨(Nat.le_of_ble_eq_true rfl), (Nat.le_of_ble_eq_true rfl)⟩) (zk_pS hC hP hD hS hA [] rfl rfl) rfl rfl hl.1 rfl (lv_room (Nat.le_of_ble_eq_true rfl)) dX10_work_8 ⟨(Nat.le_of_ble_eq_true rfl), (Nat.le_of_ble_eq_true rfl)⟩) hP hD hS hA [] [] rfl rfl rfl (by decide) (fun u2 ce q9 H locs hP hD hS hce hcv hcl => ?_)
  have hP : va_P D vwCl [] H := hP
  have hD : va_D A [] := hD
  exact vx_out (fun x9 hx9 => (hnx x9 hx9).elim) hlk hce hcv hcl (zk_out hP hD hS (fun _ _ => 0) [] rfl rfl) hS.2.2 (Nat.le_of_ble_eq_true rfl) (Nat.le_of_ble_eq_true rfl)
set_option maxHeartbeats 4000000 in
set_option maxRecDepth 100000 in
theorem kL_work_1 (l : Launch) (hst : l.stackTraces = false) (D : va_G) (yc : Nat → ClassId) (e0 sz : Nat) (a0 : Nat) (p0 : Int32) (a1 : Nat) (a2 : Nat) (a3 : Nat) (h0 : ¬ p0 < 1) (h1 : 200 < p0) : Met l yL_work (ww_ yL_work cL_work 4 (some .int) [(0, 9, 12, 13), (0, 9, 15, 15)]) ({ frames := 8, cells := 1, slots := 6, locals := 123 }) (PR D yc e0 [(a0, .inr (9, [.ref a2, .ref a3, .int 0, .int 0, .int 0]))] sz [.ref a0, .int p0, .ref a1]) (va_Qi (fun r u => r = (fun u : Nat → Nat → Nat => 1) u) (WD D (va_A [(a0, .inr (9, [.ref a2, .ref a3, .int 0, .int 0, .int 0]))] sz) (fun u => [(a0, .inr (9, [.ref a2, .ref a3, .int 0, .int 0, .int 0]))])) (va_A [(a0, .inr (9, [.ref a2, .ref a3, .int 0, .int 0, .int 0]))] sz)) 1 6 (va_A [(a0, .inr (9, [.ref a2, .ref a3, .int 0, .int 0, .int 0]))] sz) := by
  refine zk_MW (Qc := fun A => va_Qi (fun r u => r = (fun u : Nat → Nat → Nat => 1) u) (WD D A (fun u => [(a0, .inr (9, [.ref a2, .ref a3, .int 0, .int 0, .int 0]))])) A) (by decide) (Nat.le_of_ble_eq_true rfl) ?_
  intro p e s m args below meth c A ls hx hb hml hr hlk hown hts hP hD hS hA hC hl hex
  have hK := hC.1
  have hN := hC.2.1
  have hl : lv_has ls 4 [(0, .ref a0), (1, .int p0), (2, .ref a1)] := hl
  generalize hHH : s.heap = H at hP ⊢
  have hS : va_S A s.heap H [] := by rw [← hHH]; exact hS
  refine lv_aload_n hx hb dL_work_0 rfl (lv_at hl 2 rfl) ?_
  refine lv_iconst (v := 0) hx hb dL_work_1 (by decide) ?_
  refine lv_aload_n hx hb dL_work_2 rfl (lv_at hl 0 rfl) ?_
  refine lv_iload_n hx hb dL_work_3 rfl (lv_at hl 1 rfl) ?_
  refine zk_x (wr := [(a0, .inr (9, [.ref a2, .ref a3, .int 0, .int 0, .int 0]))]) (vx_runV (As := [.int p0]) (rest := [.int 0, .ref a1]) ⟨hx, hb, hml, hown, hts⟩ (kX10_work_1 l hst D yc e0 H.size a0 p0 h0 h1) (cwV 1 hts (lw_V wq940 wq941 wq942 wq1 wq943) rfl rfl rfl (by decide +kernel) ⟨(Nat.le_of_ble_eq_true rfl), (Nat.le_of_ble_eq_true rfl)⟩) (zk_pV hC hP hD hS hA [] rfl rfl 0 9 rfl rfl) rfl rfl hl.1 rfl (lv_room (Nat.le_of_ble_eq_true rfl)) dL_work_4 ⟨(Nat.le_of_ble_eq_true rfl), (Nat.le_of_ble_eq_true rfl)⟩) hP hD hS hA [] [0] rfl rfl rfl (by decide) (fun u1 ce q9 H locs hP hD hS hce hcv hcl => ?_)
  have hP : va_P D vwCl [(a0, .inr (9, [.ref a2, .ref a3, .int 0, .int 0, .int 0]))] H := hP
  have hD : va_D A [(a0, .inr (9, [.ref a2, .ref a3, .int 0, .int 0, .int 0]))] := hD
  refine vx_catch (own := RL) (name := "java/lang/IllegalArgumentException") hown (tableOf []) ⟨0, 9, 12, 13⟩ (tableOf [(0, 9, 15, 15)]) hex (fun z hz => False.elim (List.not_mem_nil hz)) (by decide) (by decide) (hts _ wq458) (zk_tab rfl (hN _ wr393 rfl)) hce hcv hcl ?_
  refine W.widen (k := 1) (n := 6) (Nat.le_of_ble_eq_true rfl) (Nat.le_of_ble_eq_true rfl) ?_
  refine lv_astore_n (lv' := [(3, .ref q9), (0, .ref a0), (1, .int p0), (2, .ref a1)]) hx hb dL_work_12 rfl hl (by decide) rfl (fun ls hl => ?_)
  refine lv_iconst (v := 1) hx hb dL_work_13 (by decide) ?_
  exact zk_ri (r0 := fun u => 1) (w1 := fun u => [(a0, .inr (9, [.ref a2, .ref a3, .int 0, .int 0, .int 0]))]) hx hb hr hlk hP hD hS (fun _ _ => 0) rfl rfl [0] rfl rfl (Nat.le_of_ble_eq_true rfl) (Nat.le_of_ble_eq_true rfl) dL_work_14
set_option maxHeartbeats 4000000 in
set_option maxRecDepth 100000 in
theorem kX14_is_8 (l : Launch) (hst : l.stackTraces = false) (D : va_G) (yc : Nat → ClassId) (e0 sz : Nat) (p0 : Int32) (h0 : ¬ p0 < 1) (h1 : 200 < p0) : Met l yX14_is (ws_ yX14_is cX14_is 3 (some .boolean)) ({ frames := 0, cells := 0, slots := 0, locals := 0 }) (PR D yc e0 [] sz [.int p0, .int 1, .int 200]) (va_Qi (fun r u => r = (fun u : Nat → Nat → Nat => 0) u) (WD D (va_A [] sz) (fun u => [])) (va_A [] sz)) 0 0 (va_A [] sz) := by
  refine zk_M (Qc := fun A => va_Qi (fun r u => r = (fun u : Nat → Nat → Nat => 0) u) (WD D A (fun u => [])) A) (by decide) (Nat.le_of_ble_eq_true rfl) ?_
  intro p e s m args below meth c A ls hx hb hml hr hlk hown hnm hts hP hD hS hA hC hl
  have hK := hC.1
  have hN := hC.2.1
  have hl : lv_has ls 3 [(0, .int p0), (1, .int 1), (2, .int 200)] := hl
  generalize hHH : s.heap = H at hP ⊢
  have hS : va_S A s.heap H [] := by rw [← hHH]; exact hS
  refine lv_iload_n hx hb dX14_is_0 rfl (lv_at hl 0 rfl) ?_
  refine lv_iload_n hx hb dX14_is_1 rfl (lv_at hl 1 rfl) ?_
  refine lv_icmp_lt (tgt := 14) hx hb dX14_is_2 (by decide) (fun h9 => absurd h9 h0) (fun _ => ?_)
  refine lv_iload_n hx hb dX14_is_5 rfl (lv_at hl 0 rfl) ?_
  refine lv_iload_n hx hb dX14_is_6 rfl (lv_at hl 2 rfl) ?_
  refine lv_icmp_gt (tgt := 14) hx hb dX14_is_7 (by decide) (fun _ => ?_) (fun h9 => absurd h1 h9)
  refine lv_iconst (v := 0) hx hb dX14_is_14 (by decide) ?_
  exact zk_ri (r0 := fun u => 0) (w1 := fun u => []) hx hb hr hlk hP hD hS (fun _ _ => 0) rfl rfl [] rfl rfl (Nat.le_of_ble_eq_true rfl) (Nat.le_of_ble_eq_true rfl) dX14_is_15
set_option maxHeartbeats 4000000 in
set_option maxRecDepth 100000 in
theorem kX14_work_1 (l : Launch) (hst : l.stackTraces = false) (D : va_G) (yc : Nat → ClassId) (e0 sz : Nat) (a0 : Nat) (p0 : Int32) (a1 : Nat) (a2 : Nat) (a3 : Nat) (a4 : Nat) (a5 : Nat) (a6 : Nat) (a7 : Nat) (h0 : ¬ p0 < 1) (h1 : 200 < p0) : Met l yX14_work (ws_ yX14_work cX14_work 2 (some .int)) ({ frames := 1, cells := 0, slots := 0, locals := 22 }) (PR D yc e0 [(a0, .inr (13, [.int 0, .int 0, .ref a1, .ref a2, .ref a3, .ref a4, .ref a5, .ref a6, .ref a7, .int 0, .long 0]))] sz [.ref a0, .int p0]) (va_Qi (fun r u => r = (fun u : Nat → Nat → Nat => 0) u) (WD D (va_A [(a0, .inr (13, [.int 0, .int 0, .ref a1, .ref a2, .ref a3, .ref a4, .ref a5, .ref a6, .ref a7, .int 0, .long 0]))] sz) (fun u => [(a0, .inr (13, [.int 0, .int 0, .ref a1, .ref a2, .ref a3, .ref a4, .ref a5, .ref a6, .ref a7, .int 1, .long 0]))])) (va_A [(a0, .inr (13, [.int 0, .int 0, .ref a1, .ref a2, .ref a3, .ref a4, .ref a5, .ref a6, .ref a7, .int 0, .long 0]))] sz)) 0 0 (va_A [(a0, .inr (13, [.int 0, .int 0, .ref a1, .ref a2, .ref a3, .ref a4, .ref a5, .ref a6, .ref a7, .int 0, .long 0]))] sz) := by
  refine zk_M (Qc := fun A => va_Qi (fun r u => r = (fun u : Nat → Nat → Nat => 0) u) (WD D A (fun u => [(a0, .inr (13, [.int 0, .int 0, .ref a1, .ref a2, .ref a3, .ref a4, .ref a5, .ref a6, .ref a7, .int 1, .long 0]))])) A) (by decide) (Nat.le_of_ble_eq_true rfl) ?_
  intro p e s m args below meth c A ls hx hb hml hr hlk hown hnm hts hP hD hS hA hC hl
  have hK := hC.1
  have hN := hC.2.1
  have hl : lv_has ls 2 [(0, .ref a0), (1, .int p0)] := hl
  generalize hHH : s.heap = H at hP ⊢
  have hS : va_S A s.heap H [] := by rw [← hHH]; exact hS
  refine lv_aload_n hx hb dX14_work_0 rfl (lv_at hl 0 rfl) ?_
  refine lv_iconst (v := 0) hx hb dX14_work_1 (by decide) ?_
  refine va_put (D := D) (ci := 13) (v := .int 0) (ty := .int) (C := RX14) (T := TX14) (N := 11) hx hb hts iX14 tyX14 tyX14_ok nmX14 hown hK hP hD hS 0 rfl rfl 9 (by decide) (hts _ wq1542) (fun _ h9 => h9) rfl (by decide +kernel) rfl rfl (Nat.le_of_ble_eq_true rfl) dX14_work_2 (fun H locs hP hD hS => ?_)
  have hP : va_P D vwCl [(a0, .inr (13, [.int 0, .int 0, .ref a1, .ref a2, .ref a3, .ref a4, .ref a5, .ref a6, .ref a7, .int 0, .long 0]))] H := hP
  have hD : va_D A [(a0, .inr (13, [.int 0, .int 0, .ref a1, .ref a2, .ref a3, .ref a4, .ref a5, .ref a6, .ref a7, .int 0, .long 0]))] := hD
  refine lv_iload_n hx hb dX14_work_5 rfl (lv_at hl 1 rfl) ?_
  refine lv_iconst (v := 1) hx hb dX14_work_6 (by decide) ?_
  refine lv_sipush (v := 200) hx hb dX14_work_7 (by decide) ?_
  refine zk_i (wr := [(a0, .inr (13, [.int 0, .int 0, .ref a1, .ref a2, .ref a3, .ref a4, .ref a5, .ref a6, .ref a7, .int 0, .long 0]))]) (va_runS (As := [.int p0, .int 1, .int 200]) (rest := []) ⟨hx, hb, hml, hown, hts⟩ (kX14_is_8 l hst D yc e0 H.size p0 h0 h1) (va_cwS 3 hts (lw_S wq1575 wq1576 wq6 wq1577) rfl rfl rfl (by decide +kernel) ⟨(Nat.le_of_ble_eq_true rfl), (Nat.le_of_ble_eq_true rfl)⟩) (zk_pS hC hP hD hS hA [] rfl rfl) rfl rfl hl.1 rfl (lv_room (Nat.le_of_ble_eq_true rfl)) dX14_work_10 ⟨(Nat.le_of_ble_eq_true rfl), (Nat.le_of_ble_eq_true rfl)⟩) hP hD hS hA [] [0] rfl rfl rfl (by decide) (fun u1 H locs hP hD hS => ?_)
  have hP : va_P D vwCl [(a0, .inr (13, [.int 0, .int 0, .ref a1, .ref a2, .ref a3, .ref a4, .ref a5, .ref a6, .ref a7, .int 0, .long 0]))] H := hP
  have hD : va_D A [(a0, .inr (13, [.int 0, .int 0, .ref a1, .ref a2, .ref a3, .ref a4, .ref a5, .ref a6, .ref a7, .int 0, .long 0]))] := hD
  refine W.widen (k := 0) (n := 0) (Nat.le_of_ble_eq_true rfl) (Nat.le_of_ble_eq_true rfl) ?_
  refine lv_if_ne (tgt := 22) hx hb dX14_work_13 (by decide) (fun h9 => absurd (by decide) h9) (fun _ => ?_)
  refine lv_aload_n hx hb dX14_work_16 rfl (lv_at hl 0 rfl) ?_
  refine lv_iconst (v := 1) hx hb dX14_work_17 (by decide) ?_
  refine zk_i (wr := []) (va_runV (As := [.int 1]) (rest := []) ⟨hx, hb, hml, hown, hts⟩ (kX14_refuse_0 l hst D yc e0 H.size a0 a1 a2 a3 a4 a5 a6 a7) (cwV 1 hts (lw_V wq1582 wq1584 ws33 wq6 wq1585) rfl rfl rfl (by decide +kernel) ⟨(Nat.le_of_ble_eq_true rfl), (Nat.le_of_ble_eq_true rfl)⟩) (zk_pV hC hP hD hS hA [0] rfl rfl 0 13 rfl rfl) rfl rfl hl.1 rfl (lv_room (Nat.le_of_ble_eq_true rfl)) dX14_work_18 ⟨(Nat.le_of_ble_eq_true rfl), (Nat.le_of_ble_eq_true rfl)⟩) hP hD hS hA [0] [] rfl rfl rfl (by decide) (fun u2 H locs hP hD hS => ?_)
  have hP : va_P D vwCl [(a0, .inr (13, [.int 0, .int 0, .ref a1, .ref a2, .ref a3, .ref a4, .ref a5, .ref a6, .ref a7, .int 1, .long 0]))] H := hP
  have hD : va_D A [(a0, .inr (13, [.int 0, .int 0, .ref a1, .ref a2, .ref a3, .ref a4, .ref a5, .ref a6, .ref a7, .int 1, .long 0]))] := hD
  refine W.widen (k := 0) (n := 0) (Nat.le_of_ble_eq_true rfl) (Nat.le_of_ble_eq_true rfl) ?_
  exact zk_ri (r0 := fun u => 0) (w1 := fun u => [(a0, .inr (13, [.int 0, .int 0, .ref a1, .ref a2, .ref a3, .ref a4, .ref a5, .ref a6, .ref a7, .int 1, .long 0]))]) hx hb hr hlk hP hD hS (fun _ _ => 0) rfl rfl [0] rfl rfl (Nat.le_of_ble_eq_true rfl) (Nat.le_of_ble_eq_true rfl) dX14_work_21
set_option maxHeartbeats 4000000 in
set_option maxRecDepth 100000 in
theorem kX10_isWithin_8 (l : Launch) (hst : l.stackTraces = false) (D : va_G) (yc : Nat → ClassId) (e0 sz : Nat) (p0 : Int32) (h0 : ¬ p0 < 1) (h1 : ¬ 200 < p0) : Met l yX10_isWithin (ws_ yX10_isWithin cX10_isWithin 3 (some .boolean)) ({ frames := 0, cells := 0, slots := 0, locals := 0 }) (PR D yc e0 [] sz [.int p0, .int 1, .int 200]) (va_Qi (fun r u => r = (fun u : Nat → Nat → Nat => 1) u) (WD D (va_A [] sz) (fun u => [])) (va_A [] sz)) 0 0 (va_A [] sz) := by
  refine zk_M (Qc := fun A => va_Qi (fun r u => r = (fun u : Nat → Nat → Nat => 1) u) (WD D A (fun u => [])) A) (by decide) (Nat.le_of_ble_eq_true rfl) ?_
  intro p e s m args below meth c A ls hx hb hml hr hlk hown hnm hts hP hD hS hA hC hl
  have hK := hC.1
  have hN := hC.2.1
  have hl : lv_has ls 3 [(0, .int p0), (1, .int 1), (2, .int 200)] := hl
  generalize hHH : s.heap = H at hP ⊢
  have hS : va_S A s.heap H [] := by rw [← hHH]; exact hS
  refine lv_iload_n hx hb dX10_isWithin_0 rfl (lv_at hl 0 rfl) ?_
  refine lv_iload_n hx hb dX10_isWithin_1 rfl (lv_at hl 1 rfl) ?_
  refine lv_icmp_lt (tgt := 14) hx hb dX10_isWithin_2 (by decide) (fun h9 => absurd h9 h0) (fun _ => ?_)
  refine lv_iload_n hx hb dX10_isWithin_5 rfl (lv_at hl 0 rfl) ?_
  refine lv_iload_n hx hb dX10_isWithin_6 rfl (lv_at hl 2 rfl) ?_
  refine lv_icmp_gt (tgt := 14) hx hb dX10_isWithin_7 (by decide) (fun h9 => absurd h9 h1) (fun _ => ?_)
  refine lv_iconst (v := 1) hx hb dX10_isWithin_10 (by decide) ?_
  refine lv_goto (tgt := 15) hx hb dX10_isWithin_11 (by decide) ?_
  exact zk_ri (r0 := fun u => 1) (w1 := fun u => []) hx hb hr hlk hP hD hS (fun _ _ => 0) rfl rfl [] rfl rfl (Nat.le_of_ble_eq_true rfl) (Nat.le_of_ble_eq_true rfl) dX10_isWithin_15
set_option maxHeartbeats 4000000 in
set_option maxRecDepth 100000 in
theorem kX10_refuseUnlessStarted_0 (l : Launch) (hst : l.stackTraces = false) (D : va_G) (yc : Nat → ClassId) (e0 sz : Nat) (a0 : Nat) (a1 : Nat) (a2 : Nat)  : vx_Met l yX10_refuseUnlessStarted (ws_ yX10_refuseUnlessStarted cX10_refuseUnlessStarted 1 none) ({ frames := 6, cells := 1, slots := 6, locals := 81 }) (PR D yc e0 [(a0, .inr (9, [.ref a1, .ref a2, .int 0, .int 0, .int 0]))] sz [.ref a0]) (fun _ _ _ _ => False) (zk_X D (va_A [(a0, .inr (9, [.ref a1, .ref a2, .int 0, .int 0, .int 0]))] sz) "java/lang/IllegalStateException" (fun u => [(a0, .inr (9, [.ref a1, .ref a2, .int 0, .int 0, .int 0]))])) 1 6 (va_A [(a0, .inr (9, [.ref a1, .ref a2, .int 0, .int 0, .int 0]))] sz) := by
  refine zk_MX (by decide) (Nat.le_of_ble_eq_true rfl) ?_
  intro p e s m args below meth c A ls hx hb hml hr hlk hown hnm hts hP hD hS hA hC hl hnx
  have hK := hC.1
  have hN := hC.2.1
  have hl : lv_has ls 1 [(0, .ref a0)] := hl
  generalize hHH : s.heap = H at hP ⊢
  have hS : va_S A s.heap H [] := by rw [← hHH]; exact hS
  refine W.widen (k := 0) (n := 0) (Nat.le_of_ble_eq_true rfl) (Nat.le_of_ble_eq_true rfl) ?_
  refine lv_aload_n hx hb dX10_refuseUnlessStarted_0 rfl (lv_at hl 0 rfl) ?_
  refine va_get (D := D) (ci := 9) (v := .int 0) (C := RX10) (T := TX10) (N := 5) hx hb hts iX10 hown hK hP 0 rfl rfl 2 (by decide) (hts _ wq101) (fun _ h9 => h9) rfl dX10_refuseUnlessStarted_1 ?_
  refine lv_if_ne (tgt := 15) hx hb dX10_refuseUnlessStarted_4 (by decide) (fun h9 => absurd (by decide) h9) (fun _ => ?_)
  exact vx_throw0 (own := RX10) (cls := "java/lang/IllegalStateException") (names := ["java/lang/RuntimeException", "java/lang/Exception"]) (ik := 91) (ic := 93) (A := A) hx hb hst hown (by decide +kernel) (by decide +kernel) (hts _ wq471) (hts _ wq14) (zk_hat hts hN at0_X10_91) at0_X10_91_g hC.2.2.2.1 hC.2.2.2.2.1 hS (by rw [hml]; exact hl.1) dX10_refuseUnlessStarted_7 dX10_refuseUnlessStarted_10 dX10_refuseUnlessStarted_11 dX10_refuseUnlessStarted_14 (fun x9 hx9 => (hnx x9 hx9).elim) (Nat.le_of_ble_eq_true rfl) (Nat.le_of_ble_eq_true rfl) (Nat.le_of_ble_eq_true rfl) (Nat.le_of_ble_eq_true rfl) hlk (zk_thr hP hD hS (fun _ _ => 0) [0] rfl rfl) hS.2.2 (Nat.le_of_ble_eq_true rfl) (Nat.le_of_ble_eq_true rfl)
set_option maxHeartbeats 4000000 in
set_option maxRecDepth 100000 in
theorem kX10_work_2 (l : Launch) (hst : l.stackTraces = false) (D : va_G) (yc : Nat → ClassId) (e0 sz : Nat) (a0 : Nat) (p0 : Int32) (a1 : Nat) (a2 : Nat) (h0 : ¬ p0 < 1) (h1 : ¬ 200 < p0) : vx_Met l yX10_work (ws_ yX10_work cX10_work 3 (some .int)) ({ frames := 7, cells := 1, slots := 6, locals := 101 }) (PR D yc e0 [(a0, .inr (9, [.ref a1, .ref a2, .int 0, .int 0, .int 0]))] sz [.ref a0, .int p0]) (fun _ _ _ _ => False) (zk_X D (va_A [(a0, .inr (9, [.ref a1, .ref a2, .int 0, .int 0, .int 0]))] sz) "java/lang/IllegalStateException" (fun u => [(a0, .inr (9, [.ref a1, .ref a2, .int 0, .int 0, .int 0]))])) 1 6 (va_A [(a0, .inr (9, [.ref a1, .ref a2, .int 0, .int 0, .int 0]))] sz) := by
  refine zk_MX (by decide) (Nat.le_of_ble_eq_true rfl) ?_
  intro p e s m args below meth c A ls hx hb hml hr hlk hown hnm hts hP hD hS hA hC hl hnx
  have hK := hC.1
  have hN := hC.2.1
  have hl : lv_has ls 3 [(0, .ref a0), (1, .int p0)] := hl
  generalize hHH : s.heap = H at hP ⊢
  have hS : va_S A s.heap H [] := by rw [← hHH]; exact hS
  refine W.widen (k := 0) (n := 0) (Nat.le_of_ble_eq_true rfl) (Nat.le_of_ble_eq_true rfl) ?_
  refine lv_iload_n hx hb dX10_work_0 rfl (lv_at hl 1 rfl) ?_
  refine lv_iconst (v := 1) hx hb dX10_work_1 (by decide) ?_
  refine lv_sipush (v := 200) hx hb dX10_work_2 (by decide) ?_
  refine zk_i (wr := [(a0, .inr (9, [.ref a1, .ref a2, .int 0, .int 0, .int 0]))]) (va_runS (As := [.int p0, .int 1, .int 200]) (rest := []) ⟨hx, hb, hml, hown, hts⟩ (kX10_isWithin_8 l hst D yc e0 H.size p0 h0 h1) (va_cwS 3 hts (lw_S wq464 wq465 wq1 wq466) rfl rfl rfl (by decide +kernel) ⟨(Nat.le_of_ble_eq_true rfl), (Nat.le_of_ble_eq_true rfl)⟩) (zk_pS hC hP hD hS hA [] rfl rfl) rfl rfl hl.1 rfl (lv_room (Nat.le_of_ble_eq_true rfl)) dX10_work_5 ⟨(Nat.le_of_ble_eq_true rfl), (Nat.le_of_ble_eq_true rfl)⟩) hP hD hS hA [] [0] rfl rfl rfl (by decide) (fun u1 H locs hP hD hS => ?_)
  have hP : va_P D vwCl [(a0, .inr (9, [.ref a1, .ref a2, .int 0, .int 0, .int 0]))] H := hP
  have hD : va_D A [(a0, .inr (9, [.ref a1, .ref a2, .int 0, .int 0, .int 0]))] := hD
  refine W.widen (k := 0) (n := 0) (Nat.le_of_ble_eq_true rfl) (Nat.le_of_ble_eq_true rfl) ?_
  refine zk_v (wr := [(a0, .inr (9, [.ref a1, .ref a2, .int 0, .int 0, .int 0]))]) (va_runS (As := [.int 1]) (rest := []) ⟨hx, hb, hml, hown, hts⟩ (kX10_refuseUnless_1 l hst D yc e0 H.size) (va_cwS 1 hts (lw_S wq388 wq389 wq1 wq390) rfl rfl rfl (by decide +kernel) ⟨(Nat.le_of_ble_eq_true rfl), (Nat.le_of_ble_eq_true rfl)⟩) (zk_pS hC hP hD hS hA [] rfl rfl) rfl rfl hl.1 rfl (lv_room (Nat.le_of_ble_eq_true rfl)) dX10_work_8 ⟨(Nat.le_of_ble_eq_true rfl), (Nat.le_of_ble_eq_true rfl)⟩) hP hD hS hA [] [0] rfl rfl rfl (by decide) (fun u2 H locs hP hD hS => ?_)
  have hP : va_P D vwCl [(a0, .inr (9, [.ref a1, .ref a2, .int 0, .int 0, .int 0]))] H := hP
  have hD : va_D A [(a0, .inr (9, [.ref a1, .ref a2, .int 0, .int 0, .int 0]))] := hD
  refine W.widen (k := 0) (n := 0) (Nat.le_of_ble_eq_true rfl) (Nat.le_of_ble_eq_true rfl) ?_
  refine lv_aload_n hx hb dX10_work_11 rfl (lv_at hl 0 rfl) ?_
  refine zk_x (wr := []) (vx_runV (As := []) (rest := []) ⟨hx, hb, hml, hown, hts⟩ (kX10_refuseUnlessStarted_0 l hst D yc e0 H.size a0 a1 a2) (cwV 0 hts (lw_V wq944 wq946 ws17 wq1 wq947) rfl rfl rfl (by decide +kernel) ⟨(Nat.le_of_ble_eq_true rfl), (Nat.le_of_ble_eq_true rfl)⟩) (zk_pV hC hP hD hS hA [0] rfl rfl 0 9 rfl rfl) rfl rfl hl.1 rfl (lv_room (Nat.le_of_ble_eq_true rfl)) dX10_work_12 ⟨(Nat.le_of_ble_eq_true rfl), (Nat.le_of_ble_eq_true rfl)⟩) hP hD hS hA [0] [] rfl rfl rfl (by decide) (fun u3 ce q9 H locs hP hD hS hce hcv hcl => ?_)
  have hP : va_P D vwCl [(a0, .inr (9, [.ref a1, .ref a2, .int 0, .int 0, .int 0]))] H := hP
  have hD : va_D A [(a0, .inr (9, [.ref a1, .ref a2, .int 0, .int 0, .int 0]))] := hD
  exact vx_out (fun x9 hx9 => (hnx x9 hx9).elim) hlk hce hcv hcl (zk_out hP hD hS (fun _ _ => 0) [0] rfl rfl) hS.2.2 (Nat.le_of_ble_eq_true rfl) (Nat.le_of_ble_eq_true rfl)
set_option maxHeartbeats 4000000 in
set_option maxRecDepth 100000 in
theorem kL_work_2 (l : Launch) (hst : l.stackTraces = false) (D : va_G) (yc : Nat → ClassId) (e0 sz : Nat) (a0 : Nat) (p0 : Int32) (a1 : Nat) (a2 : Nat) (a3 : Nat) (h0 : ¬ p0 < 1) (h1 : ¬ 200 < p0) : Met l yL_work (ww_ yL_work cL_work 4 (some .int) [(0, 9, 12, 13), (0, 9, 15, 15)]) ({ frames := 8, cells := 1, slots := 6, locals := 123 }) (PR D yc e0 [(a0, .inr (9, [.ref a2, .ref a3, .int 0, .int 0, .int 0]))] sz [.ref a0, .int p0, .ref a1]) (va_Qi (fun r u => r = (fun u : Nat → Nat → Nat => 2) u) (WD D (va_A [(a0, .inr (9, [.ref a2, .ref a3, .int 0, .int 0, .int 0]))] sz) (fun u => [(a0, .inr (9, [.ref a2, .ref a3, .int 0, .int 0, .int 0]))])) (va_A [(a0, .inr (9, [.ref a2, .ref a3, .int 0, .int 0, .int 0]))] sz)) 1 6 (va_A [(a0, .inr (9, [.ref a2, .ref a3, .int 0, .int 0, .int 0]))] sz) := by
  refine zk_MW (Qc := fun A => va_Qi (fun r u => r = (fun u : Nat → Nat → Nat => 2) u) (WD D A (fun u => [(a0, .inr (9, [.ref a2, .ref a3, .int 0, .int 0, .int 0]))])) A) (by decide) (Nat.le_of_ble_eq_true rfl) ?_
  intro p e s m args below meth c A ls hx hb hml hr hlk hown hts hP hD hS hA hC hl hex
  have hK := hC.1
  have hN := hC.2.1
  have hl : lv_has ls 4 [(0, .ref a0), (1, .int p0), (2, .ref a1)] := hl
  generalize hHH : s.heap = H at hP ⊢
  have hS : va_S A s.heap H [] := by rw [← hHH]; exact hS
  refine lv_aload_n hx hb dL_work_0 rfl (lv_at hl 2 rfl) ?_
  refine lv_iconst (v := 0) hx hb dL_work_1 (by decide) ?_
  refine lv_aload_n hx hb dL_work_2 rfl (lv_at hl 0 rfl) ?_
  refine lv_iload_n hx hb dL_work_3 rfl (lv_at hl 1 rfl) ?_
  refine zk_x (wr := []) (vx_runV (As := [.int p0]) (rest := [.int 0, .ref a1]) ⟨hx, hb, hml, hown, hts⟩ (kX10_work_2 l hst D yc e0 H.size a0 p0 a2 a3 h0 h1) (cwV 1 hts (lw_V wq940 wq941 wq942 wq1 wq943) rfl rfl rfl (by decide +kernel) ⟨(Nat.le_of_ble_eq_true rfl), (Nat.le_of_ble_eq_true rfl)⟩) (zk_pV hC hP hD hS hA [0] rfl rfl 0 9 rfl rfl) rfl rfl hl.1 rfl (lv_room (Nat.le_of_ble_eq_true rfl)) dL_work_4 ⟨(Nat.le_of_ble_eq_true rfl), (Nat.le_of_ble_eq_true rfl)⟩) hP hD hS hA [0] [] rfl rfl rfl (by decide) (fun u1 ce q9 H locs hP hD hS hce hcv hcl => ?_)
  have hP : va_P D vwCl [(a0, .inr (9, [.ref a2, .ref a3, .int 0, .int 0, .int 0]))] H := hP
  have hD : va_D A [(a0, .inr (9, [.ref a2, .ref a3, .int 0, .int 0, .int 0]))] := hD
  refine vx_catch (own := RL) (name := "java/lang/IllegalStateException") hown (tableOf [(0, 9, 12, 13)]) ⟨0, 9, 15, 15⟩ (tableOf []) hex (List.forall_mem_cons.mpr ⟨Or.inr ⟨by decide, "java/lang/IllegalArgumentException", hts _ wq458, hC.2.2.1 ("java/lang/IllegalStateException", "java/lang/IllegalArgumentException") (by decide)⟩, (fun z hz => False.elim (List.not_mem_nil hz))⟩) (by decide) (by decide) (hts _ wq459) (zk_tab rfl (hN _ wr473 rfl)) hce hcv hcl ?_
  refine W.widen (k := 1) (n := 6) (Nat.le_of_ble_eq_true rfl) (Nat.le_of_ble_eq_true rfl) ?_
  refine lv_astore_n (lv' := [(3, .ref q9), (0, .ref a0), (1, .int p0), (2, .ref a1)]) hx hb dL_work_15 rfl hl (by decide) rfl (fun ls hl => ?_)
  refine lv_iconst (v := 2) hx hb dL_work_16 (by decide) ?_
  exact zk_ri (r0 := fun u => 2) (w1 := fun u => [(a0, .inr (9, [.ref a2, .ref a3, .int 0, .int 0, .int 0]))]) hx hb hr hlk hP hD hS (fun _ _ => 0) rfl rfl [0] rfl rfl (Nat.le_of_ble_eq_true rfl) (Nat.le_of_ble_eq_true rfl) dL_work_17
set_option maxHeartbeats 4000000 in
set_option maxRecDepth 100000 in
theorem kX14_is_9 (l : Launch) (hst : l.stackTraces = false) (D : va_G) (yc : Nat → ClassId) (e0 sz : Nat) (p0 : Int32) (h0 : ¬ p0 < 1) (h1 : ¬ 200 < p0) : Met l yX14_is (ws_ yX14_is cX14_is 3 (some .boolean)) ({ frames := 0, cells := 0, slots := 0, locals := 0 }) (PR D yc e0 [] sz [.int p0, .int 1, .int 200]) (va_Qi (fun r u => r = (fun u : Nat → Nat → Nat => 1) u) (WD D (va_A [] sz) (fun u => [])) (va_A [] sz)) 0 0 (va_A [] sz) := by
  refine zk_M (Qc := fun A => va_Qi (fun r u => r = (fun u : Nat → Nat → Nat => 1) u) (WD D A (fun u => [])) A) (by decide) (Nat.le_of_ble_eq_true rfl) ?_
  intro p e s m args below meth c A ls hx hb hml hr hlk hown hnm hts hP hD hS hA hC hl
  have hK := hC.1
  have hN := hC.2.1
  have hl : lv_has ls 3 [(0, .int p0), (1, .int 1), (2, .int 200)] := hl
  generalize hHH : s.heap = H at hP ⊢
  have hS : va_S A s.heap H [] := by rw [← hHH]; exact hS
  refine lv_iload_n hx hb dX14_is_0 rfl (lv_at hl 0 rfl) ?_
  refine lv_iload_n hx hb dX14_is_1 rfl (lv_at hl 1 rfl) ?_
  refine lv_icmp_lt (tgt := 14) hx hb dX14_is_2 (by decide) (fun h9 => absurd h9 h0) (fun _ => ?_)
  refine lv_iload_n hx hb dX14_is_5 rfl (lv_at hl 0 rfl) ?_
  refine lv_iload_n hx hb dX14_is_6 rfl (lv_at hl 2 rfl) ?_
  refine lv_icmp_gt (tgt := 14) hx hb dX14_is_7 (by decide) (fun h9 => absurd h9 h1) (fun _ => ?_)
  refine lv_iconst (v := 1) hx hb dX14_is_10 (by decide) ?_
  refine lv_goto (tgt := 15) hx hb dX14_is_11 (by decide) ?_
  exact zk_ri (r0 := fun u => 1) (w1 := fun u => []) hx hb hr hlk hP hD hS (fun _ _ => 0) rfl rfl [] rfl rfl (Nat.le_of_ble_eq_true rfl) (Nat.le_of_ble_eq_true rfl) dX14_is_15
set_option maxHeartbeats 4000000 in
set_option maxRecDepth 100000 in
theorem kX14_refuse_1 (l : Launch) (hst : l.stackTraces = false) (D : va_G) (yc : Nat → ClassId) (e0 sz : Nat) (a0 : Nat) (a1 : Nat) (a2 : Nat) (a3 : Nat) (a4 : Nat) (a5 : Nat) (a6 : Nat) (a7 : Nat)  : Met l yX14_refuse (ws_ yX14_refuse cX14_refuse 2 (some .int)) ({ frames := 0, cells := 0, slots := 0, locals := 0 }) (PR D yc e0 [(a0, .inr (13, [.int 0, .int 0, .ref a1, .ref a2, .ref a3, .ref a4, .ref a5, .ref a6, .ref a7, .int 0, .long 0]))] sz [.ref a0, .int 2]) (va_Qi (fun r u => r = (fun u : Nat → Nat → Nat => 0) u) (WD D (va_A [(a0, .inr (13, [.int 0, .int 0, .ref a1, .ref a2, .ref a3, .ref a4, .ref a5, .ref a6, .ref a7, .int 0, .long 0]))] sz) (fun u => [(a0, .inr (13, [.int 0, .int 0, .ref a1, .ref a2, .ref a3, .ref a4, .ref a5, .ref a6, .ref a7, .int 2, .long 0]))])) (va_A [(a0, .inr (13, [.int 0, .int 0, .ref a1, .ref a2, .ref a3, .ref a4, .ref a5, .ref a6, .ref a7, .int 0, .long 0]))] sz)) 0 0 (va_A [(a0, .inr (13, [.int 0, .int 0, .ref a1, .ref a2, .ref a3, .ref a4, .ref a5, .ref a6, .ref a7, .int 0, .long 0]))] sz) := by
  refine zk_M (Qc := fun A => va_Qi (fun r u => r = (fun u : Nat → Nat → Nat => 0) u) (WD D A (fun u => [(a0, .inr (13, [.int 0, .int 0, .ref a1, .ref a2, .ref a3, .ref a4, .ref a5, .ref a6, .ref a7, .int 2, .long 0]))])) A) (by decide) (Nat.le_of_ble_eq_true rfl) ?_
  intro p e s m args below meth c A ls hx hb hml hr hlk hown hnm hts hP hD hS hA hC hl
  have hK := hC.1
  have hN := hC.2.1
  have hl : lv_has ls 2 [(0, .ref a0), (1, .int 2)] := hl
  generalize hHH : s.heap = H at hP ⊢
  have hS : va_S A s.heap H [] := by rw [← hHH]; exact hS
  refine lv_aload_n hx hb dX14_refuse_0 rfl (lv_at hl 0 rfl) ?_
  refine lv_iload_n hx hb dX14_refuse_1 rfl (lv_at hl 1 rfl) ?_
  refine va_put (D := D) (ci := 13) (v := .int 2) (ty := .int) (C := RX14) (T := TX14) (N := 11) hx hb hts iX14 tyX14 tyX14_ok nmX14 hown hK hP hD hS 0 rfl rfl 9 (by decide) (hts _ wq1542) (fun _ h9 => h9) rfl (by decide +kernel) rfl rfl (Nat.le_of_ble_eq_true rfl) dX14_refuse_2 (fun H locs hP hD hS => ?_)
  have hP : va_P D vwCl [(a0, .inr (13, [.int 0, .int 0, .ref a1, .ref a2, .ref a3, .ref a4, .ref a5, .ref a6, .ref a7, .int 2, .long 0]))] H := hP
  have hD : va_D A [(a0, .inr (13, [.int 0, .int 0, .ref a1, .ref a2, .ref a3, .ref a4, .ref a5, .ref a6, .ref a7, .int 2, .long 0]))] := hD
  refine lv_iconst (v := 0) hx hb dX14_refuse_5 (by decide) ?_
  exact zk_ri (r0 := fun u => 0) (w1 := fun u => [(a0, .inr (13, [.int 0, .int 0, .ref a1, .ref a2, .ref a3, .ref a4, .ref a5, .ref a6, .ref a7, .int 2, .long 0]))]) hx hb hr hlk hP hD hS (fun _ _ => 0) rfl rfl [0] rfl rfl (Nat.le_of_ble_eq_true rfl) (Nat.le_of_ble_eq_true rfl) dX14_refuse_6
set_option maxHeartbeats 4000000 in
set_option maxRecDepth 100000 in
theorem kX14_work_2 (l : Launch) (hst : l.stackTraces = false) (D : va_G) (yc : Nat → ClassId) (e0 sz : Nat) (a0 : Nat) (p0 : Int32) (a1 : Nat) (a2 : Nat) (a3 : Nat) (a4 : Nat) (a5 : Nat) (a6 : Nat) (a7 : Nat) (h0 : ¬ p0 < 1) (h1 : ¬ 200 < p0) : Met l yX14_work (ws_ yX14_work cX14_work 2 (some .int)) ({ frames := 1, cells := 0, slots := 0, locals := 22 }) (PR D yc e0 [(a0, .inr (13, [.int 0, .int 0, .ref a1, .ref a2, .ref a3, .ref a4, .ref a5, .ref a6, .ref a7, .int 0, .long 0]))] sz [.ref a0, .int p0]) (va_Qi (fun r u => r = (fun u : Nat → Nat → Nat => 0) u) (WD D (va_A [(a0, .inr (13, [.int 0, .int 0, .ref a1, .ref a2, .ref a3, .ref a4, .ref a5, .ref a6, .ref a7, .int 0, .long 0]))] sz) (fun u => [(a0, .inr (13, [.int 0, .int 0, .ref a1, .ref a2, .ref a3, .ref a4, .ref a5, .ref a6, .ref a7, .int 2, .long 0]))])) (va_A [(a0, .inr (13, [.int 0, .int 0, .ref a1, .ref a2, .ref a3, .ref a4, .ref a5, .ref a6, .ref a7, .int 0, .long 0]))] sz)) 0 0 (va_A [(a0, .inr (13, [.int 0, .int 0, .ref a1, .ref a2, .ref a3, .ref a4, .ref a5, .ref a6, .ref a7, .int 0, .long 0]))] sz) := by
  refine zk_M (Qc := fun A => va_Qi (fun r u => r = (fun u : Nat → Nat → Nat => 0) u) (WD D A (fun u => [(a0, .inr (13, [.int 0, .int 0, .ref a1, .ref a2, .ref a3, .ref a4, .ref a5, .ref a6, .ref a7, .int 2, .long 0]))])) A) (by decide) (Nat.le_of_ble_eq_true rfl) ?_
  intro p e s m args below meth c A ls hx hb hml hr hlk hown hnm hts hP hD hS hA hC hl
  have hK := hC.1
  have hN := hC.2.1
  have hl : lv_has ls 2 [(0, .ref a0), (1, .int p0)] := hl
  generalize hHH : s.heap = H at hP ⊢
  have hS : va_S A s.heap H [] := by rw [← hHH]; exact hS
  refine lv_aload_n hx hb dX14_work_0 rfl (lv_at hl 0 rfl) ?_
  refine lv_iconst (v := 0) hx hb dX14_work_1 (by decide) ?_
  refine va_put (D := D) (ci := 13) (v := .int 0) (ty := .int) (C := RX14) (T := TX14) (N := 11) hx hb hts iX14 tyX14 tyX14_ok nmX14 hown hK hP hD hS 0 rfl rfl 9 (by decide) (hts _ wq1542) (fun _ h9 => h9) rfl (by decide +kernel) rfl rfl (Nat.le_of_ble_eq_true rfl) dX14_work_2 (fun H locs hP hD hS => ?_)
  have hP : va_P D vwCl [(a0, .inr (13, [.int 0, .int 0, .ref a1, .ref a2, .ref a3, .ref a4, .ref a5, .ref a6, .ref a7, .int 0, .long 0]))] H := hP
  have hD : va_D A [(a0, .inr (13, [.int 0, .int 0, .ref a1, .ref a2, .ref a3, .ref a4, .ref a5, .ref a6, .ref a7, .int 0, .long 0]))] := hD
  refine lv_iload_n hx hb dX14_work_5 rfl (lv_at hl 1 rfl) ?_
  refine lv_iconst (v := 1) hx hb dX14_work_6 (by decide) ?_
  refine lv_sipush (v := 200) hx hb dX14_work_7 (by decide) ?_
  refine zk_i (wr := [(a0, .inr (13, [.int 0, .int 0, .ref a1, .ref a2, .ref a3, .ref a4, .ref a5, .ref a6, .ref a7, .int 0, .long 0]))]) (va_runS (As := [.int p0, .int 1, .int 200]) (rest := []) ⟨hx, hb, hml, hown, hts⟩ (kX14_is_9 l hst D yc e0 H.size p0 h0 h1) (va_cwS 3 hts (lw_S wq1575 wq1576 wq6 wq1577) rfl rfl rfl (by decide +kernel) ⟨(Nat.le_of_ble_eq_true rfl), (Nat.le_of_ble_eq_true rfl)⟩) (zk_pS hC hP hD hS hA [] rfl rfl) rfl rfl hl.1 rfl (lv_room (Nat.le_of_ble_eq_true rfl)) dX14_work_10 ⟨(Nat.le_of_ble_eq_true rfl), (Nat.le_of_ble_eq_true rfl)⟩) hP hD hS hA [] [0] rfl rfl rfl (by decide) (fun u1 H locs hP hD hS => ?_)
  have hP : va_P D vwCl [(a0, .inr (13, [.int 0, .int 0, .ref a1, .ref a2, .ref a3, .ref a4, .ref a5, .ref a6, .ref a7, .int 0, .long 0]))] H := hP
  have hD : va_D A [(a0, .inr (13, [.int 0, .int 0, .ref a1, .ref a2, .ref a3, .ref a4, .ref a5, .ref a6, .ref a7, .int 0, .long 0]))] := hD
  refine W.widen (k := 0) (n := 0) (Nat.le_of_ble_eq_true rfl) (Nat.le_of_ble_eq_true rfl) ?_
  refine lv_if_ne (tgt := 22) hx hb dX14_work_13 (by decide) (fun _ => ?_) (fun h9 => absurd h9 (by decide))
  refine lv_aload_n hx hb dX14_work_22 rfl (lv_at hl 0 rfl) ?_
  refine va_get (D := D) (ci := 13) (v := .int 0) (C := RX14) (T := TX14) (N := 11) hx hb hts iX14 hown hK hP 0 rfl rfl 1 (by decide) (hts _ wq1529) (fun _ h9 => h9) rfl dX14_work_23 ?_
  refine lv_if_eq (tgt := 40) hx hb dX14_work_26 (by decide) (fun _ => ?_) (fun h9 => absurd (by decide) h9)
  refine lv_aload_n hx hb dX14_work_40 rfl (lv_at hl 0 rfl) ?_
  refine lv_iconst (v := 2) hx hb dX14_work_41 (by decide) ?_
  refine zk_i (wr := []) (va_runV (As := [.int 2]) (rest := []) ⟨hx, hb, hml, hown, hts⟩ (kX14_refuse_1 l hst D yc e0 H.size a0 a1 a2 a3 a4 a5 a6 a7) (cwV 1 hts (lw_V wq1582 wq1584 ws33 wq6 wq1585) rfl rfl rfl (by decide +kernel) ⟨(Nat.le_of_ble_eq_true rfl), (Nat.le_of_ble_eq_true rfl)⟩) (zk_pV hC hP hD hS hA [0] rfl rfl 0 13 rfl rfl) rfl rfl hl.1 rfl (lv_room (Nat.le_of_ble_eq_true rfl)) dX14_work_42 ⟨(Nat.le_of_ble_eq_true rfl), (Nat.le_of_ble_eq_true rfl)⟩) hP hD hS hA [0] [] rfl rfl rfl (by decide) (fun u2 H locs hP hD hS => ?_)
  have hP : va_P D vwCl [(a0, .inr (13, [.int 0, .int 0, .ref a1, .ref a2, .ref a3, .ref a4, .ref a5, .ref a6, .ref a7, .int 2, .long 0]))] H := hP
  have hD : va_D A [(a0, .inr (13, [.int 0, .int 0, .ref a1, .ref a2, .ref a3, .ref a4, .ref a5, .ref a6, .ref a7, .int 2, .long 0]))] := hD
  refine W.widen (k := 0) (n := 0) (Nat.le_of_ble_eq_true rfl) (Nat.le_of_ble_eq_true rfl) ?_
  exact zk_ri (r0 := fun u => 0) (w1 := fun u => [(a0, .inr (13, [.int 0, .int 0, .ref a1, .ref a2, .ref a3, .ref a4, .ref a5, .ref a6, .ref a7, .int 2, .long 0]))]) hx hb hr hlk hP hD hS (fun _ _ => 0) rfl rfl [0] rfl rfl (Nat.le_of_ble_eq_true rfl) (Nat.le_of_ble_eq_true rfl) dX14_work_45
set_option maxHeartbeats 4000000 in
set_option maxRecDepth 100000 in
theorem kX14_thrown_3 (l : Launch) (hst : l.stackTraces = false) (D : va_G) (yc : Nat → ClassId) (e0 sz : Nat) (a0 : Nat) (a1 : Nat) (a2 : Nat) (a3 : Nat) (a4 : Nat) (a5 : Nat) (a6 : Nat) (a7 : Nat)  : Met l yX14_thrown (ws_ yX14_thrown cX14_thrown 1 (some .int)) ({ frames := 0, cells := 0, slots := 0, locals := 0 }) (PR D yc e0 [(a0, .inr (13, [.int 0, .int 0, .ref a1, .ref a2, .ref a3, .ref a4, .ref a5, .ref a6, .ref a7, .int 2, .long 0]))] sz [.ref a0]) (va_Qi (fun r u => r = (fun u : Nat → Nat → Nat => 2) u) (WD D (va_A [(a0, .inr (13, [.int 0, .int 0, .ref a1, .ref a2, .ref a3, .ref a4, .ref a5, .ref a6, .ref a7, .int 2, .long 0]))] sz) (fun u => [(a0, .inr (13, [.int 0, .int 0, .ref a1, .ref a2, .ref a3, .ref a4, .ref a5, .ref a6, .ref a7, .int 2, .long 0]))])) (va_A [(a0, .inr (13, [.int 0, .int 0, .ref a1, .ref a2, .ref a3, .ref a4, .ref a5, .ref a6, .ref a7, .int 2, .long 0]))] sz)) 0 0 (va_A [(a0, .inr (13, [.int 0, .int 0, .ref a1, .ref a2, .ref a3, .ref a4, .ref a5, .ref a6, .ref a7, .int 2, .long 0]))] sz) := by
  refine zk_M (Qc := fun A => va_Qi (fun r u => r = (fun u : Nat → Nat → Nat => 2) u) (WD D A (fun u => [(a0, .inr (13, [.int 0, .int 0, .ref a1, .ref a2, .ref a3, .ref a4, .ref a5, .ref a6, .ref a7, .int 2, .long 0]))])) A) (by decide) (Nat.le_of_ble_eq_true rfl) ?_
  intro p e s m args below meth c A ls hx hb hml hr hlk hown hnm hts hP hD hS hA hC hl
  have hK := hC.1
  have hN := hC.2.1
  have hl : lv_has ls 1 [(0, .ref a0)] := hl
  generalize hHH : s.heap = H at hP ⊢
  have hS : va_S A s.heap H [] := by rw [← hHH]; exact hS
  refine lv_aload_n hx hb dX14_thrown_0 rfl (lv_at hl 0 rfl) ?_
  refine va_get (D := D) (ci := 13) (v := .int 2) (C := RX14) (T := TX14) (N := 11) hx hb hts iX14 hown hK hP 0 rfl rfl 9 (by decide) (hts _ wq1542) (fun _ h9 => h9) rfl dX14_thrown_1 ?_
  exact zk_ri (r0 := fun u => 2) (w1 := fun u => [(a0, .inr (13, [.int 0, .int 0, .ref a1, .ref a2, .ref a3, .ref a4, .ref a5, .ref a6, .ref a7, .int 2, .long 0]))]) hx hb hr hlk hP hD hS (fun _ _ => 0) rfl rfl [0] rfl rfl (Nat.le_of_ble_eq_true rfl) (Nat.le_of_ble_eq_true rfl) dX14_thrown_4
set_option maxHeartbeats 4000000 in
set_option maxRecDepth 100000 in
theorem kX10_workAt_0 (l : Launch) (hst : l.stackTraces = false) (D : va_G) (yc : Nat → ClassId) (e0 sz : Nat) (a0 : Nat) (p0 : Int32) (a1 : Nat) (a2 : Nat) (a3 : Nat)  : vx_Met l yX10_workAt (ws_ yX10_workAt cX10_workAt 3 (some .boolean)) ({ frames := 7, cells := 1, slots := 6, locals := 103 }) (PR D yc e0 [(a0, .inr (9, [.ref a1, .ref a2, .int 0, .int 0, .int 0])), (a1, .inr (2, [.int 0, .ref a3, .int 8, .int (-1), .int 0, .int 0, .int 0, .int 0])), (a3, .inr (0, [.int 0, .ref e0, .int 0]))] sz [.ref a0, .int p0]) (fun _ _ _ _ => False) (zk_X D (va_A [(a0, .inr (9, [.ref a1, .ref a2, .int 0, .int 0, .int 0])), (a1, .inr (2, [.int 0, .ref a3, .int 8, .int (-1), .int 0, .int 0, .int 0, .int 0])), (a3, .inr (0, [.int 0, .ref e0, .int 0]))] sz) "java/lang/IndexOutOfBoundsException" (fun u => [(a0, .inr (9, [.ref a1, .ref a2, .int 0, .int 0, .int 0])), (a1, .inr (2, [.int 0, .ref a3, .int 8, .int (-1), .int 0, .int 0, .int 0, .int 0])), (a3, .inr (0, [.int 0, .ref e0, .int 0]))])) 1 6 (va_A [(a0, .inr (9, [.ref a1, .ref a2, .int 0, .int 0, .int 0])), (a1, .inr (2, [.int 0, .ref a3, .int 8, .int (-1), .int 0, .int 0, .int 0, .int 0])), (a3, .inr (0, [.int 0, .ref e0, .int 0]))] sz) := by
  refine zk_MX (by decide) (Nat.le_of_ble_eq_true rfl) ?_
  intro p e s m args below meth c A ls hx hb hml hr hlk hown hnm hts hP hD hS hA hC hl hnx
  have hK := hC.1
  have hN := hC.2.1
  have hl : lv_has ls 3 [(0, .ref a0), (1, .int p0)] := hl
  generalize hHH : s.heap = H at hP ⊢
  have hS : va_S A s.heap H [] := by rw [← hHH]; exact hS
  refine W.widen (k := 0) (n := 0) (Nat.le_of_ble_eq_true rfl) (Nat.le_of_ble_eq_true rfl) ?_
  refine lv_aload_n hx hb dX10_workAt_0 rfl (lv_at hl 0 rfl) ?_
  refine lv_iload_n hx hb dX10_workAt_1 rfl (lv_at hl 1 rfl) ?_
  refine zk_x (wr := []) (vx_runV (As := [.int p0]) (rest := []) ⟨hx, hb, hml, hown, hts⟩ (kX10_stageOf_0 l hst D yc e0 H.size a0 p0 a1 a2 a3) (cwV 1 hts (lw_V wq254 wq256 ws2 wq1 wq257) rfl rfl rfl (by decide +kernel) ⟨(Nat.le_of_ble_eq_true rfl), (Nat.le_of_ble_eq_true rfl)⟩) (zk_pV hC hP hD hS hA [0, 1, 2] rfl rfl 0 9 rfl rfl) rfl rfl hl.1 rfl (lv_room (Nat.le_of_ble_eq_true rfl)) dX10_workAt_2 ⟨(Nat.le_of_ble_eq_true rfl), (Nat.le_of_ble_eq_true rfl)⟩) hP hD hS hA [0, 1, 2] [] rfl rfl rfl (by decide) (fun u1 ce q9 H locs hP hD hS hce hcv hcl => ?_)
  have hP : va_P D vwCl [(a0, .inr (9, [.ref a1, .ref a2, .int 0, .int 0, .int 0])), (a1, .inr (2, [.int 0, .ref a3, .int 8, .int (-1), .int 0, .int 0, .int 0, .int 0])), (a3, .inr (0, [.int 0, .ref e0, .int 0]))] H := hP
  have hD : va_D A [(a0, .inr (9, [.ref a1, .ref a2, .int 0, .int 0, .int 0])), (a1, .inr (2, [.int 0, .ref a3, .int 8, .int (-1), .int 0, .int 0, .int 0, .int 0])), (a3, .inr (0, [.int 0, .ref e0, .int 0]))] := hD
  exact vx_out (fun x9 hx9 => (hnx x9 hx9).elim) hlk hce hcv hcl (zk_out hP hD hS (fun _ _ => 0) [0, 1, 2] rfl rfl) hS.2.2 (Nat.le_of_ble_eq_true rfl) (Nat.le_of_ble_eq_true rfl)
set_option maxHeartbeats 4000000 in
set_option maxRecDepth 100000 in
theorem kL_workAt_0 (l : Launch) (hst : l.stackTraces = false) (D : va_G) (yc : Nat → ClassId) (e0 sz : Nat) (a0 : Nat) (p0 : Int32) (a1 : Nat) (a2 : Nat) (a3 : Nat) (a4 : Nat)  : Met l yL_workAt (ww_ yL_workAt cL_workAt 4 (some .int) [(0, 16, 19, 21), (0, 16, 22, 15)]) ({ frames := 8, cells := 1, slots := 6, locals := 125 }) (PR D yc e0 [(a0, .inr (9, [.ref a2, .ref a3, .int 0, .int 0, .int 0])), (a2, .inr (2, [.int 0, .ref a4, .int 8, .int (-1), .int 0, .int 0, .int 0, .int 0])), (a4, .inr (0, [.int 0, .ref e0, .int 0]))] sz [.ref a0, .int p0, .ref a1]) (va_Qi (fun r u => r = (fun u : Nat → Nat → Nat => 1) u) (WD D (va_A [(a0, .inr (9, [.ref a2, .ref a3, .int 0, .int 0, .int 0])), (a2, .inr (2, [.int 0, .ref a4, .int 8, .int (-1), .int 0, .int 0, .int 0, .int 0])), (a4, .inr (0, [.int 0, .ref e0, .int 0]))] sz) (fun u => [(a0, .inr (9, [.ref a2, .ref a3, .int 0, .int 0, .int 0])), (a2, .inr (2, [.int 0, .ref a4, .int 8, .int (-1), .int 0, .int 0, .int 0, .int 0])), (a4, .inr (0, [.int 0, .ref e0, .int 0]))])) (va_A [(a0, .inr (9, [.ref a2, .ref a3, .int 0, .int 0, .int 0])), (a2, .inr (2, [.int 0, .ref a4, .int 8, .int (-1), .int 0, .int 0, .int 0, .int 0])), (a4, .inr (0, [.int 0, .ref e0, .int 0]))] sz)) 1 6 (va_A [(a0, .inr (9, [.ref a2, .ref a3, .int 0, .int 0, .int 0])), (a2, .inr (2, [.int 0, .ref a4, .int 8, .int (-1), .int 0, .int 0, .int 0, .int 0])), (a4, .inr (0, [.int 0, .ref e0, .int 0]))] sz) := by
  refine zk_MW (Qc := fun A => va_Qi (fun r u => r = (fun u : Nat → Nat → Nat => 1) u) (WD D A (fun u => [(a0, .inr (9, [.ref a2, .ref a3, .int 0, .int 0, .int 0])), (a2, .inr (2, [.int 0, .ref a4, .int 8, .int (-1), .int 0, .int 0, .int 0, .int 0])), (a4, .inr (0, [.int 0, .ref e0, .int 0]))])) A) (by decide) (Nat.le_of_ble_eq_true rfl) ?_
  intro p e s m args below meth c A ls hx hb hml hr hlk hown hts hP hD hS hA hC hl hex
  have hK := hC.1
  have hN := hC.2.1
  have hl : lv_has ls 4 [(0, .ref a0), (1, .int p0), (2, .ref a1)] := hl
  generalize hHH : s.heap = H at hP ⊢
  have hS : va_S A s.heap H [] := by rw [← hHH]; exact hS
  refine lv_aload_n hx hb dL_workAt_0 rfl (lv_at hl 2 rfl) ?_
  refine lv_iconst (v := 0) hx hb dL_workAt_1 (by decide) ?_
  refine lv_aload_n hx hb dL_workAt_2 rfl (lv_at hl 0 rfl) ?_
  refine lv_iload_n hx hb dL_workAt_3 rfl (lv_at hl 1 rfl) ?_
  refine zk_x (wr := []) (vx_runV (As := [.int p0]) (rest := [.int 0, .ref a1]) ⟨hx, hb, hml, hown, hts⟩ (kX10_workAt_0 l hst D yc e0 H.size a0 p0 a2 a3 a4) (cwV 1 hts (lw_V wq1172 wq1173 wq1174 wq1 wq1175) rfl rfl rfl (by decide +kernel) ⟨(Nat.le_of_ble_eq_true rfl), (Nat.le_of_ble_eq_true rfl)⟩) (zk_pV hC hP hD hS hA [0, 1, 2] rfl rfl 0 9 rfl rfl) rfl rfl hl.1 rfl (lv_room (Nat.le_of_ble_eq_true rfl)) dL_workAt_4 ⟨(Nat.le_of_ble_eq_true rfl), (Nat.le_of_ble_eq_true rfl)⟩) hP hD hS hA [0, 1, 2] [] rfl rfl rfl (by decide) (fun u1 ce q9 H locs hP hD hS hce hcv hcl => ?_)
  have hP : va_P D vwCl [(a0, .inr (9, [.ref a2, .ref a3, .int 0, .int 0, .int 0])), (a2, .inr (2, [.int 0, .ref a4, .int 8, .int (-1), .int 0, .int 0, .int 0, .int 0])), (a4, .inr (0, [.int 0, .ref e0, .int 0]))] H := hP
  have hD : va_D A [(a0, .inr (9, [.ref a2, .ref a3, .int 0, .int 0, .int 0])), (a2, .inr (2, [.int 0, .ref a4, .int 8, .int (-1), .int 0, .int 0, .int 0, .int 0])), (a4, .inr (0, [.int 0, .ref e0, .int 0]))] := hD
  refine vx_catch (own := RL) (name := "java/lang/IndexOutOfBoundsException") hown (tableOf []) ⟨0, 16, 19, 21⟩ (tableOf [(0, 16, 22, 15)]) hex (fun z hz => False.elim (List.not_mem_nil hz)) (by decide) (by decide) (hts _ wq833) (zk_tab rfl (hN _ wr261 rfl)) hce hcv hcl ?_
  refine W.widen (k := 1) (n := 6) (Nat.le_of_ble_eq_true rfl) (Nat.le_of_ble_eq_true rfl) ?_
  refine lv_astore_n (lv' := [(3, .ref q9), (0, .ref a0), (1, .int p0), (2, .ref a1)]) hx hb dL_workAt_19 rfl hl (by decide) rfl (fun ls hl => ?_)
  refine lv_iconst (v := 1) hx hb dL_workAt_20 (by decide) ?_
  exact zk_ri (r0 := fun u => 1) (w1 := fun u => [(a0, .inr (9, [.ref a2, .ref a3, .int 0, .int 0, .int 0])), (a2, .inr (2, [.int 0, .ref a4, .int 8, .int (-1), .int 0, .int 0, .int 0, .int 0])), (a4, .inr (0, [.int 0, .ref e0, .int 0]))]) hx hb hr hlk hP hD hS (fun _ _ => 0) rfl rfl [0, 1, 2] rfl rfl (Nat.le_of_ble_eq_true rfl) (Nat.le_of_ble_eq_true rfl) dL_workAt_21
set_option maxHeartbeats 4000000 in
set_option maxRecDepth 100000 in
theorem kX14_workAt_0 (l : Launch) (hst : l.stackTraces = false) (D : va_G) (yc : Nat → ClassId) (e0 sz : Nat) (a0 : Nat) (p0 : Int32) (a1 : Nat) (a2 : Nat) (a3 : Nat) (a4 : Nat) (a5 : Nat) (a6 : Nat) (a7 : Nat)  : Met l yX14_workAt (ws_ yX14_workAt cX14_workAt 2 (some .boolean)) ({ frames := 2, cells := 0, slots := 0, locals := 43 }) (PR D yc e0 [(a0, .inr (13, [.int 0, .int 0, .ref a1, .ref a2, .ref a3, .ref a4, .ref a5, .ref a6, .ref a7, .int 0, .long 0]))] sz [.ref a0, .int p0]) (va_Qi (fun r u => r = (fun u : Nat → Nat → Nat => 0) u) (WD D (va_A [(a0, .inr (13, [.int 0, .int 0, .ref a1, .ref a2, .ref a3, .ref a4, .ref a5, .ref a6, .ref a7, .int 0, .long 0]))] sz) (fun u => [(a0, .inr (13, [.int 0, .int 0, .ref a1, .ref a2, .ref a3, .ref a4, .ref a5, .ref a6, .ref a7, .int 1, .long 0]))])) (va_A [(a0, .inr (13, [.int 0, .int 0, .ref a1, .ref a2, .ref a3, .ref a4, .ref a5, .ref a6, .ref a7, .int 0, .long 0]))] sz)) 0 0 (va_A [(a0, .inr (13, [.int 0, .int 0, .ref a1, .ref a2, .ref a3, .ref a4, .ref a5, .ref a6, .ref a7, .int 0, .long 0]))] sz) := by
  refine zk_M (Qc := fun A => va_Qi (fun r u => r = (fun u : Nat → Nat → Nat => 0) u) (WD D A (fun u => [(a0, .inr (13, [.int 0, .int 0, .ref a1, .ref a2, .ref a3, .ref a4, .ref a5, .ref a6, .ref a7, .int 1, .long 0]))])) A) (by decide) (Nat.le_of_ble_eq_true rfl) ?_
  intro p e s m args below meth c A ls hx hb hml hr hlk hown hnm hts hP hD hS hA hC hl
  have hK := hC.1
  have hN := hC.2.1
  have hl : lv_has ls 2 [(0, .ref a0), (1, .int p0)] := hl
  generalize hHH : s.heap = H at hP ⊢
  have hS : va_S A s.heap H [] := by rw [← hHH]; exact hS
  refine lv_aload_n hx hb dX14_workAt_0 rfl (lv_at hl 0 rfl) ?_
  refine lv_aload_n hx hb dX14_workAt_1 rfl (lv_at hl 0 rfl) ?_
  refine lv_iload_n hx hb dX14_workAt_2 rfl (lv_at hl 1 rfl) ?_
  refine zk_i (wr := []) (va_runV (As := [.int p0]) (rest := [.ref a0]) ⟨hx, hb, hml, hown, hts⟩ (kX14_isStage_0 l hst D yc e0 H.size a0 p0 a1 a2 a3 a4 a5 a6 a7) (cwV 1 hts (lw_V wq1596 wq1598 ws35 wq6 wq1599) rfl rfl rfl (by decide +kernel) ⟨(Nat.le_of_ble_eq_true rfl), (Nat.le_of_ble_eq_true rfl)⟩) (zk_pV hC hP hD hS hA [0] rfl rfl 0 13 rfl rfl) rfl rfl hl.1 rfl (lv_room (Nat.le_of_ble_eq_true rfl)) dX14_workAt_3 ⟨(Nat.le_of_ble_eq_true rfl), (Nat.le_of_ble_eq_true rfl)⟩) hP hD hS hA [0] [] rfl rfl rfl (by decide) (fun u1 H locs hP hD hS => ?_)
  have hP : va_P D vwCl [(a0, .inr (13, [.int 0, .int 0, .ref a1, .ref a2, .ref a3, .ref a4, .ref a5, .ref a6, .ref a7, .int 0, .long 0]))] H := hP
  have hD : va_D A [(a0, .inr (13, [.int 0, .int 0, .ref a1, .ref a2, .ref a3, .ref a4, .ref a5, .ref a6, .ref a7, .int 0, .long 0]))] := hD
  refine W.widen (k := 0) (n := 0) (Nat.le_of_ble_eq_true rfl) (Nat.le_of_ble_eq_true rfl) ?_
  refine lv_if_ne (tgt := 13) hx hb dX14_workAt_6 (by decide) (fun h9 => absurd (by decide) h9) (fun _ => ?_)
  refine lv_iconst (v := 1) hx hb dX14_workAt_9 (by decide) ?_
  refine lv_goto (tgt := 25) hx hb dX14_workAt_10 (by decide) ?_
  refine va_put (D := D) (ci := 13) (v := .int 1) (ty := .int) (C := RX14) (T := TX14) (N := 11) hx hb hts iX14 tyX14 tyX14_ok nmX14 hown hK hP hD hS 0 rfl rfl 9 (by decide) (hts _ wq1542) (fun _ h9 => h9) rfl (by decide +kernel) rfl rfl (Nat.le_of_ble_eq_true rfl) dX14_workAt_25 (fun H locs hP hD hS => ?_)
  have hP : va_P D vwCl [(a0, .inr (13, [.int 0, .int 0, .ref a1, .ref a2, .ref a3, .ref a4, .ref a5, .ref a6, .ref a7, .int 1, .long 0]))] H := hP
  have hD : va_D A [(a0, .inr (13, [.int 0, .int 0, .ref a1, .ref a2, .ref a3, .ref a4, .ref a5, .ref a6, .ref a7, .int 1, .long 0]))] := hD
  refine lv_aload_n hx hb dX14_workAt_28 rfl (lv_at hl 0 rfl) ?_
  refine va_get (D := D) (ci := 13) (v := .int 1) (C := RX14) (T := TX14) (N := 11) hx hb hts iX14 hown hK hP 0 rfl rfl 9 (by decide) (hts _ wq1542) (fun _ h9 => h9) rfl dX14_workAt_29 ?_
  refine lv_if_gt (tgt := 46) hx hb dX14_workAt_32 (by decide) (fun _ => ?_) (fun h9 => absurd (by decide) h9)
  refine lv_iconst (v := 0) hx hb dX14_workAt_46 (by decide) ?_
  exact zk_ri (r0 := fun u => 0) (w1 := fun u => [(a0, .inr (13, [.int 0, .int 0, .ref a1, .ref a2, .ref a3, .ref a4, .ref a5, .ref a6, .ref a7, .int 1, .long 0]))]) hx hb hr hlk hP hD hS (fun _ _ => 0) rfl rfl [0] rfl rfl (Nat.le_of_ble_eq_true rfl) (Nat.le_of_ble_eq_true rfl) dX14_workAt_47
set_option maxHeartbeats 4000000 in
set_option maxRecDepth 100000 in
theorem kX10_checkpoint_0 (l : Launch) (hst : l.stackTraces = false) (D : va_G) (yc : Nat → ClassId) (e0 sz : Nat) (a0 : Nat) (a1 : Nat) (a2 : Nat)  : vx_Met l yX10_checkpoint (ws_ yX10_checkpoint cX10_checkpoint 1 (some .int)) ({ frames := 7, cells := 1, slots := 6, locals := 101 }) (PR D yc e0 [(a0, .inr (9, [.ref a1, .ref a2, .int 0, .int 0, .int 0]))] sz [.ref a0]) (fun _ _ _ _ => False) (zk_X D (va_A [(a0, .inr (9, [.ref a1, .ref a2, .int 0, .int 0, .int 0]))] sz) "java/lang/IllegalStateException" (fun u => [(a0, .inr (9, [.ref a1, .ref a2, .int 0, .int 0, .int 0]))])) 1 6 (va_A [(a0, .inr (9, [.ref a1, .ref a2, .int 0, .int 0, .int 0]))] sz) := by
  refine zk_MX (by decide) (Nat.le_of_ble_eq_true rfl) ?_
  intro p e s m args below meth c A ls hx hb hml hr hlk hown hnm hts hP hD hS hA hC hl hnx
  have hK := hC.1
  have hN := hC.2.1
  have hl : lv_has ls 1 [(0, .ref a0)] := hl
  generalize hHH : s.heap = H at hP ⊢
  have hS : va_S A s.heap H [] := by rw [← hHH]; exact hS
  refine W.widen (k := 0) (n := 0) (Nat.le_of_ble_eq_true rfl) (Nat.le_of_ble_eq_true rfl) ?_
  refine lv_aload_n hx hb dX10_checkpoint_0 rfl (lv_at hl 0 rfl) ?_
  refine zk_x (wr := []) (vx_runV (As := []) (rest := []) ⟨hx, hb, hml, hown, hts⟩ (kX10_refuseUnlessStarted_0 l hst D yc e0 H.size a0 a1 a2) (cwV 0 hts (lw_V wq944 wq946 ws17 wq1 wq947) rfl rfl rfl (by decide +kernel) ⟨(Nat.le_of_ble_eq_true rfl), (Nat.le_of_ble_eq_true rfl)⟩) (zk_pV hC hP hD hS hA [0] rfl rfl 0 9 rfl rfl) rfl rfl hl.1 rfl (lv_room (Nat.le_of_ble_eq_true rfl)) dX10_checkpoint_1 ⟨(Nat.le_of_ble_eq_true rfl), (Nat.le_of_ble_eq_true rfl)⟩) hP hD hS hA [0] [] rfl rfl rfl (by decide) (fun u1 ce q9 H locs hP hD hS hce hcv hcl => ?_)
  have hP : va_P D vwCl [(a0, .inr (9, [.ref a1, .ref a2, .int 0, .int 0, .int 0]))] H := hP
  have hD : va_D A [(a0, .inr (9, [.ref a1, .ref a2, .int 0, .int 0, .int 0]))] := hD
  exact vx_out (fun x9 hx9 => (hnx x9 hx9).elim) hlk hce hcv hcl (zk_out hP hD hS (fun _ _ => 0) [0] rfl rfl) hS.2.2 (Nat.le_of_ble_eq_true rfl) (Nat.le_of_ble_eq_true rfl)
set_option maxHeartbeats 4000000 in
set_option maxRecDepth 100000 in
theorem kL_checkpoint_0 (l : Launch) (hst : l.stackTraces = false) (D : va_G) (yc : Nat → ClassId) (e0 sz : Nat) (a0 : Nat) (a1 : Nat) (a2 : Nat) (a3 : Nat)  : Met l yL_checkpoint (ww_ yL_checkpoint cL_checkpoint 3 (some .int) [(0, 8, 11, 15)]) ({ frames := 8, cells := 1, slots := 6, locals := 121 }) (PR D yc e0 [(a0, .inr (9, [.ref a2, .ref a3, .int 0, .int 0, .int 0]))] sz [.ref a0, .ref a1]) (va_Qi (fun r u => r = (fun u : Nat → Nat → Nat => 1) u) (WD D (va_A [(a0, .inr (9, [.ref a2, .ref a3, .int 0, .int 0, .int 0]))] sz) (fun u => [(a0, .inr (9, [.ref a2, .ref a3, .int 0, .int 0, .int 0]))])) (va_A [(a0, .inr (9, [.ref a2, .ref a3, .int 0, .int 0, .int 0]))] sz)) 1 6 (va_A [(a0, .inr (9, [.ref a2, .ref a3, .int 0, .int 0, .int 0]))] sz) := by
  refine zk_MW (Qc := fun A => va_Qi (fun r u => r = (fun u : Nat → Nat → Nat => 1) u) (WD D A (fun u => [(a0, .inr (9, [.ref a2, .ref a3, .int 0, .int 0, .int 0]))])) A) (by decide) (Nat.le_of_ble_eq_true rfl) ?_
  intro p e s m args below meth c A ls hx hb hml hr hlk hown hts hP hD hS hA hC hl hex
  have hK := hC.1
  have hN := hC.2.1
  have hl : lv_has ls 3 [(0, .ref a0), (1, .ref a1)] := hl
  generalize hHH : s.heap = H at hP ⊢
  have hS : va_S A s.heap H [] := by rw [← hHH]; exact hS
  refine lv_aload_n hx hb dL_checkpoint_0 rfl (lv_at hl 1 rfl) ?_
  refine lv_iconst (v := 0) hx hb dL_checkpoint_1 (by decide) ?_
  refine lv_aload_n hx hb dL_checkpoint_2 rfl (lv_at hl 0 rfl) ?_
  refine zk_x (wr := []) (vx_runV (As := []) (rest := [.int 0, .ref a1]) ⟨hx, hb, hml, hown, hts⟩ (kX10_checkpoint_0 l hst D yc e0 H.size a0 a2 a3) (cwV 0 hts (lw_V wq1179 wq1180 wq1181 wq1 wq1182) rfl rfl rfl (by decide +kernel) ⟨(Nat.le_of_ble_eq_true rfl), (Nat.le_of_ble_eq_true rfl)⟩) (zk_pV hC hP hD hS hA [0] rfl rfl 0 9 rfl rfl) rfl rfl hl.1 rfl (lv_room (Nat.le_of_ble_eq_true rfl)) dL_checkpoint_3 ⟨(Nat.le_of_ble_eq_true rfl), (Nat.le_of_ble_eq_true rfl)⟩) hP hD hS hA [0] [] rfl rfl rfl (by decide) (fun u1 ce q9 H locs hP hD hS hce hcv hcl => ?_)
  have hP : va_P D vwCl [(a0, .inr (9, [.ref a2, .ref a3, .int 0, .int 0, .int 0]))] H := hP
  have hD : va_D A [(a0, .inr (9, [.ref a2, .ref a3, .int 0, .int 0, .int 0]))] := hD
  refine vx_catch (own := RL) (name := "java/lang/IllegalStateException") hown (tableOf []) ⟨0, 8, 11, 15⟩ (tableOf []) hex (fun z hz => False.elim (List.not_mem_nil hz)) (by decide) (by decide) (hts _ wq459) (zk_tab rfl (hN _ wr473 rfl)) hce hcv hcl ?_
  refine W.widen (k := 1) (n := 6) (Nat.le_of_ble_eq_true rfl) (Nat.le_of_ble_eq_true rfl) ?_
  refine lv_astore_n (lv' := [(2, .ref q9), (0, .ref a0), (1, .ref a1)]) hx hb dL_checkpoint_11 rfl hl (by decide) rfl (fun ls hl => ?_)
  refine lv_iconst (v := 1) hx hb dL_checkpoint_12 (by decide) ?_
  exact zk_ri (r0 := fun u => 1) (w1 := fun u => [(a0, .inr (9, [.ref a2, .ref a3, .int 0, .int 0, .int 0]))]) hx hb hr hlk hP hD hS (fun _ _ => 0) rfl rfl [0] rfl rfl (Nat.le_of_ble_eq_true rfl) (Nat.le_of_ble_eq_true rfl) dL_checkpoint_13
