set_option maxHeartbeats 4000000 in
set_option maxRecDepth 100000 in
theorem x_size (l : Launch) {D : va_G} {yc : Nat → ClassId} {e0 : Nat} {A : Nat → Prop} {own : TO} {ob : XO} {rw : XR} {ls : XL} {sz : Nat} {b fl k a : Nat} {L : List Nat} (hl0 : ls b fl k a L) : Met l yJx4a65c_size_8abf5 (ws_ yJx4a65c_size_8abf5 cJx4a65c_size_8abf5 1 (some .int)) { frames := 0, cells := 0, slots := 0, locals := 0 } (PX D yc e0 A own ob rw ls sz [.ref a]) (zQ (some (.int (nI L.length)))) 0 0 zno := by
  refine xk_M (by decide) (Nat.le_of_ble_eq_true rfl) ?_
  intro p e s m args below meth c ls hx hb hml hr hlk hown hts hW hz hS hA hC hl
  have hK := hC.1
  have hN := hC.2.1
  have hl : lv_has ls 1 [(0, .ref a)] := hl
  refine lv_aload_n hx hb dJx4a65c_size_8abf5_0 rfl (lv_at hl 0 rfl) ?_
  obtain ⟨mc9, x9, ho9⟩ := hW.lobj hl0
  refine va_get (D := D) (ci := 0) (v := .int (nI L.length)) (C := RJx4a65c) (T := TJx4a65c) (N := 3) hx hb hts iJx4a65c hown hK (va_P_one ho9) 0 rfl rfl 2 (by decide) (hts _ wq56) (fun _ h9 => h9) rfl dJx4a65c_size_8abf5_1 ?_
  exact ze_i hx hb hr hlk rfl rfl dJx4a65c_size_8abf5_4
set_option maxHeartbeats 4000000 in
set_option maxRecDepth 100000 in
theorem x_elem (l : Launch) {D : va_G} {yc : Nat → ClassId} {e0 : Nat} {A : Nat → Prop} {own : TO} {ob : XO} {rw : XR} {ls : XL} {sz : Nat} {b fl k a : Nat} {L : List Nat} (hl0 : ls b fl k a L) {i : Nat} (hi : i < L.length) : Met l yJx4a65c_elementData_915e3 (ws_ yJx4a65c_elementData_915e3 cJx4a65c_elementData_915e3 2 (some (.object "java/lang/Object"))) { frames := 0, cells := 0, slots := 0, locals := 0 } (PX D yc e0 A own ob rw ls sz [.ref a, .int (nI i)]) (zQ (some (.ref L[i]))) 0 0 zno := by
  refine xk_M (by decide) (Nat.le_of_ble_eq_true rfl) ?_
  intro p e s m args below meth c ls hx hb hml hr hlk hown hts hW hz hS hA hC hl
  have hK := hC.1
  have hN := hC.2.1
  have hl : lv_has ls 2 [(0, .ref a), (1, .int (nI i))] := hl
  obtain ⟨-, ⟨h1, -⟩ | ⟨mc9, x9, cap9, f9, ho9, ha9, hlc9, hcp9, hf9⟩⟩ := hW.2.2.1 _ _ _ _ _ hl0
  · exact absurd hi (by rw [h1]; simp)
  refine lv_aload_n hx hb dJx4a65c_elementData_915e3_0 rfl (lv_at hl 0 rfl) ?_
  refine va_get (D := D) (ci := 0) (v := .ref x9) (C := RJx4a65c) (T := TJx4a65c) (N := 3) hx hb hts iJx4a65c hown hK (va_P_one ho9) 0 rfl rfl 1 (by decide) (hts _ wq55) (fun _ h9 => h9) rfl dJx4a65c_elementData_915e3_1 ?_
  refine lv_iload_n hx hb dJx4a65c_elementData_915e3_4 rfl (lv_at hl 1 rfl) ?_
  refine va_aldq hx hb hK (va_P_one ha9.1) 0 2 rfl rfl (vp_in_nI (by omega) (by omega)) dJx4a65c_elementData_915e3_5 ?_
  refine zk_tv (y := .ref L[i]) (by rw [nI_clamp (by omega), hf9 i hi]; rfl) ?_
  exact ze_q hx hb hr (by first | exact Or.inl ⟨_, rfl⟩ | exact Or.inr ⟨_, rfl⟩) hlk (by first | exact Or.inl rfl | exact Or.inr ⟨_, rfl⟩) (by rfl) dJx4a65c_elementData_915e3_6
set_option maxHeartbeats 4000000 in
set_option maxRecDepth 100000 in
theorem x_get (l : Launch) {D : va_G} {yc : Nat → ClassId} {e0 : Nat} {A : Nat → Prop} {own : TO} {ob : XO} {rw : XR} {ls : XL} {sz : Nat} {b fl k a : Nat} {L : List Nat} (hl0 : ls b fl k a L) {i : Nat} (hi : i < L.length) (hL : L.length < 2147483648) : Met l yJx4a65c_get_915e3 (ws_ yJx4a65c_get_915e3 cJx4a65c_get_915e3 2 (some (.object "java/lang/Object"))) { frames := 2, cells := 0, slots := 0, locals := 43 } (PX D yc e0 A own ob rw ls sz [.ref a, .int (nI i)]) (zQ (some (.ref L[i]))) 0 0 zno := by
  refine xk_M (by decide) (Nat.le_of_ble_eq_true rfl) ?_
  intro p e s m args below meth c ls hx hb hml hr hlk hown hts hW hz hS hA hC hl
  have hK := hC.1
  have hN := hC.2.1
  have hl : lv_has ls 2 [(0, .ref a), (1, .int (nI i))] := hl
  refine lv_iload_n hx hb dJx4a65c_get_915e3_0 rfl (lv_at hl 1 rfl) ?_
  refine lv_aload_n hx hb dJx4a65c_get_915e3_1 rfl (lv_at hl 0 rfl) ?_
  obtain ⟨mc9, x9, ho9⟩ := hW.lobj hl0
  refine va_get (D := D) (ci := 0) (v := .int (nI L.length)) (C := RJx4a65c) (T := TJx4a65c) (N := 3) hx hb hts iJx4a65c hown hK (va_P_one ho9) 0 rfl rfl 2 (by decide) (hts _ wq56) (fun _ h9 => h9) rfl dJx4a65c_get_915e3_2 ?_
  refine zr_i (va_runS (As := [.int (nI i), .int (nI L.length)]) (rest := []) ⟨hx, hb, hml, hown, hts⟩ (k_J15_checkIndex l (nI i) (nI L.length) (nI_pos (by omega)) (nI_lt hi (by omega))) (va_cwS 2 hts (lw_S wq231 wq232 wq12 wq233) rfl rfl rfl (by decide +kernel) ⟨(Nat.le_of_ble_eq_true rfl), (Nat.le_of_ble_eq_true rfl)⟩) tp_N rfl rfl hl.1 rfl (lv_room (Nat.le_of_ble_eq_true rfl)) dJx4a65c_get_915e3_5 ⟨(Nat.le_of_ble_eq_true rfl), (Nat.le_of_ble_eq_true rfl)⟩) ?_
  refine lv_pop hx hb dJx4a65c_get_915e3_8 rfl ?_
  refine lv_aload_n hx hb dJx4a65c_get_915e3_9 rfl (lv_at hl 0 rfl) ?_
  refine lv_iload_n hx hb dJx4a65c_get_915e3_10 rfl (lv_at hl 1 rfl) ?_
  refine zr_q (va_runV (As := [.int (nI i)]) (rest := []) ⟨hx, hb, hml, hown, hts⟩ (x_elem l hl0 hi) (cwV 1 hts (lw_V wq237 wq238 wq239 wq5 wq240) rfl rfl rfl (by decide +kernel) ⟨(Nat.le_of_ble_eq_true rfl), (Nat.le_of_ble_eq_true rfl)⟩) (px_V hC hW hS hA ho9 rfl) rfl rfl hl.1 rfl (lv_room (Nat.le_of_ble_eq_true rfl)) dJx4a65c_get_915e3_11 ⟨(Nat.le_of_ble_eq_true rfl), (Nat.le_of_ble_eq_true rfl)⟩) ?_
  exact ze_q hx hb hr (by first | exact Or.inl ⟨_, rfl⟩ | exact Or.inr ⟨_, rfl⟩) hlk (by first | exact Or.inl rfl | exact Or.inr ⟨_, rfl⟩) (by rfl) dJx4a65c_get_915e3_14
set_option maxHeartbeats 4000000 in
set_option maxRecDepth 100000 in
theorem x_fsize (l : Launch) {D : va_G} {yc : Nat → ClassId} {e0 : Nat} {A : Nat → Prop} {own : TO} {ob : XO} {rw : XR} {ls : XL} {sz : Nat} {g lst : Nat} {t0 t2 t3 t4 t5 t6 t7 : Value} {fl : Nat} {L : List Nat} (hg : ob 6 fl 0 g (2, [t0, .ref lst, t2, t3, t4, t5, t6, t7])) (hl0 : ls 0 fl 0 lst L) : Met l yX2_size (ws_ yX2_size cX2_size 1 (some .int)) { frames := 1, cells := 0, slots := 0, locals := 20 } (PX D yc e0 A own ob rw ls sz [.ref g]) (zQ (some (.int (nI L.length)))) 0 0 zno := by
  refine xk_M (by decide) (Nat.le_of_ble_eq_true rfl) ?_
  intro p e s m args below meth c ls hx hb hml hr hlk hown hts hW hz hS hA hC hl
  have hK := hC.1
  have hN := hC.2.1
  have hl : lv_has ls 1 [(0, .ref g)] := hl
  refine lv_aload_n hx hb dX2_size_0 rfl (lv_at hl 0 rfl) ?_
  obtain ⟨mc9, x9, ho9⟩ := hW.lobj hl0
  refine va_get (D := D) (ci := 2) (v := .ref lst) (C := RX2) (T := TX2) (N := 8) hx hb hts iX2 hown hK (va_P_one (hW.obj hg)) 0 rfl rfl 1 (by decide) (hts _ wq68) (fun _ h9 => h9) rfl dX2_size_1 ?_
  refine zr_i (va_runV (As := []) (rest := []) ⟨hx, hb, hml, hown, hts⟩ (x_size l hl0) (cwV 0 hts (lw_V wq119 wq120 wq121 wq5 wq122) rfl rfl rfl (by decide +kernel) ⟨(Nat.le_of_ble_eq_true rfl), (Nat.le_of_ble_eq_true rfl)⟩) (px_V hC hW hS hA ho9 rfl) rfl rfl hl.1 rfl (lv_room (Nat.le_of_ble_eq_true rfl)) dX2_size_4 ⟨(Nat.le_of_ble_eq_true rfl), (Nat.le_of_ble_eq_true rfl)⟩) ?_
  exact ze_i hx hb hr hlk rfl rfl dX2_size_7
set_option maxHeartbeats 4000000 in
set_option maxRecDepth 100000 in
theorem x_at0 (l : Launch) {D : va_G} {yc : Nat → ClassId} {e0 : Nat} {A : Nat → Prop} {own : TO} {ob : XO} {rw : XR} {ls : XL} {sz : Nat} {g : Nat} {i1 : Int32} (h0 : i1 < 0) : Met l yX2_at (ws_ yX2_at cX2_at 2 (some (.object "WeirStream$Stage"))) { frames := 0, cells := 0, slots := 0, locals := 0 } (PX D yc e0 A own ob rw ls sz [.ref g, .int i1]) (zQ (some .null)) 0 0 zno := by
  refine xk_M (by decide) (Nat.le_of_ble_eq_true rfl) ?_
  intro p e s m args below meth c ls hx hb hml hr hlk hown hts hW hz hS hA hC hl
  have hK := hC.1
  have hN := hC.2.1
  have hl : lv_has ls 2 [(0, .ref g), (1, .int i1)] := hl
  refine lv_iload_n hx hb dX2_at_0 rfl (lv_at hl 1 rfl) ?_
  refine lv_if_lt (tgt := 29) hx hb dX2_at_1 (by decide) (fun _ => ?_) (fun h9 => absurd h0 h9)
  refine lv_null hx hb dX2_at_29 ?_
  exact ze_q hx hb hr (by first | exact Or.inl ⟨_, rfl⟩ | exact Or.inr ⟨_, rfl⟩) hlk (by first | exact Or.inl rfl | exact Or.inr ⟨_, rfl⟩) (by rfl) dX2_at_30
set_option maxHeartbeats 4000000 in
set_option maxRecDepth 100000 in
theorem x_at (l : Launch) {D : va_G} {yc : Nat → ClassId} {e0 : Nat} {A : Nat → Prop} {own : TO} {ob : XO} {rw : XR} {ls : XL} {sz : Nat} {g lst : Nat} {t0 t2 t3 t4 t5 t6 t7 : Value} {fl : Nat} {L : List Nat} (hg : ob 6 fl 0 g (2, [t0, .ref lst, t2, t3, t4, t5, t6, t7])) (hl0 : ls 0 fl 0 lst L) {i : Nat} {fs : List Value} (hi : i < L.length) (hL : L.length < 2147483648) (hst : ob 2 fl i L[i] (7, fs)) : Met l yX2_at (ws_ yX2_at cX2_at 2 (some (.object "WeirStream$Stage"))) { frames := 3, cells := 0, slots := 0, locals := 64 } (PX D yc e0 A own ob rw ls sz [.ref g, .int (nI i)]) (zQ (some (.ref L[i]))) 0 0 zno := by
  refine xk_M (by decide) (Nat.le_of_ble_eq_true rfl) ?_
  intro p e s m args below meth c ls hx hb hml hr hlk hown hts hW hz hS hA hC hl
  have hK := hC.1
  have hN := hC.2.1
  have hl : lv_has ls 2 [(0, .ref g), (1, .int (nI i))] := hl
  obtain ⟨mc9, x9, ho9⟩ := hW.lobj hl0
  refine lv_iload_n hx hb dX2_at_0 rfl (lv_at hl 1 rfl) ?_
  refine lv_if_lt (tgt := 29) hx hb dX2_at_1 (by decide) (fun h9 => absurd h9 (nI_pos (by omega))) (fun _ => ?_)
  refine lv_iload_n hx hb dX2_at_4 rfl (lv_at hl 1 rfl) ?_
  refine lv_aload_n hx hb dX2_at_5 rfl (lv_at hl 0 rfl) ?_
  refine va_get (D := D) (ci := 2) (v := .ref lst) (C := RX2) (T := TX2) (N := 8) hx hb hts iX2 hown hK (va_P_one (hW.obj hg)) 0 rfl rfl 1 (by decide) (hts _ wq68) (fun _ h9 => h9) rfl dX2_at_6 ?_
  refine zr_i (va_runV (As := []) (rest := [.int (nI i)]) ⟨hx, hb, hml, hown, hts⟩ (x_size l hl0) (cwV 0 hts (lw_V wq119 wq120 wq121 wq5 wq122) rfl rfl rfl (by decide +kernel) ⟨(Nat.le_of_ble_eq_true rfl), (Nat.le_of_ble_eq_true rfl)⟩) (px_V hC hW hS hA ho9 rfl) rfl rfl hl.1 rfl (lv_room (Nat.le_of_ble_eq_true rfl)) dX2_at_9 ⟨(Nat.le_of_ble_eq_true rfl), (Nat.le_of_ble_eq_true rfl)⟩) ?_
  refine lv_icmp_ge (tgt := 29) hx hb dX2_at_12 (by decide) (fun h9 => absurd h9 (nI_ge (by omega) (by omega))) (fun _ => ?_)
  refine lv_aload_n hx hb dX2_at_15 rfl (lv_at hl 0 rfl) ?_
  refine va_get (D := D) (ci := 2) (v := .ref lst) (C := RX2) (T := TX2) (N := 8) hx hb hts iX2 hown hK (va_P_one (hW.obj hg)) 0 rfl rfl 1 (by decide) (hts _ wq68) (fun _ h9 => h9) rfl dX2_at_16 ?_
  refine lv_iload_n hx hb dX2_at_19 rfl (lv_at hl 1 rfl) ?_
  refine zr_q (va_runV (As := [.int (nI i)]) (rest := []) ⟨hx, hb, hml, hown, hts⟩ (x_get l hl0 hi hL) (cwV 1 hts (lw_V wq227 wq228 wq229 wq5 wq230) rfl rfl rfl (by decide +kernel) ⟨(Nat.le_of_ble_eq_true rfl), (Nat.le_of_ble_eq_true rfl)⟩) (px_V hC hW hS hA ho9 rfl) rfl rfl hl.1 rfl (lv_room (Nat.le_of_ble_eq_true rfl)) dX2_at_20 ⟨(Nat.le_of_ble_eq_true rfl), (Nat.le_of_ble_eq_true rfl)⟩) ?_
  refine va_castS hx hb hown (hts _ wq241) (hK.1 7 _ rfl).2 (WX.cell hK (hW.obj hst) rfl) dX2_at_23 ?_
  refine lv_goto (tgt := 30) hx hb dX2_at_26 (by decide) ?_
  exact ze_q hx hb hr (by first | exact Or.inl ⟨_, rfl⟩ | exact Or.inr ⟨_, rfl⟩) hlk (by first | exact Or.inl rfl | exact Or.inr ⟨_, rfl⟩) (by rfl) dX2_at_30
set_option maxHeartbeats 4000000 in
set_option maxRecDepth 100000 in
theorem x_open (l : Launch) {D : va_G} {yc : Nat → ClassId} {e0 : Nat} {A : Nat → Prop} {own : TO} {ob : XO} {rw : XR} {ls : XL} {sz : Nat} {o ir cl i n fl x4 : Nat} {LC : List Nat} (ho : ob 3 fl i o (3, [.ref ir, .ref cl])) (hl0 : ls 1 fl i cl LC) (hL : LC.length ≤ 12) (hE : ∀ y ∈ LC, ∃ kd fl k fs, ob kd fl k y (1, fs)) : Met l yX4_open (ws_ yX4_open cX4_open 2 (some (.object "WeirStream$Channel"))) { frames := 7, cells := 2, slots := 23, locals := 240 } (PX D yc e0 A own ob rw ls sz [.ref o]) (va_Qq (fun r (_ : TO) => r = some sz) (fun own' t => (∀ q, q < sz → own' q = own q) ∧ WX D yc e0 A own' (obadd ob x4 fl n sz (1, [.ref ir, .int 0, .int 0])) rw (lsadd ls 1 fl i cl (LC ++ [sz])) t.heap) A) 2 23 A := by
  refine xk_M (by decide) (Nat.le_of_ble_eq_true rfl) ?_
  intro p e s m args below meth c ls hx hb hml hr hlk hown hts hW hz hS hA hC hl
  have hK := hC.1
  have hN := hC.2.1
  have hl : lv_has ls 2 [(0, .ref o)] := hl
  generalize hHH : s.heap = H at hW ⊢
  have hS : va_S A s.heap H [] := by rw [← hHH]; exact hS
  have hz : H.size = sz := by rw [← hHH]; exact hz
  subst hz
  refine x_new (ci := 1) (fs := [.null, .int 0, .int 0]) (C := RX1) (T := TX1) (N := 3) hx hb hts iX1 tyX1 tyX1_ok hown (hts _ wq298) (hts _ wq932) (hts _ wq17) hK rfl dfX1 (Nat.le_of_ble_eq_true rfl) (Nat.le_of_ble_eq_true rfl) dX4_open_0 (fun H1 hz1 hk1 hb1 => ?_)
  have hAs : A H.size := hA _ hS.1
  have hS1 : va_S A s.heap H1 [] := ⟨Nat.le_trans hS.1 (by omega), fun q h1 h2 => (hk1 q (Nat.lt_of_lt_of_le h1 hS.1)).trans (hS.2.1 q h1 h2), hS.2.2⟩
  have hA1 : ∀ q, H1.size ≤ q → A q := fun q hq => hA q (Nat.le_trans hS1.1 hq)
  refine lv_dup hx hb dX4_open_3 rfl ?_
  refine lv_aload_n hx hb dX4_open_4 rfl (lv_at hl 0 rfl) ?_
  refine va_get (D := D) (ci := 3) (v := .ref ir) (C := RX4) (T := TX4) (N := 2) hx hb hts iX4 hown hK (va_P_one ((hW.obj ho).kept (hk1 _ (hW.obj ho).lt))) 0 rfl rfl 0 (by decide) (hts _ wq1016) (fun _ h9 => h9) rfl dX4_open_5 ?_
  refine va_callv (va_runI (As := [.ref ir]) (rest := [.ref H.size]) ⟨hx, hb, hml, hown, hts⟩ (kX1_init_0 l D yc e0 H1.size H.size ir) (cwI 1 hts (lw_C wq935) rfl rfl rfl (hts _ wq17) (hts _ wq933) (hts _ wq934) rfl (by decide +kernel) ⟨(Nat.le_of_ble_eq_true rfl), (Nat.le_of_ble_eq_true rfl)⟩) (zk_pS (A := A) hC (va_P_one hb1) (xda hAs) hS1 hA [0] rfl rfl) rfl rfl hl.1 rfl (lv_room (Nat.le_of_ble_eq_true rfl)) dX4_open_8 ⟨(Nat.le_of_ble_eq_true rfl), (Nat.le_of_ble_eq_true rfl)⟩) hS1 (fun q _ h => xfa hAs hA1 q h) (xfa hAs hA1) (fun u t H2 locs2 ht hvm hw hB hz2 hk2 hS2 => ?_)
  obtain ⟨hP2, -⟩ := hB
  rw [ht] at hP2
  have hk3 : ∀ q : Nat, q < H.size → H2[q]? = H[q]? := fun q hq => (hk2 q (by omega) (xna (by omega) (by omega))).trans (hk1 q hq)
  obtain ⟨own1, ho1, hW1⟩ := hW.add hk3 (hP2 0 _ rfl) hAs x4 fl n
  refine lv_astore_n (lv' := [(1, .ref H.size), (0, .ref o)]) hx hb dX4_open_11 rfl hl (by decide) rfl (fun ls hl => ?_)
  refine lv_aload_n hx hb dX4_open_12 rfl (lv_at hl 1 rfl) ?_
  refine va_get (D := D) (ci := 3) (v := .ref cl) (C := RX4) (T := TX4) (N := 2) hx hb hts iX4 hown hK (va_P_one (hW1.obj (Or.inl ho))) 0 rfl rfl 1 (by decide) (hts _ wq1018) (fun _ h9 => h9) rfl dX4_open_13 ?_
  refine lv_aload_n hx hb dX4_open_16 rfl (lv_at hl 0 rfl) ?_
  obtain ⟨mc9, x9, ho9⟩ := hW1.lobj hl0
  refine va_calli (va_runV (As := [.ref H.size]) (rest := []) ⟨hx, hb, hml, hown, hts⟩ (x_add_1 l (kdv := x4) (flv := fl) (kv := n) hl0 hL (Or.inr ⟨⟨rfl, rfl, rfl⟩, rfl, rfl⟩) (fun y hy => ?_)) (cwV 1 hts (lw_V wq951 wq952 wq953 wq5 wq954) rfl rfl rfl (by decide +kernel) ⟨(Nat.le_of_ble_eq_true rfl), (Nat.le_of_ble_eq_true rfl)⟩) (px_V hC hW1 hS2 hA ho9 rfl) rfl rfl hl.1 rfl (lv_room (Nat.le_of_ble_eq_true rfl)) dX4_open_17 ⟨(Nat.le_of_ble_eq_true rfl), (Nat.le_of_ble_eq_true rfl)⟩) hS2 (fun _ _ h => h) (fun _ h => h) (fun r own2 t2 H3 locs3 ht3 hvm3 hw3 hB3 hz3 hk4 hS3 => ?_)
  · obtain ⟨kd, fl1, k1, fs1, h9⟩ := hE y hy
    refine ⟨fun h => ?_, kd, fl1, k1, fs1, Or.inl h9⟩
    have := (hW.obj h9).lt
    simp only at this
    omega
  obtain ⟨ho2, hW3⟩ := hB3
  rw [ht3] at hW3
  refine lv_pop hx hb dX4_open_20 rfl ?_
  refine lv_aload_n hx hb dX4_open_21 rfl (lv_at hl 0 rfl) ?_
  exact W.widen (Nat.le_of_ble_eq_true rfl) (Nat.le_of_ble_eq_true rfl) (W.aret hx hb hr (Or.inl ⟨_, rfl⟩) (Or.inr ⟨_, rfl⟩) (fun t ht hW9 => ⟨⟨some H.size, own2, rfl, rfl, fun q hq => (ho2 q (by omega)).trans (ho1 q hq), by rw [ht]; exact hW3⟩, hS3.F ht⟩) hS3.2.2 dX4_open_22 hlk)
set_option maxHeartbeats 4000000 in
set_option maxRecDepth 100000 in
theorem x_chan0 (l : Launch) {D : va_G} {yc : Nat → ClassId} {e0 : Nat} {A : Nat → Prop} {own : TO} {ob : XO} {rw : XR} {ls : XL} {sz : Nat} {g : Nat} {gs : List Value} {fl : Nat} {i1 : Int32} (hg : ob 6 fl 0 g (2, gs)) (h0 : i1 < 0) : Met l yX2_channelFrom (ws_ yX2_channelFrom cX2_channelFrom 3 (some (.object "WeirStream$Channel"))) { frames := 1, cells := 0, slots := 0, locals := 24 } (PX D yc e0 A own ob rw ls sz [.ref g, .int i1]) (zQ (some .null)) 0 0 zno := by
  refine xk_M (by decide) (Nat.le_of_ble_eq_true rfl) ?_
  intro p e s m args below meth c ls hx hb hml hr hlk hown hts hW hz hS hA hC hl
  have hK := hC.1
  have hN := hC.2.1
  have hl : lv_has ls 3 [(0, .ref g), (1, .int i1)] := hl
  refine lv_aload_n hx hb dX2_channelFrom_0 rfl (lv_at hl 0 rfl) ?_
  refine lv_iload_n hx hb dX2_channelFrom_1 rfl (lv_at hl 1 rfl) ?_
  refine zr_q (va_runV (As := [.int i1]) (rest := []) ⟨hx, hb, hml, hown, hts⟩ (x_at0 l h0) (cwV 1 hts (lw_V wq281 wq224 wq225 wq2 wq226) rfl rfl rfl (by decide +kernel) ⟨(Nat.le_of_ble_eq_true rfl), (Nat.le_of_ble_eq_true rfl)⟩) (px_V hC hW hS hA (hW.obj hg) rfl) rfl rfl hl.1 rfl (lv_room (Nat.le_of_ble_eq_true rfl)) dX2_channelFrom_2 ⟨(Nat.le_of_ble_eq_true rfl), (Nat.le_of_ble_eq_true rfl)⟩) ?_
  refine lv_astore_nN (lv' := [(2, .null), (0, .ref g), (1, .int i1)]) hx hb dX2_channelFrom_5 rfl hl (by decide) rfl (fun ls hl => ?_)
  refine lv_aload_nN hx hb dX2_channelFrom_6 rfl (lv_at hl 0 rfl) ?_
  refine lv_ifnonnullN hx hb dX2_channelFrom_7 ?_
  refine lv_null hx hb dX2_channelFrom_10 ?_
  refine lv_goto (tgt := 21) hx hb dX2_channelFrom_11 (by decide) ?_
  exact ze_q hx hb hr (by first | exact Or.inl ⟨_, rfl⟩ | exact Or.inr ⟨_, rfl⟩) hlk (by first | exact Or.inl rfl | exact Or.inr ⟨_, rfl⟩) (by rfl) dX2_channelFrom_21
set_option maxHeartbeats 4000000 in
set_option maxRecDepth 100000 in
theorem x_chan (l : Launch) {D : va_G} {yc : Nat → ClassId} {e0 : Nat} {A : Nat → Prop} {own : TO} {ob : XO} {rw : XR} {ls : XL} {sz : Nat} {g lst o ir cl i n fl x4 : Nat} {t0 t2 t3 t4 t5 t6 t7 a0 a1 a2 a3 a4 a6 a7 a8 a9 a10 a11 : Value} {L LC : List Nat} (hg : ob 6 fl 0 g (2, [t0, .ref lst, t2, t3, t4, t5, t6, t7])) (hl1 : ls 0 fl 0 lst L) (hi : i < L.length) (hLL : L.length ≤ 12) (hst : ob 2 fl i L[i] (7, [a0, a1, a2, a3, a4, .ref o, a6, a7, a8, a9, a10, a11])) (ho : ob 3 fl i o (3, [.ref ir, .ref cl])) (hl0 : ls 1 fl i cl LC) (hL : LC.length ≤ 12) (hE : ∀ y ∈ LC, ∃ kd fl k fs, ob kd fl k y (1, fs)) : Met l yX2_channelFrom (ws_ yX2_channelFrom cX2_channelFrom 3 (some (.object "WeirStream$Channel"))) { frames := 8, cells := 2, slots := 23, locals := 264 } (PX D yc e0 A own ob rw ls sz [.ref g, .int (nI i)]) (va_Qq (fun r (_ : TO) => r = some sz) (fun own' t => (∀ q, q < sz → own' q = own q) ∧ WX D yc e0 A own' (obadd ob x4 fl n sz (1, [.ref ir, .int 0, .int 0])) rw (lsadd ls 1 fl i cl (LC ++ [sz])) t.heap) A) 2 23 A := by
  refine xk_M (by decide) (Nat.le_of_ble_eq_true rfl) ?_
  intro p e s m args below meth c ls hx hb hml hr hlk hown hts hW hz hS hA hC hl
  have hK := hC.1
  have hN := hC.2.1
  have hl : lv_has ls 3 [(0, .ref g), (1, .int (nI i))] := hl
  generalize hHH : s.heap = H at hW ⊢
  have hS : va_S A s.heap H [] := by rw [← hHH]; exact hS
  have hz : H.size = sz := by rw [← hHH]; exact hz
  subst hz
  refine lv_aload_n hx hb dX2_channelFrom_0 rfl (lv_at hl 0 rfl) ?_
  refine lv_iload_n hx hb dX2_channelFrom_1 rfl (lv_at hl 1 rfl) ?_
  refine zr_q (va_runV (As := [.int (nI i)]) (rest := []) ⟨hx, hb, hml, hown, hts⟩ (x_at l hg hl1 hi (by omega) hst) (cwV 1 hts (lw_V wq281 wq224 wq225 wq2 wq226) rfl rfl rfl (by decide +kernel) ⟨(Nat.le_of_ble_eq_true rfl), (Nat.le_of_ble_eq_true rfl)⟩) (px_V hC hW hS hA (hW.obj hg) rfl) rfl rfl hl.1 rfl (lv_room (Nat.le_of_ble_eq_true rfl)) dX2_channelFrom_2 ⟨(Nat.le_of_ble_eq_true rfl), (Nat.le_of_ble_eq_true rfl)⟩) ?_
  refine lv_astore_n (lv' := [(2, .ref L[i]), (0, .ref g), (1, .int (nI i))]) hx hb dX2_channelFrom_5 rfl hl (by decide) rfl (fun ls hl => ?_)
  refine lv_aload_n hx hb dX2_channelFrom_6 rfl (lv_at hl 0 rfl) ?_
  refine lv_ifnonnull (tgt := 14) hx hb dX2_channelFrom_7 (by decide) ?_
  refine lv_aload_n hx hb dX2_channelFrom_14 rfl (lv_at hl 0 rfl) ?_
  refine va_getN (D := D) (ci := 7) (v := .ref o) (C := RX8) (T := TX8) (N := 12) hx hb hts iX8 hown hK (va_P_one (hW.obj hst)) 0 rfl rfl 5 (by decide) (zk_tab rfl (hN _ wr1114 rfl)) (fun _ h9 => h9) rfl dX2_channelFrom_15 ?_
  refine va_callq (va_runV (As := []) (rest := []) ⟨hx, hb, hml, hown, hts⟩ (x_open l ho hl0 hL hE (n := n) (x4 := x4)) (cwV 0 hts (lw_V wq928 wq929 wq930 wq21 wq931) rfl rfl rfl (by decide +kernel) ⟨(Nat.le_of_ble_eq_true rfl), (Nat.le_of_ble_eq_true rfl)⟩) (px_V hC hW hS hA (hW.obj ho) rfl) rfl rfl hl.1 rfl (lv_room (Nat.le_of_ble_eq_true rfl)) dX2_channelFrom_18 ⟨(Nat.le_of_ble_eq_true rfl), (Nat.le_of_ble_eq_true rfl)⟩) hS (fun _ _ h => h) (fun _ h => h) (fun r own2 t2 H3 locs3 ht3 hvm3 hw3 hB3 hz3 hk4 hS3 => ?_)
  obtain ⟨ho2, hW3⟩ := hB3
  rw [ht3] at hW3
  rw [show r = some H.size from hw3]
  exact W.widen (Nat.le_of_ble_eq_true rfl) (Nat.le_of_ble_eq_true rfl) (W.aret hx hb hr (Or.inl ⟨_, rfl⟩) (Or.inr ⟨_, rfl⟩) (fun t ht hW9 => ⟨⟨some H.size, own2, rfl, rfl, ho2, by rw [ht]; exact hW3⟩, hS3.F ht⟩) hS3.2.2 dX2_channelFrom_21 hlk)
/-- the cells of a new stage, and what they are -/
def sblk (yc : Nat → ClassId) (e0 : Nat) (u : Nat → Nat → Nat) (st pl lg : Nat) (c1 c2 it : Value) : va_W := [(st, .inr (7, [.ref pl, .ref lg, c1, c2, it, .ref (u 0 0), .ref (u 1 0), .ref (u 2 0), .ref (u 3 0), .ref (u 4 0), .int 0, .int 0])), ((u 0 0), .inr (3, [.ref (u 5 0), .ref (u 6 0)])), ((u 5 0), .inr (5, [.ref (u 7 0), .int 0])), ((u 7 0), .inl (yc 1, 8, .inr (.inl (fun _ => 0)))), ((u 6 0), .inr (0, [.int 0, .ref e0, .int 0])), ((u 1 0), .inr (5, [.ref (u 8 0), .int 0])), ((u 8 0), .inl (yc 1, 8, .inr (.inl (fun _ => 0)))), ((u 2 0), .inr (8, [.int (-1), .int (-1), .int (-1), .int 1, .int 0, .int 0, .int 0, .int 0, .ref (u 9 0), .ref (u 10 0), .ref (u 11 0)])), ((u 9 0), .inr (6, [.ref (u 12 0), .ref (u 13 0)])), ((u 12 0), .inr (5, [.ref (u 14 0), .int 0])), ((u 14 0), .inl (yc 1, 8, .inr (.inl (fun _ => 0)))), ((u 13 0), .inr (5, [.ref (u 15 0), .int 0])), ((u 15 0), .inl (yc 1, 8, .inr (.inl (fun _ => 0)))), ((u 10 0), .inr (5, [.ref (u 16 0), .int 0])), ((u 16 0), .inl (yc 1, 8, .inr (.inl (fun _ => 0)))), ((u 11 0), .inr (5, [.ref (u 17 0), .int 0])), ((u 17 0), .inl (yc 1, 8, .inr (.inl (fun _ => 0)))), ((u 3 0), .inr (8, [.int (-1), .int (-1), .int (-1), .int 1, .int 0, .int 0, .int 0, .int 0, .ref (u 18 0), .ref (u 19 0), .ref (u 20 0)])), ((u 18 0), .inr (6, [.ref (u 21 0), .ref (u 22 0)])), ((u 21 0), .inr (5, [.ref (u 23 0), .int 0])), ((u 23 0), .inl (yc 1, 8, .inr (.inl (fun _ => 0)))), ((u 22 0), .inr (5, [.ref (u 24 0), .int 0])), ((u 24 0), .inl (yc 1, 8, .inr (.inl (fun _ => 0)))), ((u 19 0), .inr (5, [.ref (u 25 0), .int 0])), ((u 25 0), .inl (yc 1, 8, .inr (.inl (fun _ => 0)))), ((u 20 0), .inr (5, [.ref (u 26 0), .int 0])), ((u 26 0), .inl (yc 1, 8, .inr (.inl (fun _ => 0)))), ((u 4 0), .inr (8, [.int (-1), .int (-1), .int (-1), .int 1, .int 0, .int 0, .int 0, .int 0, .ref (u 27 0), .ref (u 28 0), .ref (u 29 0)])), ((u 27 0), .inr (6, [.ref (u 30 0), .ref (u 31 0)])), ((u 30 0), .inr (5, [.ref (u 32 0), .int 0])), ((u 32 0), .inl (yc 1, 8, .inr (.inl (fun _ => 0)))), ((u 31 0), .inr (5, [.ref (u 33 0), .int 0])), ((u 33 0), .inl (yc 1, 8, .inr (.inl (fun _ => 0)))), ((u 28 0), .inr (5, [.ref (u 34 0), .int 0])), ((u 34 0), .inl (yc 1, 8, .inr (.inl (fun _ => 0)))), ((u 29 0), .inr (5, [.ref (u 35 0), .int 0])), ((u 35 0), .inl (yc 1, 8, .inr (.inl (fun _ => 0))))]
def stag (fl n : Nat) : List TAG := [(0, 2, fl, n), (0, 3, fl, n), (1, ri fl n, 0, 0), (2, ri fl n, 0, 0), (3, 1, fl, n), (1, ro fl n, 0, 0), (2, ro fl n, 0, 0), (0, 0, fl, 3 * n), (0, 1, fl, 3 * n), (1, rs 0 fl (3 * n), 0, 0), (2, rs 0 fl (3 * n), 0, 0), (1, rs 1 fl (3 * n), 0, 0), (2, rs 1 fl (3 * n), 0, 0), (1, rs 2 fl (3 * n), 0, 0), (2, rs 2 fl (3 * n), 0, 0), (1, rs 3 fl (3 * n), 0, 0), (2, rs 3 fl (3 * n), 0, 0), (0, 0, fl, 3 * n + 1), (0, 1, fl, 3 * n + 1), (1, rs 0 fl (3 * n + 1), 0, 0), (2, rs 0 fl (3 * n + 1), 0, 0), (1, rs 1 fl (3 * n + 1), 0, 0), (2, rs 1 fl (3 * n + 1), 0, 0), (1, rs 2 fl (3 * n + 1), 0, 0), (2, rs 2 fl (3 * n + 1), 0, 0), (1, rs 3 fl (3 * n + 1), 0, 0), (2, rs 3 fl (3 * n + 1), 0, 0), (0, 0, fl, 3 * n + 2), (0, 1, fl, 3 * n + 2), (1, rs 0 fl (3 * n + 2), 0, 0), (2, rs 0 fl (3 * n + 2), 0, 0), (1, rs 1 fl (3 * n + 2), 0, 0), (2, rs 1 fl (3 * n + 2), 0, 0), (1, rs 2 fl (3 * n + 2), 0, 0), (2, rs 2 fl (3 * n + 2), 0, 0), (1, rs 3 fl (3 * n + 2), 0, 0), (2, rs 3 fl (3 * n + 2), 0, 0)]
set_option maxHeartbeats 4000000 in
set_option maxRecDepth 100000 in
theorem x_fadd_00 (l : Launch) {D : va_G} {yc : Nat → ClassId} {e0 : Nat} {A : Nat → Prop} {own : TO} {ob : XO} {rw : XR} {ls : XL} {sz : Nat} {i j g lst pl lg np : Nat} {t2 t3 t4 t5 t6 t7 p0 p3 p4 p5 p6 p7 p8 p9 p10 p11 p12 p13 p14 : Value} {L : List Nat} (hg : ob 6 0 0 g (2, [.int 0, .ref lst, t2, t3, t4, t5, t6, t7])) (hl1 : ls 0 0 0 lst L) (hLL : L.length ≤ 11) (hEL : ∀ y ∈ L, ∃ kd fl k fs, ob kd fl k y (7, fs)) (hp : ob 8 0 np pl (4, [p0, .int (-1), .int (-1), p3, p4, p5, p6, p7, p8, p9, p10, p11, p12, p13, p14])) : Met l yX2_add (ws_ yX2_add cX2_add 3 none) { frames := 9, cells := 42, slots := 262, locals := 300 } (PX D yc e0 A own ob rw ls sz [.ref g, .ref pl, .ref lg]) (va_Qv (fun u : (Nat → Nat → Nat) × TO × Nat × Nat => sz < u.2.2.1 ∧ sz < u.2.2.2) (fun u t => (∀ q, q < sz → u.2.1 q = own q) ∧ WX D yc e0 A u.2.1 (fun kd fl k a e => ob kd fl k a e ∨ False ∨ blo (sblk yc e0 u.1 sz pl lg .null .null (.int 0)) (stag 0 L.length) kd fl k a e) (fun i r => rw i r ∨ blr yc (sblk yc e0 u.1 sz pl lg .null .null (.int 0)) (stag 0 L.length) i r) (lsadd (fun b fl k a L1 => ls b fl k a L1 ∨ bll e0 (sblk yc e0 u.1 sz pl lg .null .null (.int 0)) (stag 0 L.length) b fl k a L1) 0 0 0 lst (L ++ [sz])) t.heap) A) 42 262 A := by
  refine xk_M (by decide) (Nat.le_of_ble_eq_true rfl) ?_
  intro p e s m args below meth c ls hx hb hml hr hlk hown hts hW hz hS hA hC hl
  have hK := hC.1
  have hN := hC.2.1
  have hl : lv_has ls 3 [(0, .ref g), (1, .ref pl), (2, .ref lg)] := hl
  generalize hHH : s.heap = H at hW ⊢
  have hS : va_S A s.heap H [] := by rw [← hHH]; exact hS
  have hz : H.size = sz := by rw [← hHH]; exact hz
  subst hz
  refine lv_aload_n hx hb dX2_add_0 rfl (lv_at hl 0 rfl) ?_
  refine va_get (D := D) (ci := 2) (v := .ref lst) (C := RX2) (T := TX2) (N := 8) hx hb hts iX2 hown hK (va_P_one (hW.obj hg)) 0 rfl rfl 1 (by decide) (hts _ wq68) (fun _ h9 => h9) rfl dX2_add_1 ?_
  refine x_new (ci := 7) (fs := [.null, .null, .null, .null, .int 0, .null, .null, .null, .null, .null, .int 0, .int 0]) (C := RX8) (T := TX8) (N := 12) hx hb hts iX8 tyX8 tyX8_ok hown (hts _ wq241) (hts _ wq406) (hts _ wq16) hK rfl dfX8 (Nat.le_of_ble_eq_true rfl) (Nat.le_of_ble_eq_true rfl) dX2_add_4 (fun H1 hz1 hk1 hb1 => ?_)
  have hAs : A H.size := hA _ hS.1
  have hS1 : va_S A s.heap H1 [] := ⟨Nat.le_trans hS.1 (by omega), fun q h1 h2 => (hk1 q (Nat.lt_of_lt_of_le h1 hS.1)).trans (hS.2.1 q h1 h2), hS.2.2⟩
  obtain ⟨own1, ho1, hW1⟩ := hW.add hk1 hb1 hAs 2 0 L.length
  refine lv_dup hx hb dX2_add_7 rfl ?_
  refine lv_aload_n hx hb dX2_add_8 rfl (lv_at hl 1 rfl) ?_
  refine lv_aload_n hx hb dX2_add_9 rfl (lv_at hl 2 rfl) ?_
  refine lv_aload_n hx hb dX2_add_10 rfl (lv_at hl 0 rfl) ?_
  refine lv_aload_n hx hb dX2_add_11 rfl (lv_at hl 1 rfl) ?_
  refine va_getN (D := D) (ci := 4) (v := .int (-1)) (C := RX5) (T := TX5) (N := 15) hx hb hts iX5 hown hK (va_P_one (hW1.obj (Or.inl hp))) 0 rfl rfl 1 (by decide) (zk_tab rfl (hN _ wr835 rfl)) (fun _ h9 => h9) rfl dX2_add_12 ?_
  refine zr_q (va_runV (As := [.int (-1)]) (rest := [.ref lg, .ref pl, .ref H.size, .ref H.size, .ref lst]) ⟨hx, hb, hml, hown, hts⟩ (x_chan0 l (Or.inl hg) (by decide)) (cwV 1 hts (lw_V wq924 wq926 ws28 wq2 wq927) rfl rfl rfl (by decide +kernel) ⟨(Nat.le_of_ble_eq_true rfl), (Nat.le_of_ble_eq_true rfl)⟩) (px_V hC hW1 hS1 hA (hW1.obj (Or.inl hg)) rfl) rfl rfl hl.1 rfl (lv_room (Nat.le_of_ble_eq_true rfl)) dX2_add_15 ⟨(Nat.le_of_ble_eq_true rfl), (Nat.le_of_ble_eq_true rfl)⟩) ?_
  refine lv_aload_n hx hb dX2_add_18 rfl (lv_at hl 0 rfl) ?_
  refine lv_aload_n hx hb dX2_add_19 rfl (lv_at hl 1 rfl) ?_
  refine va_getN (D := D) (ci := 4) (v := .int (-1)) (C := RX5) (T := TX5) (N := 15) hx hb hts iX5 hown hK (va_P_one (hW1.obj (Or.inl hp))) 0 rfl rfl 2 (by decide) (zk_tab rfl (hN _ wr838 rfl)) (fun _ h9 => h9) rfl dX2_add_20 ?_
  refine zr_q (va_runV (As := [.int (-1)]) (rest := [.null, .ref lg, .ref pl, .ref H.size, .ref H.size, .ref lst]) ⟨hx, hb, hml, hown, hts⟩ (x_chan0 l (Or.inl hg) (by decide)) (cwV 1 hts (lw_V wq924 wq926 ws28 wq2 wq927) rfl rfl rfl (by decide +kernel) ⟨(Nat.le_of_ble_eq_true rfl), (Nat.le_of_ble_eq_true rfl)⟩) (px_V hC hW1 hS1 hA (hW1.obj (Or.inl hg)) rfl) rfl rfl hl.1 rfl (lv_room (Nat.le_of_ble_eq_true rfl)) dX2_add_23 ⟨(Nat.le_of_ble_eq_true rfl), (Nat.le_of_ble_eq_true rfl)⟩) ?_
  refine lv_aload_n hx hb dX2_add_26 rfl (lv_at hl 0 rfl) ?_
  refine va_get (D := D) (ci := 2) (v := .int 0) (C := RX2) (T := TX2) (N := 8) hx hb hts iX2 hown hK (va_P_one (hW1.obj (Or.inl hg))) 0 rfl rfl 0 (by decide) (hts _ wq67) (fun _ h9 => h9) rfl dX2_add_27 ?_
  have hA3 : ∀ q, H1.size ≤ q → A q := fun q hq => hA q (Nat.le_trans hS1.1 hq)
  refine va_callv (va_runI (As := [.ref pl, .ref lg, .null, .null, .int 0]) (rest := [.ref H.size, .ref lst]) ⟨hx, hb, hml, hown, hts⟩ (kX8_init_0 l D yc e0 H1.size H.size pl lg) (cwI 5 hts (lw_C wq1005) rfl rfl rfl (hts _ wq16) (hts _ wq1003) (hts _ wq1004) rfl (by decide +kernel) ⟨(Nat.le_of_ble_eq_true rfl), (Nat.le_of_ble_eq_true rfl)⟩) (zk_pS (A := A) hC (va_P_one (hW1.obj (Or.inr ⟨⟨rfl, rfl, rfl⟩, rfl, rfl⟩))) (xda hAs) hS1 hA [0] rfl rfl) rfl rfl hl.1 rfl (lv_room (Nat.le_of_ble_eq_true rfl)) dX2_add_30 ⟨(Nat.le_of_ble_eq_true rfl), (Nat.le_of_ble_eq_true rfl)⟩) hS1 (fun q _ h => xfa hAs hA3 q h) (xfa hAs hA3) (fun u t4 H4 locs4 ht4 hvm4 hw4 hB4 hz4 hk4 hS4 => ?_)
  obtain ⟨hP4, hD4⟩ := hB4
  rw [ht4] at hP4
  obtain ⟨own4, ho4, hW4⟩ := hW1.block (H1 := H4) (Or.inr ⟨⟨rfl, rfl, rfl⟩, rfl, rfl⟩) (sblk yc e0 u H.size pl lg .null .null (.int 0)) (stag 0 L.length) (fun q h1 h2 => hk4 q h1 (xna h1 h2)) hP4 hD4 (xfa hAs hA3) _ rfl rfl
  have hll : True := trivial
  obtain ⟨mc9, x9, ho9⟩ := hW4.lobj (Or.inl hl1)
  refine va_calli (va_runV (As := [.ref H.size]) (rest := []) ⟨hx, hb, hml, hown, hts⟩ (x_add_7 l (kdv := 2) (flv := 0) (kv := L.length) (Or.inl hl1) (by omega) (Or.inr ⟨0, rfl, rfl⟩) (fun y hy => ?_)) (cwV 1 hts (lw_V wq1154 wq952 wq953 wq5 wq954) rfl rfl rfl (by decide +kernel) ⟨(Nat.le_of_ble_eq_true rfl), (Nat.le_of_ble_eq_true rfl)⟩) (px_V hC hW4 hS4 hA ho9 rfl) rfl rfl hl.1 rfl (lv_room (Nat.le_of_ble_eq_true rfl)) dX2_add_33 ⟨(Nat.le_of_ble_eq_true rfl), (Nat.le_of_ble_eq_true rfl)⟩) hS4 (fun _ _ h => h) (fun _ h => h) (fun r5 own5 t5 H5 locs5 ht5 hvm5 hw5 hB5 hz5 hk5 hS5 => ?_)
  · obtain ⟨kd, fl1, k1, fs1, h9⟩ := hEL y hy
    have := (hW.obj h9).lt
    simp only at this
    have hne : ¬ y = H.size := by omega
    exact ⟨hne, kd, fl1, k1, fs1, Or.inl ⟨(Or.inl h9), hne⟩⟩
  obtain ⟨ho5, hW5⟩ := hB5
  rw [ht5] at hW5
  refine lv_pop hx hb dX2_add_36 rfl ?_
  have hlt : ∀ kd fl k a e, ob kd fl k a e → ¬ a = H.size := fun kd fl k a e q h9 => by
    have := (hW.obj q).lt
    rw [h9] at this
    exact absurd this (Nat.lt_irrefl _)
  exact W.widen (Nat.le_of_ble_eq_true rfl) (Nat.le_of_ble_eq_true rfl) (W.vret hx hb hr (fun t ht hW9 => ⟨⟨(u, own5, H1.size, H1.size), rfl, ⟨by dsimp only; omega, by dsimp only; omega⟩, fun q hq => (ho5 q (by omega)).trans ((ho4 q (by omega)).trans (ho1 q hq)), by rw [ht]; exact hW5.mono (fun kd fl k a e q => q.elim (fun q => Or.inl ⟨(Or.inl q), hlt _ _ _ _ _ q⟩) (fun q => q.elim (False.elim) Or.inr)) (fun _ _ q => q) (fun _ _ _ _ _ q => q)⟩, hS5.F ht⟩) hS5.2.2 dX2_add_37 hlk)
set_option maxHeartbeats 4000000 in
set_option maxRecDepth 100000 in
theorem x_fadd_01 (l : Launch) {D : va_G} {yc : Nat → ClassId} {e0 : Nat} {A : Nat → Prop} {own : TO} {ob : XO} {rw : XR} {ls : XL} {sz : Nat} {i j g lst pl lg np : Nat} {t2 t3 t4 t5 t6 t7 p0 p3 p4 p5 p6 p7 p8 p9 p10 p11 p12 p13 p14 : Value} {L : List Nat} (hg : ob 6 0 0 g (2, [.int 0, .ref lst, t2, t3, t4, t5, t6, t7])) (hl1 : ls 0 0 0 lst L) (hLL : L.length ≤ 11) (hEL : ∀ y ∈ L, ∃ kd fl k fs, ob kd fl k y (7, fs)) (hp : ob 8 0 np pl (4, [p0, .int (nI i), .int (-1), p3, p4, p5, p6, p7, p8, p9, p10, p11, p12, p13, p14])) {oA irA clA : Nat} {a0A a1A a2A a3A a4A a6A a7A a8A a9A a10A a11A : Value} {LCA : List Nat} (hiA : i < L.length) (hstA : ob 2 0 i L[i] (7, [a0A, a1A, a2A, a3A, a4A, .ref oA, a6A, a7A, a8A, a9A, a10A, a11A])) (hoA : ob 3 0 i oA (3, [.ref irA, .ref clA])) (hcA : ls 1 0 i clA LCA) (hLCA : LCA.length ≤ 12) (hEA : ∀ y ∈ LCA, ∃ kd fl k fs, ob kd fl k y (1, fs)) : Met l yX2_add (ws_ yX2_add cX2_add 3 none) { frames := 9, cells := 42, slots := 262, locals := 300 } (PX D yc e0 A own ob rw ls sz [.ref g, .ref pl, .ref lg]) (va_Qv (fun u : (Nat → Nat → Nat) × TO × Nat × Nat => sz < u.2.2.1 ∧ sz < u.2.2.2) (fun u t => (∀ q, q < sz → u.2.1 q = own q) ∧ WX D yc e0 A u.2.1 (fun kd fl k a e => ob kd fl k a e ∨ ((kd = 4 ∧ fl = 0 ∧ k = L.length) ∧ a = u.2.2.1 ∧ e = (1, [.ref irA, .int 0, .int 0])) ∨ blo (sblk yc e0 u.1 sz pl lg (.ref u.2.2.1) .null (.int 0)) (stag 0 L.length) kd fl k a e) (fun i r => rw i r ∨ blr yc (sblk yc e0 u.1 sz pl lg (.ref u.2.2.1) .null (.int 0)) (stag 0 L.length) i r) (lsadd (fun b fl k a L1 => (lsadd ls 1 0 i clA (LCA ++ [u.2.2.1])) b fl k a L1 ∨ bll e0 (sblk yc e0 u.1 sz pl lg (.ref u.2.2.1) .null (.int 0)) (stag 0 L.length) b fl k a L1) 0 0 0 lst (L ++ [sz])) t.heap) A) 42 262 A := by
  refine xk_M (by decide) (Nat.le_of_ble_eq_true rfl) ?_
  intro p e s m args below meth c ls hx hb hml hr hlk hown hts hW hz hS hA hC hl
  have hK := hC.1
  have hN := hC.2.1
  have hl : lv_has ls 3 [(0, .ref g), (1, .ref pl), (2, .ref lg)] := hl
  generalize hHH : s.heap = H at hW ⊢
  have hS : va_S A s.heap H [] := by rw [← hHH]; exact hS
  have hz : H.size = sz := by rw [← hHH]; exact hz
  subst hz
  refine lv_aload_n hx hb dX2_add_0 rfl (lv_at hl 0 rfl) ?_
  refine va_get (D := D) (ci := 2) (v := .ref lst) (C := RX2) (T := TX2) (N := 8) hx hb hts iX2 hown hK (va_P_one (hW.obj hg)) 0 rfl rfl 1 (by decide) (hts _ wq68) (fun _ h9 => h9) rfl dX2_add_1 ?_
  refine x_new (ci := 7) (fs := [.null, .null, .null, .null, .int 0, .null, .null, .null, .null, .null, .int 0, .int 0]) (C := RX8) (T := TX8) (N := 12) hx hb hts iX8 tyX8 tyX8_ok hown (hts _ wq241) (hts _ wq406) (hts _ wq16) hK rfl dfX8 (Nat.le_of_ble_eq_true rfl) (Nat.le_of_ble_eq_true rfl) dX2_add_4 (fun H1 hz1 hk1 hb1 => ?_)
  have hAs : A H.size := hA _ hS.1
  have hS1 : va_S A s.heap H1 [] := ⟨Nat.le_trans hS.1 (by omega), fun q h1 h2 => (hk1 q (Nat.lt_of_lt_of_le h1 hS.1)).trans (hS.2.1 q h1 h2), hS.2.2⟩
  obtain ⟨own1, ho1, hW1⟩ := hW.add hk1 hb1 hAs 2 0 L.length
  refine lv_dup hx hb dX2_add_7 rfl ?_
  refine lv_aload_n hx hb dX2_add_8 rfl (lv_at hl 1 rfl) ?_
  refine lv_aload_n hx hb dX2_add_9 rfl (lv_at hl 2 rfl) ?_
  refine lv_aload_n hx hb dX2_add_10 rfl (lv_at hl 0 rfl) ?_
  refine lv_aload_n hx hb dX2_add_11 rfl (lv_at hl 1 rfl) ?_
  refine va_getN (D := D) (ci := 4) (v := .int (nI i)) (C := RX5) (T := TX5) (N := 15) hx hb hts iX5 hown hK (va_P_one (hW1.obj (Or.inl hp))) 0 rfl rfl 1 (by decide) (zk_tab rfl (hN _ wr835 rfl)) (fun _ h9 => h9) rfl dX2_add_12 ?_
  refine va_callq (va_runV (As := [.int (nI i)]) (rest := [.ref lg, .ref pl, .ref H.size, .ref H.size, .ref lst]) ⟨hx, hb, hml, hown, hts⟩ (x_chan l (n := L.length) (x4 := 4) (Or.inl hg) hl1 hiA (by omega) (Or.inl hstA) (Or.inl hoA) hcA hLCA (fun y hy => by obtain ⟨z1, z2, z3, z4, z5⟩ := hEA y hy; exact ⟨z1, z2, z3, z4, Or.inl z5⟩)) (cwV 1 hts (lw_V wq924 wq926 ws28 wq2 wq927) rfl rfl rfl (by decide +kernel) ⟨(Nat.le_of_ble_eq_true rfl), (Nat.le_of_ble_eq_true rfl)⟩) (px_V hC hW1 hS1 hA (hW1.obj (Or.inl hg)) rfl) rfl rfl hl.1 rfl (lv_room (Nat.le_of_ble_eq_true rfl)) dX2_add_15 ⟨(Nat.le_of_ble_eq_true rfl), (Nat.le_of_ble_eq_true rfl)⟩) hS1 (fun _ _ h => h) (fun _ h => h) (fun r1 own2 t2 H2 locs2 ht2 hvm2 hw2 hB2 hz2 hk2 hS2 => ?_)
  obtain ⟨ho2, hW2⟩ := hB2
  rw [ht2] at hW2
  rw [show r1 = some H1.size from hw2]
  refine zk_tv (y := .ref H1.size) rfl ?_
  refine lv_aload_n hx hb dX2_add_18 rfl (lv_at hl 0 rfl) ?_
  refine lv_aload_n hx hb dX2_add_19 rfl (lv_at hl 1 rfl) ?_
  refine va_getN (D := D) (ci := 4) (v := .int (-1)) (C := RX5) (T := TX5) (N := 15) hx hb hts iX5 hown hK (va_P_one (hW2.obj (Or.inl (Or.inl hp)))) 0 rfl rfl 2 (by decide) (zk_tab rfl (hN _ wr838 rfl)) (fun _ h9 => h9) rfl dX2_add_20 ?_
  refine zr_q (va_runV (As := [.int (-1)]) (rest := [.ref H1.size, .ref lg, .ref pl, .ref H.size, .ref H.size, .ref lst]) ⟨hx, hb, hml, hown, hts⟩ (x_chan0 l (Or.inl (Or.inl hg)) (by decide)) (cwV 1 hts (lw_V wq924 wq926 ws28 wq2 wq927) rfl rfl rfl (by decide +kernel) ⟨(Nat.le_of_ble_eq_true rfl), (Nat.le_of_ble_eq_true rfl)⟩) (px_V hC hW2 hS2 hA (hW2.obj (Or.inl (Or.inl hg))) rfl) rfl rfl hl.1 rfl (lv_room (Nat.le_of_ble_eq_true rfl)) dX2_add_23 ⟨(Nat.le_of_ble_eq_true rfl), (Nat.le_of_ble_eq_true rfl)⟩) ?_
  refine lv_aload_n hx hb dX2_add_26 rfl (lv_at hl 0 rfl) ?_
  refine va_get (D := D) (ci := 2) (v := .int 0) (C := RX2) (T := TX2) (N := 8) hx hb hts iX2 hown hK (va_P_one (hW2.obj (Or.inl (Or.inl hg)))) 0 rfl rfl 0 (by decide) (hts _ wq67) (fun _ h9 => h9) rfl dX2_add_27 ?_
  have hA3 : ∀ q, H2.size ≤ q → A q := fun q hq => hA q (Nat.le_trans hS2.1 hq)
  refine va_callv (va_runI (As := [.ref pl, .ref lg, .ref H1.size, .null, .int 0]) (rest := [.ref H.size, .ref lst]) ⟨hx, hb, hml, hown, hts⟩ (kX8_init_1 l D yc e0 H2.size H.size pl lg H1.size) (cwI 5 hts (lw_C wq1005) rfl rfl rfl (hts _ wq16) (hts _ wq1003) (hts _ wq1004) rfl (by decide +kernel) ⟨(Nat.le_of_ble_eq_true rfl), (Nat.le_of_ble_eq_true rfl)⟩) (zk_pS (A := A) hC (va_P_one (hW2.obj (Or.inl (Or.inr ⟨⟨rfl, rfl, rfl⟩, rfl, rfl⟩)))) (xda hAs) hS2 hA [0] rfl rfl) rfl rfl hl.1 rfl (lv_room (Nat.le_of_ble_eq_true rfl)) dX2_add_30 ⟨(Nat.le_of_ble_eq_true rfl), (Nat.le_of_ble_eq_true rfl)⟩) hS2 (fun q _ h => xfa hAs hA3 q h) (xfa hAs hA3) (fun u t4 H4 locs4 ht4 hvm4 hw4 hB4 hz4 hk4 hS4 => ?_)
  obtain ⟨hP4, hD4⟩ := hB4
  rw [ht4] at hP4
  obtain ⟨own4, ho4, hW4⟩ := hW2.block (H1 := H4) (Or.inl (Or.inr ⟨⟨rfl, rfl, rfl⟩, rfl, rfl⟩)) (sblk yc e0 u H.size pl lg (.ref H1.size) .null (.int 0)) (stag 0 L.length) (fun q h1 h2 => hk4 q h1 (xna h1 h2)) hP4 hD4 (xfa hAs hA3) _ rfl rfl
  have hll : True := trivial
  obtain ⟨mc9, x9, ho9⟩ := hW4.lobj (Or.inl (Or.inl ⟨hl1, (fun h9 => absurd h9.1 (by decide))⟩))
  refine va_calli (va_runV (As := [.ref H.size]) (rest := []) ⟨hx, hb, hml, hown, hts⟩ (x_add_7 l (kdv := 2) (flv := 0) (kv := L.length) (Or.inl (Or.inl ⟨hl1, (fun h9 => absurd h9.1 (by decide))⟩)) (by omega) (Or.inr ⟨0, rfl, rfl⟩) (fun y hy => ?_)) (cwV 1 hts (lw_V wq1154 wq952 wq953 wq5 wq954) rfl rfl rfl (by decide +kernel) ⟨(Nat.le_of_ble_eq_true rfl), (Nat.le_of_ble_eq_true rfl)⟩) (px_V hC hW4 hS4 hA ho9 rfl) rfl rfl hl.1 rfl (lv_room (Nat.le_of_ble_eq_true rfl)) dX2_add_33 ⟨(Nat.le_of_ble_eq_true rfl), (Nat.le_of_ble_eq_true rfl)⟩) hS4 (fun _ _ h => h) (fun _ h => h) (fun r5 own5 t5 H5 locs5 ht5 hvm5 hw5 hB5 hz5 hk5 hS5 => ?_)
  · obtain ⟨kd, fl1, k1, fs1, h9⟩ := hEL y hy
    have := (hW.obj h9).lt
    simp only at this
    have hne : ¬ y = H.size := by omega
    exact ⟨hne, kd, fl1, k1, fs1, Or.inl ⟨(Or.inl (Or.inl h9)), hne⟩⟩
  obtain ⟨ho5, hW5⟩ := hB5
  rw [ht5] at hW5
  refine lv_pop hx hb dX2_add_36 rfl ?_
  have hlt : ∀ kd fl k a e, ob kd fl k a e → ¬ a = H.size := fun kd fl k a e q h9 => by
    have := (hW.obj q).lt
    rw [h9] at this
    exact absurd this (Nat.lt_irrefl _)
  exact W.widen (Nat.le_of_ble_eq_true rfl) (Nat.le_of_ble_eq_true rfl) (W.vret hx hb hr (fun t ht hW9 => ⟨⟨(u, own5, H1.size, H1.size), rfl, ⟨by dsimp only; omega, by dsimp only; omega⟩, fun q hq => (ho5 q (by omega)).trans ((ho4 q (by omega)).trans ((ho2 q (by omega)).trans (ho1 q hq))), by rw [ht]; exact hW5.mono (fun kd fl k a e q => q.elim (fun q => Or.inl ⟨(Or.inl (Or.inl q)), hlt _ _ _ _ _ q⟩) (fun q => q.elim (fun q => Or.inl ⟨Or.inr q, fun h9 => by have h8 := q.2.1; dsimp only at h8; omega⟩) Or.inr)) (fun _ _ q => q) (fun _ _ _ _ _ q => q)⟩, hS5.F ht⟩) hS5.2.2 dX2_add_37 hlk)
set_option maxHeartbeats 4000000 in
set_option maxRecDepth 100000 in
theorem x_fadd_02 (l : Launch) {D : va_G} {yc : Nat → ClassId} {e0 : Nat} {A : Nat → Prop} {own : TO} {ob : XO} {rw : XR} {ls : XL} {sz : Nat} {i j g lst pl lg np : Nat} {t2 t3 t4 t5 t6 t7 p0 p3 p4 p5 p6 p7 p8 p9 p10 p11 p12 p13 p14 : Value} {L : List Nat} (hg : ob 6 0 0 g (2, [.int 0, .ref lst, t2, t3, t4, t5, t6, t7])) (hl1 : ls 0 0 0 lst L) (hLL : L.length ≤ 11) (hEL : ∀ y ∈ L, ∃ kd fl k fs, ob kd fl k y (7, fs)) (hp : ob 8 0 np pl (4, [p0, .int (nI i), .int (nI j), p3, p4, p5, p6, p7, p8, p9, p10, p11, p12, p13, p14])) {oA irA clA : Nat} {a0A a1A a2A a3A a4A a6A a7A a8A a9A a10A a11A : Value} {LCA : List Nat} (hiA : i < L.length) (hstA : ob 2 0 i L[i] (7, [a0A, a1A, a2A, a3A, a4A, .ref oA, a6A, a7A, a8A, a9A, a10A, a11A])) (hoA : ob 3 0 i oA (3, [.ref irA, .ref clA])) (hcA : ls 1 0 i clA LCA) (hLCA : LCA.length ≤ 12) (hEA : ∀ y ∈ LCA, ∃ kd fl k fs, ob kd fl k y (1, fs)) {oB irB clB : Nat} {a0B a1B a2B a3B a4B a6B a7B a8B a9B a10B a11B : Value} {LCB : List Nat} (hiB : j < L.length) (hstB : ob 2 0 j L[j] (7, [a0B, a1B, a2B, a3B, a4B, .ref oB, a6B, a7B, a8B, a9B, a10B, a11B])) (hoB : ob 3 0 j oB (3, [.ref irB, .ref clB])) (hcB : ls 1 0 j clB LCB) (hLCB : LCB.length ≤ 12) (hEB : ∀ y ∈ LCB, ∃ kd fl k fs, ob kd fl k y (1, fs)) (hij : i ≠ j) : Met l yX2_add (ws_ yX2_add cX2_add 3 none) { frames := 9, cells := 42, slots := 262, locals := 300 } (PX D yc e0 A own ob rw ls sz [.ref g, .ref pl, .ref lg]) (va_Qv (fun u : (Nat → Nat → Nat) × TO × Nat × Nat => sz < u.2.2.1 ∧ sz < u.2.2.2) (fun u t => (∀ q, q < sz → u.2.1 q = own q) ∧ WX D yc e0 A u.2.1 (fun kd fl k a e => ob kd fl k a e ∨ (((kd = 4 ∧ fl = 0 ∧ k = L.length) ∧ a = u.2.2.1 ∧ e = (1, [.ref irA, .int 0, .int 0])) ∨ ((kd = 5 ∧ fl = 0 ∧ k = L.length) ∧ a = u.2.2.2 ∧ e = (1, [.ref irB, .int 0, .int 0]))) ∨ blo (sblk yc e0 u.1 sz pl lg (.ref u.2.2.1) (.ref u.2.2.2) (.int 0)) (stag 0 L.length) kd fl k a e) (fun i r => rw i r ∨ blr yc (sblk yc e0 u.1 sz pl lg (.ref u.2.2.1) (.ref u.2.2.2) (.int 0)) (stag 0 L.length) i r) (lsadd (fun b fl k a L1 => (lsadd (lsadd ls 1 0 i clA (LCA ++ [u.2.2.1])) 1 0 j clB (LCB ++ [u.2.2.2])) b fl k a L1 ∨ bll e0 (sblk yc e0 u.1 sz pl lg (.ref u.2.2.1) (.ref u.2.2.2) (.int 0)) (stag 0 L.length) b fl k a L1) 0 0 0 lst (L ++ [sz])) t.heap) A) 42 262 A := by
  refine xk_M (by decide) (Nat.le_of_ble_eq_true rfl) ?_
  intro p e s m args below meth c ls hx hb hml hr hlk hown hts hW hz hS hA hC hl
  have hK := hC.1
  have hN := hC.2.1
  have hl : lv_has ls 3 [(0, .ref g), (1, .ref pl), (2, .ref lg)] := hl
  generalize hHH : s.heap = H at hW ⊢
  have hS : va_S A s.heap H [] := by rw [← hHH]; exact hS
  have hz : H.size = sz := by rw [← hHH]; exact hz
  subst hz
  refine lv_aload_n hx hb dX2_add_0 rfl (lv_at hl 0 rfl) ?_
  refine va_get (D := D) (ci := 2) (v := .ref lst) (C := RX2) (T := TX2) (N := 8) hx hb hts iX2 hown hK (va_P_one (hW.obj hg)) 0 rfl rfl 1 (by decide) (hts _ wq68) (fun _ h9 => h9) rfl dX2_add_1 ?_
  refine x_new (ci := 7) (fs := [.null, .null, .null, .null, .int 0, .null, .null, .null, .null, .null, .int 0, .int 0]) (C := RX8) (T := TX8) (N := 12) hx hb hts iX8 tyX8 tyX8_ok hown (hts _ wq241) (hts _ wq406) (hts _ wq16) hK rfl dfX8 (Nat.le_of_ble_eq_true rfl) (Nat.le_of_ble_eq_true rfl) dX2_add_4 (fun H1 hz1 hk1 hb1 => ?_)
  have hAs : A H.size := hA _ hS.1
  have hS1 : va_S A s.heap H1 [] := ⟨Nat.le_trans hS.1 (by omega), fun q h1 h2 => (hk1 q (Nat.lt_of_lt_of_le h1 hS.1)).trans (hS.2.1 q h1 h2), hS.2.2⟩
  obtain ⟨own1, ho1, hW1⟩ := hW.add hk1 hb1 hAs 2 0 L.length
  refine lv_dup hx hb dX2_add_7 rfl ?_
  refine lv_aload_n hx hb dX2_add_8 rfl (lv_at hl 1 rfl) ?_
  refine lv_aload_n hx hb dX2_add_9 rfl (lv_at hl 2 rfl) ?_
  refine lv_aload_n hx hb dX2_add_10 rfl (lv_at hl 0 rfl) ?_
  refine lv_aload_n hx hb dX2_add_11 rfl (lv_at hl 1 rfl) ?_
  refine va_getN (D := D) (ci := 4) (v := .int (nI i)) (C := RX5) (T := TX5) (N := 15) hx hb hts iX5 hown hK (va_P_one (hW1.obj (Or.inl hp))) 0 rfl rfl 1 (by decide) (zk_tab rfl (hN _ wr835 rfl)) (fun _ h9 => h9) rfl dX2_add_12 ?_
  refine va_callq (va_runV (As := [.int (nI i)]) (rest := [.ref lg, .ref pl, .ref H.size, .ref H.size, .ref lst]) ⟨hx, hb, hml, hown, hts⟩ (x_chan l (n := L.length) (x4 := 4) (Or.inl hg) hl1 hiA (by omega) (Or.inl hstA) (Or.inl hoA) hcA hLCA (fun y hy => by obtain ⟨z1, z2, z3, z4, z5⟩ := hEA y hy; exact ⟨z1, z2, z3, z4, Or.inl z5⟩)) (cwV 1 hts (lw_V wq924 wq926 ws28 wq2 wq927) rfl rfl rfl (by decide +kernel) ⟨(Nat.le_of_ble_eq_true rfl), (Nat.le_of_ble_eq_true rfl)⟩) (px_V hC hW1 hS1 hA (hW1.obj (Or.inl hg)) rfl) rfl rfl hl.1 rfl (lv_room (Nat.le_of_ble_eq_true rfl)) dX2_add_15 ⟨(Nat.le_of_ble_eq_true rfl), (Nat.le_of_ble_eq_true rfl)⟩) hS1 (fun _ _ h => h) (fun _ h => h) (fun r1 own2 t2 H2 locs2 ht2 hvm2 hw2 hB2 hz2 hk2 hS2 => ?_)
  obtain ⟨ho2, hW2⟩ := hB2
  rw [ht2] at hW2
  rw [show r1 = some H1.size from hw2]
  refine zk_tv (y := .ref H1.size) rfl ?_
  refine lv_aload_n hx hb dX2_add_18 rfl (lv_at hl 0 rfl) ?_
  refine lv_aload_n hx hb dX2_add_19 rfl (lv_at hl 1 rfl) ?_
  refine va_getN (D := D) (ci := 4) (v := .int (nI j)) (C := RX5) (T := TX5) (N := 15) hx hb hts iX5 hown hK (va_P_one (hW2.obj (Or.inl (Or.inl hp)))) 0 rfl rfl 2 (by decide) (zk_tab rfl (hN _ wr838 rfl)) (fun _ h9 => h9) rfl dX2_add_20 ?_
  refine va_callq (va_runV (As := [.int (nI j)]) (rest := [.ref H1.size, .ref lg, .ref pl, .ref H.size, .ref H.size, .ref lst]) ⟨hx, hb, hml, hown, hts⟩ (x_chan l (n := L.length) (x4 := 5) (Or.inl (Or.inl hg)) (Or.inl ⟨hl1, (fun h9 => absurd h9.1 (by decide))⟩) hiB (by omega) (Or.inl (Or.inl hstB)) (Or.inl (Or.inl hoB)) (Or.inl ⟨hcB, (fun h9 => hij h9.2.2.symm)⟩) hLCB (fun y hy => by obtain ⟨z1, z2, z3, z4, z5⟩ := hEB y hy; exact ⟨z1, z2, z3, z4, (Or.inl (Or.inl z5))⟩)) (cwV 1 hts (lw_V wq924 wq926 ws28 wq2 wq927) rfl rfl rfl (by decide +kernel) ⟨(Nat.le_of_ble_eq_true rfl), (Nat.le_of_ble_eq_true rfl)⟩) (px_V hC hW2 hS2 hA (hW2.obj (Or.inl (Or.inl hg))) rfl) rfl rfl hl.1 rfl (lv_room (Nat.le_of_ble_eq_true rfl)) dX2_add_23 ⟨(Nat.le_of_ble_eq_true rfl), (Nat.le_of_ble_eq_true rfl)⟩) hS2 (fun _ _ h => h) (fun _ h => h) (fun r2 own3 t3 H3 locs3 ht3 hvm3 hw3 hB3 hz3 hk3 hS3 => ?_)
  obtain ⟨ho3, hW3⟩ := hB3
  rw [ht3] at hW3
  rw [show r2 = some H2.size from hw3]
  refine zk_tv (y := .ref H2.size) rfl ?_
  refine lv_aload_n hx hb dX2_add_26 rfl (lv_at hl 0 rfl) ?_
  refine va_get (D := D) (ci := 2) (v := .int 0) (C := RX2) (T := TX2) (N := 8) hx hb hts iX2 hown hK (va_P_one (hW3.obj (Or.inl (Or.inl (Or.inl hg))))) 0 rfl rfl 0 (by decide) (hts _ wq67) (fun _ h9 => h9) rfl dX2_add_27 ?_
  have hA3 : ∀ q, H3.size ≤ q → A q := fun q hq => hA q (Nat.le_trans hS3.1 hq)
  refine va_callv (va_runI (As := [.ref pl, .ref lg, .ref H1.size, .ref H2.size, .int 0]) (rest := [.ref H.size, .ref lst]) ⟨hx, hb, hml, hown, hts⟩ (kX8_init_2 l D yc e0 H3.size H.size pl lg H1.size H2.size) (cwI 5 hts (lw_C wq1005) rfl rfl rfl (hts _ wq16) (hts _ wq1003) (hts _ wq1004) rfl (by decide +kernel) ⟨(Nat.le_of_ble_eq_true rfl), (Nat.le_of_ble_eq_true rfl)⟩) (zk_pS (A := A) hC (va_P_one (hW3.obj (Or.inl (Or.inl (Or.inr ⟨⟨rfl, rfl, rfl⟩, rfl, rfl⟩))))) (xda hAs) hS3 hA [0] rfl rfl) rfl rfl hl.1 rfl (lv_room (Nat.le_of_ble_eq_true rfl)) dX2_add_30 ⟨(Nat.le_of_ble_eq_true rfl), (Nat.le_of_ble_eq_true rfl)⟩) hS3 (fun q _ h => xfa hAs hA3 q h) (xfa hAs hA3) (fun u t4 H4 locs4 ht4 hvm4 hw4 hB4 hz4 hk4 hS4 => ?_)
  obtain ⟨hP4, hD4⟩ := hB4
  rw [ht4] at hP4
  obtain ⟨own4, ho4, hW4⟩ := hW3.block (H1 := H4) (Or.inl (Or.inl (Or.inr ⟨⟨rfl, rfl, rfl⟩, rfl, rfl⟩))) (sblk yc e0 u H.size pl lg (.ref H1.size) (.ref H2.size) (.int 0)) (stag 0 L.length) (fun q h1 h2 => hk4 q h1 (xna h1 h2)) hP4 hD4 (xfa hAs hA3) _ rfl rfl
  have hll : True := trivial
  obtain ⟨mc9, x9, ho9⟩ := hW4.lobj (Or.inl (Or.inl ⟨(Or.inl ⟨hl1, (fun h9 => absurd h9.1 (by decide))⟩), (fun h9 => absurd h9.1 (by decide))⟩))
  refine va_calli (va_runV (As := [.ref H.size]) (rest := []) ⟨hx, hb, hml, hown, hts⟩ (x_add_7 l (kdv := 2) (flv := 0) (kv := L.length) (Or.inl (Or.inl ⟨(Or.inl ⟨hl1, (fun h9 => absurd h9.1 (by decide))⟩), (fun h9 => absurd h9.1 (by decide))⟩)) (by omega) (Or.inr ⟨0, rfl, rfl⟩) (fun y hy => ?_)) (cwV 1 hts (lw_V wq1154 wq952 wq953 wq5 wq954) rfl rfl rfl (by decide +kernel) ⟨(Nat.le_of_ble_eq_true rfl), (Nat.le_of_ble_eq_true rfl)⟩) (px_V hC hW4 hS4 hA ho9 rfl) rfl rfl hl.1 rfl (lv_room (Nat.le_of_ble_eq_true rfl)) dX2_add_33 ⟨(Nat.le_of_ble_eq_true rfl), (Nat.le_of_ble_eq_true rfl)⟩) hS4 (fun _ _ h => h) (fun _ h => h) (fun r5 own5 t5 H5 locs5 ht5 hvm5 hw5 hB5 hz5 hk5 hS5 => ?_)
  · obtain ⟨kd, fl1, k1, fs1, h9⟩ := hEL y hy
    have := (hW.obj h9).lt
    simp only at this
    have hne : ¬ y = H.size := by omega
    exact ⟨hne, kd, fl1, k1, fs1, Or.inl ⟨(Or.inl (Or.inl (Or.inl h9))), hne⟩⟩
  obtain ⟨ho5, hW5⟩ := hB5
  rw [ht5] at hW5
  refine lv_pop hx hb dX2_add_36 rfl ?_
  have hlt : ∀ kd fl k a e, ob kd fl k a e → ¬ a = H.size := fun kd fl k a e q h9 => by
    have := (hW.obj q).lt
    rw [h9] at this
    exact absurd this (Nat.lt_irrefl _)
  exact W.widen (Nat.le_of_ble_eq_true rfl) (Nat.le_of_ble_eq_true rfl) (W.vret hx hb hr (fun t ht hW9 => ⟨⟨(u, own5, H1.size, H2.size), rfl, ⟨by dsimp only; omega, by dsimp only; omega⟩, fun q hq => (ho5 q (by omega)).trans ((ho4 q (by omega)).trans ((ho3 q (by omega)).trans ((ho2 q (by omega)).trans (ho1 q hq)))), by rw [ht]; exact hW5.mono (fun kd fl k a e q => q.elim (fun q => Or.inl ⟨(Or.inl (Or.inl (Or.inl q))), hlt _ _ _ _ _ q⟩) (fun q => q.elim (fun q => q.elim (fun q => Or.inl ⟨Or.inl (Or.inr q), fun h9 => by have h8 := q.2.1; dsimp only at h8; omega⟩) (fun q => Or.inl ⟨Or.inr q, fun h9 => by have h8 := q.2.1; dsimp only at h8; omega⟩)) Or.inr)) (fun _ _ q => q) (fun _ _ _ _ _ q => q)⟩, hS5.F ht⟩) hS5.2.2 dX2_add_37 hlk)
set_option maxHeartbeats 4000000 in
set_option maxRecDepth 100000 in
theorem x_fadd_10 (l : Launch) {D : va_G} {yc : Nat → ClassId} {e0 : Nat} {A : Nat → Prop} {own : TO} {ob : XO} {rw : XR} {ls : XL} {sz : Nat} {i j g lst pl lg np : Nat} {t2 t3 t4 t5 t6 t7 p0 p3 p4 p5 p6 p7 p8 p9 p10 p11 p12 p13 p14 : Value} {L : List Nat} (hg : ob 6 1 0 g (2, [.int 1, .ref lst, t2, t3, t4, t5, t6, t7])) (hl1 : ls 0 1 0 lst L) (hLL : L.length ≤ 11) (hEL : ∀ y ∈ L, ∃ kd fl k fs, ob kd fl k y (7, fs)) (hp : ob 8 0 np pl (4, [p0, .int (-1), .int (-1), p3, p4, p5, p6, p7, p8, p9, p10, p11, p12, p13, p14])) : Met l yX2_add (ws_ yX2_add cX2_add 3 none) { frames := 9, cells := 42, slots := 262, locals := 300 } (PX D yc e0 A own ob rw ls sz [.ref g, .ref pl, .ref lg]) (va_Qv (fun u : (Nat → Nat → Nat) × TO × Nat × Nat => sz < u.2.2.1 ∧ sz < u.2.2.2) (fun u t => (∀ q, q < sz → u.2.1 q = own q) ∧ WX D yc e0 A u.2.1 (fun kd fl k a e => ob kd fl k a e ∨ False ∨ blo (sblk yc e0 u.1 sz pl lg .null .null (.int 1)) (stag 1 L.length) kd fl k a e) (fun i r => rw i r ∨ blr yc (sblk yc e0 u.1 sz pl lg .null .null (.int 1)) (stag 1 L.length) i r) (lsadd (fun b fl k a L1 => ls b fl k a L1 ∨ bll e0 (sblk yc e0 u.1 sz pl lg .null .null (.int 1)) (stag 1 L.length) b fl k a L1) 0 1 0 lst (L ++ [sz])) t.heap) A) 42 262 A := by
  refine xk_M (by decide) (Nat.le_of_ble_eq_true rfl) ?_
  intro p e s m args below meth c ls hx hb hml hr hlk hown hts hW hz hS hA hC hl
  have hK := hC.1
  have hN := hC.2.1
  have hl : lv_has ls 3 [(0, .ref g), (1, .ref pl), (2, .ref lg)] := hl
  generalize hHH : s.heap = H at hW ⊢
  have hS : va_S A s.heap H [] := by rw [← hHH]; exact hS
  have hz : H.size = sz := by rw [← hHH]; exact hz
  subst hz
  refine lv_aload_n hx hb dX2_add_0 rfl (lv_at hl 0 rfl) ?_
  refine va_get (D := D) (ci := 2) (v := .ref lst) (C := RX2) (T := TX2) (N := 8) hx hb hts iX2 hown hK (va_P_one (hW.obj hg)) 0 rfl rfl 1 (by decide) (hts _ wq68) (fun _ h9 => h9) rfl dX2_add_1 ?_
  refine x_new (ci := 7) (fs := [.null, .null, .null, .null, .int 0, .null, .null, .null, .null, .null, .int 0, .int 0]) (C := RX8) (T := TX8) (N := 12) hx hb hts iX8 tyX8 tyX8_ok hown (hts _ wq241) (hts _ wq406) (hts _ wq16) hK rfl dfX8 (Nat.le_of_ble_eq_true rfl) (Nat.le_of_ble_eq_true rfl) dX2_add_4 (fun H1 hz1 hk1 hb1 => ?_)
  have hAs : A H.size := hA _ hS.1
  have hS1 : va_S A s.heap H1 [] := ⟨Nat.le_trans hS.1 (by omega), fun q h1 h2 => (hk1 q (Nat.lt_of_lt_of_le h1 hS.1)).trans (hS.2.1 q h1 h2), hS.2.2⟩
  obtain ⟨own1, ho1, hW1⟩ := hW.add hk1 hb1 hAs 2 1 L.length
  refine lv_dup hx hb dX2_add_7 rfl ?_
  refine lv_aload_n hx hb dX2_add_8 rfl (lv_at hl 1 rfl) ?_
  refine lv_aload_n hx hb dX2_add_9 rfl (lv_at hl 2 rfl) ?_
  refine lv_aload_n hx hb dX2_add_10 rfl (lv_at hl 0 rfl) ?_
  refine lv_aload_n hx hb dX2_add_11 rfl (lv_at hl 1 rfl) ?_
  refine va_getN (D := D) (ci := 4) (v := .int (-1)) (C := RX5) (T := TX5) (N := 15) hx hb hts iX5 hown hK (va_P_one (hW1.obj (Or.inl hp))) 0 rfl rfl 1 (by decide) (zk_tab rfl (hN _ wr835 rfl)) (fun _ h9 => h9) rfl dX2_add_12 ?_
  refine zr_q (va_runV (As := [.int (-1)]) (rest := [.ref lg, .ref pl, .ref H.size, .ref H.size, .ref lst]) ⟨hx, hb, hml, hown, hts⟩ (x_chan0 l (Or.inl hg) (by decide)) (cwV 1 hts (lw_V wq924 wq926 ws28 wq2 wq927) rfl rfl rfl (by decide +kernel) ⟨(Nat.le_of_ble_eq_true rfl), (Nat.le_of_ble_eq_true rfl)⟩) (px_V hC hW1 hS1 hA (hW1.obj (Or.inl hg)) rfl) rfl rfl hl.1 rfl (lv_room (Nat.le_of_ble_eq_true rfl)) dX2_add_15 ⟨(Nat.le_of_ble_eq_true rfl), (Nat.le_of_ble_eq_true rfl)⟩) ?_
  refine lv_aload_n hx hb dX2_add_18 rfl (lv_at hl 0 rfl) ?_
  refine lv_aload_n hx hb dX2_add_19 rfl (lv_at hl 1 rfl) ?_
  refine va_getN (D := D) (ci := 4) (v := .int (-1)) (C := RX5) (T := TX5) (N := 15) hx hb hts iX5 hown hK (va_P_one (hW1.obj (Or.inl hp))) 0 rfl rfl 2 (by decide) (zk_tab rfl (hN _ wr838 rfl)) (fun _ h9 => h9) rfl dX2_add_20 ?_
  refine zr_q (va_runV (As := [.int (-1)]) (rest := [.null, .ref lg, .ref pl, .ref H.size, .ref H.size, .ref lst]) ⟨hx, hb, hml, hown, hts⟩ (x_chan0 l (Or.inl hg) (by decide)) (cwV 1 hts (lw_V wq924 wq926 ws28 wq2 wq927) rfl rfl rfl (by decide +kernel) ⟨(Nat.le_of_ble_eq_true rfl), (Nat.le_of_ble_eq_true rfl)⟩) (px_V hC hW1 hS1 hA (hW1.obj (Or.inl hg)) rfl) rfl rfl hl.1 rfl (lv_room (Nat.le_of_ble_eq_true rfl)) dX2_add_23 ⟨(Nat.le_of_ble_eq_true rfl), (Nat.le_of_ble_eq_true rfl)⟩) ?_
  refine lv_aload_n hx hb dX2_add_26 rfl (lv_at hl 0 rfl) ?_
  refine va_get (D := D) (ci := 2) (v := .int 1) (C := RX2) (T := TX2) (N := 8) hx hb hts iX2 hown hK (va_P_one (hW1.obj (Or.inl hg))) 0 rfl rfl 0 (by decide) (hts _ wq67) (fun _ h9 => h9) rfl dX2_add_27 ?_
  have hA3 : ∀ q, H1.size ≤ q → A q := fun q hq => hA q (Nat.le_trans hS1.1 hq)
  refine va_callv (va_runI (As := [.ref pl, .ref lg, .null, .null, .int 1]) (rest := [.ref H.size, .ref lst]) ⟨hx, hb, hml, hown, hts⟩ (kX8_init_3 l D yc e0 H1.size H.size pl lg) (cwI 5 hts (lw_C wq1005) rfl rfl rfl (hts _ wq16) (hts _ wq1003) (hts _ wq1004) rfl (by decide +kernel) ⟨(Nat.le_of_ble_eq_true rfl), (Nat.le_of_ble_eq_true rfl)⟩) (zk_pS (A := A) hC (va_P_one (hW1.obj (Or.inr ⟨⟨rfl, rfl, rfl⟩, rfl, rfl⟩))) (xda hAs) hS1 hA [0] rfl rfl) rfl rfl hl.1 rfl (lv_room (Nat.le_of_ble_eq_true rfl)) dX2_add_30 ⟨(Nat.le_of_ble_eq_true rfl), (Nat.le_of_ble_eq_true rfl)⟩) hS1 (fun q _ h => xfa hAs hA3 q h) (xfa hAs hA3) (fun u t4 H4 locs4 ht4 hvm4 hw4 hB4 hz4 hk4 hS4 => ?_)
  obtain ⟨hP4, hD4⟩ := hB4
  rw [ht4] at hP4
  obtain ⟨own4, ho4, hW4⟩ := hW1.block (H1 := H4) (Or.inr ⟨⟨rfl, rfl, rfl⟩, rfl, rfl⟩) (sblk yc e0 u H.size pl lg .null .null (.int 1)) (stag 1 L.length) (fun q h1 h2 => hk4 q h1 (xna h1 h2)) hP4 hD4 (xfa hAs hA3) _ rfl rfl
  have hll : True := trivial
  obtain ⟨mc9, x9, ho9⟩ := hW4.lobj (Or.inl hl1)
  refine va_calli (va_runV (As := [.ref H.size]) (rest := []) ⟨hx, hb, hml, hown, hts⟩ (x_add_7 l (kdv := 2) (flv := 1) (kv := L.length) (Or.inl hl1) (by omega) (Or.inr ⟨0, rfl, rfl⟩) (fun y hy => ?_)) (cwV 1 hts (lw_V wq1154 wq952 wq953 wq5 wq954) rfl rfl rfl (by decide +kernel) ⟨(Nat.le_of_ble_eq_true rfl), (Nat.le_of_ble_eq_true rfl)⟩) (px_V hC hW4 hS4 hA ho9 rfl) rfl rfl hl.1 rfl (lv_room (Nat.le_of_ble_eq_true rfl)) dX2_add_33 ⟨(Nat.le_of_ble_eq_true rfl), (Nat.le_of_ble_eq_true rfl)⟩) hS4 (fun _ _ h => h) (fun _ h => h) (fun r5 own5 t5 H5 locs5 ht5 hvm5 hw5 hB5 hz5 hk5 hS5 => ?_)
  · obtain ⟨kd, fl1, k1, fs1, h9⟩ := hEL y hy
    have := (hW.obj h9).lt
    simp only at this
    have hne : ¬ y = H.size := by omega
    exact ⟨hne, kd, fl1, k1, fs1, Or.inl ⟨(Or.inl h9), hne⟩⟩
  obtain ⟨ho5, hW5⟩ := hB5
  rw [ht5] at hW5
  refine lv_pop hx hb dX2_add_36 rfl ?_
  have hlt : ∀ kd fl k a e, ob kd fl k a e → ¬ a = H.size := fun kd fl k a e q h9 => by
    have := (hW.obj q).lt
    rw [h9] at this
    exact absurd this (Nat.lt_irrefl _)
  exact W.widen (Nat.le_of_ble_eq_true rfl) (Nat.le_of_ble_eq_true rfl) (W.vret hx hb hr (fun t ht hW9 => ⟨⟨(u, own5, H1.size, H1.size), rfl, ⟨by dsimp only; omega, by dsimp only; omega⟩, fun q hq => (ho5 q (by omega)).trans ((ho4 q (by omega)).trans (ho1 q hq)), by rw [ht]; exact hW5.mono (fun kd fl k a e q => q.elim (fun q => Or.inl ⟨(Or.inl q), hlt _ _ _ _ _ q⟩) (fun q => q.elim (False.elim) Or.inr)) (fun _ _ q => q) (fun _ _ _ _ _ q => q)⟩, hS5.F ht⟩) hS5.2.2 dX2_add_37 hlk)
set_option maxHeartbeats 4000000 in
set_option maxRecDepth 100000 in
theorem x_fadd_11 (l : Launch) {D : va_G} {yc : Nat → ClassId} {e0 : Nat} {A : Nat → Prop} {own : TO} {ob : XO} {rw : XR} {ls : XL} {sz : Nat} {i j g lst pl lg np : Nat} {t2 t3 t4 t5 t6 t7 p0 p3 p4 p5 p6 p7 p8 p9 p10 p11 p12 p13 p14 : Value} {L : List Nat} (hg : ob 6 1 0 g (2, [.int 1, .ref lst, t2, t3, t4, t5, t6, t7])) (hl1 : ls 0 1 0 lst L) (hLL : L.length ≤ 11) (hEL : ∀ y ∈ L, ∃ kd fl k fs, ob kd fl k y (7, fs)) (hp : ob 8 0 np pl (4, [p0, .int (nI i), .int (-1), p3, p4, p5, p6, p7, p8, p9, p10, p11, p12, p13, p14])) {oA irA clA : Nat} {a0A a1A a2A a3A a4A a6A a7A a8A a9A a10A a11A : Value} {LCA : List Nat} (hiA : i < L.length) (hstA : ob 2 1 i L[i] (7, [a0A, a1A, a2A, a3A, a4A, .ref oA, a6A, a7A, a8A, a9A, a10A, a11A])) (hoA : ob 3 1 i oA (3, [.ref irA, .ref clA])) (hcA : ls 1 1 i clA LCA) (hLCA : LCA.length ≤ 12) (hEA : ∀ y ∈ LCA, ∃ kd fl k fs, ob kd fl k y (1, fs)) : Met l yX2_add (ws_ yX2_add cX2_add 3 none) { frames := 9, cells := 42, slots := 262, locals := 300 } (PX D yc e0 A own ob rw ls sz [.ref g, .ref pl, .ref lg]) (va_Qv (fun u : (Nat → Nat → Nat) × TO × Nat × Nat => sz < u.2.2.1 ∧ sz < u.2.2.2) (fun u t => (∀ q, q < sz → u.2.1 q = own q) ∧ WX D yc e0 A u.2.1 (fun kd fl k a e => ob kd fl k a e ∨ ((kd = 4 ∧ fl = 1 ∧ k = L.length) ∧ a = u.2.2.1 ∧ e = (1, [.ref irA, .int 0, .int 0])) ∨ blo (sblk yc e0 u.1 sz pl lg (.ref u.2.2.1) .null (.int 1)) (stag 1 L.length) kd fl k a e) (fun i r => rw i r ∨ blr yc (sblk yc e0 u.1 sz pl lg (.ref u.2.2.1) .null (.int 1)) (stag 1 L.length) i r) (lsadd (fun b fl k a L1 => (lsadd ls 1 1 i clA (LCA ++ [u.2.2.1])) b fl k a L1 ∨ bll e0 (sblk yc e0 u.1 sz pl lg (.ref u.2.2.1) .null (.int 1)) (stag 1 L.length) b fl k a L1) 0 1 0 lst (L ++ [sz])) t.heap) A) 42 262 A := by
  refine xk_M (by decide) (Nat.le_of_ble_eq_true rfl) ?_
  intro p e s m args below meth c ls hx hb hml hr hlk hown hts hW hz hS hA hC hl
  have hK := hC.1
  have hN := hC.2.1
  have hl : lv_has ls 3 [(0, .ref g), (1, .ref pl), (2, .ref lg)] := hl
  generalize hHH : s.heap = H at hW ⊢
  have hS : va_S A s.heap H [] := by rw [← hHH]; exact hS
  have hz : H.size = sz := by rw [← hHH]; exact hz
  subst hz
  refine lv_aload_n hx hb dX2_add_0 rfl (lv_at hl 0 rfl) ?_
  refine va_get (D := D) (ci := 2) (v := .ref lst) (C := RX2) (T := TX2) (N := 8) hx hb hts iX2 hown hK (va_P_one (hW.obj hg)) 0 rfl rfl 1 (by decide) (hts _ wq68) (fun _ h9 => h9) rfl dX2_add_1 ?_
  refine x_new (ci := 7) (fs := [.null, .null, .null, .null, .int 0, .null, .null, .null, .null, .null, .int 0, .int 0]) (C := RX8) (T := TX8) (N := 12) hx hb hts iX8 tyX8 tyX8_ok hown (hts _ wq241) (hts _ wq406) (hts _ wq16) hK rfl dfX8 (Nat.le_of_ble_eq_true rfl) (Nat.le_of_ble_eq_true rfl) dX2_add_4 (fun H1 hz1 hk1 hb1 => ?_)
  have hAs : A H.size := hA _ hS.1
  have hS1 : va_S A s.heap H1 [] := ⟨Nat.le_trans hS.1 (by omega), fun q h1 h2 => (hk1 q (Nat.lt_of_lt_of_le h1 hS.1)).trans (hS.2.1 q h1 h2), hS.2.2⟩
  obtain ⟨own1, ho1, hW1⟩ := hW.add hk1 hb1 hAs 2 1 L.length
  refine lv_dup hx hb dX2_add_7 rfl ?_
  refine lv_aload_n hx hb dX2_add_8 rfl (lv_at hl 1 rfl) ?_
  refine lv_aload_n hx hb dX2_add_9 rfl (lv_at hl 2 rfl) ?_
  refine lv_aload_n hx hb dX2_add_10 rfl (lv_at hl 0 rfl) ?_
  refine lv_aload_n hx hb dX2_add_11 rfl (lv_at hl 1 rfl) ?_
  refine va_getN (D := D) (ci := 4) (v := .int (nI i)) (C := RX5) (T := TX5) (N := 15) hx hb hts iX5 hown hK (va_P_one (hW1.obj (Or.inl hp))) 0 rfl rfl 1 (by decide) (zk_tab rfl (hN _ wr835 rfl)) (fun _ h9 => h9) rfl dX2_add_12 ?_
  refine va_callq (va_runV (As := [.int (nI i)]) (rest := [.ref lg, .ref pl, .ref H.size, .ref H.size, .ref lst]) ⟨hx, hb, hml, hown, hts⟩ (x_chan l (n := L.length) (x4 := 4) (Or.inl hg) hl1 hiA (by omega) (Or.inl hstA) (Or.inl hoA) hcA hLCA (fun y hy => by obtain ⟨z1, z2, z3, z4, z5⟩ := hEA y hy; exact ⟨z1, z2, z3, z4, Or.inl z5⟩)) (cwV 1 hts (lw_V wq924 wq926 ws28 wq2 wq927) rfl rfl rfl (by decide +kernel) ⟨(Nat.le_of_ble_eq_true rfl), (Nat.le_of_ble_eq_true rfl)⟩) (px_V hC hW1 hS1 hA (hW1.obj (Or.inl hg)) rfl) rfl rfl hl.1 rfl (lv_room (Nat.le_of_ble_eq_true rfl)) dX2_add_15 ⟨(Nat.le_of_ble_eq_true rfl), (Nat.le_of_ble_eq_true rfl)⟩) hS1 (fun _ _ h => h) (fun _ h => h) (fun r1 own2 t2 H2 locs2 ht2 hvm2 hw2 hB2 hz2 hk2 hS2 => ?_)
  obtain ⟨ho2, hW2⟩ := hB2
  rw [ht2] at hW2
  rw [show r1 = some H1.size from hw2]
  refine zk_tv (y := .ref H1.size) rfl ?_
  refine lv_aload_n hx hb dX2_add_18 rfl (lv_at hl 0 rfl) ?_
  refine lv_aload_n hx hb dX2_add_19 rfl (lv_at hl 1 rfl) ?_
  refine va_getN (D := D) (ci := 4) (v := .int (-1)) (C := RX5) (T := TX5) (N := 15) hx hb hts iX5 hown hK (va_P_one (hW2.obj (Or.inl (Or.inl hp)))) 0 rfl rfl 2 (by decide) (zk_tab rfl (hN _ wr838 rfl)) (fun _ h9 => h9) rfl dX2_add_20 ?_
  refine zr_q (va_runV (As := [.int (-1)]) (rest := [.ref H1.size, .ref lg, .ref pl, .ref H.size, .ref H.size, .ref lst]) ⟨hx, hb, hml, hown, hts⟩ (x_chan0 l (Or.inl (Or.inl hg)) (by decide)) (cwV 1 hts (lw_V wq924 wq926 ws28 wq2 wq927) rfl rfl rfl (by decide +kernel) ⟨(Nat.le_of_ble_eq_true rfl), (Nat.le_of_ble_eq_true rfl)⟩) (px_V hC hW2 hS2 hA (hW2.obj (Or.inl (Or.inl hg))) rfl) rfl rfl hl.1 rfl (lv_room (Nat.le_of_ble_eq_true rfl)) dX2_add_23 ⟨(Nat.le_of_ble_eq_true rfl), (Nat.le_of_ble_eq_true rfl)⟩) ?_
  refine lv_aload_n hx hb dX2_add_26 rfl (lv_at hl 0 rfl) ?_
  refine va_get (D := D) (ci := 2) (v := .int 1) (C := RX2) (T := TX2) (N := 8) hx hb hts iX2 hown hK (va_P_one (hW2.obj (Or.inl (Or.inl hg)))) 0 rfl rfl 0 (by decide) (hts _ wq67) (fun _ h9 => h9) rfl dX2_add_27 ?_
  have hA3 : ∀ q, H2.size ≤ q → A q := fun q hq => hA q (Nat.le_trans hS2.1 hq)
  refine va_callv (va_runI (As := [.ref pl, .ref lg, .ref H1.size, .null, .int 1]) (rest := [.ref H.size, .ref lst]) ⟨hx, hb, hml, hown, hts⟩ (kX8_init_4 l D yc e0 H2.size H.size pl lg H1.size) (cwI 5 hts (lw_C wq1005) rfl rfl rfl (hts _ wq16) (hts _ wq1003) (hts _ wq1004) rfl (by decide +kernel) ⟨(Nat.le_of_ble_eq_true rfl), (Nat.le_of_ble_eq_true rfl)⟩) (zk_pS (A := A) hC (va_P_one (hW2.obj (Or.inl (Or.inr ⟨⟨rfl, rfl, rfl⟩, rfl, rfl⟩)))) (xda hAs) hS2 hA [0] rfl rfl) rfl rfl hl.1 rfl (lv_room (Nat.le_of_ble_eq_true rfl)) dX2_add_30 ⟨(Nat.le_of_ble_eq_true rfl), (Nat.le_of_ble_eq_true rfl)⟩) hS2 (fun q _ h => xfa hAs hA3 q h) (xfa hAs hA3) (fun u t4 H4 locs4 ht4 hvm4 hw4 hB4 hz4 hk4 hS4 => ?_)
  obtain ⟨hP4, hD4⟩ := hB4
  rw [ht4] at hP4
  obtain ⟨own4, ho4, hW4⟩ := hW2.block (H1 := H4) (Or.inl (Or.inr ⟨⟨rfl, rfl, rfl⟩, rfl, rfl⟩)) (sblk yc e0 u H.size pl lg (.ref H1.size) .null (.int 1)) (stag 1 L.length) (fun q h1 h2 => hk4 q h1 (xna h1 h2)) hP4 hD4 (xfa hAs hA3) _ rfl rfl
  have hll : True := trivial
  obtain ⟨mc9, x9, ho9⟩ := hW4.lobj (Or.inl (Or.inl ⟨hl1, (fun h9 => absurd h9.1 (by decide))⟩))
  refine va_calli (va_runV (As := [.ref H.size]) (rest := []) ⟨hx, hb, hml, hown, hts⟩ (x_add_7 l (kdv := 2) (flv := 1) (kv := L.length) (Or.inl (Or.inl ⟨hl1, (fun h9 => absurd h9.1 (by decide))⟩)) (by omega) (Or.inr ⟨0, rfl, rfl⟩) (fun y hy => ?_)) (cwV 1 hts (lw_V wq1154 wq952 wq953 wq5 wq954) rfl rfl rfl (by decide +kernel) ⟨(Nat.le_of_ble_eq_true rfl), (Nat.le_of_ble_eq_true rfl)⟩) (px_V hC hW4 hS4 hA ho9 rfl) rfl rfl hl.1 rfl (lv_room (Nat.le_of_ble_eq_true rfl)) dX2_add_33 ⟨(Nat.le_of_ble_eq_true rfl), (Nat.le_of_ble_eq_true rfl)⟩) hS4 (fun _ _ h => h) (fun _ h => h) (fun r5 own5 t5 H5 locs5 ht5 hvm5 hw5 hB5 hz5 hk5 hS5 => ?_)
  · obtain ⟨kd, fl1, k1, fs1, h9⟩ := hEL y hy
    have := (hW.obj h9).lt
    simp only at this
    have hne : ¬ y = H.size := by omega
    exact ⟨hne, kd, fl1, k1, fs1, Or.inl ⟨(Or.inl (Or.inl h9)), hne⟩⟩
  obtain ⟨ho5, hW5⟩ := hB5
  rw [ht5] at hW5
  refine lv_pop hx hb dX2_add_36 rfl ?_
  have hlt : ∀ kd fl k a e, ob kd fl k a e → ¬ a = H.size := fun kd fl k a e q h9 => by
    have := (hW.obj q).lt
    rw [h9] at this
    exact absurd this (Nat.lt_irrefl _)
  exact W.widen (Nat.le_of_ble_eq_true rfl) (Nat.le_of_ble_eq_true rfl) (W.vret hx hb hr (fun t ht hW9 => ⟨⟨(u, own5, H1.size, H1.size), rfl, ⟨by dsimp only; omega, by dsimp only; omega⟩, fun q hq => (ho5 q (by omega)).trans ((ho4 q (by omega)).trans ((ho2 q (by omega)).trans (ho1 q hq))), by rw [ht]; exact hW5.mono (fun kd fl k a e q => q.elim (fun q => Or.inl ⟨(Or.inl (Or.inl q)), hlt _ _ _ _ _ q⟩) (fun q => q.elim (fun q => Or.inl ⟨Or.inr q, fun h9 => by have h8 := q.2.1; dsimp only at h8; omega⟩) Or.inr)) (fun _ _ q => q) (fun _ _ _ _ _ q => q)⟩, hS5.F ht⟩) hS5.2.2 dX2_add_37 hlk)
set_option maxHeartbeats 4000000 in
set_option maxRecDepth 100000 in
theorem x_fadd_12 (l : Launch) {D : va_G} {yc : Nat → ClassId} {e0 : Nat} {A : Nat → Prop} {own : TO} {ob : XO} {rw : XR} {ls : XL} {sz : Nat} {i j g lst pl lg np : Nat} {t2 t3 t4 t5 t6 t7 p0 p3 p4 p5 p6 p7 p8 p9 p10 p11 p12 p13 p14 : Value} {L : List Nat} (hg : ob 6 1 0 g (2, [.int 1, .ref lst, t2, t3, t4, t5, t6, t7])) (hl1 : ls 0 1 0 lst L) (hLL : L.length ≤ 11) (hEL : ∀ y ∈ L, ∃ kd fl k fs, ob kd fl k y (7, fs)) (hp : ob 8 0 np pl (4, [p0, .int (nI i), .int (nI j), p3, p4, p5, p6, p7, p8, p9, p10, p11, p12, p13, p14])) {oA irA clA : Nat} {a0A a1A a2A a3A a4A a6A a7A a8A a9A a10A a11A : Value} {LCA : List Nat} (hiA : i < L.length) (hstA : ob 2 1 i L[i] (7, [a0A, a1A, a2A, a3A, a4A, .ref oA, a6A, a7A, a8A, a9A, a10A, a11A])) (hoA : ob 3 1 i oA (3, [.ref irA, .ref clA])) (hcA : ls 1 1 i clA LCA) (hLCA : LCA.length ≤ 12) (hEA : ∀ y ∈ LCA, ∃ kd fl k fs, ob kd fl k y (1, fs)) {oB irB clB : Nat} {a0B a1B a2B a3B a4B a6B a7B a8B a9B a10B a11B : Value} {LCB : List Nat} (hiB : j < L.length) (hstB : ob 2 1 j L[j] (7, [a0B, a1B, a2B, a3B, a4B, .ref oB, a6B, a7B, a8B, a9B, a10B, a11B])) (hoB : ob 3 1 j oB (3, [.ref irB, .ref clB])) (hcB : ls 1 1 j clB LCB) (hLCB : LCB.length ≤ 12) (hEB : ∀ y ∈ LCB, ∃ kd fl k fs, ob kd fl k y (1, fs)) (hij : i ≠ j) : Met l yX2_add (ws_ yX2_add cX2_add 3 none) { frames := 9, cells := 42, slots := 262, locals := 300 } (PX D yc e0 A own ob rw ls sz [.ref g, .ref pl, .ref lg]) (va_Qv (fun u : (Nat → Nat → Nat) × TO × Nat × Nat => sz < u.2.2.1 ∧ sz < u.2.2.2) (fun u t => (∀ q, q < sz → u.2.1 q = own q) ∧ WX D yc e0 A u.2.1 (fun kd fl k a e => ob kd fl k a e ∨ (((kd = 4 ∧ fl = 1 ∧ k = L.length) ∧ a = u.2.2.1 ∧ e = (1, [.ref irA, .int 0, .int 0])) ∨ ((kd = 5 ∧ fl = 1 ∧ k = L.length) ∧ a = u.2.2.2 ∧ e = (1, [.ref irB, .int 0, .int 0]))) ∨ blo (sblk yc e0 u.1 sz pl lg (.ref u.2.2.1) (.ref u.2.2.2) (.int 1)) (stag 1 L.length) kd fl k a e) (fun i r => rw i r ∨ blr yc (sblk yc e0 u.1 sz pl lg (.ref u.2.2.1) (.ref u.2.2.2) (.int 1)) (stag 1 L.length) i r) (lsadd (fun b fl k a L1 => (lsadd (lsadd ls 1 1 i clA (LCA ++ [u.2.2.1])) 1 1 j clB (LCB ++ [u.2.2.2])) b fl k a L1 ∨ bll e0 (sblk yc e0 u.1 sz pl lg (.ref u.2.2.1) (.ref u.2.2.2) (.int 1)) (stag 1 L.length) b fl k a L1) 0 1 0 lst (L ++ [sz])) t.heap) A) 42 262 A := by
  refine xk_M (by decide) (Nat.le_of_ble_eq_true rfl) ?_
  intro p e s m args below meth c ls hx hb hml hr hlk hown hts hW hz hS hA hC hl
  have hK := hC.1
  have hN := hC.2.1
  have hl : lv_has ls 3 [(0, .ref g), (1, .ref pl), (2, .ref lg)] := hl
  generalize hHH : s.heap = H at hW ⊢
  have hS : va_S A s.heap H [] := by rw [← hHH]; exact hS
  have hz : H.size = sz := by rw [← hHH]; exact hz
  subst hz
  refine lv_aload_n hx hb dX2_add_0 rfl (lv_at hl 0 rfl) ?_
  refine va_get (D := D) (ci := 2) (v := .ref lst) (C := RX2) (T := TX2) (N := 8) hx hb hts iX2 hown hK (va_P_one (hW.obj hg)) 0 rfl rfl 1 (by decide) (hts _ wq68) (fun _ h9 => h9) rfl dX2_add_1 ?_
  refine x_new (ci := 7) (fs := [.null, .null, .null, .null, .int 0, .null, .null, .null, .null, .null, .int 0, .int 0]) (C := RX8) (T := TX8) (N := 12) hx hb hts iX8 tyX8 tyX8_ok hown (hts _ wq241) (hts _ wq406) (hts _ wq16) hK rfl dfX8 (Nat.le_of_ble_eq_true rfl) (Nat.le_of_ble_eq_true rfl) dX2_add_4 (fun H1 hz1 hk1 hb1 => ?_)
  have hAs : A H.size := hA _ hS.1
  have hS1 : va_S A s.heap H1 [] := ⟨Nat.le_trans hS.1 (by omega), fun q h1 h2 => (hk1 q (Nat.lt_of_lt_of_le h1 hS.1)).trans (hS.2.1 q h1 h2), hS.2.2⟩
  obtain ⟨own1, ho1, hW1⟩ := hW.add hk1 hb1 hAs 2 1 L.length
  refine lv_dup hx hb dX2_add_7 rfl ?_
  refine lv_aload_n hx hb dX2_add_8 rfl (lv_at hl 1 rfl) ?_
  refine lv_aload_n hx hb dX2_add_9 rfl (lv_at hl 2 rfl) ?_
  refine lv_aload_n hx hb dX2_add_10 rfl (lv_at hl 0 rfl) ?_
  refine lv_aload_n hx hb dX2_add_11 rfl (lv_at hl 1 rfl) ?_
  refine va_getN (D := D) (ci := 4) (v := .int (nI i)) (C := RX5) (T := TX5) (N := 15) hx hb hts iX5 hown hK (va_P_one (hW1.obj (Or.inl hp))) 0 rfl rfl 1 (by decide) (zk_tab rfl (hN _ wr835 rfl)) (fun _ h9 => h9) rfl dX2_add_12 ?_
  refine va_callq (va_runV (As := [.int (nI i)]) (rest := [.ref lg, .ref pl, .ref H.size, .ref H.size, .ref lst]) ⟨hx, hb, hml, hown, hts⟩ (x_chan l (n := L.length) (x4 := 4) (Or.inl hg) hl1 hiA (by omega) (Or.inl hstA) (Or.inl hoA) hcA hLCA (fun y hy => by obtain ⟨z1, z2, z3, z4, z5⟩ := hEA y hy; exact ⟨z1, z2, z3, z4, Or.inl z5⟩)) (cwV 1 hts (lw_V wq924 wq926 ws28 wq2 wq927) rfl rfl rfl (by decide +kernel) ⟨(Nat.le_of_ble_eq_true rfl), (Nat.le_of_ble_eq_true rfl)⟩) (px_V hC hW1 hS1 hA (hW1.obj (Or.inl hg)) rfl) rfl rfl hl.1 rfl (lv_room (Nat.le_of_ble_eq_true rfl)) dX2_add_15 ⟨(Nat.le_of_ble_eq_true rfl), (Nat.le_of_ble_eq_true rfl)⟩) hS1 (fun _ _ h => h) (fun _ h => h) (fun r1 own2 t2 H2 locs2 ht2 hvm2 hw2 hB2 hz2 hk2 hS2 => ?_)
  obtain ⟨ho2, hW2⟩ := hB2
  rw [ht2] at hW2
  rw [show r1 = some H1.size from hw2]
  refine zk_tv (y := .ref H1.size) rfl ?_
  refine lv_aload_n hx hb dX2_add_18 rfl (lv_at hl 0 rfl) ?_
  refine lv_aload_n hx hb dX2_add_19 rfl (lv_at hl 1 rfl) ?_
  refine va_getN (D := D) (ci := 4) (v := .int (nI j)) (C := RX5) (T := TX5) (N := 15) hx hb hts iX5 hown hK (va_P_one (hW2.obj (Or.inl (Or.inl hp)))) 0 rfl rfl 2 (by decide) (zk_tab rfl (hN _ wr838 rfl)) (fun _ h9 => h9) rfl dX2_add_20 ?_
  refine va_callq (va_runV (As := [.int (nI j)]) (rest := [.ref H1.size, .ref lg, .ref pl, .ref H.size, .ref H.size, .ref lst]) ⟨hx, hb, hml, hown, hts⟩ (x_chan l (n := L.length) (x4 := 5) (Or.inl (Or.inl hg)) (Or.inl ⟨hl1, (fun h9 => absurd h9.1 (by decide))⟩) hiB (by omega) (Or.inl (Or.inl hstB)) (Or.inl (Or.inl hoB)) (Or.inl ⟨hcB, (fun h9 => hij h9.2.2.symm)⟩) hLCB (fun y hy => by obtain ⟨z1, z2, z3, z4, z5⟩ := hEB y hy; exact ⟨z1, z2, z3, z4, (Or.inl (Or.inl z5))⟩)) (cwV 1 hts (lw_V wq924 wq926 ws28 wq2 wq927) rfl rfl rfl (by decide +kernel) ⟨(Nat.le_of_ble_eq_true rfl), (Nat.le_of_ble_eq_true rfl)⟩) (px_V hC hW2 hS2 hA (hW2.obj (Or.inl (Or.inl hg))) rfl) rfl rfl hl.1 rfl (lv_room (Nat.le_of_ble_eq_true rfl)) dX2_add_23 ⟨(Nat.le_of_ble_eq_true rfl), (Nat.le_of_ble_eq_true rfl)⟩) hS2 (fun _ _ h => h) (fun _ h => h) (fun r2 own3 t3 H3 locs3 ht3 hvm3 hw3 hB3 hz3 hk3 hS3 => ?_)
  obtain ⟨ho3, hW3⟩ := hB3
  rw [ht3] at hW3
  rw [show r2 = some H2.size from hw3]
  refine zk_tv (y := .ref H2.size) rfl ?_
  refine lv_aload_n hx hb dX2_add_26 rfl (lv_at hl 0 rfl) ?_
  refine va_get (D := D) (ci := 2) (v := .int 1) (C := RX2) (T := TX2) (N := 8) hx hb hts iX2 hown hK (va_P_one (hW3.obj (Or.inl (Or.inl (Or.inl hg))))) 0 rfl rfl 0 (by decide) (hts _ wq67) (fun _ h9 => h9) rfl dX2_add_27 ?_
  have hA3 : ∀ q, H3.size ≤ q → A q := fun q hq => hA q (Nat.le_trans hS3.1 hq)
  refine va_callv (va_runI (As := [.ref pl, .ref lg, .ref H1.size, .ref H2.size, .int 1]) (rest := [.ref H.size, .ref lst]) ⟨hx, hb, hml, hown, hts⟩ (kX8_init_5 l D yc e0 H3.size H.size pl lg H1.size H2.size) (cwI 5 hts (lw_C wq1005) rfl rfl rfl (hts _ wq16) (hts _ wq1003) (hts _ wq1004) rfl (by decide +kernel) ⟨(Nat.le_of_ble_eq_true rfl), (Nat.le_of_ble_eq_true rfl)⟩) (zk_pS (A := A) hC (va_P_one (hW3.obj (Or.inl (Or.inl (Or.inr ⟨⟨rfl, rfl, rfl⟩, rfl, rfl⟩))))) (xda hAs) hS3 hA [0] rfl rfl) rfl rfl hl.1 rfl (lv_room (Nat.le_of_ble_eq_true rfl)) dX2_add_30 ⟨(Nat.le_of_ble_eq_true rfl), (Nat.le_of_ble_eq_true rfl)⟩) hS3 (fun q _ h => xfa hAs hA3 q h) (xfa hAs hA3) (fun u t4 H4 locs4 ht4 hvm4 hw4 hB4 hz4 hk4 hS4 => ?_)
  obtain ⟨hP4, hD4⟩ := hB4
  rw [ht4] at hP4
  obtain ⟨own4, ho4, hW4⟩ := hW3.block (H1 := H4) (Or.inl (Or.inl (Or.inr ⟨⟨rfl, rfl, rfl⟩, rfl, rfl⟩))) (sblk yc e0 u H.size pl lg (.ref H1.size) (.ref H2.size) (.int 1)) (stag 1 L.length) (fun q h1 h2 => hk4 q h1 (xna h1 h2)) hP4 hD4 (xfa hAs hA3) _ rfl rfl
  have hll : True := trivial
  obtain ⟨mc9, x9, ho9⟩ := hW4.lobj (Or.inl (Or.inl ⟨(Or.inl ⟨hl1, (fun h9 => absurd h9.1 (by decide))⟩), (fun h9 => absurd h9.1 (by decide))⟩))
  refine va_calli (va_runV (As := [.ref H.size]) (rest := []) ⟨hx, hb, hml, hown, hts⟩ (x_add_7 l (kdv := 2) (flv := 1) (kv := L.length) (Or.inl (Or.inl ⟨(Or.inl ⟨hl1, (fun h9 => absurd h9.1 (by decide))⟩), (fun h9 => absurd h9.1 (by decide))⟩)) (by omega) (Or.inr ⟨0, rfl, rfl⟩) (fun y hy => ?_)) (cwV 1 hts (lw_V wq1154 wq952 wq953 wq5 wq954) rfl rfl rfl (by decide +kernel) ⟨(Nat.le_of_ble_eq_true rfl), (Nat.le_of_ble_eq_true rfl)⟩) (px_V hC hW4 hS4 hA ho9 rfl) rfl rfl hl.1 rfl (lv_room (Nat.le_of_ble_eq_true rfl)) dX2_add_33 ⟨(Nat.le_of_ble_eq_true rfl), (Nat.le_of_ble_eq_true rfl)⟩) hS4 (fun _ _ h => h) (fun _ h => h) (fun r5 own5 t5 H5 locs5 ht5 hvm5 hw5 hB5 hz5 hk5 hS5 => ?_)
  · obtain ⟨kd, fl1, k1, fs1, h9⟩ := hEL y hy
    have := (hW.obj h9).lt
    simp only at this
    have hne : ¬ y = H.size := by omega
    exact ⟨hne, kd, fl1, k1, fs1, Or.inl ⟨(Or.inl (Or.inl (Or.inl h9))), hne⟩⟩
  obtain ⟨ho5, hW5⟩ := hB5
  rw [ht5] at hW5
  refine lv_pop hx hb dX2_add_36 rfl ?_
  have hlt : ∀ kd fl k a e, ob kd fl k a e → ¬ a = H.size := fun kd fl k a e q h9 => by
    have := (hW.obj q).lt
    rw [h9] at this
    exact absurd this (Nat.lt_irrefl _)
  exact W.widen (Nat.le_of_ble_eq_true rfl) (Nat.le_of_ble_eq_true rfl) (W.vret hx hb hr (fun t ht hW9 => ⟨⟨(u, own5, H1.size, H2.size), rfl, ⟨by dsimp only; omega, by dsimp only; omega⟩, fun q hq => (ho5 q (by omega)).trans ((ho4 q (by omega)).trans ((ho3 q (by omega)).trans ((ho2 q (by omega)).trans (ho1 q hq)))), by rw [ht]; exact hW5.mono (fun kd fl k a e q => q.elim (fun q => Or.inl ⟨(Or.inl (Or.inl (Or.inl q))), hlt _ _ _ _ _ q⟩) (fun q => q.elim (fun q => q.elim (fun q => Or.inl ⟨Or.inl (Or.inr q), fun h9 => by have h8 := q.2.1; dsimp only at h8; omega⟩) (fun q => Or.inl ⟨Or.inr q, fun h9 => by have h8 := q.2.1; dsimp only at h8; omega⟩)) Or.inr)) (fun _ _ q => q) (fun _ _ _ _ _ q => q)⟩, hS5.F ht⟩) hS5.2.2 dX2_add_37 hlk)
