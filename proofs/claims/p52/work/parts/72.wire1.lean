set_option maxHeartbeats 4000000 in
set_option maxRecDepth 100000 in
theorem x_size (l : Launch) {D : va_G} {yc : Nat → ClassId} {e0 : Nat} {A : Nat → Prop} {own : TO} {ob : XO} {rw : XR} {ls : XL} {sz : Nat} {b fl k a : Nat} {L : List Nat} (hl0 : ls b fl k a L) : Met l yJx4a65c_size_8abf5 (ws_ yJx4a65c_size_8abf5 cJx4a65c_size_8abf5 1 (some .int)) { frames := 0, cells := 0, slots := 0, locals := 0 } (PX D yc e0 A own ob rw ls sz [.ref a]) (zQ (some (.int (nI L.length)))) 0 0 zno := by
  refine xk_M (by decide) (Nat.le_of_ble_eq_true rfl) ?_
  intro p e s m args below meth c ls hx hb hml hr hlk hown hts hW hz hS hA hC hl
  have hK := hC.1
  have hN := hC.2.1
  have hl : lv_has ls 1 [(0, .ref a)] := hl
  refine lv_aload_n hx hb dJx4a65c_size_8abf5_0 rfl (lv_at hl 0 rfl) ?_
  obtain ⟨mc9, x9, ho9⟩ := hW.lobj hl0
  refine va_get (D := D) (ci := 0) (v := .int (nI L.length)) (C := RJx4a65c) (T := TJx4a65c) (N := 3) hx hb hts iJx4a65c hown hK (va_P_one ho9) 0 rfl rfl 2 (by decide) (hts _ wq56) (fun _ h9 => h9) rfl dJx4a65c_size_8abf5_1 ?_
  exact ze_i hx hb hr hlk rfl rfl dJx4a65c_size_8abf5_4
set_option maxHeartbeats 4000000 in
set_option maxRecDepth 100000 in
theorem x_elem (l : Launch) {D : va_G} {yc : Nat → ClassId} {e0 : Nat} {A : Nat → Prop} {own : TO} {ob : XO} {rw : XR} {ls : XL} {sz : Nat} {b fl k a : Nat} {L : List Nat} (hl0 : ls b fl k a L) {i : Nat} (hi : i < L.length) : Met l yJx4a65c_elementData_915e3 (ws_ yJx4a65c_elementData_915e3 cJx4a65c_elementData_915e3 2 (some (.object "java/lang/Object"))) { frames := 0, cells := 0, slots := 0, locals := 0 } (PX D yc e0 A own ob rw ls sz [.ref a, .int (nI i)]) (zQ (some (.ref L[i]))) 0 0 zno := by
  refine xk_M (by decide) (Nat.le_of_ble_eq_true rfl) ?_
  intro p e s m args below meth c ls hx hb hml hr hlk hown hts hW hz hS hA hC hl
  have hK := hC.1
  have hN := hC.2.1
  have hl : lv_has ls 2 [(0, .ref a), (1, .int (nI i))] := hl
  obtain ⟨-, ⟨h1, -⟩ | ⟨mc9, x9, cap9, f9, ho9, ha9, hlc9, hcp9, hf9⟩⟩ := hW.2.2.1 _ _ _ _ _ hl0
  · exact absurd hi (by rw [h1]; simp)
  refine lv_aload_n hx hb dJx4a65c_elementData_915e3_0 rfl (lv_at hl 0 rfl) ?_
  refine va_get (D := D) (ci := 0) (v := .ref x9) (C := RJx4a65c) (T := TJx4a65c) (N := 3) hx hb hts iJx4a65c hown hK (va_P_one ho9) 0 rfl rfl 1 (by decide) (hts _ wq55) (fun _ h9 => h9) rfl dJx4a65c_elementData_915e3_1 ?_
  refine lv_iload_n hx hb dJx4a65c_elementData_915e3_4 rfl (lv_at hl 1 rfl) ?_
  refine va_aldq hx hb hK (va_P_one ha9.1) 0 2 rfl rfl (vp_in_nI (by omega) (by omega)) dJx4a65c_elementData_915e3_5 ?_
  refine zk_tv (y := .ref L[i]) (by rw [nI_clamp (by omega), hf9 i hi]; rfl) ?_
  exact ze_q hx hb hr (by first | exact Or.inl ⟨_, rfl⟩ | exact Or.inr ⟨_, rfl⟩) hlk (by first | exact Or.inl rfl | exact Or.inr ⟨_, rfl⟩) (by rfl) dJx4a65c_elementData_915e3_6
set_option maxHeartbeats 4000000 in
set_option maxRecDepth 100000 in
theorem x_get (l : Launch) {D : va_G} {yc : Nat → ClassId} {e0 : Nat} {A : Nat → Prop} {own : TO} {ob : XO} {rw : XR} {ls : XL} {sz : Nat} {b fl k a : Nat} {L : List Nat} (hl0 : ls b fl k a L) {i : Nat} (hi : i < L.length) (hL : L.length < 2147483648) : Met l yJx4a65c_get_915e3 (ws_ yJx4a65c_get_915e3 cJx4a65c_get_915e3 2 (some (.object "java/lang/Object"))) { frames := 2, cells := 0, slots := 0, locals := 43 } (PX D yc e0 A own ob rw ls sz [.ref a, .int (nI i)]) (zQ (some (.ref L[i]))) 0 0 zno := by
  refine xk_M (by decide) (Nat.le_of_ble_eq_true rfl) ?_
  intro p e s m args below meth c ls hx hb hml hr hlk hown hts hW hz hS hA hC hl
  have hK := hC.1
  have hN := hC.2.1
  have hl : lv_has ls 2 [(0, .ref a), (1, .int (nI i))] := hl
  refine lv_iload_n hx hb dJx4a65c_get_915e3_0 rfl (lv_at hl 1 rfl) ?_
  refine lv_aload_n hx hb dJx4a65c_get_915e3_1 rfl (lv_at hl 0 rfl) ?_
  obtain ⟨mc9, x9, ho9⟩ := hW.lobj hl0
  refine va_get (D := D) (ci := 0) (v := .int (nI L.length)) (C := RJx4a65c) (T := TJx4a65c) (N := 3) hx hb hts iJx4a65c hown hK (va_P_one ho9) 0 rfl rfl 2 (by decide) (hts _ wq56) (fun _ h9 => h9) rfl dJx4a65c_get_915e3_2 ?_
  refine zr_i (va_runS (As := [.int (nI i), .int (nI L.length)]) (rest := []) ⟨hx, hb, hml, hown, hts⟩ (k_J15_checkIndex l (nI i) (nI L.length) (nI_pos (by omega)) (nI_lt hi (by omega))) (va_cwS 2 hts (lw_S wq231 wq232 wq12 wq233) rfl rfl rfl (by decide +kernel) ⟨(Nat.le_of_ble_eq_true rfl), (Nat.le_of_ble_eq_true rfl)⟩) tp_N rfl rfl hl.1 rfl (lv_room (Nat.le_of_ble_eq_true rfl)) dJx4a65c_get_915e3_5 ⟨(Nat.le_of_ble_eq_true rfl), (Nat.le_of_ble_eq_true rfl)⟩) ?_
  refine lv_pop hx hb dJx4a65c_get_915e3_8 rfl ?_
  refine lv_aload_n hx hb dJx4a65c_get_915e3_9 rfl (lv_at hl 0 rfl) ?_
  refine lv_iload_n hx hb dJx4a65c_get_915e3_10 rfl (lv_at hl 1 rfl) ?_
  refine zr_q (va_runV (As := [.int (nI i)]) (rest := []) ⟨hx, hb, hml, hown, hts⟩ (x_elem l hl0 hi) (cwV 1 hts (lw_V wq237 wq238 wq239 wq5 wq240) rfl rfl rfl (by decide +kernel) ⟨(Nat.le_of_ble_eq_true rfl), (Nat.le_of_ble_eq_true rfl)⟩) (px_V hC hW hS hA ho9 rfl) rfl rfl hl.1 rfl (lv_room (Nat.le_of_ble_eq_true rfl)) dJx4a65c_get_915e3_11 ⟨(Nat.le_of_ble_eq_true rfl), (Nat.le_of_ble_eq_true rfl)⟩) ?_
  exact ze_q hx hb hr (by first | exact Or.inl ⟨_, rfl⟩ | exact Or.inr ⟨_, rfl⟩) hlk (by first | exact Or.inl rfl | exact Or.inr ⟨_, rfl⟩) (by rfl) dJx4a65c_get_915e3_14
set_option maxHeartbeats 4000000 in
set_option maxRecDepth 100000 in
theorem x_fsize (l : Launch) {D : va_G} {yc : Nat → ClassId} {e0 : Nat} {A : Nat → Prop} {own : TO} {ob : XO} {rw : XR} {ls : XL} {sz : Nat} {g lst : Nat} {t0 t2 t3 t4 t5 t6 t7 : Value} {fl : Nat} {L : List Nat} (hg : ob 6 fl 0 g (2, [t0, .ref lst, t2, t3, t4, t5, t6, t7])) (hl0 : ls 0 fl 0 lst L) : Met l yX2_size (ws_ yX2_size cX2_size 1 (some .int)) { frames := 1, cells := 0, slots := 0, locals := 20 } (PX D yc e0 A own ob rw ls sz [.ref g]) (zQ (some (.int (nI L.length)))) 0 0 zno := by
  refine xk_M (by decide) (Nat.le_of_ble_eq_true rfl) ?_
  intro p e s m args below meth c ls hx hb hml hr hlk hown hts hW hz hS hA hC hl
  have hK := hC.1
  have hN := hC.2.1
  have hl : lv_has ls 1 [(0, .ref g)] := hl
  refine lv_aload_n hx hb dX2_size_0 rfl (lv_at hl 0 rfl) ?_
  obtain ⟨mc9, x9, ho9⟩ := hW.lobj hl0
  refine va_get (D := D) (ci := 2) (v := .ref lst) (C := RX2) (T := TX2) (N := 8) hx hb hts iX2 hown hK (va_P_one (hW.obj hg)) 0 rfl rfl 1 (by decide) (hts _ wq68) (fun _ h9 => h9) rfl dX2_size_1 ?_
  refine zr_i (va_runV (As := []) (rest := []) ⟨hx, hb, hml, hown, hts⟩ (x_size l hl0) (cwV 0 hts (lw_V wq119 wq120 wq121 wq5 wq122) rfl rfl rfl (by decide +kernel) ⟨(Nat.le_of_ble_eq_true rfl), (Nat.le_of_ble_eq_true rfl)⟩) (px_V hC hW hS hA ho9 rfl) rfl rfl hl.1 rfl (lv_room (Nat.le_of_ble_eq_true rfl)) dX2_size_4 ⟨(Nat.le_of_ble_eq_true rfl), (Nat.le_of_ble_eq_true rfl)⟩) ?_
  exact ze_i hx hb hr hlk rfl rfl dX2_size_7
set_option maxHeartbeats 4000000 in
set_option maxRecDepth 100000 in
theorem x_at0 (l : Launch) {D : va_G} {yc : Nat → ClassId} {e0 : Nat} {A : Nat → Prop} {own : TO} {ob : XO} {rw : XR} {ls : XL} {sz : Nat} {g : Nat} {i1 : Int32} (h0 : i1 < 0) : Met l yX2_at (ws_ yX2_at cX2_at 2 (some (.object "WeirStream$Stage"))) { frames := 0, cells := 0, slots := 0, locals := 0 } (PX D yc e0 A own ob rw ls sz [.ref g, .int i1]) (zQ (some .null)) 0 0 zno := by
  refine xk_M (by decide) (Nat.le_of_ble_eq_true rfl) ?_
  intro p e s m args below meth c ls hx hb hml hr hlk hown hts hW hz hS hA hC hl
  have hK := hC.1
  have hN := hC.2.1
  have hl : lv_has ls 2 [(0, .ref g), (1, .int i1)] := hl
  refine lv_iload_n hx hb dX2_at_0 rfl (lv_at hl 1 rfl) ?_
  refine lv_if_lt (tgt := 29) hx hb dX2_at_1 (by decide) (fun _ => ?_) (fun h9 => absurd h0 h9)
  refine lv_null hx hb dX2_at_29 ?_
  exact ze_q hx hb hr (by first | exact Or.inl ⟨_, rfl⟩ | exact Or.inr ⟨_, rfl⟩) hlk (by first | exact Or.inl rfl | exact Or.inr ⟨_, rfl⟩) (by rfl) dX2_at_30
set_option maxHeartbeats 4000000 in
set_option maxRecDepth 100000 in
theorem x_at (l : Launch) {D : va_G} {yc : Nat → ClassId} {e0 : Nat} {A : Nat → Prop} {own : TO} {ob : XO} {rw : XR} {ls : XL} {sz : Nat} {g lst : Nat} {t0 t2 t3 t4 t5 t6 t7 : Value} {fl : Nat} {L : List Nat} (hg : ob 6 fl 0 g (2, [t0, .ref lst, t2, t3, t4, t5, t6, t7])) (hl0 : ls 0 fl 0 lst L) {i : Nat} {fs : List Value} (hi : i < L.length) (hL : L.length < 2147483648) (hst : ob 2 fl i L[i] (7, fs)) : Met l yX2_at (ws_ yX2_at cX2_at 2 (some (.object "WeirStream$Stage"))) { frames := 3, cells := 0, slots := 0, locals := 64 } (PX D yc e0 A own ob rw ls sz [.ref g, .int (nI i)]) (zQ (some (.ref L[i]))) 0 0 zno := by
  refine xk_M (by decide) (Nat.le_of_ble_eq_true rfl) ?_
  intro p e s m args below meth c ls hx hb hml hr hlk hown hts hW hz hS hA hC hl
  have hK := hC.1
  have hN := hC.2.1
  have hl : lv_has ls 2 [(0, .ref g), (1, .int (nI i))] := hl
  obtain ⟨mc9, x9, ho9⟩ := hW.lobj hl0
  refine lv_iload_n hx hb dX2_at_0 rfl (lv_at hl 1 rfl) ?_
  refine lv_if_lt (tgt := 29) hx hb dX2_at_1 (by decide) (fun h9 => absurd h9 (nI_pos (by omega))) (fun _ => ?_)
  refine lv_iload_n hx hb dX2_at_4 rfl (lv_at hl 1 rfl) ?_
  refine lv_aload_n hx hb dX2_at_5 rfl (lv_at hl 0 rfl) ?_
  refine va_get (D := D) (ci := 2) (v := .ref lst) (C := RX2) (T := TX2) (N := 8) hx hb hts iX2 hown hK (va_P_one (hW.obj hg)) 0 rfl rfl 1 (by decide) (hts _ wq68) (fun _ h9 => h9) rfl dX2_at_6 ?_
  refine zr_i (va_runV (As := []) (rest := [.int (nI i)]) ⟨hx, hb, hml, hown, hts⟩ (x_size l hl0) (cwV 0 hts (lw_V wq119 wq120 wq121 wq5 wq122) rfl rfl rfl (by decide +kernel) ⟨(Nat.le_of_ble_eq_true rfl), (Nat.le_of_ble_eq_true rfl)⟩) (px_V hC hW hS hA ho9 rfl) rfl rfl hl.1 rfl (lv_room (Nat.le_of_ble_eq_true rfl)) dX2_at_9 ⟨(Nat.le_of_ble_eq_true rfl), (Nat.le_of_ble_eq_true rfl)⟩) ?_
  refine lv_icmp_ge (tgt := 29) hx hb dX2_at_12 (by decide) (fun h9 => absurd h9 (nI_ge (by omega) (by omega))) (fun _ => ?_)
  refine lv_aload_n hx hb dX2_at_15 rfl (lv_at hl 0 rfl) ?_
  refine va_get (D := D) (ci := 2) (v := .ref lst) (C := RX2) (T := TX2) (N := 8) hx hb hts iX2 hown hK (va_P_one (hW.obj hg)) 0 rfl rfl 1 (by decide) (hts _ wq68) (fun _ h9 => h9) rfl dX2_at_16 ?_
  refine lv_iload_n hx hb dX2_at_19 rfl (lv_at hl 1 rfl) ?_
  refine zr_q (va_runV (As := [.int (nI i)]) (rest := []) ⟨hx, hb, hml, hown, hts⟩ (x_get l hl0 hi hL) (cwV 1 hts (lw_V wq227 wq228 wq229 wq5 wq230) rfl rfl rfl (by decide +kernel) ⟨(Nat.le_of_ble_eq_true rfl), (Nat.le_of_ble_eq_true rfl)⟩) (px_V hC hW hS hA ho9 rfl) rfl rfl hl.1 rfl (lv_room (Nat.le_of_ble_eq_true rfl)) dX2_at_20 ⟨(Nat.le_of_ble_eq_true rfl), (Nat.le_of_ble_eq_true rfl)⟩) ?_
  refine va_castS hx hb hown (hts _ wq241) (hK.1 7 _ rfl).2 (WX.cell hK (hW.obj hst) rfl) dX2_at_23 ?_
  refine lv_goto (tgt := 30) hx hb dX2_at_26 (by decide) ?_
  exact ze_q hx hb hr (by first | exact Or.inl ⟨_, rfl⟩ | exact Or.inr ⟨_, rfl⟩) hlk (by first | exact Or.inl rfl | exact Or.inr ⟨_, rfl⟩) (by rfl) dX2_at_30
set_option maxHeartbeats 4000000 in
set_option maxRecDepth 100000 in
theorem x_open (l : Launch) {D : va_G} {yc : Nat → ClassId} {e0 : Nat} {A : Nat → Prop} {own : TO} {ob : XO} {rw : XR} {ls : XL} {sz : Nat} {o ir cl i n fl x4 : Nat} {LC : List Nat} (ho : ob 3 fl i o (3, [.ref ir, .ref cl])) (hl0 : ls 1 fl i cl LC) (hL : LC.length ≤ 12) (hE : ∀ y ∈ LC, ∃ kd fl k fs, ob kd fl k y (1, fs)) : Met l yX4_open (ws_ yX4_open cX4_open 2 (some (.object "WeirStream$Channel"))) { frames := 7, cells := 2, slots := 23, locals := 240 } (PX D yc e0 A own ob rw ls sz [.ref o]) (va_Qq (fun r (_ : TO) => r = some sz) (fun own' t => (∀ q, q < sz → own' q = own q) ∧ WX D yc e0 A own' (obadd ob x4 fl n sz (1, [.ref ir, .int 0, .int 0])) rw (lsadd ls 1 fl i cl (LC ++ [sz])) t.heap) A) 2 23 A := by
  refine xk_M (by decide) (Nat.le_of_ble_eq_true rfl) ?_
  intro p e s m args below meth c ls hx hb hml hr hlk hown hts hW hz hS hA hC hl
  have hK := hC.1
  have hN := hC.2.1
  have hl : lv_has ls 2 [(0, .ref o)] := hl
  generalize hHH : s.heap = H at hW ⊢
  have hS : va_S A s.heap H [] := by rw [← hHH]; exact hS
  have hz : H.size = sz := by rw [← hHH]; exact hz
  subst hz
  refine x_new (ci := 1) (fs := [.null, .int 0, .int 0]) (C := RX1) (T := TX1) (N := 3) hx hb hts iX1 tyX1 tyX1_ok hown (hts _ wq298) (hts _ wq932) (hts _ wq17) hK rfl dfX1 (Nat.le_of_ble_eq_true rfl) (Nat.le_of_ble_eq_true rfl) dX4_open_0 (fun H1 hz1 hk1 hb1 => ?_)
  have hAs : A H.size := hA _ hS.1
  have hS1 : va_S A s.heap H1 [] := ⟨Nat.le_trans hS.1 (by omega), fun q h1 h2 => (hk1 q (Nat.lt_of_lt_of_le h1 hS.1)).trans (hS.2.1 q h1 h2), hS.2.2⟩
  have hA1 : ∀ q, H1.size ≤ q → A q := fun q hq => hA q (Nat.le_trans hS1.1 hq)
  refine lv_dup hx hb dX4_open_3 rfl ?_
  refine lv_aload_n hx hb dX4_open_4 rfl (lv_at hl 0 rfl) ?_
  refine va_get (D := D) (ci := 3) (v := .ref ir) (C := RX4) (T := TX4) (N := 2) hx hb hts iX4 hown hK (va_P_one ((hW.obj ho).kept (hk1 _ (hW.obj ho).lt))) 0 rfl rfl 0 (by decide) (hts _ wq1016) (fun _ h9 => h9) rfl dX4_open_5 ?_
  refine va_callv (va_runI (As := [.ref ir]) (rest := [.ref H.size]) ⟨hx, hb, hml, hown, hts⟩ (kX1_init_0 l D yc e0 H1.size H.size ir) (cwI 1 hts (lw_C wq935) rfl rfl rfl (hts _ wq17) (hts _ wq933) (hts _ wq934) rfl (by decide +kernel) ⟨(Nat.le_of_ble_eq_true rfl), (Nat.le_of_ble_eq_true rfl)⟩) (zk_pS (A := A) hC (va_P_one hb1) (xda hAs) hS1 hA [0] rfl rfl) rfl rfl hl.1 rfl (lv_room (Nat.le_of_ble_eq_true rfl)) dX4_open_8 ⟨(Nat.le_of_ble_eq_true rfl), (Nat.le_of_ble_eq_true rfl)⟩) hS1 (fun q _ h => xfa hAs hA1 q h) (xfa hAs hA1) (fun u t H2 locs2 ht hvm hw hB hz2 hk2 hS2 => ?_)
  obtain ⟨hP2, -⟩ := hB
  rw [ht] at hP2
  have hk3 : ∀ q : Nat, q < H.size → H2[q]? = H[q]? := fun q hq => (hk2 q (by omega) (xna (by omega) (by omega))).trans (hk1 q hq)
  obtain ⟨own1, ho1, hW1⟩ := hW.add hk3 (hP2 0 _ rfl) hAs x4 fl n
  refine lv_astore_n (lv' := [(1, .ref H.size), (0, .ref o)]) hx hb dX4_open_11 rfl hl (by decide) rfl (fun ls hl => ?_)
  refine lv_aload_n hx hb dX4_open_12 rfl (lv_at hl 1 rfl) ?_
  refine va_get (D := D) (ci := 3) (v := .ref cl) (C := RX4) (T := TX4) (N := 2) hx hb hts iX4 hown hK (va_P_one (hW1.obj (Or.inl ho))) 0 rfl rfl 1 (by decide) (hts _ wq1018) (fun _ h9 => h9) rfl dX4_open_13 ?_
  refine lv_aload_n hx hb dX4_open_16 rfl (lv_at hl 0 rfl) ?_
  obtain ⟨mc9, x9, ho9⟩ := hW1.lobj hl0
  refine va_calli (va_runV (As := [.ref H.size]) (rest := []) ⟨hx, hb, hml, hown, hts⟩ (x_add_1 l (kdv := x4) (flv := fl) (kv := n) hl0 hL (Or.inr ⟨⟨rfl, rfl, rfl⟩, rfl, rfl⟩) (fun y hy => ?_)) (cwV 1 hts (lw_V wq951 wq952 wq953 wq5 wq954) rfl rfl rfl (by decide +kernel) ⟨(Nat.le_of_ble_eq_true rfl), (Nat.le_of_ble_eq_true rfl)⟩) (px_V hC hW1 hS2 hA ho9 rfl) rfl rfl hl.1 rfl (lv_room (Nat.le_of_ble_eq_true rfl)) dX4_open_17 ⟨(Nat.le_of_ble_eq_true rfl), (Nat.le_of_ble_eq_true rfl)⟩) hS2 (fun _ _ h => h) (fun _ h => h) (fun r own2 t2 H3 locs3 ht3 hvm3 hw3 hB3 hz3 hk4 hS3 => ?_)
  · obtain ⟨kd, fl1, k1, fs1, h9⟩ := hE y hy
    refine ⟨fun h => ?_, kd, fl1, k1, fs1, Or.inl h9⟩
    have := (hW.obj h9).lt
    simp only at this
    omega
  obtain ⟨ho2, hW3⟩ := hB3
  rw [ht3] at hW3
  refine lv_pop hx hb dX4_open_20 rfl ?_
  refine lv_aload_n hx hb dX4_open_21 rfl (lv_at hl 0 rfl) ?_
  exact W.widen (Nat.le_of_ble_eq_true rfl) (Nat.le_of_ble_eq_true rfl) (W.aret hx hb hr (Or.inl ⟨_, rfl⟩) (Or.inr ⟨_, rfl⟩) (fun t ht hW9 => ⟨⟨some H.size, own2, rfl, rfl, fun q hq => (ho2 q (by omega)).trans (ho1 q hq), by rw [ht]; exact hW3⟩, hS3.F ht⟩) hS3.2.2 dX4_open_22 hlk)
