def v_X6_length (S : TS) (F : TF) (G : TG) (q : TQ) (i : Nat) : Int32 := nI (q i).2.length
set_option maxHeartbeats 4000000 in
set_option maxRecDepth 100000 in
theorem k_X6_length (l : Launch) (D : va_G) (yc : Nat → ClassId) (e0 : Nat) (A : Nat → Prop) (S : TS) (Z : Nat × Nat) (F : TF) (G : TG) (q : TQ) (i : Nat) (hi : dr S i) : Met l yX6_length (ws_ yX6_length cX6_length 1 (some .int)) ({ frames := 0, cells := 0, slots := 0, locals := 0 }) (PT D yc e0 A S Z F G q [.ref (zr S i)]) (zQ (some (.int (v_X6_length S F G q i)))) 0 0 zno := by
  refine tk_M (by decide) (Nat.le_of_ble_eq_true rfl) ?_
  intro p e s m args below meth c ls hx hb hml hr hlk hown hts hW hS hA hC hl
  have hK := hC.1
  have hN := hC.2.1
  have hn12 := hW.n12
  have hl : lv_has ls 1 [(0, .ref (zr S i))] := hl
  refine lv_aload_n hx hb dX6_length_0 rfl (lv_at hl 0 rfl) ?_
  obtain ⟨x_i, f_i, hr1_i, hr2_i, hr3_i, hr4_i, hr5_i⟩ := hW.row (i := i) hi
  refine va_get (D := D) (ci := 5) (v := .int (nI (q i).2.length)) (C := RX6) (T := TX6) (N := 2) hx hb hts iX6 hown hK (va_P_one hr1_i) 0 rfl rfl 1 (by decide) (hts _ wq914) (fun _ h9 => h9) rfl dX6_length_1 ?_
  exact ze_i hx hb hr hlk rfl (by rfl) dX6_length_4
def v_X6_at (S : TS) (F : TF) (G : TG) (q : TQ) (i : Nat) (j : Int32) : Int64 := if j < 0 then 0 else if (nI (q i).2.length) ≤ j then 0 else if (nI (q i).1) ≤ j then 0 else (q i).2.getD (j : Int32).toNatClampNeg 0
set_option maxHeartbeats 4000000 in
set_option maxRecDepth 100000 in
theorem k_X6_at (l : Launch) (D : va_G) (yc : Nat → ClassId) (e0 : Nat) (A : Nat → Prop) (S : TS) (Z : Nat × Nat) (F : TF) (G : TG) (q : TQ) (i : Nat) (j : Int32) (hi : dr S i) : Met l yX6_at (ws_ yX6_at cX6_at 2 (some .long)) ({ frames := 0, cells := 0, slots := 0, locals := 0 }) (PT D yc e0 A S Z F G q [.ref (zr S i), .int j]) (zQ (some (.long (v_X6_at S F G q i j)))) 0 0 zno := by
  refine tk_M (by decide) (Nat.le_of_ble_eq_true rfl) ?_
  intro p e s m args below meth c ls hx hb hml hr hlk hown hts hW hS hA hC hl
  have hK := hC.1
  have hN := hC.2.1
  have hn12 := hW.n12
  have hl : lv_has ls 2 [(0, .ref (zr S i)), (1, .int j)] := hl
  refine lv_iload_n hx hb dX6_at_0 rfl (lv_at hl 1 rfl) ?_
  refine lv_if_lt (tgt := 30) hx hb dX6_at_1 (by decide) (fun hb1 => ?_) (fun hb1 => ?_)
  · refine lv_lconst (v := 0) hx hb dX6_at_30 (by decide) ?_
    exact ze_l hx hb hr hlk (by unfold v_X6_at; rw [if_pos hb1]) dX6_at_31
  · refine lv_iload_n hx hb dX6_at_4 rfl (lv_at hl 1 rfl) ?_
    refine lv_aload_n hx hb dX6_at_5 rfl (lv_at hl 0 rfl) ?_
    obtain ⟨x_i, f_i, hr1_i, hr2_i, hr3_i, hr4_i, hr5_i⟩ := hW.row (i := i) hi
    refine va_get (D := D) (ci := 5) (v := .int (nI (q i).2.length)) (C := RX6) (T := TX6) (N := 2) hx hb hts iX6 hown hK (va_P_one hr1_i) 0 rfl rfl 1 (by decide) (hts _ wq914) (fun _ h9 => h9) rfl dX6_at_6 ?_
    refine lv_icmp_ge (tgt := 30) hx hb dX6_at_9 (by decide) (fun hb2 => ?_) (fun hb2 => ?_)
    · refine lv_lconst (v := 0) hx hb dX6_at_30 (by decide) ?_
      exact ze_l hx hb hr hlk (by unfold v_X6_at; rw [if_neg hb1, if_pos hb2]) dX6_at_31
    · refine lv_iload_n hx hb dX6_at_12 rfl (lv_at hl 1 rfl) ?_
      refine lv_aload_n hx hb dX6_at_13 rfl (lv_at hl 0 rfl) ?_
      refine va_get (D := D) (ci := 5) (v := .ref x_i) (C := RX6) (T := TX6) (N := 2) hx hb hts iX6 hown hK (va_P_one hr1_i) 0 rfl rfl 0 (by decide) (hts _ wq913) (fun _ h9 => h9) rfl dX6_at_14 ?_
      refine va_alen hx hb hK (va_P_one hr2_i) 0 1 rfl rfl (v := nI (q i).1) rfl dX6_at_17 ?_
      refine lv_icmp_ge (tgt := 30) hx hb dX6_at_18 (by decide) (fun hb3 => ?_) (fun hb3 => ?_)
      · refine lv_lconst (v := 0) hx hb dX6_at_30 (by decide) ?_
        exact ze_l hx hb hr hlk (by unfold v_X6_at; rw [if_neg hb1, if_neg hb2, if_pos hb3]) dX6_at_31
      · refine lv_aload_n hx hb dX6_at_21 rfl (lv_at hl 0 rfl) ?_
        refine va_get (D := D) (ci := 5) (v := .ref x_i) (C := RX6) (T := TX6) (N := 2) hx hb hts iX6 hown hK (va_P_one hr1_i) 0 rfl rfl 0 (by decide) (hts _ wq913) (fun _ h9 => h9) rfl dX6_at_22 ?_
        refine lv_iload_n hx hb dX6_at_25 rfl (lv_at hl 1 rfl) ?_
        refine va_lald hx hb hK (va_P_one hr2_i) 0 1 rfl rfl (zin (by assumption) (by assumption) (zcap hr5_i)) dX6_at_26 ?_
        refine zk_tl (y := (q i).2.getD (j : Int32).toNatClampNeg 0) (zrow hr4_i (by assumption) (by assumption) (by have h9 := zcap hr5_i; omega)) ?_
        refine lv_goto (tgt := 31) hx hb dX6_at_27 (by decide) ?_
        exact ze_l hx hb hr hlk (by unfold v_X6_at; rw [if_neg hb1, if_neg hb2, if_neg hb3]) dX6_at_31
def v_J3_checkIndex (i1 : Int32) (i2 : Int32) : Int32 := i1
set_option maxHeartbeats 4000000 in
set_option maxRecDepth 100000 in
theorem k_J3_checkIndex (l : Launch) (i1 : Int32) (i2 : Int32) (h1 : ¬ i1 < 0) (h2 : i1 < i2) : Met l yJ3_checkIndex_8e157 (ws_ yJ3_checkIndex_8e157 cJ3_checkIndex_8e157 3 (some .int)) ({ frames := 0, cells := 0, slots := 0, locals := 0 }) (PN [.int i1, .int i2, .null]) (zQ (some (.int (v_J3_checkIndex i1 i2)))) 0 0 zno := by
  refine tk_N (by decide) (Nat.le_of_ble_eq_true rfl) ?_
  intro p e s m args below meth c ls hx hb hml hr hlk hown hts hl
  have hl : lv_has ls 3 [(0, .int i1), (1, .int i2), (2, .null)] := hl
  refine lv_iload_n hx hb dJ3_checkIndex_8e157_0 rfl (lv_at hl 0 rfl) ?_
  refine lv_if_lt (tgt := 9) hx hb dJ3_checkIndex_8e157_1 (by decide) (fun h9 => absurd h9 h1) (fun _ => ?_)
  refine lv_iload_n hx hb dJ3_checkIndex_8e157_4 rfl (lv_at hl 0 rfl) ?_
  refine lv_iload_n hx hb dJ3_checkIndex_8e157_5 rfl (lv_at hl 1 rfl) ?_
  refine lv_icmp_lt (tgt := 16) hx hb dJ3_checkIndex_8e157_6 (by decide) (fun _ => ?_) (fun h9 => absurd h2 h9)
  refine lv_iload_n hx hb dJ3_checkIndex_8e157_16 rfl (lv_at hl 0 rfl) ?_
  exact ze_i hx hb hr hlk rfl (by rfl) dJ3_checkIndex_8e157_17
def v_J15_checkIndex (i1 : Int32) (i2 : Int32) : Int32 := v_J3_checkIndex i1 i2
set_option maxHeartbeats 4000000 in
set_option maxRecDepth 100000 in
theorem k_J15_checkIndex (l : Launch) (i1 : Int32) (i2 : Int32) (h1 : ¬ i1 < 0) (h2 : i1 < i2) : Met l yJ15_checkIndex_7cf53 (ws_ yJ15_checkIndex_7cf53 cJ15_checkIndex_7cf53 2 (some .int)) ({ frames := 1, cells := 0, slots := 0, locals := 22 }) (PN [.int i1, .int i2]) (zQ (some (.int (v_J15_checkIndex i1 i2)))) 0 0 zno := by
  refine tk_N (by decide) (Nat.le_of_ble_eq_true rfl) ?_
  intro p e s m args below meth c ls hx hb hml hr hlk hown hts hl
  have hl : lv_has ls 2 [(0, .int i1), (1, .int i2)] := hl
  refine lv_iload_n hx hb dJ15_checkIndex_7cf53_0 rfl (lv_at hl 0 rfl) ?_
  refine lv_iload_n hx hb dJ15_checkIndex_7cf53_1 rfl (lv_at hl 1 rfl) ?_
  refine lv_null hx hb dJ15_checkIndex_7cf53_2 ?_
  refine zr_i (va_runS (As := [.int i1, .int i2, .null]) (rest := []) ⟨hx, hb, hml, hown, hts⟩ (k_J3_checkIndex l i1 i2 (by first | assumption | omega | decide) (by first | assumption | omega | decide)) (va_cwS 3 hts (lw_S wq234 wq235 wq13 wq236) rfl rfl rfl (by decide +kernel) ⟨(Nat.le_of_ble_eq_true rfl), (Nat.le_of_ble_eq_true rfl)⟩) tp_N rfl rfl hl.1 rfl (lv_room (Nat.le_of_ble_eq_true rfl)) dJ15_checkIndex_7cf53_3 ⟨(Nat.le_of_ble_eq_true rfl), (Nat.le_of_ble_eq_true rfl)⟩) ?_
  exact ze_i hx hb hr hlk rfl (by rfl) dJ15_checkIndex_7cf53_6
def v_AL_size (S : TS) (F : TF) (G : TG) (q : TQ) (b : Nat) (fl : Nat) (k : Nat) : Int32 := nI (lln S b k)
set_option maxHeartbeats 4000000 in
set_option maxRecDepth 100000 in
theorem k_AL_size (l : Launch) (D : va_G) (yc : Nat → ClassId) (e0 : Nat) (A : Nat → Prop) (S : TS) (Z : Nat × Nat) (F : TF) (G : TG) (q : TQ) (b : Nat) (fl : Nat) (k : Nat) (hl0 : dl S b fl k) : Met l yJx4a65c_size_8abf5 (ws_ yJx4a65c_size_8abf5 cJx4a65c_size_8abf5 1 (some .int)) ({ frames := 0, cells := 0, slots := 0, locals := 0 }) (PT D yc e0 A S Z F G q [.ref (zl S b fl k)]) (zQ (some (.int (v_AL_size S F G q b fl k)))) 0 0 zno := by
  refine tk_M (by decide) (Nat.le_of_ble_eq_true rfl) ?_
  intro p e s m args below meth c ls hx hb hml hr hlk hown hts hW hS hA hC hl
  have hK := hC.1
  have hN := hC.2.1
  have hn12 := hW.n12
  have hl : lv_has ls 1 [(0, .ref (zl S b fl k))] := hl
  refine lv_aload_n hx hb dJx4a65c_size_8abf5_0 rfl (lv_at hl 0 rfl) ?_
  obtain ⟨mc9, x9, ho9⟩ := hW.lobj hl0
  refine va_get (D := D) (ci := 0) (v := .int (nI (lln S b k))) (C := RJx4a65c) (T := TJx4a65c) (N := 3) hx hb hts iJx4a65c hown hK (va_P_one ho9) 0 rfl rfl 2 (by decide) (hts _ wq56) (fun _ h9 => h9) rfl dJx4a65c_size_8abf5_1 ?_
  exact ze_i hx hb hr hlk rfl (by rfl) dJx4a65c_size_8abf5_4
def v_AL_elementData (S : TS) (F : TF) (G : TG) (q : TQ) (b : Nat) (fl : Nat) (k : Nat) (i : Nat) : Value := (.ref (lat S b fl k i))
set_option maxHeartbeats 4000000 in
set_option maxRecDepth 100000 in
theorem k_AL_elementData (l : Launch) (D : va_G) (yc : Nat → ClassId) (e0 : Nat) (A : Nat → Prop) (S : TS) (Z : Nat × Nat) (F : TF) (G : TG) (q : TQ) (b : Nat) (fl : Nat) (k : Nat) (i : Nat) (hl0 : dl S b fl k) (hi : i < lln S b k) : Met l yJx4a65c_elementData_915e3 (ws_ yJx4a65c_elementData_915e3 cJx4a65c_elementData_915e3 2 (some (.object "java/lang/Object"))) ({ frames := 0, cells := 0, slots := 0, locals := 0 }) (PT D yc e0 A S Z F G q [.ref (zl S b fl k), .int (nI i)]) (zQ (some ((v_AL_elementData S F G q b fl k i)))) 0 0 zno := by
  refine tk_M (by decide) (Nat.le_of_ble_eq_true rfl) ?_
  intro p e s m args below meth c ls hx hb hml hr hlk hown hts hW hS hA hC hl
  have hK := hC.1
  have hN := hC.2.1
  have hn12 := hW.n12
  have hlln := lln_le (S := S) (b := b) (k := k) hn12
  rcases hW.list hl0 with ⟨h1, -⟩ | ⟨mc9, x9, cap9, f9, ho9, ha9, hlc9, hcp9, hf9⟩
  · exact absurd hi (by omega)
  have hl : lv_has ls 2 [(0, .ref (zl S b fl k)), (1, .int (nI i))] := hl
  refine lv_aload_n hx hb dJx4a65c_elementData_915e3_0 rfl (lv_at hl 0 rfl) ?_
  refine va_get (D := D) (ci := 0) (v := .ref x9) (C := RJx4a65c) (T := TJx4a65c) (N := 3) hx hb hts iJx4a65c hown hK (va_P_one ho9) 0 rfl rfl 1 (by decide) (hts _ wq55) (fun _ h9 => h9) rfl dJx4a65c_elementData_915e3_1 ?_
  refine lv_iload_n hx hb dJx4a65c_elementData_915e3_4 rfl (lv_at hl 1 rfl) ?_
  refine va_aldq hx hb hK (va_P_one ha9) 0 2 rfl rfl (vp_in_nI (by omega) (by omega)) dJx4a65c_elementData_915e3_5 ?_
  refine zk_tv (y := .ref (lat S b fl k i)) (by rw [nI_clamp (by omega), hf9 i (by omega)]; rfl) ?_
  exact ze_q hx hb hr (by first | exact Or.inl ⟨_, rfl⟩ | exact Or.inr ⟨_, rfl⟩) hlk (by first | exact Or.inl rfl | exact Or.inr ⟨_, rfl⟩ | exact zch_or _ _ _ _) (by rfl) dJx4a65c_elementData_915e3_6
def v_AL_get (S : TS) (F : TF) (G : TG) (q : TQ) (b : Nat) (fl : Nat) (k : Nat) (i : Nat) : Value := (.ref (lat S b fl k i))
set_option maxHeartbeats 4000000 in
set_option maxRecDepth 100000 in
theorem k_AL_get (l : Launch) (D : va_G) (yc : Nat → ClassId) (e0 : Nat) (A : Nat → Prop) (S : TS) (Z : Nat × Nat) (F : TF) (G : TG) (q : TQ) (b : Nat) (fl : Nat) (k : Nat) (i : Nat) (hl0 : dl S b fl k) (hi : i < lln S b k) : Met l yJx4a65c_get_915e3 (ws_ yJx4a65c_get_915e3 cJx4a65c_get_915e3 2 (some (.object "java/lang/Object"))) ({ frames := 2, cells := 0, slots := 0, locals := 43 }) (PT D yc e0 A S Z F G q [.ref (zl S b fl k), .int (nI i)]) (zQ (some ((v_AL_get S F G q b fl k i)))) 0 0 zno := by
  refine tk_M (by decide) (Nat.le_of_ble_eq_true rfl) ?_
  intro p e s m args below meth c ls hx hb hml hr hlk hown hts hW hS hA hC hl
  have hK := hC.1
  have hN := hC.2.1
  have hn12 := hW.n12
  have hlln := lln_le (S := S) (b := b) (k := k) hn12
  have hl : lv_has ls 2 [(0, .ref (zl S b fl k)), (1, .int (nI i))] := hl
  refine lv_iload_n hx hb dJx4a65c_get_915e3_0 rfl (lv_at hl 1 rfl) ?_
  refine lv_aload_n hx hb dJx4a65c_get_915e3_1 rfl (lv_at hl 0 rfl) ?_
  obtain ⟨mc9, x9, ho9⟩ := hW.lobj hl0
  refine va_get (D := D) (ci := 0) (v := .int (nI (lln S b k))) (C := RJx4a65c) (T := TJx4a65c) (N := 3) hx hb hts iJx4a65c hown hK (va_P_one ho9) 0 rfl rfl 2 (by decide) (hts _ wq56) (fun _ h9 => h9) rfl dJx4a65c_get_915e3_2 ?_
  refine zr_i (va_runS (As := [.int (nI i), .int (nI (lln S b k))]) (rest := []) ⟨hx, hb, hml, hown, hts⟩ (k_J15_checkIndex l (nI i) (nI (lln S b k)) (nI_pos (by omega)) (nI_lt hi (by omega))) (va_cwS 2 hts (lw_S wq231 wq232 wq12 wq233) rfl rfl rfl (by decide +kernel) ⟨(Nat.le_of_ble_eq_true rfl), (Nat.le_of_ble_eq_true rfl)⟩) tp_N rfl rfl hl.1 rfl (lv_room (Nat.le_of_ble_eq_true rfl)) dJx4a65c_get_915e3_5 ⟨(Nat.le_of_ble_eq_true rfl), (Nat.le_of_ble_eq_true rfl)⟩) ?_
  refine lv_pop hx hb dJx4a65c_get_915e3_8 rfl ?_
  refine lv_aload_n hx hb dJx4a65c_get_915e3_9 rfl (lv_at hl 0 rfl) ?_
  refine lv_iload_n hx hb dJx4a65c_get_915e3_10 rfl (lv_at hl 1 rfl) ?_
  refine zr_q (va_runV (As := [.int (nI i)]) (rest := []) ⟨hx, hb, hml, hown, hts⟩ (k_AL_elementData l D yc e0 A S Z F G q b fl k i hl0 (by first | assumption | omega | decide)) (cwV 1 hts (lw_V wq237 wq238 wq239 wq5 wq240) rfl rfl rfl (by decide +kernel) ⟨(Nat.le_of_ble_eq_true rfl), (Nat.le_of_ble_eq_true rfl)⟩) (tp_L hC hW hS hA b fl k hl0) rfl rfl hl.1 rfl (lv_room (Nat.le_of_ble_eq_true rfl)) dJx4a65c_get_915e3_11 ⟨(Nat.le_of_ble_eq_true rfl), (Nat.le_of_ble_eq_true rfl)⟩) ?_
  exact ze_q hx hb hr (by first | exact Or.inl ⟨_, rfl⟩ | exact Or.inr ⟨_, rfl⟩) hlk (by first | exact Or.inl rfl | exact Or.inr ⟨_, rfl⟩ | exact zch_or _ _ _ _) (by rfl) dJx4a65c_get_915e3_14
def v_X1_length (S : TS) (F : TF) (G : TG) (q : TQ) (kd : Nat) (fl : Nat) (k : Nat) : Int32 := (v_X6_length S F G q (ri fl (zsrc S (kd - 4) k))) - (F kd fl k 1)
set_option maxHeartbeats 4000000 in
set_option maxRecDepth 100000 in
theorem k_X1_length (l : Launch) (D : va_G) (yc : Nat → ClassId) (e0 : Nat) (A : Nat → Prop) (S : TS) (Z : Nat × Nat) (F : TF) (G : TG) (q : TQ) (kd : Nat) (fl : Nat) (k : Nat) (hkd : kd = 4 ∨ kd = 5) (hd : dm S kd fl k) : Met l yX1_length (ws_ yX1_length cX1_length 1 (some .int)) ({ frames := 1, cells := 0, slots := 0, locals := 20 }) (PT D yc e0 A S Z F G q [.ref (zg S kd fl k)]) (zQ (some (.int (v_X1_length S F G q kd fl k)))) 0 0 zno := by
  refine tk_M (by decide) (Nat.le_of_ble_eq_true rfl) ?_
  intro p e s m args below meth c ls hx hb hml hr hlk hown hts hW hS hA hC hl
  have hK := hC.1
  have hN := hC.2.1
  have hn12 := hW.n12
  obtain ⟨hcf, hck, hcs⟩ := hW.csrc hkd hd
  have hl : lv_has ls 1 [(0, .ref (zg S kd fl k))] := hl
  refine lv_aload_n hx hb dX1_length_0 rfl (lv_at hl 0 rfl) ?_
  refine t_get (D := D) (ci := 1) (v := .ref (zr S (ri fl (zsrc S (kd - 4) k)))) (C := RX1) (T := TX1) (N := 3) hx hb hts iX1 hown hK hW kd fl k hd (cel_ch hkd) rfl 0 (by decide) (hts _ wq937) (fun _ h9 => h9) rfl dX1_length_1 ?_
  refine zr_i (va_runV (As := []) (rest := []) ⟨hx, hb, hml, hown, hts⟩ (k_X6_length l D yc e0 A S Z F G q (ri fl (zsrc S (kd - 4) k)) (dr_i hW.n12 (by assumption) (by assumption))) (cwV 0 hts (lw_V wq312 wq266 wq267 wq15 wq268) rfl rfl rfl (by decide +kernel) ⟨(Nat.le_of_ble_eq_true rfl), (Nat.le_of_ble_eq_true rfl)⟩) (tp_R hC hW hS hA (ri fl (zsrc S (kd - 4) k)) (dr_i hW.n12 (by assumption) (by assumption))) rfl rfl hl.1 rfl (lv_room (Nat.le_of_ble_eq_true rfl)) dX1_length_4 ⟨(Nat.le_of_ble_eq_true rfl), (Nat.le_of_ble_eq_true rfl)⟩) ?_
  refine lv_aload_n hx hb dX1_length_7 rfl (lv_at hl 0 rfl) ?_
  refine t_get (D := D) (ci := 1) (v := .int (F kd fl k 1)) (C := RX1) (T := TX1) (N := 3) hx hb hts iX1 hown hK hW kd fl k hd (cel_ch hkd) rfl 1 (by decide) (hts _ wq938) (fun _ h9 => h9) rfl dX1_length_8 ?_
  refine lv_isub hx hb dX1_length_11 ?_
  exact ze_i hx hb hr hlk rfl (by rfl) dX1_length_12
def v_X1_canGive (S : TS) (F : TF) (G : TG) (q : TQ) (kd : Nat) (fl : Nat) (k : Nat) : Int32 := if (F kd fl k 2) = 0 then if (v_X1_length S F G q kd fl k) ≤ 0 then 0 else 1 else 0
set_option maxHeartbeats 4000000 in
set_option maxRecDepth 100000 in
theorem k_X1_canGive (l : Launch) (D : va_G) (yc : Nat → ClassId) (e0 : Nat) (A : Nat → Prop) (S : TS) (Z : Nat × Nat) (F : TF) (G : TG) (q : TQ) (kd : Nat) (fl : Nat) (k : Nat) (hkd : kd = 4 ∨ kd = 5) (hd : dm S kd fl k) : Met l yX1_canGive (ws_ yX1_canGive cX1_canGive 1 (some .boolean)) ({ frames := 2, cells := 0, slots := 0, locals := 40 }) (PT D yc e0 A S Z F G q [.ref (zg S kd fl k)]) (zQ (some (.int (v_X1_canGive S F G q kd fl k)))) 0 0 zno := by
  refine tk_M (by decide) (Nat.le_of_ble_eq_true rfl) ?_
  intro p e s m args below meth c ls hx hb hml hr hlk hown hts hW hS hA hC hl
  have hK := hC.1
  have hN := hC.2.1
  have hn12 := hW.n12
  obtain ⟨hcf, hck, hcs⟩ := hW.csrc hkd hd
  have hl : lv_has ls 1 [(0, .ref (zg S kd fl k))] := hl
  refine lv_aload_n hx hb dX1_canGive_0 rfl (lv_at hl 0 rfl) ?_
  refine t_get (D := D) (ci := 1) (v := .int (F kd fl k 2)) (C := RX1) (T := TX1) (N := 3) hx hb hts iX1 hown hK hW kd fl k hd (cel_ch hkd) rfl 2 (by decide) (hts _ wq940) (fun _ h9 => h9) rfl dX1_canGive_1 ?_
  refine lv_if_ne (tgt := 18) hx hb dX1_canGive_4 (by decide) (fun hb1 => ?_) (fun hb1 => ?_)
  · refine lv_iconst (v := 0) hx hb dX1_canGive_18 (by decide) ?_
    exact ze_i hx hb hr hlk rfl (by unfold v_X1_canGive; rw [if_neg hb1]) dX1_canGive_19
  · refine lv_aload_n hx hb dX1_canGive_7 rfl (lv_at hl 0 rfl) ?_
    refine zr_i (va_runV (As := []) (rest := []) ⟨hx, hb, hml, hown, hts⟩ (k_X1_length l D yc e0 A S Z F G q kd fl k hkd hd) (cwV 0 hts (lw_V wq308 wq309 wq310 wq17 wq311) rfl rfl rfl (by decide +kernel) ⟨(Nat.le_of_ble_eq_true rfl), (Nat.le_of_ble_eq_true rfl)⟩) (tp_V hC hW hS hA kd fl k hd (cel_ch hkd) rfl) rfl rfl hl.1 rfl (lv_room (Nat.le_of_ble_eq_true rfl)) dX1_canGive_8 ⟨(Nat.le_of_ble_eq_true rfl), (Nat.le_of_ble_eq_true rfl)⟩) ?_
    refine lv_if_le (tgt := 18) hx hb dX1_canGive_11 (by decide) (fun hb2 => ?_) (fun hb2 => ?_)
    · refine lv_iconst (v := 0) hx hb dX1_canGive_18 (by decide) ?_
      exact ze_i hx hb hr hlk rfl (by unfold v_X1_canGive; rw [if_pos hb1, if_pos hb2]) dX1_canGive_19
    · refine lv_iconst (v := 1) hx hb dX1_canGive_14 (by decide) ?_
      refine lv_goto (tgt := 19) hx hb dX1_canGive_15 (by decide) ?_
      exact ze_i hx hb hr hlk rfl (by unfold v_X1_canGive; rw [if_pos hb1, if_neg hb2]) dX1_canGive_19
def r_X4_leastGiven (S : TS) (F : TF) (G : TG) (q : TQ) (fl : Nat) (k : Nat) : Nat → Nat → Int32 → Int32
  | 0, _, v => v
  | n + 1, i, v => r_X4_leastGiven S F G q fl k n (i + 1) (zmin v (F (ochd S k i).1 fl (ochd S k i).2 1))
set_option maxHeartbeats 4000000 in
set_option maxRecDepth 100000 in
theorem lp_X4_leastGiven {p : Program} {l : Launch} {e : Env} {s : State} {m : MethodId} {args : Array Value} {below : List Frame} {meth : Method} {c : Code} {D : va_G} {yc : Nat → ClassId} {e0 : Nat} {A : Nat → Prop} {S : TS} {Z : Nat × Nat} {F : TF} {G : TG} {q : TQ} (fl : Nat) (k : Nat) (hf : fl < 2) (hk : k < zn S) (hx : p.tables.exec = Jvm.exec) (hb : c.code = cX4_leastGiven) (hml : c.maxLocals = 3) (hr : meth.sig.returnType = (some .int)) (hlk : meth.locks = false) (hown : s.vm.findClass yX4_leastGiven.cls = some m.cls) (hts : ∀ w ∈ lw_all, w.before args s = true) (hW : WT D yc e0 A S Z F G q s.heap) (hS : va_S A s.heap s.heap []) (hA : ∀ a, s.heap.size ≤ a → A a) (hC : CX D yc e0 A s) : ∀ (n : Nat) (i : Nat) (v : Int32) (ls : Array Slot), i + n = (och S k).length → lv_has ls 3 [(2, .int (nI i)), (1, .int v), (0, .ref (zg S 3 fl k))] → W p l e ({ frames := 3, cells := 0, slots := 0, locals := 64 }) s m args below meth c s.heap [] 0 0 (MQ below (zQ (some (.int (r_X4_leastGiven S F G q fl k n i v)))) args s 0 0 zno) (F0 m 10 ls []) := by
  have hK := hC.1
  have hN := hC.2.1
  have hn12 := hW.n12
  have hol := och_len S k
  intro n
  induction n with
  | zero =>
    intro i v ls hinv hl
    refine lv_iload_n hx hb dX4_leastGiven_10 rfl (lv_at hl 0 rfl) ?_
    refine lv_aload_n hx hb dX4_leastGiven_11 rfl (lv_at hl 2 rfl) ?_
    refine t_get (D := D) (ci := 3) (v := .ref (zl S 1 fl k)) (C := RX4) (T := TX4) (N := 2) hx hb hts iX4 hown hK hW 3 fl k (dm3 (by omega) (by omega)) rfl rfl 1 (by decide) (hts _ wq1018) (fun _ h9 => h9) rfl dX4_leastGiven_12 ?_
    refine zr_i (va_runV (As := []) (rest := [.int (nI i)]) ⟨hx, hb, hml, hown, hts⟩ (k_AL_size l D yc e0 A S Z F G q 1 fl k (dl1 (by omega) (by omega))) (cwV 0 hts (lw_V wq296 wq120 wq121 wq5 wq122) rfl rfl rfl (by decide +kernel) ⟨(Nat.le_of_ble_eq_true rfl), (Nat.le_of_ble_eq_true rfl)⟩) (tp_L hC hW hS hA 1 fl k (dl1 (by omega) (by omega))) rfl rfl hl.1 rfl (lv_room (Nat.le_of_ble_eq_true rfl)) dX4_leastGiven_15 ⟨(Nat.le_of_ble_eq_true rfl), (Nat.le_of_ble_eq_true rfl)⟩) ?_
    refine zk_ti (y := nI (och S k).length) rfl ?_
    refine lv_icmp_ge (tgt := 46) hx hb dX4_leastGiven_18 (by decide) (fun _ => ?_) (fun h9 => absurd (nI_le (by omega) (by omega)) h9)
    refine lv_iload_n hx hb dX4_leastGiven_46 rfl (lv_at hl 1 rfl) ?_
    exact ze_i hx hb hr hlk rfl (by rfl) dX4_leastGiven_47
  | succ n ih =>
    intro i v ls hinv hl
    refine lv_iload_n hx hb dX4_leastGiven_10 rfl (lv_at hl 0 rfl) ?_
    refine lv_aload_n hx hb dX4_leastGiven_11 rfl (lv_at hl 2 rfl) ?_
    refine t_get (D := D) (ci := 3) (v := .ref (zl S 1 fl k)) (C := RX4) (T := TX4) (N := 2) hx hb hts iX4 hown hK hW 3 fl k (dm3 (by omega) (by omega)) rfl rfl 1 (by decide) (hts _ wq1018) (fun _ h9 => h9) rfl dX4_leastGiven_12 ?_
    refine zr_i (va_runV (As := []) (rest := [.int (nI i)]) ⟨hx, hb, hml, hown, hts⟩ (k_AL_size l D yc e0 A S Z F G q 1 fl k (dl1 (by omega) (by omega))) (cwV 0 hts (lw_V wq296 wq120 wq121 wq5 wq122) rfl rfl rfl (by decide +kernel) ⟨(Nat.le_of_ble_eq_true rfl), (Nat.le_of_ble_eq_true rfl)⟩) (tp_L hC hW hS hA 1 fl k (dl1 (by omega) (by omega))) rfl rfl hl.1 rfl (lv_room (Nat.le_of_ble_eq_true rfl)) dX4_leastGiven_15 ⟨(Nat.le_of_ble_eq_true rfl), (Nat.le_of_ble_eq_true rfl)⟩) ?_
    refine zk_ti (y := nI (och S k).length) rfl ?_
    refine lv_icmp_ge (tgt := 46) hx hb dX4_leastGiven_18 (by decide) (fun h9 => absurd h9 (nI_ge (by omega) (by omega))) (fun _ => ?_)
    refine lv_iload_n hx hb dX4_leastGiven_21 rfl (lv_at hl 1 rfl) ?_
    refine lv_aload_n hx hb dX4_leastGiven_22 rfl (lv_at hl 2 rfl) ?_
    refine t_get (D := D) (ci := 3) (v := .ref (zl S 1 fl k)) (C := RX4) (T := TX4) (N := 2) hx hb hts iX4 hown hK hW 3 fl k (dm3 (by omega) (by omega)) rfl rfl 1 (by decide) (hts _ wq1018) (fun _ h9 => h9) rfl dX4_leastGiven_23 ?_
    refine lv_iload_n hx hb dX4_leastGiven_26 rfl (lv_at hl 0 rfl) ?_
    refine zr_q (va_runV (As := [.int (nI i)]) (rest := [.int v]) ⟨hx, hb, hml, hown, hts⟩ (k_AL_get l D yc e0 A S Z F G q 1 fl k i (dl1 (by omega) (by omega)) (show i < (och S k).length by omega)) (cwV 1 hts (lw_V wq297 wq228 wq229 wq5 wq230) rfl rfl rfl (by decide +kernel) ⟨(Nat.le_of_ble_eq_true rfl), (Nat.le_of_ble_eq_true rfl)⟩) (tp_L hC hW hS hA 1 fl k (dl1 (by omega) (by omega))) rfl rfl hl.1 rfl (lv_room (Nat.le_of_ble_eq_true rfl)) dX4_leastGiven_27 ⟨(Nat.le_of_ble_eq_true rfl), (Nat.le_of_ble_eq_true rfl)⟩) ?_
    obtain ⟨hc1a, hc1b, hc1c⟩ := och_ok (S := S) (k := k) (i := i) (fl := fl) (by omega) (by first | assumption | omega)
    refine zk_tv (y := .ref (zg S ((ochd S k i).1) fl ((ochd S k i).2))) rfl ?_
    refine va_castS hx hb hown (hts _ wq298) (hK.1 1 _ rfl).2 (t_cell hK hW ((ochd S k i).1) fl ((ochd S k i).2) hc1b (cel_ch hc1a) rfl) dX4_leastGiven_30 ?_
    refine t_getN (D := D) (ci := 1) (v := .int (F ((ochd S k i).1) fl ((ochd S k i).2) 1)) (C := RX1) (T := TX1) (N := 3) hx hb hts iX1 hown hK hW ((ochd S k i).1) fl ((ochd S k i).2) hc1b (cel_ch hc1a) rfl 1 (by decide) (zk_tab rfl (hN _ wr939 rfl)) (fun _ h9 => h9) rfl dX4_leastGiven_33 ?_
    refine va_mmin hx hb (by rw [hml]; exact hl.1.symm) hown (hts _ wq299) (hts _ wq300) (hts _ wq14) (hts _ wq301) (Nat.le_of_ble_eq_true rfl) (Nat.le_of_ble_eq_true rfl) (Nat.le_of_ble_eq_true rfl) (Nat.le_of_ble_eq_true rfl) dX4_leastGiven_36 ?_
    refine zk_ti (y := zmin v (F ((ochd S k i).1) fl ((ochd S k i).2) 1)) rfl ?_
    refine lv_istore_n (lv' := [(1, .int (zmin v (F ((ochd S k i).1) fl ((ochd S k i).2) 1))), (2, .int (nI i)), (0, .ref (zg S 3 fl k))]) hx hb dX4_leastGiven_39 rfl hl (by decide) rfl (fun ls hl => ?_)
    refine lv_iinc (v := nI (i + 1)) (lv' := [(2, .int (nI (i + 1))), (1, .int (zmin v (F ((ochd S k i).1) fl ((ochd S k i).2) 1))), (0, .ref (zg S 3 fl k))]) hx hb dX4_leastGiven_40 hl (k := 1) rfl (nI_1 _) (by decide) rfl (fun ls hl => ?_)
    refine lv_goto (tgt := 10) hx hb dX4_leastGiven_43 (by decide) ?_
    exact ih (i + 1) (zmin v (F ((ochd S k i).1) fl ((ochd S k i).2) 1)) _ (by omega) (lv_sub hl [0, 1, 2] rfl)
def v_X4_leastGiven (S : TS) (F : TF) (G : TG) (q : TQ) (fl : Nat) (k : Nat) : Int32 := r_X4_leastGiven S F G q fl k ((och S k).length) 0 (nI (q (ri fl k)).2.length)
set_option maxHeartbeats 4000000 in
set_option maxRecDepth 100000 in
theorem k_X4_leastGiven (l : Launch) (D : va_G) (yc : Nat → ClassId) (e0 : Nat) (A : Nat → Prop) (S : TS) (Z : Nat × Nat) (F : TF) (G : TG) (q : TQ) (fl : Nat) (k : Nat) (hf : fl < 2) (hk : k < zn S) : Met l yX4_leastGiven (ws_ yX4_leastGiven cX4_leastGiven 3 (some .int)) ({ frames := 3, cells := 0, slots := 0, locals := 64 }) (PT D yc e0 A S Z F G q [.ref (zg S 3 fl k)]) (zQ (some (.int (v_X4_leastGiven S F G q fl k)))) 0 0 zno := by
  refine tk_M (by decide) (Nat.le_of_ble_eq_true rfl) ?_
  intro p e s m args below meth c ls hx hb hml hr hlk hown hts hW hS hA hC hl
  have hK := hC.1
  have hN := hC.2.1
  have hn12 := hW.n12
  have hl : lv_has ls 3 [(0, .ref (zg S 3 fl k))] := hl
  have hol := och_len S k
  refine lv_aload_n hx hb dX4_leastGiven_0 rfl (lv_at hl 0 rfl) ?_
  refine t_get (D := D) (ci := 3) (v := .ref (zr S (ri fl k))) (C := RX4) (T := TX4) (N := 2) hx hb hts iX4 hown hK hW 3 fl k (dm3 (by omega) (by omega)) rfl rfl 0 (by decide) (hts _ wq1016) (fun _ h9 => h9) rfl dX4_leastGiven_1 ?_
  refine zr_i (va_runV (As := []) (rest := []) ⟨hx, hb, hml, hown, hts⟩ (k_X6_length l D yc e0 A S Z F G q (ri fl k) (dr_i hW.n12 (by omega) (by omega))) (cwV 0 hts (lw_V wq290 wq266 wq267 wq15 wq268) rfl rfl rfl (by decide +kernel) ⟨(Nat.le_of_ble_eq_true rfl), (Nat.le_of_ble_eq_true rfl)⟩) (tp_R hC hW hS hA (ri fl k) (dr_i hW.n12 (by omega) (by omega))) rfl rfl hl.1 rfl (lv_room (Nat.le_of_ble_eq_true rfl)) dX4_leastGiven_4 ⟨(Nat.le_of_ble_eq_true rfl), (Nat.le_of_ble_eq_true rfl)⟩) ?_
  refine lv_istore_n (lv' := [(1, .int (v_X6_length S F G q (ri fl k))), (0, .ref (zg S 3 fl k))]) hx hb dX4_leastGiven_7 rfl hl (by decide) rfl (fun ls hl => ?_)
  refine lv_iconst (v := 0) hx hb dX4_leastGiven_8 (by decide) ?_
  refine lv_istore_n (lv' := [(2, .int 0), (1, .int (v_X6_length S F G q (ri fl k))), (0, .ref (zg S 3 fl k))]) hx hb dX4_leastGiven_9 rfl hl (by decide) rfl (fun ls hl => ?_)
  exact lp_X4_leastGiven fl k hf hk hx hb hml hr hlk hown hts hW hS hA hC ((och S k).length) 0 (nI (q (ri fl k)).2.length) _ (by omega) (lv_sub hl [0, 1, 2] rfl)
def v_X4_isBelow (S : TS) (F : TF) (G : TG) (q : TQ) (fl : Nat) (k : Nat) (i1 : Int32) : Int32 := if i1 ≤ ((v_X6_length S F G q (ri fl k)) - (v_X4_leastGiven S F G q fl k)) then 0 else 1
set_option maxHeartbeats 4000000 in
set_option maxRecDepth 100000 in
theorem k_X4_isBelow (l : Launch) (D : va_G) (yc : Nat → ClassId) (e0 : Nat) (A : Nat → Prop) (S : TS) (Z : Nat × Nat) (F : TF) (G : TG) (q : TQ) (fl : Nat) (k : Nat) (i1 : Int32) (hf : fl < 2) (hk : k < zn S) : Met l yX4_isBelow (ws_ yX4_isBelow cX4_isBelow 2 (some .boolean)) ({ frames := 4, cells := 0, slots := 0, locals := 86 }) (PT D yc e0 A S Z F G q [.ref (zg S 3 fl k), .int i1]) (zQ (some (.int (v_X4_isBelow S F G q fl k i1)))) 0 0 zno := by
  refine tk_M (by decide) (Nat.le_of_ble_eq_true rfl) ?_
  intro p e s m args below meth c ls hx hb hml hr hlk hown hts hW hS hA hC hl
  have hK := hC.1
  have hN := hC.2.1
  have hn12 := hW.n12
  have hl : lv_has ls 2 [(0, .ref (zg S 3 fl k)), (1, .int i1)] := hl
  refine lv_aload_n hx hb dX4_isBelow_0 rfl (lv_at hl 0 rfl) ?_
  refine t_get (D := D) (ci := 3) (v := .ref (zr S (ri fl k))) (C := RX4) (T := TX4) (N := 2) hx hb hts iX4 hown hK hW 3 fl k (dm3 (by omega) (by omega)) rfl rfl 0 (by decide) (hts _ wq1016) (fun _ h9 => h9) rfl dX4_isBelow_1 ?_
  refine zr_i (va_runV (As := []) (rest := []) ⟨hx, hb, hml, hown, hts⟩ (k_X6_length l D yc e0 A S Z F G q (ri fl k) (dr_i hW.n12 (by omega) (by omega))) (cwV 0 hts (lw_V wq290 wq266 wq267 wq15 wq268) rfl rfl rfl (by decide +kernel) ⟨(Nat.le_of_ble_eq_true rfl), (Nat.le_of_ble_eq_true rfl)⟩) (tp_R hC hW hS hA (ri fl k) (dr_i hW.n12 (by omega) (by omega))) rfl rfl hl.1 rfl (lv_room (Nat.le_of_ble_eq_true rfl)) dX4_isBelow_4 ⟨(Nat.le_of_ble_eq_true rfl), (Nat.le_of_ble_eq_true rfl)⟩) ?_
  refine lv_aload_n hx hb dX4_isBelow_7 rfl (lv_at hl 0 rfl) ?_
  refine zr_i (va_runV (As := []) (rest := [.int (v_X6_length S F G q (ri fl k))]) ⟨hx, hb, hml, hown, hts⟩ (k_X4_leastGiven l D yc e0 A S Z F G q fl k (by first | assumption | omega | decide) (by first | assumption | omega | decide)) (cwV 0 hts (lw_V wq291 wq293 ws5 wq21 wq295) rfl rfl rfl (by decide +kernel) ⟨(Nat.le_of_ble_eq_true rfl), (Nat.le_of_ble_eq_true rfl)⟩) (tp_V hC hW hS hA 3 fl k (dm3 (by omega) (by omega)) rfl rfl) rfl rfl hl.1 rfl (lv_room (Nat.le_of_ble_eq_true rfl)) dX4_isBelow_8 ⟨(Nat.le_of_ble_eq_true rfl), (Nat.le_of_ble_eq_true rfl)⟩) ?_
  refine lv_isub hx hb dX4_isBelow_11 ?_
  refine lv_iload_n hx hb dX4_isBelow_12 rfl (lv_at hl 1 rfl) ?_
  refine lv_icmp_ge (tgt := 20) hx hb dX4_isBelow_13 (by decide) (fun hb1 => ?_) (fun hb1 => ?_)
  · refine lv_iconst (v := 0) hx hb dX4_isBelow_20 (by decide) ?_
    exact ze_i hx hb hr hlk rfl (by unfold v_X4_isBelow; rw [if_pos hb1]) dX4_isBelow_21
  · refine lv_iconst (v := 1) hx hb dX4_isBelow_16 (by decide) ?_
    refine lv_goto (tgt := 21) hx hb dX4_isBelow_17 (by decide) ?_
    exact ze_i hx hb hr hlk rfl (by unfold v_X4_isBelow; rw [if_neg hb1]) dX4_isBelow_21
def v_X7_length (S : TS) (F : TF) (G : TG) (q : TQ) (fl : Nat) (k : Nat) : Int32 := v_X6_length S F G q (rs 0 fl k)
set_option maxHeartbeats 4000000 in
set_option maxRecDepth 100000 in
theorem k_X7_length (l : Launch) (D : va_G) (yc : Nat → ClassId) (e0 : Nat) (A : Nat → Prop) (S : TS) (Z : Nat × Nat) (F : TF) (G : TG) (q : TQ) (fl : Nat) (k : Nat) (hf : fl < 2) (hk : k < 3 * zn S) : Met l yX7_length (ws_ yX7_length cX7_length 1 (some .int)) ({ frames := 1, cells := 0, slots := 0, locals := 20 }) (PT D yc e0 A S Z F G q [.ref (zg S 1 fl k)]) (zQ (some (.int (v_X7_length S F G q fl k)))) 0 0 zno := by
  refine tk_M (by decide) (Nat.le_of_ble_eq_true rfl) ?_
  intro p e s m args below meth c ls hx hb hml hr hlk hown hts hW hS hA hC hl
  have hK := hC.1
  have hN := hC.2.1
  have hn12 := hW.n12
  have hl : lv_has ls 1 [(0, .ref (zg S 1 fl k))] := hl
  refine lv_aload_n hx hb dX7_length_0 rfl (lv_at hl 0 rfl) ?_
  refine t_get (D := D) (ci := 6) (v := .ref (zr S (rs 0 fl k))) (C := RX7) (T := TX7) (N := 2) hx hb hts iX7 hown hK hW 1 fl k (dm1 (by omega) (by omega)) rfl rfl 0 (by decide) (hts _ wq1042) (fun _ h9 => h9) rfl dX7_length_1 ?_
  refine zr_i (va_runV (As := []) (rest := []) ⟨hx, hb, hml, hown, hts⟩ (k_X6_length l D yc e0 A S Z F G q (rs 0 fl k) (dr_s hW.n12 (by omega) (by omega) (by omega))) (cwV 0 hts (lw_V wq416 wq266 wq267 wq15 wq268) rfl rfl rfl (by decide +kernel) ⟨(Nat.le_of_ble_eq_true rfl), (Nat.le_of_ble_eq_true rfl)⟩) (tp_R hC hW hS hA (rs 0 fl k) (dr_s hW.n12 (by omega) (by omega) (by omega))) rfl rfl hl.1 rfl (lv_room (Nat.le_of_ble_eq_true rfl)) dX7_length_4 ⟨(Nat.le_of_ble_eq_true rfl), (Nat.le_of_ble_eq_true rfl)⟩) ?_
  exact ze_i hx hb hr hlk rfl (by rfl) dX7_length_7
def v_X7_endAt (S : TS) (F : TF) (G : TG) (q : TQ) (fl : Nat) (k : Nat) (i1 : Int32) : Int32 := ((v_X6_at S F G q (rs 0 fl k) i1) >>> ((29 : Int32).toInt64 &&& 63)).toInt32
set_option maxHeartbeats 4000000 in
set_option maxRecDepth 100000 in
theorem k_X7_endAt (l : Launch) (D : va_G) (yc : Nat → ClassId) (e0 : Nat) (A : Nat → Prop) (S : TS) (Z : Nat × Nat) (F : TF) (G : TG) (q : TQ) (fl : Nat) (k : Nat) (i1 : Int32) (hf : fl < 2) (hk : k < 3 * zn S) : Met l yX7_endAt (ws_ yX7_endAt cX7_endAt 2 (some .int)) ({ frames := 1, cells := 0, slots := 0, locals := 21 }) (PT D yc e0 A S Z F G q [.ref (zg S 1 fl k), .int i1]) (zQ (some (.int (v_X7_endAt S F G q fl k i1)))) 0 0 zno := by
  refine tk_M (by decide) (Nat.le_of_ble_eq_true rfl) ?_
  intro p e s m args below meth c ls hx hb hml hr hlk hown hts hW hS hA hC hl
  have hK := hC.1
  have hN := hC.2.1
  have hn12 := hW.n12
  have hl : lv_has ls 2 [(0, .ref (zg S 1 fl k)), (1, .int i1)] := hl
  refine lv_aload_n hx hb dX7_endAt_0 rfl (lv_at hl 0 rfl) ?_
  refine t_get (D := D) (ci := 6) (v := .ref (zr S (rs 0 fl k))) (C := RX7) (T := TX7) (N := 2) hx hb hts iX7 hown hK hW 1 fl k (dm1 (by omega) (by omega)) rfl rfl 0 (by decide) (hts _ wq1042) (fun _ h9 => h9) rfl dX7_endAt_1 ?_
  refine lv_iload_n hx hb dX7_endAt_4 rfl (lv_at hl 1 rfl) ?_
  refine zr_l (va_runV (As := [.int i1]) (rest := []) ⟨hx, hb, hml, hown, hts⟩ (k_X6_at l D yc e0 A S Z F G q (rs 0 fl k) i1 (dr_s hW.n12 (by omega) (by omega) (by omega))) (cwV 1 hts (lw_V wq417 wq391 wq392 wq15 wq393) rfl rfl rfl (by decide +kernel) ⟨(Nat.le_of_ble_eq_true rfl), (Nat.le_of_ble_eq_true rfl)⟩) (tp_R hC hW hS hA (rs 0 fl k) (dr_s hW.n12 (by omega) (by omega) (by omega))) rfl rfl hl.1 rfl (lv_room (Nat.le_of_ble_eq_true rfl)) dX7_endAt_5 ⟨(Nat.le_of_ble_eq_true rfl), (Nat.le_of_ble_eq_true rfl)⟩) ?_
  refine lv_bipush (v := 29) hx hb dX7_endAt_8 (by decide) ?_
  refine lv_lshr (v := (v_X6_at S F G q (rs 0 fl k) i1) >>> ((29 : Int32).toInt64 &&& 63)) hx hb dX7_endAt_10 rfl ?_
  refine lv_l2i (v := ((v_X6_at S F G q (rs 0 fl k) i1) >>> ((29 : Int32).toInt64 &&& 63)).toInt32) hx hb dX7_endAt_11 rfl ?_
  exact ze_i hx hb hr hlk rfl (by rfl) dX7_endAt_12
def v_X7_keyAtPlace (S : TS) (F : TF) (G : TG) (q : TQ) (fl : Nat) (k : Nat) (i1 : Int32) : Int32 := (((v_X6_at S F G q (rs 0 fl k) i1) >>> ((21 : Int32).toInt64 &&& 63)) &&& 255).toInt32
set_option maxHeartbeats 4000000 in
set_option maxRecDepth 100000 in
theorem k_X7_keyAtPlace (l : Launch) (D : va_G) (yc : Nat → ClassId) (e0 : Nat) (A : Nat → Prop) (S : TS) (Z : Nat × Nat) (F : TF) (G : TG) (q : TQ) (fl : Nat) (k : Nat) (i1 : Int32) (hf : fl < 2) (hk : k < 3 * zn S) : Met l yX7_keyAtPlace (ws_ yX7_keyAtPlace cX7_keyAtPlace 2 (some .int)) ({ frames := 1, cells := 0, slots := 0, locals := 21 }) (PT D yc e0 A S Z F G q [.ref (zg S 1 fl k), .int i1]) (zQ (some (.int (v_X7_keyAtPlace S F G q fl k i1)))) 0 0 zno := by
  refine tk_M (by decide) (Nat.le_of_ble_eq_true rfl) ?_
  intro p e s m args below meth c ls hx hb hml hr hlk hown hts hW hS hA hC hl
  have hK := hC.1
  have hN := hC.2.1
  have hn12 := hW.n12
  have hl : lv_has ls 2 [(0, .ref (zg S 1 fl k)), (1, .int i1)] := hl
  refine lv_aload_n hx hb dX7_keyAtPlace_0 rfl (lv_at hl 0 rfl) ?_
  refine t_get (D := D) (ci := 6) (v := .ref (zr S (rs 0 fl k))) (C := RX7) (T := TX7) (N := 2) hx hb hts iX7 hown hK hW 1 fl k (dm1 (by omega) (by omega)) rfl rfl 0 (by decide) (hts _ wq1042) (fun _ h9 => h9) rfl dX7_keyAtPlace_1 ?_
  refine lv_iload_n hx hb dX7_keyAtPlace_4 rfl (lv_at hl 1 rfl) ?_
  refine zr_l (va_runV (As := [.int i1]) (rest := []) ⟨hx, hb, hml, hown, hts⟩ (k_X6_at l D yc e0 A S Z F G q (rs 0 fl k) i1 (dr_s hW.n12 (by omega) (by omega) (by omega))) (cwV 1 hts (lw_V wq417 wq391 wq392 wq15 wq393) rfl rfl rfl (by decide +kernel) ⟨(Nat.le_of_ble_eq_true rfl), (Nat.le_of_ble_eq_true rfl)⟩) (tp_R hC hW hS hA (rs 0 fl k) (dr_s hW.n12 (by omega) (by omega) (by omega))) rfl rfl hl.1 rfl (lv_room (Nat.le_of_ble_eq_true rfl)) dX7_keyAtPlace_5 ⟨(Nat.le_of_ble_eq_true rfl), (Nat.le_of_ble_eq_true rfl)⟩) ?_
  refine lv_bipush (v := 21) hx hb dX7_keyAtPlace_8 (by decide) ?_
  refine lv_lshr (v := (v_X6_at S F G q (rs 0 fl k) i1) >>> ((21 : Int32).toInt64 &&& 63)) hx hb dX7_keyAtPlace_10 rfl ?_
  refine lv_ldc2 hx hb hown (hts _ wq439) dX7_keyAtPlace_11 ?_
  refine lv_land hx hb dX7_keyAtPlace_14 ?_
  refine lv_l2i (v := (((v_X6_at S F G q (rs 0 fl k) i1) >>> ((21 : Int32).toInt64 &&& 63)) &&& 255).toInt32) hx hb dX7_keyAtPlace_15 rfl ?_
  exact ze_i hx hb hr hlk rfl (by rfl) dX7_keyAtPlace_16
def v_X7_beginAt (S : TS) (F : TF) (G : TG) (q : TQ) (fl : Nat) (k : Nat) (i1 : Int32) : Int32 := (((v_X6_at S F G q (rs 0 fl k) i1) &&& 2097151).toInt32) - 1000
set_option maxHeartbeats 4000000 in
set_option maxRecDepth 100000 in
theorem k_X7_beginAt (l : Launch) (D : va_G) (yc : Nat → ClassId) (e0 : Nat) (A : Nat → Prop) (S : TS) (Z : Nat × Nat) (F : TF) (G : TG) (q : TQ) (fl : Nat) (k : Nat) (i1 : Int32) (hf : fl < 2) (hk : k < 3 * zn S) : Met l yX7_beginAt (ws_ yX7_beginAt cX7_beginAt 2 (some .int)) ({ frames := 1, cells := 0, slots := 0, locals := 21 }) (PT D yc e0 A S Z F G q [.ref (zg S 1 fl k), .int i1]) (zQ (some (.int (v_X7_beginAt S F G q fl k i1)))) 0 0 zno := by
  refine tk_M (by decide) (Nat.le_of_ble_eq_true rfl) ?_
  intro p e s m args below meth c ls hx hb hml hr hlk hown hts hW hS hA hC hl
  have hK := hC.1
  have hN := hC.2.1
  have hn12 := hW.n12
  have hl : lv_has ls 2 [(0, .ref (zg S 1 fl k)), (1, .int i1)] := hl
  refine lv_aload_n hx hb dX7_beginAt_0 rfl (lv_at hl 0 rfl) ?_
  refine t_get (D := D) (ci := 6) (v := .ref (zr S (rs 0 fl k))) (C := RX7) (T := TX7) (N := 2) hx hb hts iX7 hown hK hW 1 fl k (dm1 (by omega) (by omega)) rfl rfl 0 (by decide) (hts _ wq1042) (fun _ h9 => h9) rfl dX7_beginAt_1 ?_
  refine lv_iload_n hx hb dX7_beginAt_4 rfl (lv_at hl 1 rfl) ?_
  refine zr_l (va_runV (As := [.int i1]) (rest := []) ⟨hx, hb, hml, hown, hts⟩ (k_X6_at l D yc e0 A S Z F G q (rs 0 fl k) i1 (dr_s hW.n12 (by omega) (by omega) (by omega))) (cwV 1 hts (lw_V wq417 wq391 wq392 wq15 wq393) rfl rfl rfl (by decide +kernel) ⟨(Nat.le_of_ble_eq_true rfl), (Nat.le_of_ble_eq_true rfl)⟩) (tp_R hC hW hS hA (rs 0 fl k) (dr_s hW.n12 (by omega) (by omega) (by omega))) rfl rfl hl.1 rfl (lv_room (Nat.le_of_ble_eq_true rfl)) dX7_beginAt_5 ⟨(Nat.le_of_ble_eq_true rfl), (Nat.le_of_ble_eq_true rfl)⟩) ?_
  refine lv_ldc2 hx hb hown (hts _ wq559) dX7_beginAt_8 ?_
  refine lv_land hx hb dX7_beginAt_11 ?_
  refine lv_l2i (v := ((v_X6_at S F G q (rs 0 fl k) i1) &&& 2097151).toInt32) hx hb dX7_beginAt_12 rfl ?_
  refine lv_sipush (v := 1000) hx hb dX7_beginAt_13 (by decide) ?_
  refine lv_isub hx hb dX7_beginAt_16 ?_
  exact ze_i hx hb hr hlk rfl (by rfl) dX7_beginAt_17
def v_X7_accountAtPlace (S : TS) (F : TF) (G : TG) (q : TQ) (fl : Nat) (k : Nat) (i1 : Int32) : Int64 := v_X6_at S F G q (rs 1 fl k) i1
set_option maxHeartbeats 4000000 in
set_option maxRecDepth 100000 in
theorem k_X7_accountAtPlace (l : Launch) (D : va_G) (yc : Nat → ClassId) (e0 : Nat) (A : Nat → Prop) (S : TS) (Z : Nat × Nat) (F : TF) (G : TG) (q : TQ) (fl : Nat) (k : Nat) (i1 : Int32) (hf : fl < 2) (hk : k < 3 * zn S) : Met l yX7_accountAtPlace (ws_ yX7_accountAtPlace cX7_accountAtPlace 2 (some .long)) ({ frames := 1, cells := 0, slots := 0, locals := 21 }) (PT D yc e0 A S Z F G q [.ref (zg S 1 fl k), .int i1]) (zQ (some (.long (v_X7_accountAtPlace S F G q fl k i1)))) 0 0 zno := by
  refine tk_M (by decide) (Nat.le_of_ble_eq_true rfl) ?_
  intro p e s m args below meth c ls hx hb hml hr hlk hown hts hW hS hA hC hl
  have hK := hC.1
  have hN := hC.2.1
  have hn12 := hW.n12
  have hl : lv_has ls 2 [(0, .ref (zg S 1 fl k)), (1, .int i1)] := hl
  refine lv_aload_n hx hb dX7_accountAtPlace_0 rfl (lv_at hl 0 rfl) ?_
  refine t_get (D := D) (ci := 6) (v := .ref (zr S (rs 1 fl k))) (C := RX7) (T := TX7) (N := 2) hx hb hts iX7 hown hK hW 1 fl k (dm1 (by omega) (by omega)) rfl rfl 1 (by decide) (hts _ wq1043) (fun _ h9 => h9) rfl dX7_accountAtPlace_1 ?_
  refine lv_iload_n hx hb dX7_accountAtPlace_4 rfl (lv_at hl 1 rfl) ?_
  refine zr_l (va_runV (As := [.int i1]) (rest := []) ⟨hx, hb, hml, hown, hts⟩ (k_X6_at l D yc e0 A S Z F G q (rs 1 fl k) i1 (dr_s hW.n12 (by omega) (by omega) (by omega))) (cwV 1 hts (lw_V wq417 wq391 wq392 wq15 wq393) rfl rfl rfl (by decide +kernel) ⟨(Nat.le_of_ble_eq_true rfl), (Nat.le_of_ble_eq_true rfl)⟩) (tp_R hC hW hS hA (rs 1 fl k) (dr_s hW.n12 (by omega) (by omega) (by omega))) rfl rfl hl.1 rfl (lv_room (Nat.le_of_ble_eq_true rfl)) dX7_accountAtPlace_5 ⟨(Nat.le_of_ble_eq_true rfl), (Nat.le_of_ble_eq_true rfl)⟩) ?_
  exact ze_l hx hb hr hlk (by rfl) dX7_accountAtPlace_8
def v_X7_isAt (S : TS) (F : TF) (G : TG) (q : TQ) (fl : Nat) (k : Nat) (i1 : Int32) (l1 : Int64) : Int32 := if (v_X6_length S F G q (rs 0 fl k)) ≤ i1 then 0 else if (lg_cmp (v_X6_at S F G q (rs 0 fl k) i1) l1) = 0 then 1 else 0
set_option maxHeartbeats 4000000 in
set_option maxRecDepth 100000 in
theorem k_X7_isAt (l : Launch) (D : va_G) (yc : Nat → ClassId) (e0 : Nat) (A : Nat → Prop) (S : TS) (Z : Nat × Nat) (F : TF) (G : TG) (q : TQ) (fl : Nat) (k : Nat) (i1 : Int32) (l1 : Int64) (hf : fl < 2) (hk : k < 3 * zn S) : Met l yX7_isAt (ws_ yX7_isAt cX7_isAt 4 (some .boolean)) ({ frames := 1, cells := 0, slots := 0, locals := 21 }) (PT D yc e0 A S Z F G q [.ref (zg S 1 fl k), .int i1, .long l1]) (zQ (some (.int (v_X7_isAt S F G q fl k i1 l1)))) 0 0 zno := by
  refine tk_M (by decide) (Nat.le_of_ble_eq_true rfl) ?_
  intro p e s m args below meth c ls hx hb hml hr hlk hown hts hW hS hA hC hl
  have hK := hC.1
  have hN := hC.2.1
  have hn12 := hW.n12
  have hl : lv_has ls 4 [(0, .ref (zg S 1 fl k)), (1, .int i1), (2, .long l1)] := hl
  refine lv_iload_n hx hb dX7_isAt_0 rfl (lv_at hl 1 rfl) ?_
  refine lv_aload_n hx hb dX7_isAt_1 rfl (lv_at hl 0 rfl) ?_
  refine t_get (D := D) (ci := 6) (v := .ref (zr S (rs 0 fl k))) (C := RX7) (T := TX7) (N := 2) hx hb hts iX7 hown hK hW 1 fl k (dm1 (by omega) (by omega)) rfl rfl 0 (by decide) (hts _ wq1042) (fun _ h9 => h9) rfl dX7_isAt_2 ?_
  refine zr_i (va_runV (As := []) (rest := [.int i1]) ⟨hx, hb, hml, hown, hts⟩ (k_X6_length l D yc e0 A S Z F G q (rs 0 fl k) (dr_s hW.n12 (by omega) (by omega) (by omega))) (cwV 0 hts (lw_V wq416 wq266 wq267 wq15 wq268) rfl rfl rfl (by decide +kernel) ⟨(Nat.le_of_ble_eq_true rfl), (Nat.le_of_ble_eq_true rfl)⟩) (tp_R hC hW hS hA (rs 0 fl k) (dr_s hW.n12 (by omega) (by omega) (by omega))) rfl rfl hl.1 rfl (lv_room (Nat.le_of_ble_eq_true rfl)) dX7_isAt_5 ⟨(Nat.le_of_ble_eq_true rfl), (Nat.le_of_ble_eq_true rfl)⟩) ?_
  refine lv_icmp_ge (tgt := 28) hx hb dX7_isAt_8 (by decide) (fun hb1 => ?_) (fun hb1 => ?_)
  · refine lv_iconst (v := 0) hx hb dX7_isAt_28 (by decide) ?_
    exact ze_i hx hb hr hlk rfl (by unfold v_X7_isAt; rw [if_pos hb1]) dX7_isAt_29
  · refine lv_aload_n hx hb dX7_isAt_11 rfl (lv_at hl 0 rfl) ?_
    refine t_get (D := D) (ci := 6) (v := .ref (zr S (rs 0 fl k))) (C := RX7) (T := TX7) (N := 2) hx hb hts iX7 hown hK hW 1 fl k (dm1 (by omega) (by omega)) rfl rfl 0 (by decide) (hts _ wq1042) (fun _ h9 => h9) rfl dX7_isAt_12 ?_
    refine lv_iload_n hx hb dX7_isAt_15 rfl (lv_at hl 1 rfl) ?_
    refine zr_l (va_runV (As := [.int i1]) (rest := []) ⟨hx, hb, hml, hown, hts⟩ (k_X6_at l D yc e0 A S Z F G q (rs 0 fl k) i1 (dr_s hW.n12 (by omega) (by omega) (by omega))) (cwV 1 hts (lw_V wq417 wq391 wq392 wq15 wq393) rfl rfl rfl (by decide +kernel) ⟨(Nat.le_of_ble_eq_true rfl), (Nat.le_of_ble_eq_true rfl)⟩) (tp_R hC hW hS hA (rs 0 fl k) (dr_s hW.n12 (by omega) (by omega) (by omega))) rfl rfl hl.1 rfl (lv_room (Nat.le_of_ble_eq_true rfl)) dX7_isAt_16 ⟨(Nat.le_of_ble_eq_true rfl), (Nat.le_of_ble_eq_true rfl)⟩) ?_
    refine lv_lload_n hx hb dX7_isAt_19 rfl (lv_at hl 2 rfl) ?_
    refine W.lcmp hx hb dX7_isAt_20 ?_
    refine lv_if_ne (tgt := 28) hx hb dX7_isAt_21 (by decide) (fun hb2 => ?_) (fun hb2 => ?_)
    · refine lv_iconst (v := 0) hx hb dX7_isAt_28 (by decide) ?_
      exact ze_i hx hb hr hlk rfl (by unfold v_X7_isAt; rw [if_neg hb1, if_neg hb2]) dX7_isAt_29
    · refine lv_iconst (v := 1) hx hb dX7_isAt_24 (by decide) ?_
      refine lv_goto (tgt := 29) hx hb dX7_isAt_25 (by decide) ?_
      exact ze_i hx hb hr hlk rfl (by unfold v_X7_isAt; rw [if_neg hb1, if_pos hb2]) dX7_isAt_29
def v_X9_keptCount (S : TS) (F : TF) (G : TG) (q : TQ) (fl : Nat) (k : Nat) : Int32 := ((v_X7_length S F G q fl k) + (v_X6_length S F G q (rs 2 fl k))) + (v_X6_length S F G q (rs 3 fl k))
set_option maxHeartbeats 4000000 in
set_option maxRecDepth 100000 in
theorem k_X9_keptCount (l : Launch) (D : va_G) (yc : Nat → ClassId) (e0 : Nat) (A : Nat → Prop) (S : TS) (Z : Nat × Nat) (F : TF) (G : TG) (q : TQ) (fl : Nat) (k : Nat) (hf : fl < 2) (hk : k < 3 * zn S) : Met l yX9_keptCount (ws_ yX9_keptCount cX9_keptCount 1 (some .int)) ({ frames := 2, cells := 0, slots := 0, locals := 40 }) (PT D yc e0 A S Z F G q [.ref (zg S 0 fl k)]) (zQ (some (.int (v_X9_keptCount S F G q fl k)))) 0 0 zno := by
  refine tk_M (by decide) (Nat.le_of_ble_eq_true rfl) ?_
  intro p e s m args below meth c ls hx hb hml hr hlk hown hts hW hS hA hC hl
  have hK := hC.1
  have hN := hC.2.1
  have hn12 := hW.n12
  have hl : lv_has ls 1 [(0, .ref (zg S 0 fl k))] := hl
  refine lv_aload_n hx hb dX9_keptCount_0 rfl (lv_at hl 0 rfl) ?_
  refine t_get (D := D) (ci := 8) (v := .ref (zg S 1 fl k)) (C := RX9) (T := TX9) (N := 11) hx hb hts iX9 hown hK hW 0 fl k (dm0 (by omega) (by omega)) rfl rfl 8 (by decide) (hts _ wq1073) (fun _ h9 => h9) rfl dX9_keptCount_1 ?_
  refine zr_i (va_runV (As := []) (rest := []) ⟨hx, hb, hml, hown, hts⟩ (k_X7_length l D yc e0 A S Z F G q fl k (by first | assumption | omega | decide) (by first | assumption | omega | decide)) (cwV 0 hts (lw_V wq647 wq552 wq553 wq23 wq554) rfl rfl rfl (by decide +kernel) ⟨(Nat.le_of_ble_eq_true rfl), (Nat.le_of_ble_eq_true rfl)⟩) (tp_V hC hW hS hA 1 fl k (dm1 (by omega) (by omega)) rfl rfl) rfl rfl hl.1 rfl (lv_room (Nat.le_of_ble_eq_true rfl)) dX9_keptCount_4 ⟨(Nat.le_of_ble_eq_true rfl), (Nat.le_of_ble_eq_true rfl)⟩) ?_
  refine lv_aload_n hx hb dX9_keptCount_7 rfl (lv_at hl 0 rfl) ?_
  refine t_get (D := D) (ci := 8) (v := .ref (zr S (rs 2 fl k))) (C := RX9) (T := TX9) (N := 11) hx hb hts iX9 hown hK hW 0 fl k (dm0 (by omega) (by omega)) rfl rfl 9 (by decide) (hts _ wq1076) (fun _ h9 => h9) rfl dX9_keptCount_8 ?_
  refine zr_i (va_runV (As := []) (rest := [.int (v_X7_length S F G q fl k)]) ⟨hx, hb, hml, hown, hts⟩ (k_X6_length l D yc e0 A S Z F G q (rs 2 fl k) (dr_s hW.n12 (by omega) (by omega) (by omega))) (cwV 0 hts (lw_V wq648 wq266 wq267 wq15 wq268) rfl rfl rfl (by decide +kernel) ⟨(Nat.le_of_ble_eq_true rfl), (Nat.le_of_ble_eq_true rfl)⟩) (tp_R hC hW hS hA (rs 2 fl k) (dr_s hW.n12 (by omega) (by omega) (by omega))) rfl rfl hl.1 rfl (lv_room (Nat.le_of_ble_eq_true rfl)) dX9_keptCount_11 ⟨(Nat.le_of_ble_eq_true rfl), (Nat.le_of_ble_eq_true rfl)⟩) ?_
  refine lv_iadd hx hb dX9_keptCount_14 ?_
  refine lv_aload_n hx hb dX9_keptCount_15 rfl (lv_at hl 0 rfl) ?_
  refine t_get (D := D) (ci := 8) (v := .ref (zr S (rs 3 fl k))) (C := RX9) (T := TX9) (N := 11) hx hb hts iX9 hown hK hW 0 fl k (dm0 (by omega) (by omega)) rfl rfl 10 (by decide) (hts _ wq1078) (fun _ h9 => h9) rfl dX9_keptCount_16 ?_
  refine zr_i (va_runV (As := []) (rest := [.int ((v_X7_length S F G q fl k) + (v_X6_length S F G q (rs 2 fl k)))]) ⟨hx, hb, hml, hown, hts⟩ (k_X6_length l D yc e0 A S Z F G q (rs 3 fl k) (dr_s hW.n12 (by omega) (by omega) (by omega))) (cwV 0 hts (lw_V wq648 wq266 wq267 wq15 wq268) rfl rfl rfl (by decide +kernel) ⟨(Nat.le_of_ble_eq_true rfl), (Nat.le_of_ble_eq_true rfl)⟩) (tp_R hC hW hS hA (rs 3 fl k) (dr_s hW.n12 (by omega) (by omega) (by omega))) rfl rfl hl.1 rfl (lv_room (Nat.le_of_ble_eq_true rfl)) dX9_keptCount_19 ⟨(Nat.le_of_ble_eq_true rfl), (Nat.le_of_ble_eq_true rfl)⟩) ?_
  refine lv_iadd hx hb dX9_keptCount_22 ?_
  exact ze_i hx hb hr hlk rfl (by rfl) dX9_keptCount_23
