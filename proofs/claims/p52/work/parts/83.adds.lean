set_option maxHeartbeats 4000000 in
set_option maxRecDepth 100000 in
theorem x_addSource (l : Launch) {D : va_G} {yc : Nat → ClassId} {e0 : Nat} {A : Nat → Prop} {own : TO} {sz : Nat} {S : TS} {pl : Nat → Nat → Int32} {sk : Int32} (hn : zn S ≤ 11) (hok : zok S) (hdis : zdis S) (hw0 : v_X10_isWithin sk 0 1000 = 1) : Met l yX10_addSource (ws_ yX10_addSource cX10_addSource 3 (some .int)) { frames := 11, cells := 87, slots := 549, locals := 380 } (PX D yc e0 A own (obS S pl) (rwS S) (lsS S) sz [.ref (zg S 7 0 0), .int sk]) (va_Qi (fun r (_ : TS × (Nat → Nat → Int32) × TO) => r = nI (zn S)) (fun v t => SX S none none pl (fun jj => if jj = 1 then (-1) else if jj = 2 then (-1) else if jj = 3 then sk else 0) v.1 v.2.1 ∧ WX D yc e0 A v.2.2 (obS v.1 v.2.1) (rwS v.1) (lsS v.1) t.heap) A) 87 549 A := by
  refine xk_M (by decide) (Nat.le_of_ble_eq_true rfl) ?_
  intro p e s m args below meth c ls hx hb hml hr hlk hown hts hW hz hS hA hC hl
  have hK := hC.1
  have hN := hC.2.1
  have hl : lv_has ls 3 [(0, .ref (zg S 7 0 0)), (1, .int sk)] := hl
  have hT := ws_WT hW (by omega) hok
  generalize hHH : s.heap = H at hW hT ⊢
  have hS : va_S A s.heap H [] := by rw [← hHH]; exact hS
  refine lv_iload_n hx hb dX10_addSource_0 rfl (lv_at hl 1 rfl) ?_
  refine lv_iconst (v := 0) hx hb dX10_addSource_1 (by decide) ?_
  refine lv_sipush (v := 1000) hx hb dX10_addSource_2 (by decide) ?_
  refine zr_i (va_runS (As := [.int sk, .int 0, .int 1000]) (rest := []) ⟨hx, hb, hml, hown, hts⟩ (k_X10_isWithin l sk 0 1000) (va_cwS 3 hts (lw_S wq190 wq191 wq1 wq192) rfl rfl rfl (by decide +kernel) ⟨(Nat.le_of_ble_eq_true rfl), (Nat.le_of_ble_eq_true rfl)⟩) tp_N rfl rfl hl.1 rfl (lv_room (Nat.le_of_ble_eq_true rfl)) dX10_addSource_5 ⟨(Nat.le_of_ble_eq_true rfl), (Nat.le_of_ble_eq_true rfl)⟩) ?_
  refine zk_ti (y := 1) hw0 ?_
  refine zr_v (va_runS (As := [.int 1]) (rest := []) ⟨hx, hb, hml, hown, hts⟩ (k_X10_refuseUnless l 1 (by decide)) (va_cwS 1 hts (lw_S wq193 wq194 wq1 wq195) rfl rfl rfl (by decide +kernel) ⟨(Nat.le_of_ble_eq_true rfl), (Nat.le_of_ble_eq_true rfl)⟩) tp_N rfl rfl hl.1 rfl (lv_room (Nat.le_of_ble_eq_true rfl)) dX10_addSource_8 ⟨(Nat.le_of_ble_eq_true rfl), (Nat.le_of_ble_eq_true rfl)⟩) ?_
  refine lv_aload_n hx hb dX10_addSource_11 rfl (lv_at hl 0 rfl) ?_
  refine zr_v (va_runV (As := []) (rest := []) ⟨hx, hb, hml, hown, hts⟩ (k_X10_refuseMoreStages l D yc e0 A S _ (F0p pl) G0 (q0 S) rfl (by omega)) (cwV 0 hts (lw_V wq820 wq822 ws25 wq1 wq823) rfl rfl rfl (by decide +kernel) ⟨(Nat.le_of_ble_eq_true rfl), (Nat.le_of_ble_eq_true rfl)⟩) (tp_V hC hT hS hA 7 0 0 dm7 rfl rfl) rfl rfl hl.1 rfl (lv_room (Nat.le_of_ble_eq_true rfl)) dX10_addSource_12 ⟨(Nat.le_of_ble_eq_true rfl), (Nat.le_of_ble_eq_true rfl)⟩) ?_
  refine x_new (ci := 4) (fs := [.int 0, .int 0, .int 0, .int 0, .int 0, .int 0, .int 0, .int 0, .int 0, .int 0, .int 0, .int 0, .int 0, .int 0, .int 0]) (C := RX5) (T := TX5) (N := 15) hx hb hts iX5 tyX5 tyX5_ok hown (hts _ wq824) (hts _ wq825) (hts _ wq11) hK rfl dfX5 (Nat.le_of_ble_eq_true rfl) (Nat.le_of_ble_eq_true rfl) dX10_addSource_15 (fun H1 hz1 hk1 hb1 => ?_)
  have hAs : A H.size := hA _ hS.1
  have hS1 : va_S A s.heap H1 [] := ⟨Nat.le_trans hS.1 (by omega), fun q h1 h2 => (hk1 q (Nat.lt_of_lt_of_le h1 hS.1)).trans (hS.2.1 q h1 h2), hS.2.2⟩
  have hA1 : ∀ q, H1.size ≤ q → A q := fun q hq => hA q (Nat.le_trans hS1.1 hq)
  refine lv_dup hx hb dX10_addSource_18 rfl ?_
  refine lv_iconst (v := 0) hx hb dX10_addSource_19 (by decide) ?_
  refine lv_iconst (v := (-1)) hx hb dX10_addSource_20 (by decide) ?_
  refine lv_iconst (v := (-1)) hx hb dX10_addSource_21 (by decide) ?_
  refine va_callv (va_runI (As := [.int 0, .int (-1), .int (-1)]) (rest := [.ref H.size]) ⟨hx, hb, hml, hown, hts⟩ (kX5_init_0 l D yc e0 H1.size H.size 0 (-1) (-1)) (cwI 3 hts (lw_C wq828) rfl rfl rfl (hts _ wq11) (hts _ wq826) (hts _ wq827) rfl (by decide +kernel) ⟨(Nat.le_of_ble_eq_true rfl), (Nat.le_of_ble_eq_true rfl)⟩) (zk_pS (A := A) hC (va_P_one hb1) (xda hAs) hS1 hA [0] rfl rfl) rfl rfl hl.1 rfl (lv_room (Nat.le_of_ble_eq_true rfl)) dX10_addSource_22 ⟨(Nat.le_of_ble_eq_true rfl), (Nat.le_of_ble_eq_true rfl)⟩) hS1 (fun q _ h => xfa hAs hA1 q h) (xfa hAs hA1) (fun u t H2 locs2 ht hvm hw hB hz2 hk2 hS2 => ?_)
  obtain ⟨hP2, -⟩ := hB
  rw [ht] at hP2
  obtain ⟨own1, ho1, hW2⟩ := hW.add (fun q hq => (hk2 q (by omega) (xna (by omega) (by omega))).trans (hk1 q hq)) (hP2 0 _ rfl) hAs 8 0 (zn S)
  have hlt : ∀ kd fl k a e, obS S pl kd fl k a e → ¬ a = H.size := fun kd fl k a e q h9 => by
    have := (hW.obj q).lt
    rw [h9] at this
    exact absurd this (Nat.lt_irrefl _)
  refine lv_astore_n (lv' := [(2, .ref H.size), (0, .ref (zg S 7 0 0)), (1, .int sk)]) hx hb dX10_addSource_25 rfl hl (by decide) rfl (fun ls hl => ?_)
  refine lv_aload_n hx hb dX10_addSource_26 rfl (lv_at hl 0 rfl) ?_
  refine lv_iload_n hx hb dX10_addSource_27 rfl (lv_at hl 2 rfl) ?_
  refine x_putN (D := D) (ci := 4) (C := RX5) (T := TX5) (N := 15) (ty := .int) hx hb hts iX5 tyX5 tyX5_ok nmX5 hown hK (hW2.obj (Or.inr ⟨⟨rfl, rfl, rfl⟩, rfl, rfl⟩)) hAs hS2 rfl 3 (by decide) (zk_tab rfl (hN _ wr840 rfl)) (fun _ h9 => h9) rfl (by decide +kernel) rfl rfl (Nat.le_of_ble_eq_true rfl) dX10_addSource_28 (fun Kp0 klp0 hbp0 hkp0 hzkp0 hSkp0 => ?_)
  have hWp0 : WX D yc e0 A own1 (obadd (obS S pl) 8 0 (zn S) H.size (4, [.int 0, .int (-1), .int (-1), .int sk, .int 0, .int 0, .int 0, .int 0, .int 0, .int 0, .int 0, .int 0, .int 0, .int 0, .int 0])) _ _ Kp0 := hW2.setadd hlt hbp0 hkp0
  refine lv_aload_n hx hb dX10_addSource_31 rfl (lv_at hl 1 rfl) ?_
  refine lv_aload_n hx hb dX10_addSource_32 rfl (lv_at hl 0 rfl) ?_
  refine va_calli (va_runV (As := [.ref H.size]) (rest := []) ⟨hx, hb, hml, hown, hts⟩ (x_wireS_0 l (pp := fun jj => if jj = 1 then (-1) else if jj = 2 then (-1) else if jj = 3 then sk else 0) hn hok hdis rfl rfl) (cwV 1 hts (lw_V wq894 wq896 ws26 wq1 wq897) rfl rfl rfl (by decide +kernel) ⟨(Nat.le_of_ble_eq_true rfl), (Nat.le_of_ble_eq_true rfl)⟩) (px_V hC hWp0 hSkp0 hA (hWp0.obj (Or.inl oS_ws)) rfl) rfl rfl hl.1 rfl (lv_room (Nat.le_of_ble_eq_true rfl)) dX10_addSource_33 ⟨(Nat.le_of_ble_eq_true rfl), (Nat.le_of_ble_eq_true rfl)⟩) hSkp0 (fun _ _ h => h) (fun _ h => h) (fun r v t9 H9 locs9 ht9 hvm9 hw9 hB9 hz9 hk9 hS9 => ?_)
  exact W.widen (Nat.le_of_ble_eq_true rfl) (Nat.le_of_ble_eq_true rfl) (W.zret hx hb hr rfl (fun t ht hW9 => ⟨⟨r, v, rfl, hw9, hB9.1, by subst ht; rw [← ht9]; exact hB9.2⟩, hS9.F ht⟩) hS9.2.2 dX10_addSource_36 hlk)
set_option maxHeartbeats 4000000 in
set_option maxRecDepth 100000 in
theorem x_addFilter (l : Launch) {D : va_G} {yc : Nat → ClassId} {e0 : Nat} {A : Nat → Prop} {own : TO} {sz : Nat} {S : TS} {pl : Nat → Nat → Int32} {i : Nat} {nn : Int32} (hn : zn S ≤ 11) (hok : zok S) (hdis : zdis S) (hi : i < zn S) (hs : ¬ pl i 0 = 7) : Met l yX10_addFilter (ws_ yX10_addFilter cX10_addFilter 6 (some .int)) { frames := 11, cells := 87, slots := 549, locals := 380 } (PX D yc e0 A own (obS S pl) (rwS S) (lsS S) sz [.ref (zg S 7 0 0), .int (nI i), .int 0, .int nn]) (va_Qi (fun r (_ : TS × (Nat → Nat → Int32) × TO) => r = nI (zn S)) (fun v t => SX S (some i) none pl (fun jj => if jj = 0 then 1 else if jj = 1 then (nI i) else if jj = 2 then (-1) else if jj = 5 then nn else 0) v.1 v.2.1 ∧ WX D yc e0 A v.2.2 (obS v.1 v.2.1) (rwS v.1) (lsS v.1) t.heap) A) 87 549 A := by
  refine xk_M (by decide) (Nat.le_of_ble_eq_true rfl) ?_
  intro p e s m args below meth c ls hx hb hml hr hlk hown hts hW hz hS hA hC hl
  have hK := hC.1
  have hN := hC.2.1
  have hl : lv_has ls 6 [(0, .ref (zg S 7 0 0)), (1, .int (nI i)), (2, .int 0), (3, .int nn)] := hl
  have hT := ws_WT hW (by omega) hok
  generalize hHH : s.heap = H at hW hT ⊢
  have hS : va_S A s.heap H [] := by rw [← hHH]; exact hS
  refine lv_aload_n hx hb dX10_addFilter_0 rfl (lv_at hl 0 rfl) ?_
  refine lv_iload_n hx hb dX10_addFilter_1 rfl (lv_at hl 1 rfl) ?_
  refine zr_q (va_runV (As := [.int (nI i)]) (rest := []) ⟨hx, hb, hml, hown, hts⟩ (k_X10_stageOf l D yc e0 A S _ (F0p pl) G0 (q0 S) i hi) (cwV 1 hts (lw_V wq219 wq221 ws2 wq1 wq222) rfl rfl rfl (by decide +kernel) ⟨(Nat.le_of_ble_eq_true rfl), (Nat.le_of_ble_eq_true rfl)⟩) (tp_V hC hT hS hA 7 0 0 dm7 rfl rfl) rfl rfl hl.1 rfl (lv_room (Nat.le_of_ble_eq_true rfl)) dX10_addFilter_2 ⟨(Nat.le_of_ble_eq_true rfl), (Nat.le_of_ble_eq_true rfl)⟩) ?_
  refine zk_tv (y := .ref (zg S 2 0 i)) rfl ?_
  refine lv_astore (lv' := [(4, .ref (zg S 2 0 i)), (0, .ref (zg S 7 0 0)), (1, .int (nI i)), (2, .int 0), (3, .int nn)]) hx hb dX10_addFilter_5 hl (by decide) rfl (fun ls hl => ?_)
  refine lv_aload hx hb dX10_addFilter_7 (lv_at hl 0 rfl) ?_
  refine va_getN (D := D) (ci := 7) (v := .ref (zg S 8 0 i)) (C := RX8) (T := TX8) (N := 12) hx hb hts iX8 hown hK (va_P_one (hW.obj (oS_st2 (by decide) hi))) 0 rfl rfl 0 (by decide) (zk_tab rfl (hN _ wr1104 rfl)) (fun _ h9 => h9) rfl dX10_addFilter_9 ?_
  refine va_getN (D := D) (ci := 4) (v := .int (pl i 0)) (C := RX5) (T := TX5) (N := 15) hx hb hts iX5 hown hK (va_P_one (hW.obj (oS_p hi))) 0 rfl rfl 0 (by decide) (zk_tab rfl (hN _ wr831 rfl)) (fun _ h9 => h9) rfl dX10_addFilter_12 ?_
  refine lv_bipush (v := 7) hx hb dX10_addFilter_15 (by decide) ?_
  refine lv_icmp_eq (tgt := 42) hx hb dX10_addFilter_17 (by decide) (fun h9 => absurd h9 hs) (fun _ => ?_)
  refine lv_iload_n hx hb dX10_addFilter_20 rfl (lv_at hl 3 rfl) ?_
  refine lv_iconst (v := 0) hx hb dX10_addFilter_21 (by decide) ?_
  refine lv_iconst (v := 3) hx hb dX10_addFilter_22 (by decide) ?_
  refine zr_i (va_runS (As := [.int 0, .int 0, .int 3]) (rest := []) ⟨hx, hb, hml, hown, hts⟩ (k_X10_isWithin l 0 0 3) (va_cwS 3 hts (lw_S wq190 wq191 wq1 wq192) rfl rfl rfl (by decide +kernel) ⟨(Nat.le_of_ble_eq_true rfl), (Nat.le_of_ble_eq_true rfl)⟩) tp_N rfl rfl hl.1 rfl (lv_room (Nat.le_of_ble_eq_true rfl)) dX10_addFilter_23 ⟨(Nat.le_of_ble_eq_true rfl), (Nat.le_of_ble_eq_true rfl)⟩) ?_
  refine zk_ti (y := 1) (by decide) ?_
  refine lv_if_eq (tgt := 42) hx hb dX10_addFilter_26 (by decide) (fun h9 => absurd h9 (by decide)) (fun _ => ?_)
  refine lv_iload_n hx hb dX10_addFilter_29 rfl (lv_at hl 3 rfl) ?_
  refine lv_iconst (v := 3) hx hb dX10_addFilter_30 (by decide) ?_
  refine lv_icmp_ne (tgt := 38) hx hb dX10_addFilter_31 (by decide) (fun _ => ?_) (fun h9 => absurd h9 (by decide))
  refine lv_iconst (v := 1) hx hb dX10_addFilter_38 (by decide) ?_
  refine lv_goto (tgt := 43) hx hb dX10_addFilter_39 (by decide) ?_
  refine zr_v (va_runS (As := [.int 1]) (rest := []) ⟨hx, hb, hml, hown, hts⟩ (k_X10_refuseUnless l 1 (by decide)) (va_cwS 1 hts (lw_S wq193 wq194 wq1 wq195) rfl rfl rfl (by decide +kernel) ⟨(Nat.le_of_ble_eq_true rfl), (Nat.le_of_ble_eq_true rfl)⟩) tp_N rfl rfl hl.1 rfl (lv_room (Nat.le_of_ble_eq_true rfl)) dX10_addFilter_43 ⟨(Nat.le_of_ble_eq_true rfl), (Nat.le_of_ble_eq_true rfl)⟩) ?_
  refine lv_aload_n hx hb dX10_addFilter_46 rfl (lv_at hl 1 rfl) ?_
  refine zr_v (va_runV (As := []) (rest := []) ⟨hx, hb, hml, hown, hts⟩ (k_X10_refuseMoreStages l D yc e0 A S _ (F0p pl) G0 (q0 S) rfl (by omega)) (cwV 0 hts (lw_V wq820 wq822 ws25 wq1 wq823) rfl rfl rfl (by decide +kernel) ⟨(Nat.le_of_ble_eq_true rfl), (Nat.le_of_ble_eq_true rfl)⟩) (tp_V hC hT hS hA 7 0 0 dm7 rfl rfl) rfl rfl hl.1 rfl (lv_room (Nat.le_of_ble_eq_true rfl)) dX10_addFilter_47 ⟨(Nat.le_of_ble_eq_true rfl), (Nat.le_of_ble_eq_true rfl)⟩) ?_
  refine x_new (ci := 4) (fs := [.int 0, .int 0, .int 0, .int 0, .int 0, .int 0, .int 0, .int 0, .int 0, .int 0, .int 0, .int 0, .int 0, .int 0, .int 0]) (C := RX5) (T := TX5) (N := 15) hx hb hts iX5 tyX5 tyX5_ok hown (hts _ wq824) (hts _ wq825) (hts _ wq11) hK rfl dfX5 (Nat.le_of_ble_eq_true rfl) (Nat.le_of_ble_eq_true rfl) dX10_addFilter_50 (fun H1 hz1 hk1 hb1 => ?_)
  have hAs : A H.size := hA _ hS.1
  have hS1 : va_S A s.heap H1 [] := ⟨Nat.le_trans hS.1 (by omega), fun q h1 h2 => (hk1 q (Nat.lt_of_lt_of_le h1 hS.1)).trans (hS.2.1 q h1 h2), hS.2.2⟩
  have hA1 : ∀ q, H1.size ≤ q → A q := fun q hq => hA q (Nat.le_trans hS1.1 hq)
  refine lv_dup hx hb dX10_addFilter_53 rfl ?_
  refine lv_iconst (v := 1) hx hb dX10_addFilter_54 (by decide) ?_
  refine lv_iload_n hx hb dX10_addFilter_55 rfl (lv_at hl 2 rfl) ?_
  refine lv_iconst (v := (-1)) hx hb dX10_addFilter_56 (by decide) ?_
  refine va_callv (va_runI (As := [.int 1, .int (nI i), .int (-1)]) (rest := [.ref H.size]) ⟨hx, hb, hml, hown, hts⟩ (kX5_init_0 l D yc e0 H1.size H.size 1 (nI i) (-1)) (cwI 3 hts (lw_C wq828) rfl rfl rfl (hts _ wq11) (hts _ wq826) (hts _ wq827) rfl (by decide +kernel) ⟨(Nat.le_of_ble_eq_true rfl), (Nat.le_of_ble_eq_true rfl)⟩) (zk_pS (A := A) hC (va_P_one hb1) (xda hAs) hS1 hA [0] rfl rfl) rfl rfl hl.1 rfl (lv_room (Nat.le_of_ble_eq_true rfl)) dX10_addFilter_57 ⟨(Nat.le_of_ble_eq_true rfl), (Nat.le_of_ble_eq_true rfl)⟩) hS1 (fun q _ h => xfa hAs hA1 q h) (xfa hAs hA1) (fun u t H2 locs2 ht hvm hw hB hz2 hk2 hS2 => ?_)
  obtain ⟨hP2, -⟩ := hB
  rw [ht] at hP2
  obtain ⟨own1, ho1, hW2⟩ := hW.add (fun q hq => (hk2 q (by omega) (xna (by omega) (by omega))).trans (hk1 q hq)) (hP2 0 _ rfl) hAs 8 0 (zn S)
  have hlt : ∀ kd fl k a e, obS S pl kd fl k a e → ¬ a = H.size := fun kd fl k a e q h9 => by
    have := (hW.obj q).lt
    rw [h9] at this
    exact absurd this (Nat.lt_irrefl _)
  refine lv_astore (lv' := [(5, .ref H.size), (4, .ref (zg S 2 0 i)), (0, .ref (zg S 7 0 0)), (1, .int (nI i)), (2, .int 0), (3, .int nn)]) hx hb dX10_addFilter_60 hl (by decide) rfl (fun ls hl => ?_)
  refine lv_aload hx hb dX10_addFilter_62 (lv_at hl 0 rfl) ?_
  refine lv_iload_n hx hb dX10_addFilter_64 rfl (lv_at hl 4 rfl) ?_
  refine x_putN (D := D) (ci := 4) (C := RX5) (T := TX5) (N := 15) (ty := .int) hx hb hts iX5 tyX5 tyX5_ok nmX5 hown hK (hW2.obj (Or.inr ⟨⟨rfl, rfl, rfl⟩, rfl, rfl⟩)) hAs hS2 rfl 4 (by decide) (zk_tab rfl (hN _ wr842 rfl)) (fun _ h9 => h9) rfl (by decide +kernel) rfl rfl (Nat.le_of_ble_eq_true rfl) dX10_addFilter_65 (fun Kp0 klp0 hbp0 hkp0 hzkp0 hSkp0 => ?_)
  have hWp0 : WX D yc e0 A own1 (obadd (obS S pl) 8 0 (zn S) H.size (4, [.int 1, .int (nI i), .int (-1), .int 0, .int 0, .int 0, .int 0, .int 0, .int 0, .int 0, .int 0, .int 0, .int 0, .int 0, .int 0])) _ _ Kp0 := hW2.setadd hlt hbp0 hkp0
  refine lv_aload hx hb dX10_addFilter_68 (lv_at hl 0 rfl) ?_
  refine lv_iload_n hx hb dX10_addFilter_70 rfl (lv_at hl 5 rfl) ?_
  refine x_putN (D := D) (ci := 4) (C := RX5) (T := TX5) (N := 15) (ty := .int) hx hb hts iX5 tyX5 tyX5_ok nmX5 hown hK (hWp0.obj (Or.inr ⟨⟨rfl, rfl, rfl⟩, rfl, rfl⟩)) hAs hSkp0 rfl 5 (by decide) (zk_tab rfl (hN _ wr844 rfl)) (fun _ h9 => h9) rfl (by decide +kernel) rfl rfl (Nat.le_of_ble_eq_true rfl) dX10_addFilter_71 (fun Kp1 klp1 hbp1 hkp1 hzkp1 hSkp1 => ?_)
  have hWp1 : WX D yc e0 A own1 (obadd (obS S pl) 8 0 (zn S) H.size (4, [.int 1, .int (nI i), .int (-1), .int 0, .int 0, .int nn, .int 0, .int 0, .int 0, .int 0, .int 0, .int 0, .int 0, .int 0, .int 0])) _ _ Kp1 := hWp0.setadd hlt hbp1 hkp1
  refine lv_aload_n hx hb dX10_addFilter_74 rfl (lv_at hl 2 rfl) ?_
  refine lv_aload hx hb dX10_addFilter_75 (lv_at hl 0 rfl) ?_
  refine va_calli (va_runV (As := [.ref H.size]) (rest := []) ⟨hx, hb, hml, hown, hts⟩ (x_wireS_1 l (pp := fun jj => if jj = 0 then 1 else if jj = 1 then (nI i) else if jj = 2 then (-1) else if jj = 5 then nn else 0) hn hok hdis rfl rfl hi) (cwV 1 hts (lw_V wq894 wq896 ws26 wq1 wq897) rfl rfl rfl (by decide +kernel) ⟨(Nat.le_of_ble_eq_true rfl), (Nat.le_of_ble_eq_true rfl)⟩) (px_V hC hWp1 hSkp1 hA (hWp1.obj (Or.inl oS_ws)) rfl) rfl rfl hl.1 rfl (lv_room (Nat.le_of_ble_eq_true rfl)) dX10_addFilter_77 ⟨(Nat.le_of_ble_eq_true rfl), (Nat.le_of_ble_eq_true rfl)⟩) hSkp1 (fun _ _ h => h) (fun _ h => h) (fun r v t9 H9 locs9 ht9 hvm9 hw9 hB9 hz9 hk9 hS9 => ?_)
  exact W.widen (Nat.le_of_ble_eq_true rfl) (Nat.le_of_ble_eq_true rfl) (W.zret hx hb hr rfl (fun t ht hW9 => ⟨⟨r, v, rfl, hw9, hB9.1, by subst ht; rw [← ht9]; exact hB9.2⟩, hS9.F ht⟩) hS9.2.2 dX10_addFilter_80 hlk)
set_option maxHeartbeats 4000000 in
set_option maxRecDepth 100000 in
theorem x_addMap (l : Launch) {D : va_G} {yc : Nat → ClassId} {e0 : Nat} {A : Nat → Prop} {own : TO} {sz : Nat} {S : TS} {pl : Nat → Nat → Int32} {i : Nat} {ru nn : Int32} (hn : zn S ≤ 11) (hok : zok S) (hdis : zdis S) (hi : i < zn S) (hs : ¬ pl i 0 = 7) (hw0 : v_X10_isWithin ru 0 3 = 1) (hru : ¬ ru = 2) : Met l yX10_addMap (ws_ yX10_addMap cX10_addMap 6 (some .int)) { frames := 11, cells := 87, slots := 549, locals := 380 } (PX D yc e0 A own (obS S pl) (rwS S) (lsS S) sz [.ref (zg S 7 0 0), .int (nI i), .int ru, .int nn]) (va_Qi (fun r (_ : TS × (Nat → Nat → Int32) × TO) => r = nI (zn S)) (fun v t => SX S (some i) none pl (fun jj => if jj = 0 then 2 else if jj = 1 then (nI i) else if jj = 2 then (-1) else if jj = 4 then ru else if jj = 5 then nn else 0) v.1 v.2.1 ∧ WX D yc e0 A v.2.2 (obS v.1 v.2.1) (rwS v.1) (lsS v.1) t.heap) A) 87 549 A := by
  refine xk_M (by decide) (Nat.le_of_ble_eq_true rfl) ?_
  intro p e s m args below meth c ls hx hb hml hr hlk hown hts hW hz hS hA hC hl
  have hK := hC.1
  have hN := hC.2.1
  have hl : lv_has ls 6 [(0, .ref (zg S 7 0 0)), (1, .int (nI i)), (2, .int ru), (3, .int nn)] := hl
  have hT := ws_WT hW (by omega) hok
  generalize hHH : s.heap = H at hW hT ⊢
  have hS : va_S A s.heap H [] := by rw [← hHH]; exact hS
  refine lv_aload_n hx hb dX10_addMap_0 rfl (lv_at hl 0 rfl) ?_
  refine lv_iload_n hx hb dX10_addMap_1 rfl (lv_at hl 1 rfl) ?_
  refine zr_q (va_runV (As := [.int (nI i)]) (rest := []) ⟨hx, hb, hml, hown, hts⟩ (k_X10_stageOf l D yc e0 A S _ (F0p pl) G0 (q0 S) i hi) (cwV 1 hts (lw_V wq219 wq221 ws2 wq1 wq222) rfl rfl rfl (by decide +kernel) ⟨(Nat.le_of_ble_eq_true rfl), (Nat.le_of_ble_eq_true rfl)⟩) (tp_V hC hT hS hA 7 0 0 dm7 rfl rfl) rfl rfl hl.1 rfl (lv_room (Nat.le_of_ble_eq_true rfl)) dX10_addMap_2 ⟨(Nat.le_of_ble_eq_true rfl), (Nat.le_of_ble_eq_true rfl)⟩) ?_
  refine zk_tv (y := .ref (zg S 2 0 i)) rfl ?_
  refine lv_astore (lv' := [(4, .ref (zg S 2 0 i)), (0, .ref (zg S 7 0 0)), (1, .int (nI i)), (2, .int ru), (3, .int nn)]) hx hb dX10_addMap_5 hl (by decide) rfl (fun ls hl => ?_)
  refine lv_aload hx hb dX10_addMap_7 (lv_at hl 0 rfl) ?_
  refine va_getN (D := D) (ci := 7) (v := .ref (zg S 8 0 i)) (C := RX8) (T := TX8) (N := 12) hx hb hts iX8 hown hK (va_P_one (hW.obj (oS_st2 (by decide) hi))) 0 rfl rfl 0 (by decide) (zk_tab rfl (hN _ wr1104 rfl)) (fun _ h9 => h9) rfl dX10_addMap_9 ?_
  refine va_getN (D := D) (ci := 4) (v := .int (pl i 0)) (C := RX5) (T := TX5) (N := 15) hx hb hts iX5 hown hK (va_P_one (hW.obj (oS_p hi))) 0 rfl rfl 0 (by decide) (zk_tab rfl (hN _ wr831 rfl)) (fun _ h9 => h9) rfl dX10_addMap_12 ?_
  refine lv_bipush (v := 7) hx hb dX10_addMap_15 (by decide) ?_
  refine lv_icmp_eq (tgt := 48) hx hb dX10_addMap_17 (by decide) (fun h9 => absurd h9 hs) (fun _ => ?_)
  refine lv_iload_n hx hb dX10_addMap_20 rfl (lv_at hl 3 rfl) ?_
  refine lv_iconst (v := 0) hx hb dX10_addMap_21 (by decide) ?_
  refine lv_iconst (v := 3) hx hb dX10_addMap_22 (by decide) ?_
  refine zr_i (va_runS (As := [.int ru, .int 0, .int 3]) (rest := []) ⟨hx, hb, hml, hown, hts⟩ (k_X10_isWithin l ru 0 3) (va_cwS 3 hts (lw_S wq190 wq191 wq1 wq192) rfl rfl rfl (by decide +kernel) ⟨(Nat.le_of_ble_eq_true rfl), (Nat.le_of_ble_eq_true rfl)⟩) tp_N rfl rfl hl.1 rfl (lv_room (Nat.le_of_ble_eq_true rfl)) dX10_addMap_23 ⟨(Nat.le_of_ble_eq_true rfl), (Nat.le_of_ble_eq_true rfl)⟩) ?_
  refine zk_ti (y := 1) hw0 ?_
  refine lv_if_eq (tgt := 48) hx hb dX10_addMap_26 (by decide) (fun h9 => absurd h9 (by decide)) (fun _ => ?_)
  refine lv_iload_n hx hb dX10_addMap_29 rfl (lv_at hl 3 rfl) ?_
  refine lv_iconst (v := 2) hx hb dX10_addMap_30 (by decide) ?_
  refine lv_icmp_ne (tgt := 44) hx hb dX10_addMap_31 (by decide) (fun _ => ?_) (fun h9 => absurd h9 hru)
  refine lv_iconst (v := 1) hx hb dX10_addMap_44 (by decide) ?_
  refine lv_goto (tgt := 49) hx hb dX10_addMap_45 (by decide) ?_
  refine zr_v (va_runS (As := [.int 1]) (rest := []) ⟨hx, hb, hml, hown, hts⟩ (k_X10_refuseUnless l 1 (by decide)) (va_cwS 1 hts (lw_S wq193 wq194 wq1 wq195) rfl rfl rfl (by decide +kernel) ⟨(Nat.le_of_ble_eq_true rfl), (Nat.le_of_ble_eq_true rfl)⟩) tp_N rfl rfl hl.1 rfl (lv_room (Nat.le_of_ble_eq_true rfl)) dX10_addMap_49 ⟨(Nat.le_of_ble_eq_true rfl), (Nat.le_of_ble_eq_true rfl)⟩) ?_
  refine lv_aload_n hx hb dX10_addMap_52 rfl (lv_at hl 1 rfl) ?_
  refine zr_v (va_runV (As := []) (rest := []) ⟨hx, hb, hml, hown, hts⟩ (k_X10_refuseMoreStages l D yc e0 A S _ (F0p pl) G0 (q0 S) rfl (by omega)) (cwV 0 hts (lw_V wq820 wq822 ws25 wq1 wq823) rfl rfl rfl (by decide +kernel) ⟨(Nat.le_of_ble_eq_true rfl), (Nat.le_of_ble_eq_true rfl)⟩) (tp_V hC hT hS hA 7 0 0 dm7 rfl rfl) rfl rfl hl.1 rfl (lv_room (Nat.le_of_ble_eq_true rfl)) dX10_addMap_53 ⟨(Nat.le_of_ble_eq_true rfl), (Nat.le_of_ble_eq_true rfl)⟩) ?_
  refine x_new (ci := 4) (fs := [.int 0, .int 0, .int 0, .int 0, .int 0, .int 0, .int 0, .int 0, .int 0, .int 0, .int 0, .int 0, .int 0, .int 0, .int 0]) (C := RX5) (T := TX5) (N := 15) hx hb hts iX5 tyX5 tyX5_ok hown (hts _ wq824) (hts _ wq825) (hts _ wq11) hK rfl dfX5 (Nat.le_of_ble_eq_true rfl) (Nat.le_of_ble_eq_true rfl) dX10_addMap_56 (fun H1 hz1 hk1 hb1 => ?_)
  have hAs : A H.size := hA _ hS.1
  have hS1 : va_S A s.heap H1 [] := ⟨Nat.le_trans hS.1 (by omega), fun q h1 h2 => (hk1 q (Nat.lt_of_lt_of_le h1 hS.1)).trans (hS.2.1 q h1 h2), hS.2.2⟩
  have hA1 : ∀ q, H1.size ≤ q → A q := fun q hq => hA q (Nat.le_trans hS1.1 hq)
  refine lv_dup hx hb dX10_addMap_59 rfl ?_
  refine lv_iconst (v := 2) hx hb dX10_addMap_60 (by decide) ?_
  refine lv_iload_n hx hb dX10_addMap_61 rfl (lv_at hl 2 rfl) ?_
  refine lv_iconst (v := (-1)) hx hb dX10_addMap_62 (by decide) ?_
  refine va_callv (va_runI (As := [.int 2, .int (nI i), .int (-1)]) (rest := [.ref H.size]) ⟨hx, hb, hml, hown, hts⟩ (kX5_init_0 l D yc e0 H1.size H.size 2 (nI i) (-1)) (cwI 3 hts (lw_C wq828) rfl rfl rfl (hts _ wq11) (hts _ wq826) (hts _ wq827) rfl (by decide +kernel) ⟨(Nat.le_of_ble_eq_true rfl), (Nat.le_of_ble_eq_true rfl)⟩) (zk_pS (A := A) hC (va_P_one hb1) (xda hAs) hS1 hA [0] rfl rfl) rfl rfl hl.1 rfl (lv_room (Nat.le_of_ble_eq_true rfl)) dX10_addMap_63 ⟨(Nat.le_of_ble_eq_true rfl), (Nat.le_of_ble_eq_true rfl)⟩) hS1 (fun q _ h => xfa hAs hA1 q h) (xfa hAs hA1) (fun u t H2 locs2 ht hvm hw hB hz2 hk2 hS2 => ?_)
  obtain ⟨hP2, -⟩ := hB
  rw [ht] at hP2
  obtain ⟨own1, ho1, hW2⟩ := hW.add (fun q hq => (hk2 q (by omega) (xna (by omega) (by omega))).trans (hk1 q hq)) (hP2 0 _ rfl) hAs 8 0 (zn S)
  have hlt : ∀ kd fl k a e, obS S pl kd fl k a e → ¬ a = H.size := fun kd fl k a e q h9 => by
    have := (hW.obj q).lt
    rw [h9] at this
    exact absurd this (Nat.lt_irrefl _)
  refine lv_astore (lv' := [(5, .ref H.size), (4, .ref (zg S 2 0 i)), (0, .ref (zg S 7 0 0)), (1, .int (nI i)), (2, .int ru), (3, .int nn)]) hx hb dX10_addMap_66 hl (by decide) rfl (fun ls hl => ?_)
  refine lv_aload hx hb dX10_addMap_68 (lv_at hl 0 rfl) ?_
  refine lv_iload_n hx hb dX10_addMap_70 rfl (lv_at hl 4 rfl) ?_
  refine x_putN (D := D) (ci := 4) (C := RX5) (T := TX5) (N := 15) (ty := .int) hx hb hts iX5 tyX5 tyX5_ok nmX5 hown hK (hW2.obj (Or.inr ⟨⟨rfl, rfl, rfl⟩, rfl, rfl⟩)) hAs hS2 rfl 4 (by decide) (zk_tab rfl (hN _ wr842 rfl)) (fun _ h9 => h9) rfl (by decide +kernel) rfl rfl (Nat.le_of_ble_eq_true rfl) dX10_addMap_71 (fun Kp0 klp0 hbp0 hkp0 hzkp0 hSkp0 => ?_)
  have hWp0 : WX D yc e0 A own1 (obadd (obS S pl) 8 0 (zn S) H.size (4, [.int 2, .int (nI i), .int (-1), .int 0, .int ru, .int 0, .int 0, .int 0, .int 0, .int 0, .int 0, .int 0, .int 0, .int 0, .int 0])) _ _ Kp0 := hW2.setadd hlt hbp0 hkp0
  refine lv_aload hx hb dX10_addMap_74 (lv_at hl 0 rfl) ?_
  refine lv_iload_n hx hb dX10_addMap_76 rfl (lv_at hl 5 rfl) ?_
  refine x_putN (D := D) (ci := 4) (C := RX5) (T := TX5) (N := 15) (ty := .int) hx hb hts iX5 tyX5 tyX5_ok nmX5 hown hK (hWp0.obj (Or.inr ⟨⟨rfl, rfl, rfl⟩, rfl, rfl⟩)) hAs hSkp0 rfl 5 (by decide) (zk_tab rfl (hN _ wr844 rfl)) (fun _ h9 => h9) rfl (by decide +kernel) rfl rfl (Nat.le_of_ble_eq_true rfl) dX10_addMap_77 (fun Kp1 klp1 hbp1 hkp1 hzkp1 hSkp1 => ?_)
  have hWp1 : WX D yc e0 A own1 (obadd (obS S pl) 8 0 (zn S) H.size (4, [.int 2, .int (nI i), .int (-1), .int 0, .int ru, .int nn, .int 0, .int 0, .int 0, .int 0, .int 0, .int 0, .int 0, .int 0, .int 0])) _ _ Kp1 := hWp0.setadd hlt hbp1 hkp1
  refine lv_aload_n hx hb dX10_addMap_80 rfl (lv_at hl 2 rfl) ?_
  refine lv_aload hx hb dX10_addMap_81 (lv_at hl 0 rfl) ?_
  refine va_calli (va_runV (As := [.ref H.size]) (rest := []) ⟨hx, hb, hml, hown, hts⟩ (x_wireS_1 l (pp := fun jj => if jj = 0 then 2 else if jj = 1 then (nI i) else if jj = 2 then (-1) else if jj = 4 then ru else if jj = 5 then nn else 0) hn hok hdis rfl rfl hi) (cwV 1 hts (lw_V wq894 wq896 ws26 wq1 wq897) rfl rfl rfl (by decide +kernel) ⟨(Nat.le_of_ble_eq_true rfl), (Nat.le_of_ble_eq_true rfl)⟩) (px_V hC hWp1 hSkp1 hA (hWp1.obj (Or.inl oS_ws)) rfl) rfl rfl hl.1 rfl (lv_room (Nat.le_of_ble_eq_true rfl)) dX10_addMap_83 ⟨(Nat.le_of_ble_eq_true rfl), (Nat.le_of_ble_eq_true rfl)⟩) hSkp1 (fun _ _ h => h) (fun _ h => h) (fun r v t9 H9 locs9 ht9 hvm9 hw9 hB9 hz9 hk9 hS9 => ?_)
  exact W.widen (Nat.le_of_ble_eq_true rfl) (Nat.le_of_ble_eq_true rfl) (W.zret hx hb hr rfl (fun t ht hW9 => ⟨⟨r, v, rfl, hw9, hB9.1, by subst ht; rw [← ht9]; exact hB9.2⟩, hS9.F ht⟩) hS9.2.2 dX10_addMap_86 hlk)
set_option maxHeartbeats 4000000 in
set_option maxRecDepth 100000 in
theorem x_addMap2 (l : Launch) {D : va_G} {yc : Nat → ClassId} {e0 : Nat} {A : Nat → Prop} {own : TO} {sz : Nat} {S : TS} {pl : Nat → Nat → Int32} {i : Nat} {nn : Int32} (hn : zn S ≤ 11) (hok : zok S) (hdis : zdis S) (hi : i < zn S) (hs : ¬ pl i 0 = 7) (hw0 : v_X10_isWithin nn 1 100 = 1) : Met l yX10_addMap (ws_ yX10_addMap cX10_addMap 6 (some .int)) { frames := 11, cells := 87, slots := 549, locals := 380 } (PX D yc e0 A own (obS S pl) (rwS S) (lsS S) sz [.ref (zg S 7 0 0), .int (nI i), .int 2, .int nn]) (va_Qi (fun r (_ : TS × (Nat → Nat → Int32) × TO) => r = nI (zn S)) (fun v t => SX S (some i) none pl (fun jj => if jj = 0 then 2 else if jj = 1 then (nI i) else if jj = 2 then (-1) else if jj = 4 then 2 else if jj = 5 then nn else 0) v.1 v.2.1 ∧ WX D yc e0 A v.2.2 (obS v.1 v.2.1) (rwS v.1) (lsS v.1) t.heap) A) 87 549 A := by
  refine xk_M (by decide) (Nat.le_of_ble_eq_true rfl) ?_
  intro p e s m args below meth c ls hx hb hml hr hlk hown hts hW hz hS hA hC hl
  have hK := hC.1
  have hN := hC.2.1
  have hl : lv_has ls 6 [(0, .ref (zg S 7 0 0)), (1, .int (nI i)), (2, .int 2), (3, .int nn)] := hl
  have hT := ws_WT hW (by omega) hok
  generalize hHH : s.heap = H at hW hT ⊢
  have hS : va_S A s.heap H [] := by rw [← hHH]; exact hS
  refine lv_aload_n hx hb dX10_addMap_0 rfl (lv_at hl 0 rfl) ?_
  refine lv_iload_n hx hb dX10_addMap_1 rfl (lv_at hl 1 rfl) ?_
  refine zr_q (va_runV (As := [.int (nI i)]) (rest := []) ⟨hx, hb, hml, hown, hts⟩ (k_X10_stageOf l D yc e0 A S _ (F0p pl) G0 (q0 S) i hi) (cwV 1 hts (lw_V wq219 wq221 ws2 wq1 wq222) rfl rfl rfl (by decide +kernel) ⟨(Nat.le_of_ble_eq_true rfl), (Nat.le_of_ble_eq_true rfl)⟩) (tp_V hC hT hS hA 7 0 0 dm7 rfl rfl) rfl rfl hl.1 rfl (lv_room (Nat.le_of_ble_eq_true rfl)) dX10_addMap_2 ⟨(Nat.le_of_ble_eq_true rfl), (Nat.le_of_ble_eq_true rfl)⟩) ?_
  refine zk_tv (y := .ref (zg S 2 0 i)) rfl ?_
  refine lv_astore (lv' := [(4, .ref (zg S 2 0 i)), (0, .ref (zg S 7 0 0)), (1, .int (nI i)), (2, .int 2), (3, .int nn)]) hx hb dX10_addMap_5 hl (by decide) rfl (fun ls hl => ?_)
  refine lv_aload hx hb dX10_addMap_7 (lv_at hl 0 rfl) ?_
  refine va_getN (D := D) (ci := 7) (v := .ref (zg S 8 0 i)) (C := RX8) (T := TX8) (N := 12) hx hb hts iX8 hown hK (va_P_one (hW.obj (oS_st2 (by decide) hi))) 0 rfl rfl 0 (by decide) (zk_tab rfl (hN _ wr1104 rfl)) (fun _ h9 => h9) rfl dX10_addMap_9 ?_
  refine va_getN (D := D) (ci := 4) (v := .int (pl i 0)) (C := RX5) (T := TX5) (N := 15) hx hb hts iX5 hown hK (va_P_one (hW.obj (oS_p hi))) 0 rfl rfl 0 (by decide) (zk_tab rfl (hN _ wr831 rfl)) (fun _ h9 => h9) rfl dX10_addMap_12 ?_
  refine lv_bipush (v := 7) hx hb dX10_addMap_15 (by decide) ?_
  refine lv_icmp_eq (tgt := 48) hx hb dX10_addMap_17 (by decide) (fun h9 => absurd h9 hs) (fun _ => ?_)
  refine lv_iload_n hx hb dX10_addMap_20 rfl (lv_at hl 3 rfl) ?_
  refine lv_iconst (v := 0) hx hb dX10_addMap_21 (by decide) ?_
  refine lv_iconst (v := 3) hx hb dX10_addMap_22 (by decide) ?_
  refine zr_i (va_runS (As := [.int 2, .int 0, .int 3]) (rest := []) ⟨hx, hb, hml, hown, hts⟩ (k_X10_isWithin l 2 0 3) (va_cwS 3 hts (lw_S wq190 wq191 wq1 wq192) rfl rfl rfl (by decide +kernel) ⟨(Nat.le_of_ble_eq_true rfl), (Nat.le_of_ble_eq_true rfl)⟩) tp_N rfl rfl hl.1 rfl (lv_room (Nat.le_of_ble_eq_true rfl)) dX10_addMap_23 ⟨(Nat.le_of_ble_eq_true rfl), (Nat.le_of_ble_eq_true rfl)⟩) ?_
  refine zk_ti (y := 1) (by decide) ?_
  refine lv_if_eq (tgt := 48) hx hb dX10_addMap_26 (by decide) (fun h9 => absurd h9 (by decide)) (fun _ => ?_)
  refine lv_iload_n hx hb dX10_addMap_29 rfl (lv_at hl 3 rfl) ?_
  refine lv_iconst (v := 2) hx hb dX10_addMap_30 (by decide) ?_
  refine lv_icmp_ne (tgt := 44) hx hb dX10_addMap_31 (by decide) (fun h9 => absurd (by decide) h9) (fun _ => ?_)
  refine lv_iload_n hx hb dX10_addMap_34 rfl (lv_at hl 4 rfl) ?_
  refine lv_iconst (v := 1) hx hb dX10_addMap_35 (by decide) ?_
  refine lv_bipush (v := 100) hx hb dX10_addMap_36 (by decide) ?_
  refine zr_i (va_runS (As := [.int nn, .int 1, .int 100]) (rest := []) ⟨hx, hb, hml, hown, hts⟩ (k_X10_isWithin l nn 1 100) (va_cwS 3 hts (lw_S wq190 wq191 wq1 wq192) rfl rfl rfl (by decide +kernel) ⟨(Nat.le_of_ble_eq_true rfl), (Nat.le_of_ble_eq_true rfl)⟩) tp_N rfl rfl hl.1 rfl (lv_room (Nat.le_of_ble_eq_true rfl)) dX10_addMap_38 ⟨(Nat.le_of_ble_eq_true rfl), (Nat.le_of_ble_eq_true rfl)⟩) ?_
  refine zk_ti (y := 1) hw0 ?_
  refine lv_if_eq (tgt := 48) hx hb dX10_addMap_41 (by decide) (fun h9 => absurd h9 (by decide)) (fun _ => ?_)
  refine lv_iconst (v := 1) hx hb dX10_addMap_44 (by decide) ?_
  refine lv_goto (tgt := 49) hx hb dX10_addMap_45 (by decide) ?_
  refine zr_v (va_runS (As := [.int 1]) (rest := []) ⟨hx, hb, hml, hown, hts⟩ (k_X10_refuseUnless l 1 (by decide)) (va_cwS 1 hts (lw_S wq193 wq194 wq1 wq195) rfl rfl rfl (by decide +kernel) ⟨(Nat.le_of_ble_eq_true rfl), (Nat.le_of_ble_eq_true rfl)⟩) tp_N rfl rfl hl.1 rfl (lv_room (Nat.le_of_ble_eq_true rfl)) dX10_addMap_49 ⟨(Nat.le_of_ble_eq_true rfl), (Nat.le_of_ble_eq_true rfl)⟩) ?_
  refine lv_aload_n hx hb dX10_addMap_52 rfl (lv_at hl 1 rfl) ?_
  refine zr_v (va_runV (As := []) (rest := []) ⟨hx, hb, hml, hown, hts⟩ (k_X10_refuseMoreStages l D yc e0 A S _ (F0p pl) G0 (q0 S) rfl (by omega)) (cwV 0 hts (lw_V wq820 wq822 ws25 wq1 wq823) rfl rfl rfl (by decide +kernel) ⟨(Nat.le_of_ble_eq_true rfl), (Nat.le_of_ble_eq_true rfl)⟩) (tp_V hC hT hS hA 7 0 0 dm7 rfl rfl) rfl rfl hl.1 rfl (lv_room (Nat.le_of_ble_eq_true rfl)) dX10_addMap_53 ⟨(Nat.le_of_ble_eq_true rfl), (Nat.le_of_ble_eq_true rfl)⟩) ?_
  refine x_new (ci := 4) (fs := [.int 0, .int 0, .int 0, .int 0, .int 0, .int 0, .int 0, .int 0, .int 0, .int 0, .int 0, .int 0, .int 0, .int 0, .int 0]) (C := RX5) (T := TX5) (N := 15) hx hb hts iX5 tyX5 tyX5_ok hown (hts _ wq824) (hts _ wq825) (hts _ wq11) hK rfl dfX5 (Nat.le_of_ble_eq_true rfl) (Nat.le_of_ble_eq_true rfl) dX10_addMap_56 (fun H1 hz1 hk1 hb1 => ?_)
  have hAs : A H.size := hA _ hS.1
  have hS1 : va_S A s.heap H1 [] := ⟨Nat.le_trans hS.1 (by omega), fun q h1 h2 => (hk1 q (Nat.lt_of_lt_of_le h1 hS.1)).trans (hS.2.1 q h1 h2), hS.2.2⟩
  have hA1 : ∀ q, H1.size ≤ q → A q := fun q hq => hA q (Nat.le_trans hS1.1 hq)
  refine lv_dup hx hb dX10_addMap_59 rfl ?_
  refine lv_iconst (v := 2) hx hb dX10_addMap_60 (by decide) ?_
  refine lv_iload_n hx hb dX10_addMap_61 rfl (lv_at hl 2 rfl) ?_
  refine lv_iconst (v := (-1)) hx hb dX10_addMap_62 (by decide) ?_
  refine va_callv (va_runI (As := [.int 2, .int (nI i), .int (-1)]) (rest := [.ref H.size]) ⟨hx, hb, hml, hown, hts⟩ (kX5_init_0 l D yc e0 H1.size H.size 2 (nI i) (-1)) (cwI 3 hts (lw_C wq828) rfl rfl rfl (hts _ wq11) (hts _ wq826) (hts _ wq827) rfl (by decide +kernel) ⟨(Nat.le_of_ble_eq_true rfl), (Nat.le_of_ble_eq_true rfl)⟩) (zk_pS (A := A) hC (va_P_one hb1) (xda hAs) hS1 hA [0] rfl rfl) rfl rfl hl.1 rfl (lv_room (Nat.le_of_ble_eq_true rfl)) dX10_addMap_63 ⟨(Nat.le_of_ble_eq_true rfl), (Nat.le_of_ble_eq_true rfl)⟩) hS1 (fun q _ h => xfa hAs hA1 q h) (xfa hAs hA1) (fun u t H2 locs2 ht hvm hw hB hz2 hk2 hS2 => ?_)
  obtain ⟨hP2, -⟩ := hB
  rw [ht] at hP2
  obtain ⟨own1, ho1, hW2⟩ := hW.add (fun q hq => (hk2 q (by omega) (xna (by omega) (by omega))).trans (hk1 q hq)) (hP2 0 _ rfl) hAs 8 0 (zn S)
  have hlt : ∀ kd fl k a e, obS S pl kd fl k a e → ¬ a = H.size := fun kd fl k a e q h9 => by
    have := (hW.obj q).lt
    rw [h9] at this
    exact absurd this (Nat.lt_irrefl _)
  refine lv_astore (lv' := [(5, .ref H.size), (4, .ref (zg S 2 0 i)), (0, .ref (zg S 7 0 0)), (1, .int (nI i)), (2, .int 2), (3, .int nn)]) hx hb dX10_addMap_66 hl (by decide) rfl (fun ls hl => ?_)
  refine lv_aload hx hb dX10_addMap_68 (lv_at hl 0 rfl) ?_
  refine lv_iload_n hx hb dX10_addMap_70 rfl (lv_at hl 4 rfl) ?_
  refine x_putN (D := D) (ci := 4) (C := RX5) (T := TX5) (N := 15) (ty := .int) hx hb hts iX5 tyX5 tyX5_ok nmX5 hown hK (hW2.obj (Or.inr ⟨⟨rfl, rfl, rfl⟩, rfl, rfl⟩)) hAs hS2 rfl 4 (by decide) (zk_tab rfl (hN _ wr842 rfl)) (fun _ h9 => h9) rfl (by decide +kernel) rfl rfl (Nat.le_of_ble_eq_true rfl) dX10_addMap_71 (fun Kp0 klp0 hbp0 hkp0 hzkp0 hSkp0 => ?_)
  have hWp0 : WX D yc e0 A own1 (obadd (obS S pl) 8 0 (zn S) H.size (4, [.int 2, .int (nI i), .int (-1), .int 0, .int 2, .int 0, .int 0, .int 0, .int 0, .int 0, .int 0, .int 0, .int 0, .int 0, .int 0])) _ _ Kp0 := hW2.setadd hlt hbp0 hkp0
  refine lv_aload hx hb dX10_addMap_74 (lv_at hl 0 rfl) ?_
  refine lv_iload_n hx hb dX10_addMap_76 rfl (lv_at hl 5 rfl) ?_
  refine x_putN (D := D) (ci := 4) (C := RX5) (T := TX5) (N := 15) (ty := .int) hx hb hts iX5 tyX5 tyX5_ok nmX5 hown hK (hWp0.obj (Or.inr ⟨⟨rfl, rfl, rfl⟩, rfl, rfl⟩)) hAs hSkp0 rfl 5 (by decide) (zk_tab rfl (hN _ wr844 rfl)) (fun _ h9 => h9) rfl (by decide +kernel) rfl rfl (Nat.le_of_ble_eq_true rfl) dX10_addMap_77 (fun Kp1 klp1 hbp1 hkp1 hzkp1 hSkp1 => ?_)
  have hWp1 : WX D yc e0 A own1 (obadd (obS S pl) 8 0 (zn S) H.size (4, [.int 2, .int (nI i), .int (-1), .int 0, .int 2, .int nn, .int 0, .int 0, .int 0, .int 0, .int 0, .int 0, .int 0, .int 0, .int 0])) _ _ Kp1 := hWp0.setadd hlt hbp1 hkp1
  refine lv_aload_n hx hb dX10_addMap_80 rfl (lv_at hl 2 rfl) ?_
  refine lv_aload hx hb dX10_addMap_81 (lv_at hl 0 rfl) ?_
  refine va_calli (va_runV (As := [.ref H.size]) (rest := []) ⟨hx, hb, hml, hown, hts⟩ (x_wireS_1 l (pp := fun jj => if jj = 0 then 2 else if jj = 1 then (nI i) else if jj = 2 then (-1) else if jj = 4 then 2 else if jj = 5 then nn else 0) hn hok hdis rfl rfl hi) (cwV 1 hts (lw_V wq894 wq896 ws26 wq1 wq897) rfl rfl rfl (by decide +kernel) ⟨(Nat.le_of_ble_eq_true rfl), (Nat.le_of_ble_eq_true rfl)⟩) (px_V hC hWp1 hSkp1 hA (hWp1.obj (Or.inl oS_ws)) rfl) rfl rfl hl.1 rfl (lv_room (Nat.le_of_ble_eq_true rfl)) dX10_addMap_83 ⟨(Nat.le_of_ble_eq_true rfl), (Nat.le_of_ble_eq_true rfl)⟩) hSkp1 (fun _ _ h => h) (fun _ h => h) (fun r v t9 H9 locs9 ht9 hvm9 hw9 hB9 hz9 hk9 hS9 => ?_)
  exact W.widen (Nat.le_of_ble_eq_true rfl) (Nat.le_of_ble_eq_true rfl) (W.zret hx hb hr rfl (fun t ht hW9 => ⟨⟨r, v, rfl, hw9, hB9.1, by subst ht; rw [← ht9]; exact hB9.2⟩, hS9.F ht⟩) hS9.2.2 dX10_addMap_86 hlk)
set_option maxHeartbeats 4000000 in
set_option maxRecDepth 100000 in
theorem x_addWindow (l : Launch) {D : va_G} {yc : Nat → ClassId} {e0 : Nat} {A : Nat → Prop} {own : TO} {sz : Nat} {S : TS} {pl : Nat → Nat → Int32} {i : Nat} {sp ac la : Int32} (hn : zn S ≤ 11) (hok : zok S) (hdis : zdis S) (hi : i < zn S) (hs : ¬ pl i 0 = 7) (hw0 : v_X10_isWithin sp 1 12 = 1) (h8 : ¬ 8 * sp < 12) (hw1 : v_X10_isWithin ac 0 5 = 1) (hw2 : v_X10_isWithin la 0 1000 = 1) : Met l yX10_addWindow (ws_ yX10_addWindow cX10_addWindow 8 (some .int)) { frames := 11, cells := 87, slots := 549, locals := 380 } (PX D yc e0 A own (obS S pl) (rwS S) (lsS S) sz [.ref (zg S 7 0 0), .int (nI i), .int 12, .int sp, .int ac, .int la]) (va_Qi (fun r (_ : TS × (Nat → Nat → Int32) × TO) => r = nI (zn S)) (fun v t => SX S (some i) none pl (fun jj => if jj = 0 then 3 else if jj = 1 then (nI i) else if jj = 2 then (-1) else if jj = 6 then 12 else if jj = 7 then sp else if jj = 8 then la else if jj = 12 then ac else 0) v.1 v.2.1 ∧ WX D yc e0 A v.2.2 (obS v.1 v.2.1) (rwS v.1) (lsS v.1) t.heap) A) 87 549 A := by
  refine xk_M (by decide) (Nat.le_of_ble_eq_true rfl) ?_
  intro p e s m args below meth c ls hx hb hml hr hlk hown hts hW hz hS hA hC hl
  have hK := hC.1
  have hN := hC.2.1
  have hl : lv_has ls 8 [(0, .ref (zg S 7 0 0)), (1, .int (nI i)), (2, .int 12), (3, .int sp), (4, .int ac), (5, .int la)] := hl
  have hT := ws_WT hW (by omega) hok
  generalize hHH : s.heap = H at hW hT ⊢
  have hS : va_S A s.heap H [] := by rw [← hHH]; exact hS
  refine lv_aload_n hx hb dX10_addWindow_0 rfl (lv_at hl 0 rfl) ?_
  refine lv_iload_n hx hb dX10_addWindow_1 rfl (lv_at hl 1 rfl) ?_
  refine zr_q (va_runV (As := [.int (nI i)]) (rest := []) ⟨hx, hb, hml, hown, hts⟩ (k_X10_stageOf l D yc e0 A S _ (F0p pl) G0 (q0 S) i hi) (cwV 1 hts (lw_V wq219 wq221 ws2 wq1 wq222) rfl rfl rfl (by decide +kernel) ⟨(Nat.le_of_ble_eq_true rfl), (Nat.le_of_ble_eq_true rfl)⟩) (tp_V hC hT hS hA 7 0 0 dm7 rfl rfl) rfl rfl hl.1 rfl (lv_room (Nat.le_of_ble_eq_true rfl)) dX10_addWindow_2 ⟨(Nat.le_of_ble_eq_true rfl), (Nat.le_of_ble_eq_true rfl)⟩) ?_
  refine zk_tv (y := .ref (zg S 2 0 i)) rfl ?_
  refine lv_astore (lv' := [(6, .ref (zg S 2 0 i)), (0, .ref (zg S 7 0 0)), (1, .int (nI i)), (2, .int 12), (3, .int sp), (4, .int ac), (5, .int la)]) hx hb dX10_addWindow_5 hl (by decide) rfl (fun ls hl => ?_)
  refine lv_aload hx hb dX10_addWindow_7 (lv_at hl 0 rfl) ?_
  refine va_getN (D := D) (ci := 7) (v := .ref (zg S 8 0 i)) (C := RX8) (T := TX8) (N := 12) hx hb hts iX8 hown hK (va_P_one (hW.obj (oS_st2 (by decide) hi))) 0 rfl rfl 0 (by decide) (zk_tab rfl (hN _ wr1104 rfl)) (fun _ h9 => h9) rfl dX10_addWindow_9 ?_
  refine va_getN (D := D) (ci := 4) (v := .int (pl i 0)) (C := RX5) (T := TX5) (N := 15) hx hb hts iX5 hown hK (va_P_one (hW.obj (oS_p hi))) 0 rfl rfl 0 (by decide) (zk_tab rfl (hN _ wr831 rfl)) (fun _ h9 => h9) rfl dX10_addWindow_12 ?_
  refine lv_bipush (v := 7) hx hb dX10_addWindow_15 (by decide) ?_
  refine lv_icmp_eq (tgt := 74) hx hb dX10_addWindow_17 (by decide) (fun h9 => absurd h9 hs) (fun _ => ?_)
  refine lv_iload_n hx hb dX10_addWindow_20 rfl (lv_at hl 3 rfl) ?_
  refine lv_iconst (v := 1) hx hb dX10_addWindow_21 (by decide) ?_
  refine lv_sipush (v := 1000) hx hb dX10_addWindow_22 (by decide) ?_
  refine zr_i (va_runS (As := [.int 12, .int 1, .int 1000]) (rest := []) ⟨hx, hb, hml, hown, hts⟩ (k_X10_isWithin l 12 1 1000) (va_cwS 3 hts (lw_S wq190 wq191 wq1 wq192) rfl rfl rfl (by decide +kernel) ⟨(Nat.le_of_ble_eq_true rfl), (Nat.le_of_ble_eq_true rfl)⟩) tp_N rfl rfl hl.1 rfl (lv_room (Nat.le_of_ble_eq_true rfl)) dX10_addWindow_25 ⟨(Nat.le_of_ble_eq_true rfl), (Nat.le_of_ble_eq_true rfl)⟩) ?_
  refine zk_ti (y := 1) (by decide) ?_
  refine lv_if_eq (tgt := 74) hx hb dX10_addWindow_28 (by decide) (fun h9 => absurd h9 (by decide)) (fun _ => ?_)
  refine lv_iload_n hx hb dX10_addWindow_31 rfl (lv_at hl 4 rfl) ?_
  refine lv_iconst (v := 1) hx hb dX10_addWindow_32 (by decide) ?_
  refine lv_iload_n hx hb dX10_addWindow_33 rfl (lv_at hl 3 rfl) ?_
  refine zr_i (va_runS (As := [.int sp, .int 1, .int 12]) (rest := []) ⟨hx, hb, hml, hown, hts⟩ (k_X10_isWithin l sp 1 12) (va_cwS 3 hts (lw_S wq190 wq191 wq1 wq192) rfl rfl rfl (by decide +kernel) ⟨(Nat.le_of_ble_eq_true rfl), (Nat.le_of_ble_eq_true rfl)⟩) tp_N rfl rfl hl.1 rfl (lv_room (Nat.le_of_ble_eq_true rfl)) dX10_addWindow_34 ⟨(Nat.le_of_ble_eq_true rfl), (Nat.le_of_ble_eq_true rfl)⟩) ?_
  refine zk_ti (y := 1) hw0 ?_
  refine lv_if_eq (tgt := 74) hx hb dX10_addWindow_37 (by decide) (fun h9 => absurd h9 (by decide)) (fun _ => ?_)
  refine lv_iload_n hx hb dX10_addWindow_40 rfl (lv_at hl 3 rfl) ?_
  refine lv_bipush (v := 8) hx hb dX10_addWindow_41 (by decide) ?_
  refine lv_iload_n hx hb dX10_addWindow_43 rfl (lv_at hl 4 rfl) ?_
  refine lv_imul hx hb dX10_addWindow_44 ?_
  refine lv_icmp_gt (tgt := 74) hx hb dX10_addWindow_45 (by decide) (fun h9 => absurd h9 h8) (fun _ => ?_)
  refine lv_iload hx hb dX10_addWindow_48 (lv_at hl 5 rfl) ?_
  refine lv_iconst (v := 0) hx hb dX10_addWindow_50 (by decide) ?_
  refine lv_iconst (v := 5) hx hb dX10_addWindow_51 (by decide) ?_
  refine zr_i (va_runS (As := [.int ac, .int 0, .int 5]) (rest := []) ⟨hx, hb, hml, hown, hts⟩ (k_X10_isWithin l ac 0 5) (va_cwS 3 hts (lw_S wq190 wq191 wq1 wq192) rfl rfl rfl (by decide +kernel) ⟨(Nat.le_of_ble_eq_true rfl), (Nat.le_of_ble_eq_true rfl)⟩) tp_N rfl rfl hl.1 rfl (lv_room (Nat.le_of_ble_eq_true rfl)) dX10_addWindow_52 ⟨(Nat.le_of_ble_eq_true rfl), (Nat.le_of_ble_eq_true rfl)⟩) ?_
  refine zk_ti (y := 1) hw1 ?_
  refine lv_if_eq (tgt := 74) hx hb dX10_addWindow_55 (by decide) (fun h9 => absurd h9 (by decide)) (fun _ => ?_)
  refine lv_iload hx hb dX10_addWindow_58 (lv_at hl 6 rfl) ?_
  refine lv_iconst (v := 0) hx hb dX10_addWindow_60 (by decide) ?_
  refine lv_sipush (v := 1000) hx hb dX10_addWindow_61 (by decide) ?_
  refine zr_i (va_runS (As := [.int la, .int 0, .int 1000]) (rest := []) ⟨hx, hb, hml, hown, hts⟩ (k_X10_isWithin l la 0 1000) (va_cwS 3 hts (lw_S wq190 wq191 wq1 wq192) rfl rfl rfl (by decide +kernel) ⟨(Nat.le_of_ble_eq_true rfl), (Nat.le_of_ble_eq_true rfl)⟩) tp_N rfl rfl hl.1 rfl (lv_room (Nat.le_of_ble_eq_true rfl)) dX10_addWindow_64 ⟨(Nat.le_of_ble_eq_true rfl), (Nat.le_of_ble_eq_true rfl)⟩) ?_
  refine zk_ti (y := 1) hw2 ?_
  refine lv_if_eq (tgt := 74) hx hb dX10_addWindow_67 (by decide) (fun h9 => absurd h9 (by decide)) (fun _ => ?_)
  refine lv_iconst (v := 1) hx hb dX10_addWindow_70 (by decide) ?_
  refine lv_goto (tgt := 75) hx hb dX10_addWindow_71 (by decide) ?_
  refine zr_v (va_runS (As := [.int 1]) (rest := []) ⟨hx, hb, hml, hown, hts⟩ (k_X10_refuseUnless l 1 (by decide)) (va_cwS 1 hts (lw_S wq193 wq194 wq1 wq195) rfl rfl rfl (by decide +kernel) ⟨(Nat.le_of_ble_eq_true rfl), (Nat.le_of_ble_eq_true rfl)⟩) tp_N rfl rfl hl.1 rfl (lv_room (Nat.le_of_ble_eq_true rfl)) dX10_addWindow_75 ⟨(Nat.le_of_ble_eq_true rfl), (Nat.le_of_ble_eq_true rfl)⟩) ?_
  refine lv_aload_n hx hb dX10_addWindow_78 rfl (lv_at hl 1 rfl) ?_
  refine zr_v (va_runV (As := []) (rest := []) ⟨hx, hb, hml, hown, hts⟩ (k_X10_refuseMoreStages l D yc e0 A S _ (F0p pl) G0 (q0 S) rfl (by omega)) (cwV 0 hts (lw_V wq820 wq822 ws25 wq1 wq823) rfl rfl rfl (by decide +kernel) ⟨(Nat.le_of_ble_eq_true rfl), (Nat.le_of_ble_eq_true rfl)⟩) (tp_V hC hT hS hA 7 0 0 dm7 rfl rfl) rfl rfl hl.1 rfl (lv_room (Nat.le_of_ble_eq_true rfl)) dX10_addWindow_79 ⟨(Nat.le_of_ble_eq_true rfl), (Nat.le_of_ble_eq_true rfl)⟩) ?_
  refine x_new (ci := 4) (fs := [.int 0, .int 0, .int 0, .int 0, .int 0, .int 0, .int 0, .int 0, .int 0, .int 0, .int 0, .int 0, .int 0, .int 0, .int 0]) (C := RX5) (T := TX5) (N := 15) hx hb hts iX5 tyX5 tyX5_ok hown (hts _ wq824) (hts _ wq825) (hts _ wq11) hK rfl dfX5 (Nat.le_of_ble_eq_true rfl) (Nat.le_of_ble_eq_true rfl) dX10_addWindow_82 (fun H1 hz1 hk1 hb1 => ?_)
  have hAs : A H.size := hA _ hS.1
  have hS1 : va_S A s.heap H1 [] := ⟨Nat.le_trans hS.1 (by omega), fun q h1 h2 => (hk1 q (Nat.lt_of_lt_of_le h1 hS.1)).trans (hS.2.1 q h1 h2), hS.2.2⟩
  have hA1 : ∀ q, H1.size ≤ q → A q := fun q hq => hA q (Nat.le_trans hS1.1 hq)
  refine lv_dup hx hb dX10_addWindow_85 rfl ?_
  refine lv_iconst (v := 3) hx hb dX10_addWindow_86 (by decide) ?_
  refine lv_iload_n hx hb dX10_addWindow_87 rfl (lv_at hl 2 rfl) ?_
  refine lv_iconst (v := (-1)) hx hb dX10_addWindow_88 (by decide) ?_
  refine va_callv (va_runI (As := [.int 3, .int (nI i), .int (-1)]) (rest := [.ref H.size]) ⟨hx, hb, hml, hown, hts⟩ (kX5_init_0 l D yc e0 H1.size H.size 3 (nI i) (-1)) (cwI 3 hts (lw_C wq828) rfl rfl rfl (hts _ wq11) (hts _ wq826) (hts _ wq827) rfl (by decide +kernel) ⟨(Nat.le_of_ble_eq_true rfl), (Nat.le_of_ble_eq_true rfl)⟩) (zk_pS (A := A) hC (va_P_one hb1) (xda hAs) hS1 hA [0] rfl rfl) rfl rfl hl.1 rfl (lv_room (Nat.le_of_ble_eq_true rfl)) dX10_addWindow_89 ⟨(Nat.le_of_ble_eq_true rfl), (Nat.le_of_ble_eq_true rfl)⟩) hS1 (fun q _ h => xfa hAs hA1 q h) (xfa hAs hA1) (fun u t H2 locs2 ht hvm hw hB hz2 hk2 hS2 => ?_)
  obtain ⟨hP2, -⟩ := hB
  rw [ht] at hP2
  obtain ⟨own1, ho1, hW2⟩ := hW.add (fun q hq => (hk2 q (by omega) (xna (by omega) (by omega))).trans (hk1 q hq)) (hP2 0 _ rfl) hAs 8 0 (zn S)
  have hlt : ∀ kd fl k a e, obS S pl kd fl k a e → ¬ a = H.size := fun kd fl k a e q h9 => by
    have := (hW.obj q).lt
    rw [h9] at this
    exact absurd this (Nat.lt_irrefl _)
  refine lv_astore (lv' := [(7, .ref H.size), (6, .ref (zg S 2 0 i)), (0, .ref (zg S 7 0 0)), (1, .int (nI i)), (2, .int 12), (3, .int sp), (4, .int ac), (5, .int la)]) hx hb dX10_addWindow_92 hl (by decide) rfl (fun ls hl => ?_)
  refine lv_aload hx hb dX10_addWindow_94 (lv_at hl 0 rfl) ?_
  refine lv_iload_n hx hb dX10_addWindow_96 rfl (lv_at hl 4 rfl) ?_
  refine x_putN (D := D) (ci := 4) (C := RX5) (T := TX5) (N := 15) (ty := .int) hx hb hts iX5 tyX5 tyX5_ok nmX5 hown hK (hW2.obj (Or.inr ⟨⟨rfl, rfl, rfl⟩, rfl, rfl⟩)) hAs hS2 rfl 6 (by decide) (zk_tab rfl (hN _ wr846 rfl)) (fun _ h9 => h9) rfl (by decide +kernel) rfl rfl (Nat.le_of_ble_eq_true rfl) dX10_addWindow_97 (fun Kp0 klp0 hbp0 hkp0 hzkp0 hSkp0 => ?_)
  have hWp0 : WX D yc e0 A own1 (obadd (obS S pl) 8 0 (zn S) H.size (4, [.int 3, .int (nI i), .int (-1), .int 0, .int 0, .int 0, .int 12, .int 0, .int 0, .int 0, .int 0, .int 0, .int 0, .int 0, .int 0])) _ _ Kp0 := hW2.setadd hlt hbp0 hkp0
  refine lv_aload hx hb dX10_addWindow_100 (lv_at hl 0 rfl) ?_
  refine lv_iload_n hx hb dX10_addWindow_102 rfl (lv_at hl 5 rfl) ?_
  refine x_putN (D := D) (ci := 4) (C := RX5) (T := TX5) (N := 15) (ty := .int) hx hb hts iX5 tyX5 tyX5_ok nmX5 hown hK (hWp0.obj (Or.inr ⟨⟨rfl, rfl, rfl⟩, rfl, rfl⟩)) hAs hSkp0 rfl 7 (by decide) (zk_tab rfl (hN _ wr848 rfl)) (fun _ h9 => h9) rfl (by decide +kernel) rfl rfl (Nat.le_of_ble_eq_true rfl) dX10_addWindow_103 (fun Kp1 klp1 hbp1 hkp1 hzkp1 hSkp1 => ?_)
  have hWp1 : WX D yc e0 A own1 (obadd (obS S pl) 8 0 (zn S) H.size (4, [.int 3, .int (nI i), .int (-1), .int 0, .int 0, .int 0, .int 12, .int sp, .int 0, .int 0, .int 0, .int 0, .int 0, .int 0, .int 0])) _ _ Kp1 := hWp0.setadd hlt hbp1 hkp1
  refine lv_aload hx hb dX10_addWindow_106 (lv_at hl 0 rfl) ?_
  refine lv_iload hx hb dX10_addWindow_108 (lv_at hl 6 rfl) ?_
  refine x_putN (D := D) (ci := 4) (C := RX5) (T := TX5) (N := 15) (ty := .int) hx hb hts iX5 tyX5 tyX5_ok nmX5 hown hK (hWp1.obj (Or.inr ⟨⟨rfl, rfl, rfl⟩, rfl, rfl⟩)) hAs hSkp1 rfl 12 (by decide) (zk_tab rfl (hN _ wr858 rfl)) (fun _ h9 => h9) rfl (by decide +kernel) rfl rfl (Nat.le_of_ble_eq_true rfl) dX10_addWindow_110 (fun Kp2 klp2 hbp2 hkp2 hzkp2 hSkp2 => ?_)
  have hWp2 : WX D yc e0 A own1 (obadd (obS S pl) 8 0 (zn S) H.size (4, [.int 3, .int (nI i), .int (-1), .int 0, .int 0, .int 0, .int 12, .int sp, .int 0, .int 0, .int 0, .int 0, .int ac, .int 0, .int 0])) _ _ Kp2 := hWp1.setadd hlt hbp2 hkp2
  refine lv_aload hx hb dX10_addWindow_113 (lv_at hl 0 rfl) ?_
  refine lv_iload hx hb dX10_addWindow_115 (lv_at hl 7 rfl) ?_
  refine x_putN (D := D) (ci := 4) (C := RX5) (T := TX5) (N := 15) (ty := .int) hx hb hts iX5 tyX5 tyX5_ok nmX5 hown hK (hWp2.obj (Or.inr ⟨⟨rfl, rfl, rfl⟩, rfl, rfl⟩)) hAs hSkp2 rfl 8 (by decide) (zk_tab rfl (hN _ wr850 rfl)) (fun _ h9 => h9) rfl (by decide +kernel) rfl rfl (Nat.le_of_ble_eq_true rfl) dX10_addWindow_117 (fun Kp3 klp3 hbp3 hkp3 hzkp3 hSkp3 => ?_)
  have hWp3 : WX D yc e0 A own1 (obadd (obS S pl) 8 0 (zn S) H.size (4, [.int 3, .int (nI i), .int (-1), .int 0, .int 0, .int 0, .int 12, .int sp, .int la, .int 0, .int 0, .int 0, .int ac, .int 0, .int 0])) _ _ Kp3 := hWp2.setadd hlt hbp3 hkp3
  refine lv_aload_n hx hb dX10_addWindow_120 rfl (lv_at hl 2 rfl) ?_
  refine lv_aload hx hb dX10_addWindow_121 (lv_at hl 0 rfl) ?_
  refine va_calli (va_runV (As := [.ref H.size]) (rest := []) ⟨hx, hb, hml, hown, hts⟩ (x_wireS_1 l (pp := fun jj => if jj = 0 then 3 else if jj = 1 then (nI i) else if jj = 2 then (-1) else if jj = 6 then 12 else if jj = 7 then sp else if jj = 8 then la else if jj = 12 then ac else 0) hn hok hdis rfl rfl hi) (cwV 1 hts (lw_V wq894 wq896 ws26 wq1 wq897) rfl rfl rfl (by decide +kernel) ⟨(Nat.le_of_ble_eq_true rfl), (Nat.le_of_ble_eq_true rfl)⟩) (px_V hC hWp3 hSkp3 hA (hWp3.obj (Or.inl oS_ws)) rfl) rfl rfl hl.1 rfl (lv_room (Nat.le_of_ble_eq_true rfl)) dX10_addWindow_123 ⟨(Nat.le_of_ble_eq_true rfl), (Nat.le_of_ble_eq_true rfl)⟩) hSkp3 (fun _ _ h => h) (fun _ h => h) (fun r v t9 H9 locs9 ht9 hvm9 hw9 hB9 hz9 hk9 hS9 => ?_)
  exact W.widen (Nat.le_of_ble_eq_true rfl) (Nat.le_of_ble_eq_true rfl) (W.zret hx hb hr rfl (fun t ht hW9 => ⟨⟨r, v, rfl, hw9, hB9.1, by subst ht; rw [← ht9]; exact hB9.2⟩, hS9.F ht⟩) hS9.2.2 dX10_addWindow_126 hlk)
set_option maxHeartbeats 4000000 in
set_option maxRecDepth 100000 in
theorem x_addSession (l : Launch) {D : va_G} {yc : Nat → ClassId} {e0 : Nat} {A : Nat → Prop} {own : TO} {sz : Nat} {S : TS} {pl : Nat → Nat → Int32} {i : Nat} {gp ac : Int32} (hn : zn S ≤ 11) (hok : zok S) (hdis : zdis S) (hi : i < zn S) (hs : ¬ pl i 0 = 7) (hw0 : v_X10_isWithin gp 1 1000 = 1) (hw1 : v_X10_isWithin ac 0 5 = 1) : Met l yX10_addSession (ws_ yX10_addSession cX10_addSession 6 (some .int)) { frames := 11, cells := 87, slots := 549, locals := 380 } (PX D yc e0 A own (obS S pl) (rwS S) (lsS S) sz [.ref (zg S 7 0 0), .int (nI i), .int gp, .int ac]) (va_Qi (fun r (_ : TS × (Nat → Nat → Int32) × TO) => r = nI (zn S)) (fun v t => SX S (some i) none pl (fun jj => if jj = 0 then 4 else if jj = 1 then (nI i) else if jj = 2 then (-1) else if jj = 9 then gp else if jj = 12 then ac else 0) v.1 v.2.1 ∧ WX D yc e0 A v.2.2 (obS v.1 v.2.1) (rwS v.1) (lsS v.1) t.heap) A) 87 549 A := by
  refine xk_M (by decide) (Nat.le_of_ble_eq_true rfl) ?_
  intro p e s m args below meth c ls hx hb hml hr hlk hown hts hW hz hS hA hC hl
  have hK := hC.1
  have hN := hC.2.1
  have hl : lv_has ls 6 [(0, .ref (zg S 7 0 0)), (1, .int (nI i)), (2, .int gp), (3, .int ac)] := hl
  have hT := ws_WT hW (by omega) hok
  generalize hHH : s.heap = H at hW hT ⊢
  have hS : va_S A s.heap H [] := by rw [← hHH]; exact hS
  refine lv_aload_n hx hb dX10_addSession_0 rfl (lv_at hl 0 rfl) ?_
  refine lv_iload_n hx hb dX10_addSession_1 rfl (lv_at hl 1 rfl) ?_
  refine zr_q (va_runV (As := [.int (nI i)]) (rest := []) ⟨hx, hb, hml, hown, hts⟩ (k_X10_stageOf l D yc e0 A S _ (F0p pl) G0 (q0 S) i hi) (cwV 1 hts (lw_V wq219 wq221 ws2 wq1 wq222) rfl rfl rfl (by decide +kernel) ⟨(Nat.le_of_ble_eq_true rfl), (Nat.le_of_ble_eq_true rfl)⟩) (tp_V hC hT hS hA 7 0 0 dm7 rfl rfl) rfl rfl hl.1 rfl (lv_room (Nat.le_of_ble_eq_true rfl)) dX10_addSession_2 ⟨(Nat.le_of_ble_eq_true rfl), (Nat.le_of_ble_eq_true rfl)⟩) ?_
  refine zk_tv (y := .ref (zg S 2 0 i)) rfl ?_
  refine lv_astore (lv' := [(4, .ref (zg S 2 0 i)), (0, .ref (zg S 7 0 0)), (1, .int (nI i)), (2, .int gp), (3, .int ac)]) hx hb dX10_addSession_5 hl (by decide) rfl (fun ls hl => ?_)
  refine lv_aload hx hb dX10_addSession_7 (lv_at hl 0 rfl) ?_
  refine va_getN (D := D) (ci := 7) (v := .ref (zg S 8 0 i)) (C := RX8) (T := TX8) (N := 12) hx hb hts iX8 hown hK (va_P_one (hW.obj (oS_st2 (by decide) hi))) 0 rfl rfl 0 (by decide) (zk_tab rfl (hN _ wr1104 rfl)) (fun _ h9 => h9) rfl dX10_addSession_9 ?_
  refine va_getN (D := D) (ci := 4) (v := .int (pl i 0)) (C := RX5) (T := TX5) (N := 15) hx hb hts iX5 hown hK (va_P_one (hW.obj (oS_p hi))) 0 rfl rfl 0 (by decide) (zk_tab rfl (hN _ wr831 rfl)) (fun _ h9 => h9) rfl dX10_addSession_12 ?_
  refine lv_bipush (v := 7) hx hb dX10_addSession_15 (by decide) ?_
  refine lv_icmp_eq (tgt := 44) hx hb dX10_addSession_17 (by decide) (fun h9 => absurd h9 hs) (fun _ => ?_)
  refine lv_iload_n hx hb dX10_addSession_20 rfl (lv_at hl 3 rfl) ?_
  refine lv_iconst (v := 1) hx hb dX10_addSession_21 (by decide) ?_
  refine lv_sipush (v := 1000) hx hb dX10_addSession_22 (by decide) ?_
  refine zr_i (va_runS (As := [.int gp, .int 1, .int 1000]) (rest := []) ⟨hx, hb, hml, hown, hts⟩ (k_X10_isWithin l gp 1 1000) (va_cwS 3 hts (lw_S wq190 wq191 wq1 wq192) rfl rfl rfl (by decide +kernel) ⟨(Nat.le_of_ble_eq_true rfl), (Nat.le_of_ble_eq_true rfl)⟩) tp_N rfl rfl hl.1 rfl (lv_room (Nat.le_of_ble_eq_true rfl)) dX10_addSession_25 ⟨(Nat.le_of_ble_eq_true rfl), (Nat.le_of_ble_eq_true rfl)⟩) ?_
  refine zk_ti (y := 1) hw0 ?_
  refine lv_if_eq (tgt := 44) hx hb dX10_addSession_28 (by decide) (fun h9 => absurd h9 (by decide)) (fun _ => ?_)
  refine lv_iload_n hx hb dX10_addSession_31 rfl (lv_at hl 4 rfl) ?_
  refine lv_iconst (v := 0) hx hb dX10_addSession_32 (by decide) ?_
  refine lv_iconst (v := 5) hx hb dX10_addSession_33 (by decide) ?_
  refine zr_i (va_runS (As := [.int ac, .int 0, .int 5]) (rest := []) ⟨hx, hb, hml, hown, hts⟩ (k_X10_isWithin l ac 0 5) (va_cwS 3 hts (lw_S wq190 wq191 wq1 wq192) rfl rfl rfl (by decide +kernel) ⟨(Nat.le_of_ble_eq_true rfl), (Nat.le_of_ble_eq_true rfl)⟩) tp_N rfl rfl hl.1 rfl (lv_room (Nat.le_of_ble_eq_true rfl)) dX10_addSession_34 ⟨(Nat.le_of_ble_eq_true rfl), (Nat.le_of_ble_eq_true rfl)⟩) ?_
  refine zk_ti (y := 1) hw1 ?_
  refine lv_if_eq (tgt := 44) hx hb dX10_addSession_37 (by decide) (fun h9 => absurd h9 (by decide)) (fun _ => ?_)
  refine lv_iconst (v := 1) hx hb dX10_addSession_40 (by decide) ?_
  refine lv_goto (tgt := 45) hx hb dX10_addSession_41 (by decide) ?_
  refine zr_v (va_runS (As := [.int 1]) (rest := []) ⟨hx, hb, hml, hown, hts⟩ (k_X10_refuseUnless l 1 (by decide)) (va_cwS 1 hts (lw_S wq193 wq194 wq1 wq195) rfl rfl rfl (by decide +kernel) ⟨(Nat.le_of_ble_eq_true rfl), (Nat.le_of_ble_eq_true rfl)⟩) tp_N rfl rfl hl.1 rfl (lv_room (Nat.le_of_ble_eq_true rfl)) dX10_addSession_45 ⟨(Nat.le_of_ble_eq_true rfl), (Nat.le_of_ble_eq_true rfl)⟩) ?_
  refine lv_aload_n hx hb dX10_addSession_48 rfl (lv_at hl 1 rfl) ?_
  refine zr_v (va_runV (As := []) (rest := []) ⟨hx, hb, hml, hown, hts⟩ (k_X10_refuseMoreStages l D yc e0 A S _ (F0p pl) G0 (q0 S) rfl (by omega)) (cwV 0 hts (lw_V wq820 wq822 ws25 wq1 wq823) rfl rfl rfl (by decide +kernel) ⟨(Nat.le_of_ble_eq_true rfl), (Nat.le_of_ble_eq_true rfl)⟩) (tp_V hC hT hS hA 7 0 0 dm7 rfl rfl) rfl rfl hl.1 rfl (lv_room (Nat.le_of_ble_eq_true rfl)) dX10_addSession_49 ⟨(Nat.le_of_ble_eq_true rfl), (Nat.le_of_ble_eq_true rfl)⟩) ?_
  refine x_new (ci := 4) (fs := [.int 0, .int 0, .int 0, .int 0, .int 0, .int 0, .int 0, .int 0, .int 0, .int 0, .int 0, .int 0, .int 0, .int 0, .int 0]) (C := RX5) (T := TX5) (N := 15) hx hb hts iX5 tyX5 tyX5_ok hown (hts _ wq824) (hts _ wq825) (hts _ wq11) hK rfl dfX5 (Nat.le_of_ble_eq_true rfl) (Nat.le_of_ble_eq_true rfl) dX10_addSession_52 (fun H1 hz1 hk1 hb1 => ?_)
  have hAs : A H.size := hA _ hS.1
  have hS1 : va_S A s.heap H1 [] := ⟨Nat.le_trans hS.1 (by omega), fun q h1 h2 => (hk1 q (Nat.lt_of_lt_of_le h1 hS.1)).trans (hS.2.1 q h1 h2), hS.2.2⟩
  have hA1 : ∀ q, H1.size ≤ q → A q := fun q hq => hA q (Nat.le_trans hS1.1 hq)
  refine lv_dup hx hb dX10_addSession_55 rfl ?_
  refine lv_iconst (v := 4) hx hb dX10_addSession_56 (by decide) ?_
  refine lv_iload_n hx hb dX10_addSession_57 rfl (lv_at hl 2 rfl) ?_
  refine lv_iconst (v := (-1)) hx hb dX10_addSession_58 (by decide) ?_
  refine va_callv (va_runI (As := [.int 4, .int (nI i), .int (-1)]) (rest := [.ref H.size]) ⟨hx, hb, hml, hown, hts⟩ (kX5_init_0 l D yc e0 H1.size H.size 4 (nI i) (-1)) (cwI 3 hts (lw_C wq828) rfl rfl rfl (hts _ wq11) (hts _ wq826) (hts _ wq827) rfl (by decide +kernel) ⟨(Nat.le_of_ble_eq_true rfl), (Nat.le_of_ble_eq_true rfl)⟩) (zk_pS (A := A) hC (va_P_one hb1) (xda hAs) hS1 hA [0] rfl rfl) rfl rfl hl.1 rfl (lv_room (Nat.le_of_ble_eq_true rfl)) dX10_addSession_59 ⟨(Nat.le_of_ble_eq_true rfl), (Nat.le_of_ble_eq_true rfl)⟩) hS1 (fun q _ h => xfa hAs hA1 q h) (xfa hAs hA1) (fun u t H2 locs2 ht hvm hw hB hz2 hk2 hS2 => ?_)
  obtain ⟨hP2, -⟩ := hB
  rw [ht] at hP2
  obtain ⟨own1, ho1, hW2⟩ := hW.add (fun q hq => (hk2 q (by omega) (xna (by omega) (by omega))).trans (hk1 q hq)) (hP2 0 _ rfl) hAs 8 0 (zn S)
  have hlt : ∀ kd fl k a e, obS S pl kd fl k a e → ¬ a = H.size := fun kd fl k a e q h9 => by
    have := (hW.obj q).lt
    rw [h9] at this
    exact absurd this (Nat.lt_irrefl _)
  refine lv_astore (lv' := [(5, .ref H.size), (4, .ref (zg S 2 0 i)), (0, .ref (zg S 7 0 0)), (1, .int (nI i)), (2, .int gp), (3, .int ac)]) hx hb dX10_addSession_62 hl (by decide) rfl (fun ls hl => ?_)
  refine lv_aload hx hb dX10_addSession_64 (lv_at hl 0 rfl) ?_
  refine lv_iload_n hx hb dX10_addSession_66 rfl (lv_at hl 4 rfl) ?_
  refine x_putN (D := D) (ci := 4) (C := RX5) (T := TX5) (N := 15) (ty := .int) hx hb hts iX5 tyX5 tyX5_ok nmX5 hown hK (hW2.obj (Or.inr ⟨⟨rfl, rfl, rfl⟩, rfl, rfl⟩)) hAs hS2 rfl 9 (by decide) (zk_tab rfl (hN _ wr852 rfl)) (fun _ h9 => h9) rfl (by decide +kernel) rfl rfl (Nat.le_of_ble_eq_true rfl) dX10_addSession_67 (fun Kp0 klp0 hbp0 hkp0 hzkp0 hSkp0 => ?_)
  have hWp0 : WX D yc e0 A own1 (obadd (obS S pl) 8 0 (zn S) H.size (4, [.int 4, .int (nI i), .int (-1), .int 0, .int 0, .int 0, .int 0, .int 0, .int 0, .int gp, .int 0, .int 0, .int 0, .int 0, .int 0])) _ _ Kp0 := hW2.setadd hlt hbp0 hkp0
  refine lv_aload hx hb dX10_addSession_70 (lv_at hl 0 rfl) ?_
  refine lv_iload_n hx hb dX10_addSession_72 rfl (lv_at hl 5 rfl) ?_
  refine x_putN (D := D) (ci := 4) (C := RX5) (T := TX5) (N := 15) (ty := .int) hx hb hts iX5 tyX5 tyX5_ok nmX5 hown hK (hWp0.obj (Or.inr ⟨⟨rfl, rfl, rfl⟩, rfl, rfl⟩)) hAs hSkp0 rfl 12 (by decide) (zk_tab rfl (hN _ wr858 rfl)) (fun _ h9 => h9) rfl (by decide +kernel) rfl rfl (Nat.le_of_ble_eq_true rfl) dX10_addSession_73 (fun Kp1 klp1 hbp1 hkp1 hzkp1 hSkp1 => ?_)
  have hWp1 : WX D yc e0 A own1 (obadd (obS S pl) 8 0 (zn S) H.size (4, [.int 4, .int (nI i), .int (-1), .int 0, .int 0, .int 0, .int 0, .int 0, .int 0, .int gp, .int 0, .int 0, .int ac, .int 0, .int 0])) _ _ Kp1 := hWp0.setadd hlt hbp1 hkp1
  refine lv_aload_n hx hb dX10_addSession_76 rfl (lv_at hl 2 rfl) ?_
  refine lv_aload hx hb dX10_addSession_77 (lv_at hl 0 rfl) ?_
  refine va_calli (va_runV (As := [.ref H.size]) (rest := []) ⟨hx, hb, hml, hown, hts⟩ (x_wireS_1 l (pp := fun jj => if jj = 0 then 4 else if jj = 1 then (nI i) else if jj = 2 then (-1) else if jj = 9 then gp else if jj = 12 then ac else 0) hn hok hdis rfl rfl hi) (cwV 1 hts (lw_V wq894 wq896 ws26 wq1 wq897) rfl rfl rfl (by decide +kernel) ⟨(Nat.le_of_ble_eq_true rfl), (Nat.le_of_ble_eq_true rfl)⟩) (px_V hC hWp1 hSkp1 hA (hWp1.obj (Or.inl oS_ws)) rfl) rfl rfl hl.1 rfl (lv_room (Nat.le_of_ble_eq_true rfl)) dX10_addSession_79 ⟨(Nat.le_of_ble_eq_true rfl), (Nat.le_of_ble_eq_true rfl)⟩) hSkp1 (fun _ _ h => h) (fun _ h => h) (fun r v t9 H9 locs9 ht9 hvm9 hw9 hB9 hz9 hk9 hS9 => ?_)
  exact W.widen (Nat.le_of_ble_eq_true rfl) (Nat.le_of_ble_eq_true rfl) (W.zret hx hb hr rfl (fun t ht hW9 => ⟨⟨r, v, rfl, hw9, hB9.1, by subst ht; rw [← ht9]; exact hB9.2⟩, hS9.F ht⟩) hS9.2.2 dX10_addSession_82 hlk)
set_option maxHeartbeats 4000000 in
set_option maxRecDepth 100000 in
theorem x_addJoin (l : Launch) {D : va_G} {yc : Nat → ClassId} {e0 : Nat} {A : Nat → Prop} {own : TO} {sz : Nat} {S : TS} {pl : Nat → Nat → Int32} {i j : Nat} {be af ru : Int32} (hn : zn S ≤ 11) (hok : zok S) (hdis : zdis S) (hi : i < zn S) (hj : j < zn S) (hij : i ≠ j) (hs : ¬ pl i 0 = 7) (hs2 : ¬ pl j 0 = 7) (hw0 : v_X10_isWithin be 0 1000 = 1) (hw1 : v_X10_isWithin af 0 1000 = 1) (hw2 : v_X10_isWithin ru 0 3 = 1) : Met l yX10_addJoin (ws_ yX10_addJoin cX10_addJoin 9 (some .int)) { frames := 11, cells := 87, slots := 549, locals := 380 } (PX D yc e0 A own (obS S pl) (rwS S) (lsS S) sz [.ref (zg S 7 0 0), .int (nI i), .int (nI j), .int be, .int af, .int ru]) (va_Qi (fun r (_ : TS × (Nat → Nat → Int32) × TO) => r = nI (zn S)) (fun v t => SX S (some i) (some j) pl (fun jj => if jj = 0 then 5 else if jj = 1 then (nI i) else if jj = 2 then (nI j) else if jj = 4 then ru else if jj = 10 then be else if jj = 11 then af else 0) v.1 v.2.1 ∧ WX D yc e0 A v.2.2 (obS v.1 v.2.1) (rwS v.1) (lsS v.1) t.heap) A) 87 549 A := by
  refine xk_M (by decide) (Nat.le_of_ble_eq_true rfl) ?_
  intro p e s m args below meth c ls hx hb hml hr hlk hown hts hW hz hS hA hC hl
  have hK := hC.1
  have hN := hC.2.1
  have hl : lv_has ls 9 [(0, .ref (zg S 7 0 0)), (1, .int (nI i)), (2, .int (nI j)), (3, .int be), (4, .int af), (5, .int ru)] := hl
  have hT := ws_WT hW (by omega) hok
  generalize hHH : s.heap = H at hW hT ⊢
  have hS : va_S A s.heap H [] := by rw [← hHH]; exact hS
  refine lv_aload_n hx hb dX10_addJoin_0 rfl (lv_at hl 0 rfl) ?_
  refine lv_iload_n hx hb dX10_addJoin_1 rfl (lv_at hl 1 rfl) ?_
  refine zr_q (va_runV (As := [.int (nI i)]) (rest := []) ⟨hx, hb, hml, hown, hts⟩ (k_X10_stageOf l D yc e0 A S _ (F0p pl) G0 (q0 S) i hi) (cwV 1 hts (lw_V wq219 wq221 ws2 wq1 wq222) rfl rfl rfl (by decide +kernel) ⟨(Nat.le_of_ble_eq_true rfl), (Nat.le_of_ble_eq_true rfl)⟩) (tp_V hC hT hS hA 7 0 0 dm7 rfl rfl) rfl rfl hl.1 rfl (lv_room (Nat.le_of_ble_eq_true rfl)) dX10_addJoin_2 ⟨(Nat.le_of_ble_eq_true rfl), (Nat.le_of_ble_eq_true rfl)⟩) ?_
  refine zk_tv (y := .ref (zg S 2 0 i)) rfl ?_
  refine lv_astore (lv' := [(6, .ref (zg S 2 0 i)), (0, .ref (zg S 7 0 0)), (1, .int (nI i)), (2, .int (nI j)), (3, .int be), (4, .int af), (5, .int ru)]) hx hb dX10_addJoin_5 hl (by decide) rfl (fun ls hl => ?_)
  refine lv_aload_n hx hb dX10_addJoin_7 rfl (lv_at hl 1 rfl) ?_
  refine lv_iload_n hx hb dX10_addJoin_8 rfl (lv_at hl 3 rfl) ?_
  refine zr_q (va_runV (As := [.int (nI j)]) (rest := []) ⟨hx, hb, hml, hown, hts⟩ (k_X10_stageOf l D yc e0 A S _ (F0p pl) G0 (q0 S) j hj) (cwV 1 hts (lw_V wq219 wq221 ws2 wq1 wq222) rfl rfl rfl (by decide +kernel) ⟨(Nat.le_of_ble_eq_true rfl), (Nat.le_of_ble_eq_true rfl)⟩) (tp_V hC hT hS hA 7 0 0 dm7 rfl rfl) rfl rfl hl.1 rfl (lv_room (Nat.le_of_ble_eq_true rfl)) dX10_addJoin_9 ⟨(Nat.le_of_ble_eq_true rfl), (Nat.le_of_ble_eq_true rfl)⟩) ?_
  refine zk_tv (y := .ref (zg S 2 0 j)) rfl ?_
  refine lv_astore (lv' := [(7, .ref (zg S 2 0 j)), (6, .ref (zg S 2 0 i)), (0, .ref (zg S 7 0 0)), (1, .int (nI i)), (2, .int (nI j)), (3, .int be), (4, .int af), (5, .int ru)]) hx hb dX10_addJoin_12 hl (by decide) rfl (fun ls hl => ?_)
  refine lv_aload hx hb dX10_addJoin_14 (lv_at hl 1 rfl) ?_
  refine va_getN (D := D) (ci := 7) (v := .ref (zg S 8 0 i)) (C := RX8) (T := TX8) (N := 12) hx hb hts iX8 hown hK (va_P_one (hW.obj (oS_st2 (by decide) hi))) 0 rfl rfl 0 (by decide) (zk_tab rfl (hN _ wr1104 rfl)) (fun _ h9 => h9) rfl dX10_addJoin_16 ?_
  refine va_getN (D := D) (ci := 4) (v := .int (pl i 0)) (C := RX5) (T := TX5) (N := 15) hx hb hts iX5 hown hK (va_P_one (hW.obj (oS_p hi))) 0 rfl rfl 0 (by decide) (zk_tab rfl (hN _ wr831 rfl)) (fun _ h9 => h9) rfl dX10_addJoin_19 ?_
  refine lv_bipush (v := 7) hx hb dX10_addJoin_22 (by decide) ?_
  refine lv_icmp_eq (tgt := 82) hx hb dX10_addJoin_24 (by decide) (fun h9 => absurd h9 hs) (fun _ => ?_)
  refine lv_aload hx hb dX10_addJoin_27 (lv_at hl 0 rfl) ?_
  refine va_getN (D := D) (ci := 7) (v := .ref (zg S 8 0 j)) (C := RX8) (T := TX8) (N := 12) hx hb hts iX8 hown hK (va_P_one (hW.obj (oS_st2 (by decide) hj))) 0 rfl rfl 0 (by decide) (zk_tab rfl (hN _ wr1104 rfl)) (fun _ h9 => h9) rfl dX10_addJoin_29 ?_
  refine va_getN (D := D) (ci := 4) (v := .int (pl j 0)) (C := RX5) (T := TX5) (N := 15) hx hb hts iX5 hown hK (va_P_one (hW.obj (oS_p hj))) 0 rfl rfl 0 (by decide) (zk_tab rfl (hN _ wr831 rfl)) (fun _ h9 => h9) rfl dX10_addJoin_32 ?_
  refine lv_bipush (v := 7) hx hb dX10_addJoin_35 (by decide) ?_
  refine lv_icmp_eq (tgt := 82) hx hb dX10_addJoin_37 (by decide) (fun h9 => absurd h9 hs2) (fun _ => ?_)
  refine lv_iload_n hx hb dX10_addJoin_40 rfl (lv_at hl 3 rfl) ?_
  refine lv_iload_n hx hb dX10_addJoin_41 rfl (lv_at hl 4 rfl) ?_
  refine lv_icmp_eq (tgt := 82) hx hb dX10_addJoin_42 (by decide) (fun h9 => absurd h9 (fun e9 => hij ((nI_eq (by omega) (by omega)).mp e9))) (fun _ => ?_)
  refine lv_iload_n hx hb dX10_addJoin_45 rfl (lv_at hl 5 rfl) ?_
  refine lv_iconst (v := 0) hx hb dX10_addJoin_46 (by decide) ?_
  refine lv_sipush (v := 1000) hx hb dX10_addJoin_47 (by decide) ?_
  refine zr_i (va_runS (As := [.int be, .int 0, .int 1000]) (rest := []) ⟨hx, hb, hml, hown, hts⟩ (k_X10_isWithin l be 0 1000) (va_cwS 3 hts (lw_S wq190 wq191 wq1 wq192) rfl rfl rfl (by decide +kernel) ⟨(Nat.le_of_ble_eq_true rfl), (Nat.le_of_ble_eq_true rfl)⟩) tp_N rfl rfl hl.1 rfl (lv_room (Nat.le_of_ble_eq_true rfl)) dX10_addJoin_50 ⟨(Nat.le_of_ble_eq_true rfl), (Nat.le_of_ble_eq_true rfl)⟩) ?_
  refine zk_ti (y := 1) hw0 ?_
  refine lv_if_eq (tgt := 82) hx hb dX10_addJoin_53 (by decide) (fun h9 => absurd h9 (by decide)) (fun _ => ?_)
  refine lv_iload hx hb dX10_addJoin_56 (lv_at hl 6 rfl) ?_
  refine lv_iconst (v := 0) hx hb dX10_addJoin_58 (by decide) ?_
  refine lv_sipush (v := 1000) hx hb dX10_addJoin_59 (by decide) ?_
  refine zr_i (va_runS (As := [.int af, .int 0, .int 1000]) (rest := []) ⟨hx, hb, hml, hown, hts⟩ (k_X10_isWithin l af 0 1000) (va_cwS 3 hts (lw_S wq190 wq191 wq1 wq192) rfl rfl rfl (by decide +kernel) ⟨(Nat.le_of_ble_eq_true rfl), (Nat.le_of_ble_eq_true rfl)⟩) tp_N rfl rfl hl.1 rfl (lv_room (Nat.le_of_ble_eq_true rfl)) dX10_addJoin_62 ⟨(Nat.le_of_ble_eq_true rfl), (Nat.le_of_ble_eq_true rfl)⟩) ?_
  refine zk_ti (y := 1) hw1 ?_
  refine lv_if_eq (tgt := 82) hx hb dX10_addJoin_65 (by decide) (fun h9 => absurd h9 (by decide)) (fun _ => ?_)
  refine lv_iload hx hb dX10_addJoin_68 (lv_at hl 7 rfl) ?_
  refine lv_iconst (v := 0) hx hb dX10_addJoin_70 (by decide) ?_
  refine lv_iconst (v := 3) hx hb dX10_addJoin_71 (by decide) ?_
  refine zr_i (va_runS (As := [.int ru, .int 0, .int 3]) (rest := []) ⟨hx, hb, hml, hown, hts⟩ (k_X10_isWithin l ru 0 3) (va_cwS 3 hts (lw_S wq190 wq191 wq1 wq192) rfl rfl rfl (by decide +kernel) ⟨(Nat.le_of_ble_eq_true rfl), (Nat.le_of_ble_eq_true rfl)⟩) tp_N rfl rfl hl.1 rfl (lv_room (Nat.le_of_ble_eq_true rfl)) dX10_addJoin_72 ⟨(Nat.le_of_ble_eq_true rfl), (Nat.le_of_ble_eq_true rfl)⟩) ?_
  refine zk_ti (y := 1) hw2 ?_
  refine lv_if_eq (tgt := 82) hx hb dX10_addJoin_75 (by decide) (fun h9 => absurd h9 (by decide)) (fun _ => ?_)
  refine lv_iconst (v := 1) hx hb dX10_addJoin_78 (by decide) ?_
  refine lv_goto (tgt := 83) hx hb dX10_addJoin_79 (by decide) ?_
  refine zr_v (va_runS (As := [.int 1]) (rest := []) ⟨hx, hb, hml, hown, hts⟩ (k_X10_refuseUnless l 1 (by decide)) (va_cwS 1 hts (lw_S wq193 wq194 wq1 wq195) rfl rfl rfl (by decide +kernel) ⟨(Nat.le_of_ble_eq_true rfl), (Nat.le_of_ble_eq_true rfl)⟩) tp_N rfl rfl hl.1 rfl (lv_room (Nat.le_of_ble_eq_true rfl)) dX10_addJoin_83 ⟨(Nat.le_of_ble_eq_true rfl), (Nat.le_of_ble_eq_true rfl)⟩) ?_
  refine lv_aload_n hx hb dX10_addJoin_86 rfl (lv_at hl 2 rfl) ?_
  refine zr_v (va_runV (As := []) (rest := []) ⟨hx, hb, hml, hown, hts⟩ (k_X10_refuseMoreStages l D yc e0 A S _ (F0p pl) G0 (q0 S) rfl (by omega)) (cwV 0 hts (lw_V wq820 wq822 ws25 wq1 wq823) rfl rfl rfl (by decide +kernel) ⟨(Nat.le_of_ble_eq_true rfl), (Nat.le_of_ble_eq_true rfl)⟩) (tp_V hC hT hS hA 7 0 0 dm7 rfl rfl) rfl rfl hl.1 rfl (lv_room (Nat.le_of_ble_eq_true rfl)) dX10_addJoin_87 ⟨(Nat.le_of_ble_eq_true rfl), (Nat.le_of_ble_eq_true rfl)⟩) ?_
  refine x_new (ci := 4) (fs := [.int 0, .int 0, .int 0, .int 0, .int 0, .int 0, .int 0, .int 0, .int 0, .int 0, .int 0, .int 0, .int 0, .int 0, .int 0]) (C := RX5) (T := TX5) (N := 15) hx hb hts iX5 tyX5 tyX5_ok hown (hts _ wq824) (hts _ wq825) (hts _ wq11) hK rfl dfX5 (Nat.le_of_ble_eq_true rfl) (Nat.le_of_ble_eq_true rfl) dX10_addJoin_90 (fun H1 hz1 hk1 hb1 => ?_)
  have hAs : A H.size := hA _ hS.1
  have hS1 : va_S A s.heap H1 [] := ⟨Nat.le_trans hS.1 (by omega), fun q h1 h2 => (hk1 q (Nat.lt_of_lt_of_le h1 hS.1)).trans (hS.2.1 q h1 h2), hS.2.2⟩
  have hA1 : ∀ q, H1.size ≤ q → A q := fun q hq => hA q (Nat.le_trans hS1.1 hq)
  refine lv_dup hx hb dX10_addJoin_93 rfl ?_
  refine lv_iconst (v := 5) hx hb dX10_addJoin_94 (by decide) ?_
  refine lv_iload_n hx hb dX10_addJoin_95 rfl (lv_at hl 3 rfl) ?_
  refine lv_iload_n hx hb dX10_addJoin_96 rfl (lv_at hl 4 rfl) ?_
  refine va_callv (va_runI (As := [.int 5, .int (nI i), .int (nI j)]) (rest := [.ref H.size]) ⟨hx, hb, hml, hown, hts⟩ (kX5_init_0 l D yc e0 H1.size H.size 5 (nI i) (nI j)) (cwI 3 hts (lw_C wq828) rfl rfl rfl (hts _ wq11) (hts _ wq826) (hts _ wq827) rfl (by decide +kernel) ⟨(Nat.le_of_ble_eq_true rfl), (Nat.le_of_ble_eq_true rfl)⟩) (zk_pS (A := A) hC (va_P_one hb1) (xda hAs) hS1 hA [0] rfl rfl) rfl rfl hl.1 rfl (lv_room (Nat.le_of_ble_eq_true rfl)) dX10_addJoin_97 ⟨(Nat.le_of_ble_eq_true rfl), (Nat.le_of_ble_eq_true rfl)⟩) hS1 (fun q _ h => xfa hAs hA1 q h) (xfa hAs hA1) (fun u t H2 locs2 ht hvm hw hB hz2 hk2 hS2 => ?_)
  obtain ⟨hP2, -⟩ := hB
  rw [ht] at hP2
  obtain ⟨own1, ho1, hW2⟩ := hW.add (fun q hq => (hk2 q (by omega) (xna (by omega) (by omega))).trans (hk1 q hq)) (hP2 0 _ rfl) hAs 8 0 (zn S)
  have hlt : ∀ kd fl k a e, obS S pl kd fl k a e → ¬ a = H.size := fun kd fl k a e q h9 => by
    have := (hW.obj q).lt
    rw [h9] at this
    exact absurd this (Nat.lt_irrefl _)
  refine lv_astore (lv' := [(8, .ref H.size), (7, .ref (zg S 2 0 j)), (6, .ref (zg S 2 0 i)), (0, .ref (zg S 7 0 0)), (1, .int (nI i)), (2, .int (nI j)), (3, .int be), (4, .int af), (5, .int ru)]) hx hb dX10_addJoin_100 hl (by decide) rfl (fun ls hl => ?_)
  refine lv_aload hx hb dX10_addJoin_102 (lv_at hl 0 rfl) ?_
  refine lv_iload_n hx hb dX10_addJoin_104 rfl (lv_at hl 6 rfl) ?_
  refine x_putN (D := D) (ci := 4) (C := RX5) (T := TX5) (N := 15) (ty := .int) hx hb hts iX5 tyX5 tyX5_ok nmX5 hown hK (hW2.obj (Or.inr ⟨⟨rfl, rfl, rfl⟩, rfl, rfl⟩)) hAs hS2 rfl 10 (by decide) (zk_tab rfl (hN _ wr854 rfl)) (fun _ h9 => h9) rfl (by decide +kernel) rfl rfl (Nat.le_of_ble_eq_true rfl) dX10_addJoin_105 (fun Kp0 klp0 hbp0 hkp0 hzkp0 hSkp0 => ?_)
  have hWp0 : WX D yc e0 A own1 (obadd (obS S pl) 8 0 (zn S) H.size (4, [.int 5, .int (nI i), .int (nI j), .int 0, .int 0, .int 0, .int 0, .int 0, .int 0, .int 0, .int be, .int 0, .int 0, .int 0, .int 0])) _ _ Kp0 := hW2.setadd hlt hbp0 hkp0
  refine lv_aload hx hb dX10_addJoin_108 (lv_at hl 0 rfl) ?_
  refine lv_iload hx hb dX10_addJoin_110 (lv_at hl 7 rfl) ?_
  refine x_putN (D := D) (ci := 4) (C := RX5) (T := TX5) (N := 15) (ty := .int) hx hb hts iX5 tyX5 tyX5_ok nmX5 hown hK (hWp0.obj (Or.inr ⟨⟨rfl, rfl, rfl⟩, rfl, rfl⟩)) hAs hSkp0 rfl 11 (by decide) (zk_tab rfl (hN _ wr856 rfl)) (fun _ h9 => h9) rfl (by decide +kernel) rfl rfl (Nat.le_of_ble_eq_true rfl) dX10_addJoin_112 (fun Kp1 klp1 hbp1 hkp1 hzkp1 hSkp1 => ?_)
  have hWp1 : WX D yc e0 A own1 (obadd (obS S pl) 8 0 (zn S) H.size (4, [.int 5, .int (nI i), .int (nI j), .int 0, .int 0, .int 0, .int 0, .int 0, .int 0, .int 0, .int be, .int af, .int 0, .int 0, .int 0])) _ _ Kp1 := hWp0.setadd hlt hbp1 hkp1
  refine lv_aload hx hb dX10_addJoin_115 (lv_at hl 0 rfl) ?_
  refine lv_iload hx hb dX10_addJoin_117 (lv_at hl 8 rfl) ?_
  refine x_putN (D := D) (ci := 4) (C := RX5) (T := TX5) (N := 15) (ty := .int) hx hb hts iX5 tyX5 tyX5_ok nmX5 hown hK (hWp1.obj (Or.inr ⟨⟨rfl, rfl, rfl⟩, rfl, rfl⟩)) hAs hSkp1 rfl 4 (by decide) (zk_tab rfl (hN _ wr842 rfl)) (fun _ h9 => h9) rfl (by decide +kernel) rfl rfl (Nat.le_of_ble_eq_true rfl) dX10_addJoin_119 (fun Kp2 klp2 hbp2 hkp2 hzkp2 hSkp2 => ?_)
  have hWp2 : WX D yc e0 A own1 (obadd (obS S pl) 8 0 (zn S) H.size (4, [.int 5, .int (nI i), .int (nI j), .int 0, .int ru, .int 0, .int 0, .int 0, .int 0, .int 0, .int be, .int af, .int 0, .int 0, .int 0])) _ _ Kp2 := hWp1.setadd hlt hbp2 hkp2
  refine lv_aload_n hx hb dX10_addJoin_122 rfl (lv_at hl 3 rfl) ?_
  refine lv_aload hx hb dX10_addJoin_123 (lv_at hl 0 rfl) ?_
  refine va_calli (va_runV (As := [.ref H.size]) (rest := []) ⟨hx, hb, hml, hown, hts⟩ (x_wireS_2 l (pp := fun jj => if jj = 0 then 5 else if jj = 1 then (nI i) else if jj = 2 then (nI j) else if jj = 4 then ru else if jj = 10 then be else if jj = 11 then af else 0) hn hok hdis rfl rfl hi hj hij) (cwV 1 hts (lw_V wq894 wq896 ws26 wq1 wq897) rfl rfl rfl (by decide +kernel) ⟨(Nat.le_of_ble_eq_true rfl), (Nat.le_of_ble_eq_true rfl)⟩) (px_V hC hWp2 hSkp2 hA (hWp2.obj (Or.inl oS_ws)) rfl) rfl rfl hl.1 rfl (lv_room (Nat.le_of_ble_eq_true rfl)) dX10_addJoin_125 ⟨(Nat.le_of_ble_eq_true rfl), (Nat.le_of_ble_eq_true rfl)⟩) hSkp2 (fun _ _ h => h) (fun _ h => h) (fun r v t9 H9 locs9 ht9 hvm9 hw9 hB9 hz9 hk9 hS9 => ?_)
  exact W.widen (Nat.le_of_ble_eq_true rfl) (Nat.le_of_ble_eq_true rfl) (W.zret hx hb hr rfl (fun t ht hW9 => ⟨⟨r, v, rfl, hw9, hB9.1, by subst ht; rw [← ht9]; exact hB9.2⟩, hS9.F ht⟩) hS9.2.2 dX10_addJoin_128 hlk)
set_option maxHeartbeats 4000000 in
set_option maxRecDepth 100000 in
theorem x_addMerge (l : Launch) {D : va_G} {yc : Nat → ClassId} {e0 : Nat} {A : Nat → Prop} {own : TO} {sz : Nat} {S : TS} {pl : Nat → Nat → Int32} {i j : Nat} (hn : zn S ≤ 11) (hok : zok S) (hdis : zdis S) (hi : i < zn S) (hj : j < zn S) (hij : i ≠ j) (hs : ¬ pl i 0 = 7) (hs2 : ¬ pl j 0 = 7) : Met l yX10_addMerge (ws_ yX10_addMerge cX10_addMerge 5 (some .int)) { frames := 11, cells := 87, slots := 549, locals := 380 } (PX D yc e0 A own (obS S pl) (rwS S) (lsS S) sz [.ref (zg S 7 0 0), .int (nI i), .int (nI j)]) (va_Qi (fun r (_ : TS × (Nat → Nat → Int32) × TO) => r = nI (zn S)) (fun v t => SX S (some i) (some j) pl (fun jj => if jj = 0 then 6 else if jj = 1 then (nI i) else if jj = 2 then (nI j) else 0) v.1 v.2.1 ∧ WX D yc e0 A v.2.2 (obS v.1 v.2.1) (rwS v.1) (lsS v.1) t.heap) A) 87 549 A := by
  refine xk_M (by decide) (Nat.le_of_ble_eq_true rfl) ?_
  intro p e s m args below meth c ls hx hb hml hr hlk hown hts hW hz hS hA hC hl
  have hK := hC.1
  have hN := hC.2.1
  have hl : lv_has ls 5 [(0, .ref (zg S 7 0 0)), (1, .int (nI i)), (2, .int (nI j))] := hl
  have hT := ws_WT hW (by omega) hok
  generalize hHH : s.heap = H at hW hT ⊢
  have hS : va_S A s.heap H [] := by rw [← hHH]; exact hS
  refine lv_aload_n hx hb dX10_addMerge_0 rfl (lv_at hl 0 rfl) ?_
  refine lv_iload_n hx hb dX10_addMerge_1 rfl (lv_at hl 1 rfl) ?_
  refine zr_q (va_runV (As := [.int (nI i)]) (rest := []) ⟨hx, hb, hml, hown, hts⟩ (k_X10_stageOf l D yc e0 A S _ (F0p pl) G0 (q0 S) i hi) (cwV 1 hts (lw_V wq219 wq221 ws2 wq1 wq222) rfl rfl rfl (by decide +kernel) ⟨(Nat.le_of_ble_eq_true rfl), (Nat.le_of_ble_eq_true rfl)⟩) (tp_V hC hT hS hA 7 0 0 dm7 rfl rfl) rfl rfl hl.1 rfl (lv_room (Nat.le_of_ble_eq_true rfl)) dX10_addMerge_2 ⟨(Nat.le_of_ble_eq_true rfl), (Nat.le_of_ble_eq_true rfl)⟩) ?_
  refine zk_tv (y := .ref (zg S 2 0 i)) rfl ?_
  refine lv_astore_n (lv' := [(3, .ref (zg S 2 0 i)), (0, .ref (zg S 7 0 0)), (1, .int (nI i)), (2, .int (nI j))]) hx hb dX10_addMerge_5 rfl hl (by decide) rfl (fun ls hl => ?_)
  refine lv_aload_n hx hb dX10_addMerge_6 rfl (lv_at hl 1 rfl) ?_
  refine lv_iload_n hx hb dX10_addMerge_7 rfl (lv_at hl 3 rfl) ?_
  refine zr_q (va_runV (As := [.int (nI j)]) (rest := []) ⟨hx, hb, hml, hown, hts⟩ (k_X10_stageOf l D yc e0 A S _ (F0p pl) G0 (q0 S) j hj) (cwV 1 hts (lw_V wq219 wq221 ws2 wq1 wq222) rfl rfl rfl (by decide +kernel) ⟨(Nat.le_of_ble_eq_true rfl), (Nat.le_of_ble_eq_true rfl)⟩) (tp_V hC hT hS hA 7 0 0 dm7 rfl rfl) rfl rfl hl.1 rfl (lv_room (Nat.le_of_ble_eq_true rfl)) dX10_addMerge_8 ⟨(Nat.le_of_ble_eq_true rfl), (Nat.le_of_ble_eq_true rfl)⟩) ?_
  refine zk_tv (y := .ref (zg S 2 0 j)) rfl ?_
  refine lv_astore (lv' := [(4, .ref (zg S 2 0 j)), (3, .ref (zg S 2 0 i)), (0, .ref (zg S 7 0 0)), (1, .int (nI i)), (2, .int (nI j))]) hx hb dX10_addMerge_11 hl (by decide) rfl (fun ls hl => ?_)
  refine lv_aload_n hx hb dX10_addMerge_13 rfl (lv_at hl 1 rfl) ?_
  refine va_getN (D := D) (ci := 7) (v := .ref (zg S 8 0 i)) (C := RX8) (T := TX8) (N := 12) hx hb hts iX8 hown hK (va_P_one (hW.obj (oS_st2 (by decide) hi))) 0 rfl rfl 0 (by decide) (zk_tab rfl (hN _ wr1104 rfl)) (fun _ h9 => h9) rfl dX10_addMerge_14 ?_
  refine va_getN (D := D) (ci := 4) (v := .int (pl i 0)) (C := RX5) (T := TX5) (N := 15) hx hb hts iX5 hown hK (va_P_one (hW.obj (oS_p hi))) 0 rfl rfl 0 (by decide) (zk_tab rfl (hN _ wr831 rfl)) (fun _ h9 => h9) rfl dX10_addMerge_17 ?_
  refine lv_bipush (v := 7) hx hb dX10_addMerge_20 (by decide) ?_
  refine lv_icmp_eq (tgt := 47) hx hb dX10_addMerge_22 (by decide) (fun h9 => absurd h9 hs) (fun _ => ?_)
  refine lv_aload hx hb dX10_addMerge_25 (lv_at hl 0 rfl) ?_
  refine va_getN (D := D) (ci := 7) (v := .ref (zg S 8 0 j)) (C := RX8) (T := TX8) (N := 12) hx hb hts iX8 hown hK (va_P_one (hW.obj (oS_st2 (by decide) hj))) 0 rfl rfl 0 (by decide) (zk_tab rfl (hN _ wr1104 rfl)) (fun _ h9 => h9) rfl dX10_addMerge_27 ?_
  refine va_getN (D := D) (ci := 4) (v := .int (pl j 0)) (C := RX5) (T := TX5) (N := 15) hx hb hts iX5 hown hK (va_P_one (hW.obj (oS_p hj))) 0 rfl rfl 0 (by decide) (zk_tab rfl (hN _ wr831 rfl)) (fun _ h9 => h9) rfl dX10_addMerge_30 ?_
  refine lv_bipush (v := 7) hx hb dX10_addMerge_33 (by decide) ?_
  refine lv_icmp_eq (tgt := 47) hx hb dX10_addMerge_35 (by decide) (fun h9 => absurd h9 hs2) (fun _ => ?_)
  refine lv_iload_n hx hb dX10_addMerge_38 rfl (lv_at hl 3 rfl) ?_
  refine lv_iload_n hx hb dX10_addMerge_39 rfl (lv_at hl 4 rfl) ?_
  refine lv_icmp_eq (tgt := 47) hx hb dX10_addMerge_40 (by decide) (fun h9 => absurd h9 (fun e9 => hij ((nI_eq (by omega) (by omega)).mp e9))) (fun _ => ?_)
  refine lv_iconst (v := 1) hx hb dX10_addMerge_43 (by decide) ?_
  refine lv_goto (tgt := 48) hx hb dX10_addMerge_44 (by decide) ?_
  refine zr_v (va_runS (As := [.int 1]) (rest := []) ⟨hx, hb, hml, hown, hts⟩ (k_X10_refuseUnless l 1 (by decide)) (va_cwS 1 hts (lw_S wq193 wq194 wq1 wq195) rfl rfl rfl (by decide +kernel) ⟨(Nat.le_of_ble_eq_true rfl), (Nat.le_of_ble_eq_true rfl)⟩) tp_N rfl rfl hl.1 rfl (lv_room (Nat.le_of_ble_eq_true rfl)) dX10_addMerge_48 ⟨(Nat.le_of_ble_eq_true rfl), (Nat.le_of_ble_eq_true rfl)⟩) ?_
  refine lv_aload_n hx hb dX10_addMerge_51 rfl (lv_at hl 2 rfl) ?_
  refine zr_v (va_runV (As := []) (rest := []) ⟨hx, hb, hml, hown, hts⟩ (k_X10_refuseMoreStages l D yc e0 A S _ (F0p pl) G0 (q0 S) rfl (by omega)) (cwV 0 hts (lw_V wq820 wq822 ws25 wq1 wq823) rfl rfl rfl (by decide +kernel) ⟨(Nat.le_of_ble_eq_true rfl), (Nat.le_of_ble_eq_true rfl)⟩) (tp_V hC hT hS hA 7 0 0 dm7 rfl rfl) rfl rfl hl.1 rfl (lv_room (Nat.le_of_ble_eq_true rfl)) dX10_addMerge_52 ⟨(Nat.le_of_ble_eq_true rfl), (Nat.le_of_ble_eq_true rfl)⟩) ?_
  refine lv_aload_n hx hb dX10_addMerge_55 rfl (lv_at hl 2 rfl) ?_
  refine x_new (ci := 4) (fs := [.int 0, .int 0, .int 0, .int 0, .int 0, .int 0, .int 0, .int 0, .int 0, .int 0, .int 0, .int 0, .int 0, .int 0, .int 0]) (C := RX5) (T := TX5) (N := 15) hx hb hts iX5 tyX5 tyX5_ok hown (hts _ wq824) (hts _ wq825) (hts _ wq11) hK rfl dfX5 (Nat.le_of_ble_eq_true rfl) (Nat.le_of_ble_eq_true rfl) dX10_addMerge_56 (fun H1 hz1 hk1 hb1 => ?_)
  have hAs : A H.size := hA _ hS.1
  have hS1 : va_S A s.heap H1 [] := ⟨Nat.le_trans hS.1 (by omega), fun q h1 h2 => (hk1 q (Nat.lt_of_lt_of_le h1 hS.1)).trans (hS.2.1 q h1 h2), hS.2.2⟩
  have hA1 : ∀ q, H1.size ≤ q → A q := fun q hq => hA q (Nat.le_trans hS1.1 hq)
  refine lv_dup hx hb dX10_addMerge_59 rfl ?_
  refine lv_bipush (v := 6) hx hb dX10_addMerge_60 (by decide) ?_
  refine lv_iload_n hx hb dX10_addMerge_62 rfl (lv_at hl 3 rfl) ?_
  refine lv_iload_n hx hb dX10_addMerge_63 rfl (lv_at hl 4 rfl) ?_
  refine va_callv (va_runI (As := [.int 6, .int (nI i), .int (nI j)]) (rest := [.ref H.size, .ref (zg S 7 0 0)]) ⟨hx, hb, hml, hown, hts⟩ (kX5_init_0 l D yc e0 H1.size H.size 6 (nI i) (nI j)) (cwI 3 hts (lw_C wq828) rfl rfl rfl (hts _ wq11) (hts _ wq826) (hts _ wq827) rfl (by decide +kernel) ⟨(Nat.le_of_ble_eq_true rfl), (Nat.le_of_ble_eq_true rfl)⟩) (zk_pS (A := A) hC (va_P_one hb1) (xda hAs) hS1 hA [0] rfl rfl) rfl rfl hl.1 rfl (lv_room (Nat.le_of_ble_eq_true rfl)) dX10_addMerge_64 ⟨(Nat.le_of_ble_eq_true rfl), (Nat.le_of_ble_eq_true rfl)⟩) hS1 (fun q _ h => xfa hAs hA1 q h) (xfa hAs hA1) (fun u t H2 locs2 ht hvm hw hB hz2 hk2 hS2 => ?_)
  obtain ⟨hP2, -⟩ := hB
  rw [ht] at hP2
  obtain ⟨own1, ho1, hW2⟩ := hW.add (fun q hq => (hk2 q (by omega) (xna (by omega) (by omega))).trans (hk1 q hq)) (hP2 0 _ rfl) hAs 8 0 (zn S)
  have hlt : ∀ kd fl k a e, obS S pl kd fl k a e → ¬ a = H.size := fun kd fl k a e q h9 => by
    have := (hW.obj q).lt
    rw [h9] at this
    exact absurd this (Nat.lt_irrefl _)
  refine va_calli (va_runV (As := [.ref H.size]) (rest := []) ⟨hx, hb, hml, hown, hts⟩ (x_wireS_2 l (pp := fun jj => if jj = 0 then 6 else if jj = 1 then (nI i) else if jj = 2 then (nI j) else 0) hn hok hdis rfl rfl hi hj hij) (cwV 1 hts (lw_V wq894 wq896 ws26 wq1 wq897) rfl rfl rfl (by decide +kernel) ⟨(Nat.le_of_ble_eq_true rfl), (Nat.le_of_ble_eq_true rfl)⟩) (px_V hC hW2 hS2 hA (hW2.obj (Or.inl oS_ws)) rfl) rfl rfl hl.1 rfl (lv_room (Nat.le_of_ble_eq_true rfl)) dX10_addMerge_67 ⟨(Nat.le_of_ble_eq_true rfl), (Nat.le_of_ble_eq_true rfl)⟩) hS2 (fun _ _ h => h) (fun _ h => h) (fun r v t9 H9 locs9 ht9 hvm9 hw9 hB9 hz9 hk9 hS9 => ?_)
  exact W.widen (Nat.le_of_ble_eq_true rfl) (Nat.le_of_ble_eq_true rfl) (W.zret hx hb hr rfl (fun t ht hW9 => ⟨⟨r, v, rfl, hw9, hB9.1, by subst ht; rw [← ht9]; exact hB9.2⟩, hS9.F ht⟩) hS9.2.2 dX10_addMerge_70 hlk)
set_option maxHeartbeats 4000000 in
set_option maxRecDepth 100000 in
theorem x_addSink (l : Launch) {D : va_G} {yc : Nat → ClassId} {e0 : Nat} {A : Nat → Prop} {own : TO} {sz : Nat} {S : TS} {pl : Nat → Nat → Int32} {i : Nat} (hn : zn S ≤ 11) (hok : zok S) (hdis : zdis S) (hi : i < zn S) (hs : ¬ pl i 0 = 7) : Met l yX10_addSink (ws_ yX10_addSink cX10_addSink 3 (some .int)) { frames := 11, cells := 87, slots := 549, locals := 380 } (PX D yc e0 A own (obS S pl) (rwS S) (lsS S) sz [.ref (zg S 7 0 0), .int (nI i)]) (va_Qi (fun r (_ : TS × (Nat → Nat → Int32) × TO) => r = nI (zn S)) (fun v t => SX S (some i) none pl (fun jj => if jj = 0 then 7 else if jj = 1 then (nI i) else if jj = 2 then (-1) else 0) v.1 v.2.1 ∧ WX D yc e0 A v.2.2 (obS v.1 v.2.1) (rwS v.1) (lsS v.1) t.heap) A) 87 549 A := by
  refine xk_M (by decide) (Nat.le_of_ble_eq_true rfl) ?_
  intro p e s m args below meth c ls hx hb hml hr hlk hown hts hW hz hS hA hC hl
  have hK := hC.1
  have hN := hC.2.1
  have hl : lv_has ls 3 [(0, .ref (zg S 7 0 0)), (1, .int (nI i))] := hl
  have hT := ws_WT hW (by omega) hok
  generalize hHH : s.heap = H at hW hT ⊢
  have hS : va_S A s.heap H [] := by rw [← hHH]; exact hS
  refine lv_aload_n hx hb dX10_addSink_0 rfl (lv_at hl 0 rfl) ?_
  refine lv_iload_n hx hb dX10_addSink_1 rfl (lv_at hl 1 rfl) ?_
  refine zr_q (va_runV (As := [.int (nI i)]) (rest := []) ⟨hx, hb, hml, hown, hts⟩ (k_X10_stageOf l D yc e0 A S _ (F0p pl) G0 (q0 S) i hi) (cwV 1 hts (lw_V wq219 wq221 ws2 wq1 wq222) rfl rfl rfl (by decide +kernel) ⟨(Nat.le_of_ble_eq_true rfl), (Nat.le_of_ble_eq_true rfl)⟩) (tp_V hC hT hS hA 7 0 0 dm7 rfl rfl) rfl rfl hl.1 rfl (lv_room (Nat.le_of_ble_eq_true rfl)) dX10_addSink_2 ⟨(Nat.le_of_ble_eq_true rfl), (Nat.le_of_ble_eq_true rfl)⟩) ?_
  refine zk_tv (y := .ref (zg S 2 0 i)) rfl ?_
  refine lv_astore_n (lv' := [(2, .ref (zg S 2 0 i)), (0, .ref (zg S 7 0 0)), (1, .int (nI i))]) hx hb dX10_addSink_5 rfl hl (by decide) rfl (fun ls hl => ?_)
  refine lv_aload_n hx hb dX10_addSink_6 rfl (lv_at hl 0 rfl) ?_
  refine va_getN (D := D) (ci := 7) (v := .ref (zg S 8 0 i)) (C := RX8) (T := TX8) (N := 12) hx hb hts iX8 hown hK (va_P_one (hW.obj (oS_st2 (by decide) hi))) 0 rfl rfl 0 (by decide) (zk_tab rfl (hN _ wr1104 rfl)) (fun _ h9 => h9) rfl dX10_addSink_7 ?_
  refine va_getN (D := D) (ci := 4) (v := .int (pl i 0)) (C := RX5) (T := TX5) (N := 15) hx hb hts iX5 hown hK (va_P_one (hW.obj (oS_p hi))) 0 rfl rfl 0 (by decide) (zk_tab rfl (hN _ wr831 rfl)) (fun _ h9 => h9) rfl dX10_addSink_10 ?_
  refine lv_bipush (v := 7) hx hb dX10_addSink_13 (by decide) ?_
  refine lv_icmp_eq (tgt := 22) hx hb dX10_addSink_15 (by decide) (fun h9 => absurd h9 hs) (fun _ => ?_)
  refine lv_iconst (v := 1) hx hb dX10_addSink_18 (by decide) ?_
  refine lv_goto (tgt := 23) hx hb dX10_addSink_19 (by decide) ?_
  refine zr_v (va_runS (As := [.int 1]) (rest := []) ⟨hx, hb, hml, hown, hts⟩ (k_X10_refuseUnless l 1 (by decide)) (va_cwS 1 hts (lw_S wq193 wq194 wq1 wq195) rfl rfl rfl (by decide +kernel) ⟨(Nat.le_of_ble_eq_true rfl), (Nat.le_of_ble_eq_true rfl)⟩) tp_N rfl rfl hl.1 rfl (lv_room (Nat.le_of_ble_eq_true rfl)) dX10_addSink_23 ⟨(Nat.le_of_ble_eq_true rfl), (Nat.le_of_ble_eq_true rfl)⟩) ?_
  refine lv_aload_n hx hb dX10_addSink_26 rfl (lv_at hl 1 rfl) ?_
  refine zr_v (va_runV (As := []) (rest := []) ⟨hx, hb, hml, hown, hts⟩ (k_X10_refuseMoreStages l D yc e0 A S _ (F0p pl) G0 (q0 S) rfl (by omega)) (cwV 0 hts (lw_V wq820 wq822 ws25 wq1 wq823) rfl rfl rfl (by decide +kernel) ⟨(Nat.le_of_ble_eq_true rfl), (Nat.le_of_ble_eq_true rfl)⟩) (tp_V hC hT hS hA 7 0 0 dm7 rfl rfl) rfl rfl hl.1 rfl (lv_room (Nat.le_of_ble_eq_true rfl)) dX10_addSink_27 ⟨(Nat.le_of_ble_eq_true rfl), (Nat.le_of_ble_eq_true rfl)⟩) ?_
  refine lv_aload_n hx hb dX10_addSink_30 rfl (lv_at hl 1 rfl) ?_
  refine x_new (ci := 4) (fs := [.int 0, .int 0, .int 0, .int 0, .int 0, .int 0, .int 0, .int 0, .int 0, .int 0, .int 0, .int 0, .int 0, .int 0, .int 0]) (C := RX5) (T := TX5) (N := 15) hx hb hts iX5 tyX5 tyX5_ok hown (hts _ wq824) (hts _ wq825) (hts _ wq11) hK rfl dfX5 (Nat.le_of_ble_eq_true rfl) (Nat.le_of_ble_eq_true rfl) dX10_addSink_31 (fun H1 hz1 hk1 hb1 => ?_)
  have hAs : A H.size := hA _ hS.1
  have hS1 : va_S A s.heap H1 [] := ⟨Nat.le_trans hS.1 (by omega), fun q h1 h2 => (hk1 q (Nat.lt_of_lt_of_le h1 hS.1)).trans (hS.2.1 q h1 h2), hS.2.2⟩
  have hA1 : ∀ q, H1.size ≤ q → A q := fun q hq => hA q (Nat.le_trans hS1.1 hq)
  refine lv_dup hx hb dX10_addSink_34 rfl ?_
  refine lv_bipush (v := 7) hx hb dX10_addSink_35 (by decide) ?_
  refine lv_iload_n hx hb dX10_addSink_37 rfl (lv_at hl 2 rfl) ?_
  refine lv_iconst (v := (-1)) hx hb dX10_addSink_38 (by decide) ?_
  refine va_callv (va_runI (As := [.int 7, .int (nI i), .int (-1)]) (rest := [.ref H.size, .ref (zg S 7 0 0)]) ⟨hx, hb, hml, hown, hts⟩ (kX5_init_0 l D yc e0 H1.size H.size 7 (nI i) (-1)) (cwI 3 hts (lw_C wq828) rfl rfl rfl (hts _ wq11) (hts _ wq826) (hts _ wq827) rfl (by decide +kernel) ⟨(Nat.le_of_ble_eq_true rfl), (Nat.le_of_ble_eq_true rfl)⟩) (zk_pS (A := A) hC (va_P_one hb1) (xda hAs) hS1 hA [0] rfl rfl) rfl rfl hl.1 rfl (lv_room (Nat.le_of_ble_eq_true rfl)) dX10_addSink_39 ⟨(Nat.le_of_ble_eq_true rfl), (Nat.le_of_ble_eq_true rfl)⟩) hS1 (fun q _ h => xfa hAs hA1 q h) (xfa hAs hA1) (fun u t H2 locs2 ht hvm hw hB hz2 hk2 hS2 => ?_)
  obtain ⟨hP2, -⟩ := hB
  rw [ht] at hP2
  obtain ⟨own1, ho1, hW2⟩ := hW.add (fun q hq => (hk2 q (by omega) (xna (by omega) (by omega))).trans (hk1 q hq)) (hP2 0 _ rfl) hAs 8 0 (zn S)
  have hlt : ∀ kd fl k a e, obS S pl kd fl k a e → ¬ a = H.size := fun kd fl k a e q h9 => by
    have := (hW.obj q).lt
    rw [h9] at this
    exact absurd this (Nat.lt_irrefl _)
  refine va_calli (va_runV (As := [.ref H.size]) (rest := []) ⟨hx, hb, hml, hown, hts⟩ (x_wireS_1 l (pp := fun jj => if jj = 0 then 7 else if jj = 1 then (nI i) else if jj = 2 then (-1) else 0) hn hok hdis rfl rfl hi) (cwV 1 hts (lw_V wq894 wq896 ws26 wq1 wq897) rfl rfl rfl (by decide +kernel) ⟨(Nat.le_of_ble_eq_true rfl), (Nat.le_of_ble_eq_true rfl)⟩) (px_V hC hW2 hS2 hA (hW2.obj (Or.inl oS_ws)) rfl) rfl rfl hl.1 rfl (lv_room (Nat.le_of_ble_eq_true rfl)) dX10_addSink_42 ⟨(Nat.le_of_ble_eq_true rfl), (Nat.le_of_ble_eq_true rfl)⟩) hS2 (fun _ _ h => h) (fun _ h => h) (fun r v t9 H9 locs9 ht9 hvm9 hw9 hB9 hz9 hk9 hS9 => ?_)
  exact W.widen (Nat.le_of_ble_eq_true rfl) (Nat.le_of_ble_eq_true rfl) (W.zret hx hb hr rfl (fun t ht hW9 => ⟨⟨r, v, rfl, hw9, hB9.1, by subst ht; rw [← ht9]; exact hB9.2⟩, hS9.F ht⟩) hS9.2.2 dX10_addSink_45 hlk)
