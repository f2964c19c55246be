set_option maxHeartbeats 4000000 in
set_option maxRecDepth 100000 in
theorem x_addSource (l : Launch) {D : va_G} {yc : Nat → ClassId} {e0 : Nat} {A : Nat → Prop} {own : TO} {sz : Nat} {S : TS} {pl : Nat → Nat → Int32} {sk : Int32} (hn : zn S ≤ 11) (hok : zok S) (hdis : zdis S) (hw0 : v_X10_isWithin sk 0 1000 = 1) : Met l yX10_addSource (ws_ yX10_addSource cX10_addSource 3 (some .int)) { frames := 11, cells := 87, slots := 549, locals := 380 } (PX D yc e0 A own (obS S pl) (rwS S) (lsS S) sz [.ref (zg S 7 0 0), .int sk]) (va_Qi (fun r (_ : TS × (Nat → Nat → Int32) × TO) => r = nI (zn S)) (fun v t => SX S none none pl (fun j => if j = 1 then (-1) else if j = 2 then (-1) else if j = 3 then sk else 0) v.1 v.2.1 ∧ WX D yc e0 A v.2.2 (obS v.1 v.2.1) (rwS v.1) (lsS v.1) t.heap) A) 87 549 A := by
  refine xk_M (by decide) (Nat.le_of_ble_eq_true rfl) ?_
  intro p e s m args below meth c ls hx hb hml hr hlk hown hts hW hz hS hA hC hl
  have hK := hC.1
  have hN := hC.2.1
  have hl : lv_has ls 3 [(0, .ref (zg S 7 0 0)), (1, .int sk)] := hl
  have hT := ws_WT hW (by omega) hok
  generalize hHH : s.heap = H at hW hT ⊢
  have hS : va_S A s.heap H [] := by rw [← hHH]; exact hS
  refine lv_iload_n hx hb dX10_addSource_0 rfl (lv_at hl 1 rfl) ?_
  refine lv_iconst (v := 0) hx hb dX10_addSource_1 (by decide) ?_
  refine lv_sipush (v := 1000) hx hb dX10_addSource_2 (by decide) ?_
  refine zr_i (va_runS (As := [.int sk, .int 0, .int 1000]) (rest := []) ⟨hx, hb, hml, hown, hts⟩ (k_X10_isWithin l sk 0 1000) (va_cwS 3 hts (lw_S wq190 wq191 wq1 wq192) rfl rfl rfl (by decide +kernel) ⟨(Nat.le_of_ble_eq_true rfl), (Nat.le_of_ble_eq_true rfl)⟩) tp_N rfl rfl hl.1 rfl (lv_room (Nat.le_of_ble_eq_true rfl)) dX10_addSource_5 ⟨(Nat.le_of_ble_eq_true rfl), (Nat.le_of_ble_eq_true rfl)⟩) ?_
  refine zk_ti (y := 1) hw0 ?_
  refine zr_v (va_runS (As := [.int 1]) (rest := []) ⟨hx, hb, hml, hown, hts⟩ (k_X10_refuseUnless l 1 (by decide)) (va_cwS 1 hts (lw_S wq193 wq194 wq1 wq195) rfl rfl rfl (by decide +kernel) ⟨(Nat.le_of_ble_eq_true rfl), (Nat.le_of_ble_eq_true rfl)⟩) tp_N rfl rfl hl.1 rfl (lv_room (Nat.le_of_ble_eq_true rfl)) dX10_addSource_8 ⟨(Nat.le_of_ble_eq_true rfl), (Nat.le_of_ble_eq_true rfl)⟩) ?_
  refine lv_aload_n hx hb dX10_addSource_11 rfl (lv_at hl 0 rfl) ?_
  refine zr_v (va_runV (As := []) (rest := []) ⟨hx, hb, hml, hown, hts⟩ (k_X10_refuseMoreStages l D yc e0 A S _ (F0p pl) G0 (q0 S) rfl (by omega)) (cwV 0 hts (lw_V wq820 wq822 ws25 wq1 wq823) rfl rfl rfl (by decide +kernel) ⟨(Nat.le_of_ble_eq_true rfl), (Nat.le_of_ble_eq_true rfl)⟩) (tp_V hC hT hS hA 7 0 0 dm7 rfl rfl) rfl rfl hl.1 rfl (lv_room (Nat.le_of_ble_eq_true rfl)) dX10_addSource_12 ⟨(Nat.le_of_ble_eq_true rfl), (Nat.le_of_ble_eq_true rfl)⟩) ?_
  refine x_new (ci := 4) (fs := [.int 0, .int 0, .int 0, .int 0, .int 0, .int 0, .int 0, .int 0, .int 0, .int 0, .int 0, .int 0, .int 0, .int 0, .int 0]) (C := RX5) (T := TX5) (N := 15) hx hb hts iX5 tyX5 tyX5_ok hown (hts _ wq824) (hts _ wq825) (hts _ wq11) hK rfl dfX5 (Nat.le_of_ble_eq_true rfl) (Nat.le_of_ble_eq_true rfl) dX10_addSource_15 (fun H1 hz1 hk1 hb1 => ?_)
  have hAs : A H.size := hA _ hS.1
  have hS1 : va_S A s.heap H1 [] := ⟨Nat.le_trans hS.1 (by omega), fun q h1 h2 => (hk1 q (Nat.lt_of_lt_of_le h1 hS.1)).trans (hS.2.1 q h1 h2), hS.2.2⟩
  have hA1 : ∀ q, H1.size ≤ q → A q := fun q hq => hA q (Nat.le_trans hS1.1 hq)
  refine lv_dup hx hb dX10_addSource_18 rfl ?_
  refine lv_iconst (v := 0) hx hb dX10_addSource_19 (by decide) ?_
  refine lv_iconst (v := (-1)) hx hb dX10_addSource_20 (by decide) ?_
  refine lv_iconst (v := (-1)) hx hb dX10_addSource_21 (by decide) ?_
  refine va_callv (va_runI (As := [.int 0, .int (-1), .int (-1)]) (rest := [.ref H.size]) ⟨hx, hb, hml, hown, hts⟩ (kX5_init_0 l D yc e0 H1.size H.size 0 (-1) (-1)) (cwI 3 hts (lw_C wq828) rfl rfl rfl (hts _ wq11) (hts _ wq826) (hts _ wq827) rfl (by decide +kernel) ⟨(Nat.le_of_ble_eq_true rfl), (Nat.le_of_ble_eq_true rfl)⟩) (zk_pS (A := A) hC (va_P_one hb1) (xda hAs) hS1 hA [0] rfl rfl) rfl rfl hl.1 rfl (lv_room (Nat.le_of_ble_eq_true rfl)) dX10_addSource_22 ⟨(Nat.le_of_ble_eq_true rfl), (Nat.le_of_ble_eq_true rfl)⟩) hS1 (fun q _ h => xfa hAs hA1 q h) (xfa hAs hA1) (fun u t H2 locs2 ht hvm hw hB hz2 hk2 hS2 => ?_)
  obtain ⟨hP2, -⟩ := hB
  rw [ht] at hP2
  obtain ⟨own1, ho1, hW2⟩ := hW.add (fun q hq => (hk2 q (by omega) (xna (by omega) (by omega))).trans (hk1 q hq)) (hP2 0 _ rfl) hAs 8 0 (zn S)
  have hlt : ∀ kd fl k a e, obS S pl kd fl k a e → ¬ a = H.size := fun kd fl k a e q h9 => by
    have := (hW.obj q).lt
    rw [h9] at this
    exact absurd this (Nat.lt_irrefl _)
  refine lv_astore_n (lv' := [(2, .ref H.size), (0, .ref (zg S 7 0 0)), (1, .int sk)]) hx hb dX10_addSource_25 rfl hl (by decide) rfl (fun ls hl => ?_)
  refine lv_aload_n hx hb dX10_addSource_26 rfl (lv_at hl 0 rfl) ?_
  refine lv_iload_n hx hb dX10_addSource_27 rfl (lv_at hl 2 rfl) ?_
  refine x_putN (D := D) (ci := 4) (C := RX5) (T := TX5) (N := 15) (ty := .int) hx hb hts iX5 tyX5 tyX5_ok nmX5 hown hK (hW2.obj (Or.inr ⟨⟨rfl, rfl, rfl⟩, rfl, rfl⟩)) hAs hS2 rfl 3 (by decide) (zk_tab rfl (hN _ wr840 rfl)) (fun _ h9 => h9) rfl (by decide +kernel) rfl rfl (Nat.le_of_ble_eq_true rfl) dX10_addSource_28 (fun Kp0 klp0 hbp0 hkp0 hzkp0 hSkp0 => ?_)
  have hWp0 : WX D yc e0 A own1 (obadd (obS S pl) 8 0 (zn S) H.size (4, [.int 0, .int (-1), .int (-1), .int sk, .int 0, .int 0, .int 0, .int 0, .int 0, .int 0, .int 0, .int 0, .int 0, .int 0, .int 0])) _ _ Kp0 := hW2.setadd hlt hbp0 hkp0
  refine lv_aload_n hx hb dX10_addSource_31 rfl (lv_at hl 1 rfl) ?_
  refine lv_aload_n hx hb dX10_addSource_32 rfl (lv_at hl 0 rfl) ?_
  refine va_calli (va_runV (As := [.ref H.size]) (rest := []) ⟨hx, hb, hml, hown, hts⟩ (x_wireS_0 l (pp := fun j => if j = 1 then (-1) else if j = 2 then (-1) else if j = 3 then sk else 0) hn hok hdis rfl rfl) (cwV 1 hts (lw_V wq894 wq896 ws26 wq1 wq897) rfl rfl rfl (by decide +kernel) ⟨(Nat.le_of_ble_eq_true rfl), (Nat.le_of_ble_eq_true rfl)⟩) (px_V hC hWp0 hSkp0 hA (hWp0.obj (Or.inl oS_ws)) rfl) rfl rfl hl.1 rfl (lv_room (Nat.le_of_ble_eq_true rfl)) dX10_addSource_33 ⟨(Nat.le_of_ble_eq_true rfl), (Nat.le_of_ble_eq_true rfl)⟩) hSkp0 (fun _ _ h => h) (fun _ h => h) (fun r v t9 H9 locs9 ht9 hvm9 hw9 hB9 hz9 hk9 hS9 => ?_)
  exact W.widen (Nat.le_of_ble_eq_true rfl) (Nat.le_of_ble_eq_true rfl) (W.zret hx hb hr rfl (fun t ht hW9 => ⟨⟨r, v, rfl, hw9, hB9.1, by subst ht; rw [← ht9]; exact hB9.2⟩, hS9.F ht⟩) hS9.2.2 dX10_addSource_36 hlk)
