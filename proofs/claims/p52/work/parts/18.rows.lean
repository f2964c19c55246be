set_option maxHeartbeats 4000000 in
set_option maxRecDepth 100000 in
theorem l_copyOf (l : Launch) (D : va_G) (yc : Nat → ClassId) (e0 : Nat) (x : Nat) (cp : Nat) (f : Nat → Int64) (sz : Nat) (n : Nat) (h1 : cp < n) (h2 : n ≤ 8388608) : Met l yJ7_copyOf_c38d5 (ws_ yJ7_copyOf_c38d5 cJ7_copyOf_c38d5 3 (some (.array .long))) { frames := 1, cells := 1, slots := n, locals := 40 } (PR D yc e0 [(x, .inl (yc 1, cp, .inr (.inl f)))] sz [.ref x, .int (nI n)]) ((fun A => va_Qq (fun r u => r = some (u 0 0)) (WD D A (fun u => [(x, .inl (yc 1, cp, .inr (.inl f))), ((u 0 0), .inl (yc 1, n, .inr (.inl (va_cpy f (fun _ => 0) (0 : Int32).toNatClampNeg (0 : Int32).toNatClampNeg (nI cp : Int32).toNatClampNeg))))])) A) (va_A [(x, .inl (yc 1, cp, .inr (.inl f)))] sz)) 1 n (va_A [(x, .inl (yc 1, cp, .inr (.inl f)))] sz) := by
  refine zk_M (y := yJ7_copyOf_c38d5) (cc := cJ7_copyOf_c38d5) (maxL := 3) (w := [(x, .inl (yc 1, cp, .inr (.inl f)))]) (av := [.ref x, .int (nI n)]) (Qc := (fun A => va_Qq (fun r u => r = some (u 0 0)) (WD D A (fun u => [(x, .inl (yc 1, cp, .inr (.inl f))), ((u 0 0), .inl (yc 1, n, .inr (.inl (va_cpy f (fun _ => 0) (0 : Int32).toNatClampNeg (0 : Int32).toNatClampNeg (nI cp : Int32).toNatClampNeg))))])) A)) (by decide) (Nat.le_of_ble_eq_true rfl) ?_
  intro p e s m args below meth c A ls hx hb hml hr hlk hown hnm hts hP hD hS hA hC hl
  have hK := hC.1
  have hN := hC.2.1
  have hl : lv_has ls 3 [(0, .ref x), (1, .int (nI n))] := hl
  refine lv_iload_n hx hb dJ7_copyOf_c38d5_0 rfl (lv_at hl 1 rfl) ?_
  refine lv_aload_n hx hb dJ7_copyOf_c38d5_1 rfl (lv_at hl 0 rfl) ?_
  refine va_alen hx hb hK hP 0 1 rfl rfl (v := nI cp) rfl dJ7_copyOf_c38d5_2 ?_
  refine lv_icmp_ne (tgt := 14) hx hb dJ7_copyOf_c38d5_3 (by decide) (fun _ => ?_) (fun h9 => absurd h9 (fun e9 => by have := (nI_eq (by omega) (by omega)).mp e9; omega))
  refine lv_iload_n hx hb dJ7_copyOf_c38d5_14 rfl (lv_at hl 1 rfl) ?_
  refine va_newa (atype := .long) (a0 := (n, .inr (.inl (fun _ => 0)))) hx hb (hts _ wq587) rfl hK hP hD hS hA (fun cA => rfl) (nI_pos (by omega)) (N' := n) (nI_clamp (by omega)) (by show n * 8 ≤ 536870912; omega) (by show 0 + 1 ≤ 1; omega) (by show 0 + n ≤ n; omega) dJ7_copyOf_c38d5_15 (fun q1 cA H hK1 hP hD hS => ?_)
  obtain rfl : cA = yc 1 := zk_same hK1 3 1 rfl rfl
  have hP : va_P D vwCl [(x, .inl (yc 1, cp, .inr (.inl f))), (q1, .inl (yc 1, n, .inr (.inl (fun _ => 0))))] H := hP
  have hD : va_D A [(x, .inl (yc 1, cp, .inr (.inl f))), (q1, .inl (yc 1, n, .inr (.inl (fun _ => 0))))] := hD
  refine lv_astore_n (lv' := [(2, .ref q1), (0, .ref x), (1, .int (nI n))]) hx hb dJ7_copyOf_c38d5_17 rfl hl (by decide) rfl (fun ls hl => ?_)
  refine lv_aload_n hx hb dJ7_copyOf_c38d5_18 rfl (lv_at hl 1 rfl) ?_
  refine lv_iconst (v := 0) hx hb dJ7_copyOf_c38d5_19 (by decide) ?_
  refine lv_aload_n hx hb dJ7_copyOf_c38d5_20 rfl (lv_at hl 0 rfl) ?_
  refine lv_iconst (v := 0) hx hb dJ7_copyOf_c38d5_21 (by decide) ?_
  refine lv_aload_n hx hb dJ7_copyOf_c38d5_22 rfl (lv_at hl 1 rfl) ?_
  refine va_alen hx hb hK hP 0 1 rfl rfl (v := nI cp) rfl dJ7_copyOf_c38d5_23 ?_
  refine lv_iload_n hx hb dJ7_copyOf_c38d5_24 rfl (lv_at hl 2 rfl) ?_
  refine va_mmin hx hb (by rw [hml]; exact hl.1.symm) hown (hts _ wq359) (hts _ wq300) (hts _ wq14) (hts _ wq301) (Nat.le_of_ble_eq_true rfl) (Nat.le_of_ble_eq_true rfl) (by first | exact (Nat.le_of_ble_eq_true rfl) | exact Nat.zero_le _ | omega | (dsimp only; omega)) (by first | exact (Nat.le_of_ble_eq_true rfl) | exact Nat.zero_le _ | omega | (dsimp only; omega)) dJ7_copyOf_c38d5_25 ?_
  refine zk_ti (y := zmin (nI cp) (nI n)) rfl ?_
  refine zk_ti (y := nI cp) (zmin_l (by omega) (by omega)) ?_
  refine va_copyl (ty := .long) hx hb (by rw [hml]; exact hl.1.symm) hown (hts _ wq360) (hts _ wq327) (hts _ wq326) (hts _ wq20) hK hP hD hS 0 1 1 1 rfl rfl rfl rfl rfl (by decide) (by decide) (nI_pos (by omega)) (by rw [zc0, nI_clamp (by omega)]; omega) (by rw [zc0, nI_clamp (by omega)]; omega) (fun _ _ => rfl) (Nat.le_of_ble_eq_true rfl) (Nat.le_of_ble_eq_true rfl) dJ7_copyOf_c38d5_28 (fun H locs hP hD hS => ?_)
  have hP : va_P D vwCl [(x, .inl (yc 1, cp, .inr (.inl f))), (q1, .inl (yc 1, n, .inr (.inl (va_cpy f (fun _ => 0) (0 : Int32).toNatClampNeg (0 : Int32).toNatClampNeg (nI cp : Int32).toNatClampNeg))))] H := hP
  have hD : va_D A [(x, .inl (yc 1, cp, .inr (.inl f))), (q1, .inl (yc 1, n, .inr (.inl (va_cpy f (fun _ => 0) (0 : Int32).toNatClampNeg (0 : Int32).toNatClampNeg (nI cp : Int32).toNatClampNeg))))] := hD
  refine lv_aload_n hx hb dJ7_copyOf_c38d5_31 rfl (lv_at hl 0 rfl) ?_
  exact zk_rq (r0 := (fun u => some (u 0 0))) (w1 := (fun u => [(x, .inl (yc 1, cp, .inr (.inl f))), ((u 0 0), .inl (yc 1, n, .inr (.inl (va_cpy f (fun _ => 0) (0 : Int32).toNatClampNeg (0 : Int32).toNatClampNeg (nI cp : Int32).toNatClampNeg))))])) hx hb hr (Or.inr ⟨_, rfl⟩) hlk hP hD hS (fun _ _ => q1) rfl [0, 1] rfl rfl (Nat.le_of_ble_eq_true rfl) (by show 0 + n ≤ n; omega) dJ7_copyOf_c38d5_32
set_option maxHeartbeats 4000000 in
set_option maxRecDepth 100000 in
theorem l_put (l : Launch) (D : va_G) (yc : Nat → ClassId) (e0 : Nat) (r : Nat) (x : Nat) (cp : Nat) (xs : List Int64) (f : Nat → Int64) (sz : Nat) (j : Nat) (v : Int64) (hle : xs.length ≤ cp) (hcp : cp ≤ 8388608) (hf : RC (cp, xs) f) (hj : j < xs.length) : Met l yX6_put (ws_ yX6_put cX6_put 4 none) { frames := 0, cells := 0, slots := 0, locals := 0 } (PR D yc e0 [(r, .inr (5, [.ref x, .int (nI xs.length)])), (x, .inl (yc 1, cp, .inr (.inl f)))] sz [.ref r, .int (nI j), .long v]) ((fun A => RQ D yc A r [] (cp, xs.set j v)) (va_A [(r, .inr (5, [.ref x, .int (nI xs.length)])), (x, .inl (yc 1, cp, .inr (.inl f)))] sz)) 0 0 (va_A [(r, .inr (5, [.ref x, .int (nI xs.length)])), (x, .inl (yc 1, cp, .inr (.inl f)))] sz) := by
  refine zk_M (y := yX6_put) (cc := cX6_put) (maxL := 4) (w := [(r, .inr (5, [.ref x, .int (nI xs.length)])), (x, .inl (yc 1, cp, .inr (.inl f)))]) (av := [.ref r, .int (nI j), .long v]) (Qc := (fun A => RQ D yc A r [] (cp, xs.set j v))) (by decide) (Nat.le_of_ble_eq_true rfl) ?_
  intro p e s m args below meth c A ls hx hb hml hr hlk hown hnm hts hP hD hS hA hC hl
  have hK := hC.1
  have hN := hC.2.1
  have hl : lv_has ls 4 [(0, .ref r), (1, .int (nI j)), (2, .long v)] := hl
  refine lv_iload_n hx hb dX6_put_0 rfl (lv_at hl 1 rfl) ?_
  refine lv_if_lt (tgt := 28) hx hb dX6_put_1 (by decide) (fun h9 => absurd h9 (nI_pos (by omega))) (fun _ => ?_)
  refine lv_iload_n hx hb dX6_put_4 rfl (lv_at hl 1 rfl) ?_
  refine lv_aload_n hx hb dX6_put_5 rfl (lv_at hl 0 rfl) ?_
  refine va_get (D := D) (ci := 5) (v := .int (nI xs.length)) (C := RX6) (T := TX6) (N := 2) hx hb hts iX6 hown hK hP 0 rfl rfl 1 (by decide) (hts _ wq914) (fun _ h9 => h9) rfl dX6_put_6 ?_
  refine lv_icmp_ge (tgt := 28) hx hb dX6_put_9 (by decide) (fun h9 => absurd h9 (nI_ge (by omega) (by omega))) (fun _ => ?_)
  refine lv_iload_n hx hb dX6_put_12 rfl (lv_at hl 1 rfl) ?_
  refine lv_aload_n hx hb dX6_put_13 rfl (lv_at hl 0 rfl) ?_
  refine va_get (D := D) (ci := 5) (v := .ref x) (C := RX6) (T := TX6) (N := 2) hx hb hts iX6 hown hK hP 0 rfl rfl 0 (by decide) (hts _ wq913) (fun _ h9 => h9) rfl dX6_put_14 ?_
  refine va_alen hx hb hK hP 1 1 rfl rfl (v := nI cp) rfl dX6_put_17 ?_
  refine lv_icmp_ge (tgt := 28) hx hb dX6_put_18 (by decide) (fun h9 => absurd h9 (nI_ge (by omega) (by omega))) (fun _ => ?_)
  refine lv_aload_n hx hb dX6_put_21 rfl (lv_at hl 0 rfl) ?_
  refine va_get (D := D) (ci := 5) (v := .ref x) (C := RX6) (T := TX6) (N := 2) hx hb hts iX6 hown hK hP 0 rfl rfl 0 (by decide) (hts _ wq913) (fun _ h9 => h9) rfl dX6_put_22 ?_
  refine lv_iload_n hx hb dX6_put_25 rfl (lv_at hl 1 rfl) ?_
  refine lv_lload_n hx hb dX6_put_26 rfl (lv_at hl 2 rfl) ?_
  refine va_last hx hb hK hP hD hS 1 1 rfl rfl (vp_in_nI (by omega) (by omega)) dX6_put_27 (fun H locs hP hD hS => ?_)
  have hP : va_P D vwCl [(r, .inr (5, [.ref x, .int (nI xs.length)])), (x, .inl (yc 1, cp, .inr (.inl (vp_updL f (nI j : Int32).toNatClampNeg v))))] H := hP
  have hD : va_D A [(r, .inr (5, [.ref x, .int (nI xs.length)])), (x, .inl (yc 1, cp, .inr (.inl (vp_updL f (nI j : Int32).toNatClampNeg v))))] := hD
  exact te_row hx hb hr hlk hP hD hS x (vp_updL f (nI j : Int32).toNatClampNeg v) xs.length List.length_set (rc_put hf hj (by omega)) [0, 1] rfl rfl (by first | exact (Nat.le_of_ble_eq_true rfl) | exact Nat.zero_le _ | omega | (dsimp only; omega)) (by first | exact (Nat.le_of_ble_eq_true rfl) | exact Nat.zero_le _ | omega | (dsimp only; omega)) dX6_put_28
set_option maxHeartbeats 4000000 in
set_option maxRecDepth 100000 in
theorem l_put0 (l : Launch) (D : va_G) (yc : Nat → ClassId) (e0 : Nat) (r : Nat) (x : Nat) (cp : Nat) (xs : List Int64) (f : Nat → Int64) (sz : Nat) (j : Nat) (v : Int64) (hle : xs.length ≤ cp) (hcp : cp ≤ 8388608) (hf : RC (cp, xs) f) (hj : xs.length ≤ j) (hj2 : j < 2 ^ 31) : Met l yX6_put (ws_ yX6_put cX6_put 4 none) { frames := 0, cells := 0, slots := 0, locals := 0 } (PR D yc e0 [(r, .inr (5, [.ref x, .int (nI xs.length)])), (x, .inl (yc 1, cp, .inr (.inl f)))] sz [.ref r, .int (nI j), .long v]) ((fun A => RQ D yc A r [] (cp, xs)) (va_A [(r, .inr (5, [.ref x, .int (nI xs.length)])), (x, .inl (yc 1, cp, .inr (.inl f)))] sz)) 0 0 (va_A [(r, .inr (5, [.ref x, .int (nI xs.length)])), (x, .inl (yc 1, cp, .inr (.inl f)))] sz) := by
  refine zk_M (y := yX6_put) (cc := cX6_put) (maxL := 4) (w := [(r, .inr (5, [.ref x, .int (nI xs.length)])), (x, .inl (yc 1, cp, .inr (.inl f)))]) (av := [.ref r, .int (nI j), .long v]) (Qc := (fun A => RQ D yc A r [] (cp, xs))) (by decide) (Nat.le_of_ble_eq_true rfl) ?_
  intro p e s m args below meth c A ls hx hb hml hr hlk hown hnm hts hP hD hS hA hC hl
  have hK := hC.1
  have hN := hC.2.1
  have hl : lv_has ls 4 [(0, .ref r), (1, .int (nI j)), (2, .long v)] := hl
  refine lv_iload_n hx hb dX6_put_0 rfl (lv_at hl 1 rfl) ?_
  refine lv_if_lt (tgt := 28) hx hb dX6_put_1 (by decide) (fun h9 => absurd h9 (nI_pos (by omega))) (fun _ => ?_)
  refine lv_iload_n hx hb dX6_put_4 rfl (lv_at hl 1 rfl) ?_
  refine lv_aload_n hx hb dX6_put_5 rfl (lv_at hl 0 rfl) ?_
  refine va_get (D := D) (ci := 5) (v := .int (nI xs.length)) (C := RX6) (T := TX6) (N := 2) hx hb hts iX6 hown hK hP 0 rfl rfl 1 (by decide) (hts _ wq914) (fun _ h9 => h9) rfl dX6_put_6 ?_
  refine lv_icmp_ge (tgt := 28) hx hb dX6_put_9 (by decide) (fun _ => ?_) (fun h9 => absurd (nI_le (by omega) (by omega)) h9)
  exact te_row hx hb hr hlk hP hD hS x f xs.length rfl hf [0, 1] rfl rfl (by first | exact (Nat.le_of_ble_eq_true rfl) | exact Nat.zero_le _ | omega | (dsimp only; omega)) (by first | exact (Nat.le_of_ble_eq_true rfl) | exact Nat.zero_le _ | omega | (dsimp only; omega)) dX6_put_28
set_option maxHeartbeats 4000000 in
set_option maxRecDepth 100000 in
theorem l_add (l : Launch) (D : va_G) (yc : Nat → ClassId) (e0 : Nat) (r : Nat) (x : Nat) (cp : Nat) (xs : List Int64) (f : Nat → Int64) (sz : Nat) (v : Int64) (hle : xs.length ≤ cp) (hcp : cp ≤ 8388608) (hf : RC (cp, xs) f) (hn : xs.length < cp) : Met l yX6_add (ws_ yX6_add cX6_add 3 none) { frames := 0, cells := 0, slots := 0, locals := 0 } (PR D yc e0 [(r, .inr (5, [.ref x, .int (nI xs.length)])), (x, .inl (yc 1, cp, .inr (.inl f)))] sz [.ref r, .long v]) ((fun A => RQ D yc A r [] (cp, xs ++ [v])) (va_A [(r, .inr (5, [.ref x, .int (nI xs.length)])), (x, .inl (yc 1, cp, .inr (.inl f)))] sz)) 0 0 (va_A [(r, .inr (5, [.ref x, .int (nI xs.length)])), (x, .inl (yc 1, cp, .inr (.inl f)))] sz) := by
  refine zk_M (y := yX6_add) (cc := cX6_add) (maxL := 3) (w := [(r, .inr (5, [.ref x, .int (nI xs.length)])), (x, .inl (yc 1, cp, .inr (.inl f)))]) (av := [.ref r, .long v]) (Qc := (fun A => RQ D yc A r [] (cp, xs ++ [v]))) (by decide) (Nat.le_of_ble_eq_true rfl) ?_
  intro p e s m args below meth c A ls hx hb hml hr hlk hown hnm hts hP hD hS hA hC hl
  have hK := hC.1
  have hN := hC.2.1
  have hl : lv_has ls 3 [(0, .ref r), (1, .long v)] := hl
  refine lv_aload_n hx hb dX6_add_0 rfl (lv_at hl 0 rfl) ?_
  refine va_get (D := D) (ci := 5) (v := .int (nI xs.length)) (C := RX6) (T := TX6) (N := 2) hx hb hts iX6 hown hK hP 0 rfl rfl 1 (by decide) (hts _ wq914) (fun _ h9 => h9) rfl dX6_add_1 ?_
  refine lv_aload_n hx hb dX6_add_4 rfl (lv_at hl 0 rfl) ?_
  refine va_get (D := D) (ci := 5) (v := .ref x) (C := RX6) (T := TX6) (N := 2) hx hb hts iX6 hown hK hP 0 rfl rfl 0 (by decide) (hts _ wq913) (fun _ h9 => h9) rfl dX6_add_5 ?_
  refine va_alen hx hb hK hP 1 1 rfl rfl (v := nI cp) rfl dX6_add_8 ?_
  refine lv_icmp_lt (tgt := 40) hx hb dX6_add_9 (by decide) (fun _ => ?_) (fun h9 => absurd (nI_lt (by omega) (by omega)) h9)
  refine lv_aload_n hx hb dX6_add_40 rfl (lv_at hl 0 rfl) ?_
  refine va_get (D := D) (ci := 5) (v := .int (nI xs.length)) (C := RX6) (T := TX6) (N := 2) hx hb hts iX6 hown hK hP 0 rfl rfl 1 (by decide) (hts _ wq914) (fun _ h9 => h9) rfl dX6_add_41 ?_
  refine lv_if_lt (tgt := 79) hx hb dX6_add_44 (by decide) (fun h9 => absurd h9 (nI_pos (by omega))) (fun _ => ?_)
  refine lv_aload_n hx hb dX6_add_47 rfl (lv_at hl 0 rfl) ?_
  refine va_get (D := D) (ci := 5) (v := .int (nI xs.length)) (C := RX6) (T := TX6) (N := 2) hx hb hts iX6 hown hK hP 0 rfl rfl 1 (by decide) (hts _ wq914) (fun _ h9 => h9) rfl dX6_add_48 ?_
  refine lv_aload_n hx hb dX6_add_51 rfl (lv_at hl 0 rfl) ?_
  refine va_get (D := D) (ci := 5) (v := .ref x) (C := RX6) (T := TX6) (N := 2) hx hb hts iX6 hown hK hP 0 rfl rfl 0 (by decide) (hts _ wq913) (fun _ h9 => h9) rfl dX6_add_52 ?_
  refine va_alen hx hb hK hP 1 1 rfl rfl (v := nI cp) rfl dX6_add_55 ?_
  refine lv_icmp_ge (tgt := 79) hx hb dX6_add_56 (by decide) (fun h9 => absurd h9 (nI_ge (by omega) (by omega))) (fun _ => ?_)
  refine lv_aload_n hx hb dX6_add_59 rfl (lv_at hl 0 rfl) ?_
  refine va_get (D := D) (ci := 5) (v := .ref x) (C := RX6) (T := TX6) (N := 2) hx hb hts iX6 hown hK hP 0 rfl rfl 0 (by decide) (hts _ wq913) (fun _ h9 => h9) rfl dX6_add_60 ?_
  refine lv_aload_n hx hb dX6_add_63 rfl (lv_at hl 0 rfl) ?_
  refine va_get (D := D) (ci := 5) (v := .int (nI xs.length)) (C := RX6) (T := TX6) (N := 2) hx hb hts iX6 hown hK hP 0 rfl rfl 1 (by decide) (hts _ wq914) (fun _ h9 => h9) rfl dX6_add_64 ?_
  refine lv_lload_n hx hb dX6_add_67 rfl (lv_at hl 1 rfl) ?_
  refine va_last hx hb hK hP hD hS 1 1 rfl rfl (vp_in_nI (by omega) (by omega)) dX6_add_68 (fun H locs hP hD hS => ?_)
  have hP : va_P D vwCl [(r, .inr (5, [.ref x, .int (nI xs.length)])), (x, .inl (yc 1, cp, .inr (.inl (vp_updL f (nI xs.length : Int32).toNatClampNeg v))))] H := hP
  have hD : va_D A [(r, .inr (5, [.ref x, .int (nI xs.length)])), (x, .inl (yc 1, cp, .inr (.inl (vp_updL f (nI xs.length : Int32).toNatClampNeg v))))] := hD
  refine lv_aload_n hx hb dX6_add_69 rfl (lv_at hl 0 rfl) ?_
  refine lv_dup hx hb dX6_add_70 rfl ?_
  refine va_get (D := D) (ci := 5) (v := .int (nI xs.length)) (C := RX6) (T := TX6) (N := 2) hx hb hts iX6 hown hK hP 0 rfl rfl 1 (by decide) (hts _ wq914) (fun _ h9 => h9) rfl dX6_add_71 ?_
  refine lv_iconst (v := 1) hx hb dX6_add_74 (by decide) ?_
  refine lv_iadd hx hb dX6_add_75 ?_
  refine zk_ti (y := nI (xs.length + 1)) (nI_1 _) ?_
  refine va_put (D := D) (ci := 5) (v := .int (nI (xs.length + 1))) (ty := .int) (C := RX6) (T := TX6) (N := 2) hx hb hts iX6 tyX6 tyX6_ok nmX6 hown hK hP hD hS 0 rfl rfl 1 (by decide) (hts _ wq914) (fun _ h9 => h9) rfl (by decide +kernel) rfl rfl (Nat.le_of_ble_eq_true rfl) dX6_add_76 (fun H locs hP hD hS => ?_)
  have hP : va_P D vwCl [(r, .inr (5, [.ref x, .int (nI (xs.length + 1))])), (x, .inl (yc 1, cp, .inr (.inl (vp_updL f (nI xs.length : Int32).toNatClampNeg v))))] H := hP
  have hD : va_D A [(r, .inr (5, [.ref x, .int (nI (xs.length + 1))])), (x, .inl (yc 1, cp, .inr (.inl (vp_updL f (nI xs.length : Int32).toNatClampNeg v))))] := hD
  exact te_row hx hb hr hlk hP hD hS x (vp_updL f (nI xs.length : Int32).toNatClampNeg v) (xs.length + 1) (by simp) (rc_add hf (by omega)) [0, 1] rfl rfl (by first | exact (Nat.le_of_ble_eq_true rfl) | exact Nat.zero_le _ | omega | (dsimp only; omega)) (by first | exact (Nat.le_of_ble_eq_true rfl) | exact Nat.zero_le _ | omega | (dsimp only; omega)) dX6_add_79
set_option maxHeartbeats 4000000 in
set_option maxRecDepth 100000 in
theorem l_addG (l : Launch) (D : va_G) (yc : Nat → ClassId) (e0 : Nat) (r : Nat) (x : Nat) (cp : Nat) (xs : List Int64) (f : Nat → Int64) (sz : Nat) (v : Int64) (hle : xs.length ≤ cp) (hcp : cp ≤ 8388608) (hf : RC (cp, xs) f) (hn : xs.length = cp) (h4 : 8 ≤ cp ∧ cp ≤ 4000000) : Met l yX6_add (ws_ yX6_add cX6_add 3 none) { frames := 2, cells := 1, slots := (2 * cp), locals := 62 } (PR D yc e0 [(r, .inr (5, [.ref x, .int (nI xs.length)])), (x, .inl (yc 1, cp, .inr (.inl f)))] sz [.ref r, .long v]) ((fun A => RQ D yc A r [] (2 * cp, xs ++ [v])) (va_A [(r, .inr (5, [.ref x, .int (nI xs.length)])), (x, .inl (yc 1, cp, .inr (.inl f)))] sz)) 1 (2 * cp) (va_A [(r, .inr (5, [.ref x, .int (nI xs.length)])), (x, .inl (yc 1, cp, .inr (.inl f)))] sz) := by
  refine zk_M (y := yX6_add) (cc := cX6_add) (maxL := 3) (w := [(r, .inr (5, [.ref x, .int (nI xs.length)])), (x, .inl (yc 1, cp, .inr (.inl f)))]) (av := [.ref r, .long v]) (Qc := (fun A => RQ D yc A r [] (2 * cp, xs ++ [v]))) (by decide) (Nat.le_of_ble_eq_true rfl) ?_
  intro p e s m args below meth c A ls hx hb hml hr hlk hown hnm hts hP hD hS hA hC hl
  have hK := hC.1
  have hN := hC.2.1
  have hl : lv_has ls 3 [(0, .ref r), (1, .long v)] := hl
  refine lv_aload_n hx hb dX6_add_0 rfl (lv_at hl 0 rfl) ?_
  refine va_get (D := D) (ci := 5) (v := .int (nI xs.length)) (C := RX6) (T := TX6) (N := 2) hx hb hts iX6 hown hK hP 0 rfl rfl 1 (by decide) (hts _ wq914) (fun _ h9 => h9) rfl dX6_add_1 ?_
  refine lv_aload_n hx hb dX6_add_4 rfl (lv_at hl 0 rfl) ?_
  refine va_get (D := D) (ci := 5) (v := .ref x) (C := RX6) (T := TX6) (N := 2) hx hb hts iX6 hown hK hP 0 rfl rfl 0 (by decide) (hts _ wq913) (fun _ h9 => h9) rfl dX6_add_5 ?_
  refine va_alen hx hb hK hP 1 1 rfl rfl (v := nI cp) rfl dX6_add_8 ?_
  refine lv_icmp_lt (tgt := 40) hx hb dX6_add_9 (by decide) (fun h9 => absurd h9 (nI_nlt (by omega) (by omega))) (fun _ => ?_)
  refine lv_aload_n hx hb dX6_add_12 rfl (lv_at hl 0 rfl) ?_
  refine va_get (D := D) (ci := 5) (v := .ref x) (C := RX6) (T := TX6) (N := 2) hx hb hts iX6 hown hK hP 0 rfl rfl 0 (by decide) (hts _ wq913) (fun _ h9 => h9) rfl dX6_add_13 ?_
  refine va_alen hx hb hK hP 1 1 rfl rfl (v := nI cp) rfl dX6_add_16 ?_
  refine lv_ldc hx hb hown (hts _ wq348) dX6_add_17 ?_
  refine lv_icmp_ge (tgt := 40) hx hb dX6_add_19 (by decide) (fun h9 => absurd h9 (show ¬ nI 8388608 ≤ nI cp from nI_ge (by omega) (by omega))) (fun _ => ?_)
  refine lv_aload_n hx hb dX6_add_22 rfl (lv_at hl 0 rfl) ?_
  refine lv_aload_n hx hb dX6_add_23 rfl (lv_at hl 0 rfl) ?_
  refine va_get (D := D) (ci := 5) (v := .ref x) (C := RX6) (T := TX6) (N := 2) hx hb hts iX6 hown hK hP 0 rfl rfl 0 (by decide) (hts _ wq913) (fun _ h9 => h9) rfl dX6_add_24 ?_
  refine lv_aload_n hx hb dX6_add_27 rfl (lv_at hl 0 rfl) ?_
  refine va_get (D := D) (ci := 5) (v := .ref x) (C := RX6) (T := TX6) (N := 2) hx hb hts iX6 hown hK hP 0 rfl rfl 0 (by decide) (hts _ wq913) (fun _ h9 => h9) rfl dX6_add_28 ?_
  refine va_alen hx hb hK hP 1 1 rfl rfl (v := nI cp) rfl dX6_add_31 ?_
  refine lv_iconst (v := 2) hx hb dX6_add_32 (by decide) ?_
  refine lv_imul hx hb dX6_add_33 ?_
  refine zk_ti (y := nI (2 * cp)) (by rw [show (2 : Int32) = nI 2 from rfl, pk_mul, Nat.mul_comm]) ?_
  refine zk_q (wr := [(r, .inr (5, [.ref x, .int (nI xs.length)]))]) (va_runS (As := [.ref x, .int (nI (2 * cp))]) (rest := [.ref r]) ⟨hx, hb, hml, hown, hts⟩ (l_copyOf l D yc e0 x cp f s.heap.size (2 * cp) (by omega) (by omega)) (va_cwS 2 hts (lw_S wq349 wq350 wq19 wq351) rfl rfl rfl (by decide +kernel) ⟨(Nat.le_of_ble_eq_true rfl), (Nat.le_of_ble_eq_true rfl)⟩) (zk_pS hC hP hD hS hA [1] rfl rfl) rfl rfl hl.1 rfl (lv_room (Nat.le_of_ble_eq_true rfl)) dX6_add_34 ⟨(by show 0 + 1 ≤ 1; omega), (by show 0 + (2 * cp) ≤ (2 * cp); omega)⟩) hP hD hS hA [1] [0] rfl rfl rfl (by decide) (fun u1 H locs hP hD hS => ?_)
  have hP : va_P D vwCl [(r, .inr (5, [.ref x, .int (nI xs.length)])), (x, .inl (yc 1, cp, .inr (.inl f))), ((u1 0 0), .inl (yc 1, (2 * cp), .inr (.inl (va_cpy f (fun _ => 0) (0 : Int32).toNatClampNeg (0 : Int32).toNatClampNeg (nI cp : Int32).toNatClampNeg))))] H := hP
  have hD : va_D A [(r, .inr (5, [.ref x, .int (nI xs.length)])), (x, .inl (yc 1, cp, .inr (.inl f))), ((u1 0 0), .inl (yc 1, (2 * cp), .inr (.inl (va_cpy f (fun _ => 0) (0 : Int32).toNatClampNeg (0 : Int32).toNatClampNeg (nI cp : Int32).toNatClampNeg))))] := hD
  refine zk_tv (y := .ref (u1 0 0)) rfl ?_
  refine va_put (D := D) (ci := 5) (v := .ref (u1 0 0)) (ty := (.array .long)) (C := RX6) (T := TX6) (N := 2) hx hb hts iX6 tyX6 tyX6_ok nmX6 hown hK hP hD hS 0 rfl rfl 0 (by decide) (hts _ wq913) (fun _ h9 => h9) rfl (by decide +kernel) rfl rfl (Nat.le_of_ble_eq_true rfl) dX6_add_37 (fun H locs hP hD hS => ?_)
  have hP : va_P D vwCl [(r, .inr (5, [.ref (u1 0 0), .int (nI xs.length)])), (x, .inl (yc 1, cp, .inr (.inl f))), ((u1 0 0), .inl (yc 1, (2 * cp), .inr (.inl (va_cpy f (fun _ => 0) (0 : Int32).toNatClampNeg (0 : Int32).toNatClampNeg (nI cp : Int32).toNatClampNeg))))] H := hP
  have hD : va_D A [(r, .inr (5, [.ref (u1 0 0), .int (nI xs.length)])), (x, .inl (yc 1, cp, .inr (.inl f))), ((u1 0 0), .inl (yc 1, (2 * cp), .inr (.inl (va_cpy f (fun _ => 0) (0 : Int32).toNatClampNeg (0 : Int32).toNatClampNeg (nI cp : Int32).toNatClampNeg))))] := hD
  refine lv_aload_n hx hb dX6_add_40 rfl (lv_at hl 0 rfl) ?_
  refine va_get (D := D) (ci := 5) (v := .int (nI xs.length)) (C := RX6) (T := TX6) (N := 2) hx hb hts iX6 hown hK hP 0 rfl rfl 1 (by decide) (hts _ wq914) (fun _ h9 => h9) rfl dX6_add_41 ?_
  refine lv_if_lt (tgt := 79) hx hb dX6_add_44 (by decide) (fun h9 => absurd h9 (nI_pos (by omega))) (fun _ => ?_)
  refine lv_aload_n hx hb dX6_add_47 rfl (lv_at hl 0 rfl) ?_
  refine va_get (D := D) (ci := 5) (v := .int (nI xs.length)) (C := RX6) (T := TX6) (N := 2) hx hb hts iX6 hown hK hP 0 rfl rfl 1 (by decide) (hts _ wq914) (fun _ h9 => h9) rfl dX6_add_48 ?_
  refine lv_aload_n hx hb dX6_add_51 rfl (lv_at hl 0 rfl) ?_
  refine va_get (D := D) (ci := 5) (v := .ref (u1 0 0)) (C := RX6) (T := TX6) (N := 2) hx hb hts iX6 hown hK hP 0 rfl rfl 0 (by decide) (hts _ wq913) (fun _ h9 => h9) rfl dX6_add_52 ?_
  refine va_alen hx hb hK hP 2 1 rfl rfl (v := nI (2 * cp)) rfl dX6_add_55 ?_
  refine lv_icmp_ge (tgt := 79) hx hb dX6_add_56 (by decide) (fun h9 => absurd h9 (nI_ge (by omega) (by omega))) (fun _ => ?_)
  refine lv_aload_n hx hb dX6_add_59 rfl (lv_at hl 0 rfl) ?_
  refine va_get (D := D) (ci := 5) (v := .ref (u1 0 0)) (C := RX6) (T := TX6) (N := 2) hx hb hts iX6 hown hK hP 0 rfl rfl 0 (by decide) (hts _ wq913) (fun _ h9 => h9) rfl dX6_add_60 ?_
  refine lv_aload_n hx hb dX6_add_63 rfl (lv_at hl 0 rfl) ?_
  refine va_get (D := D) (ci := 5) (v := .int (nI xs.length)) (C := RX6) (T := TX6) (N := 2) hx hb hts iX6 hown hK hP 0 rfl rfl 1 (by decide) (hts _ wq914) (fun _ h9 => h9) rfl dX6_add_64 ?_
  refine lv_lload_n hx hb dX6_add_67 rfl (lv_at hl 1 rfl) ?_
  refine va_last hx hb hK hP hD hS 2 1 rfl rfl (vp_in_nI (by omega) (by omega)) dX6_add_68 (fun H locs hP hD hS => ?_)
  have hP : va_P D vwCl [(r, .inr (5, [.ref (u1 0 0), .int (nI xs.length)])), (x, .inl (yc 1, cp, .inr (.inl f))), ((u1 0 0), .inl (yc 1, (2 * cp), .inr (.inl (vp_updL (va_cpy f (fun _ => 0) (0 : Int32).toNatClampNeg (0 : Int32).toNatClampNeg (nI cp : Int32).toNatClampNeg) (nI xs.length : Int32).toNatClampNeg v))))] H := hP
  have hD : va_D A [(r, .inr (5, [.ref (u1 0 0), .int (nI xs.length)])), (x, .inl (yc 1, cp, .inr (.inl f))), ((u1 0 0), .inl (yc 1, (2 * cp), .inr (.inl (vp_updL (va_cpy f (fun _ => 0) (0 : Int32).toNatClampNeg (0 : Int32).toNatClampNeg (nI cp : Int32).toNatClampNeg) (nI xs.length : Int32).toNatClampNeg v))))] := hD
  refine lv_aload_n hx hb dX6_add_69 rfl (lv_at hl 0 rfl) ?_
  refine lv_dup hx hb dX6_add_70 rfl ?_
  refine va_get (D := D) (ci := 5) (v := .int (nI xs.length)) (C := RX6) (T := TX6) (N := 2) hx hb hts iX6 hown hK hP 0 rfl rfl 1 (by decide) (hts _ wq914) (fun _ h9 => h9) rfl dX6_add_71 ?_
  refine lv_iconst (v := 1) hx hb dX6_add_74 (by decide) ?_
  refine lv_iadd hx hb dX6_add_75 ?_
  refine zk_ti (y := nI (xs.length + 1)) (nI_1 _) ?_
  refine va_put (D := D) (ci := 5) (v := .int (nI (xs.length + 1))) (ty := .int) (C := RX6) (T := TX6) (N := 2) hx hb hts iX6 tyX6 tyX6_ok nmX6 hown hK hP hD hS 0 rfl rfl 1 (by decide) (hts _ wq914) (fun _ h9 => h9) rfl (by decide +kernel) rfl rfl (Nat.le_of_ble_eq_true rfl) dX6_add_76 (fun H locs hP hD hS => ?_)
  have hP : va_P D vwCl [(r, .inr (5, [.ref (u1 0 0), .int (nI (xs.length + 1))])), (x, .inl (yc 1, cp, .inr (.inl f))), ((u1 0 0), .inl (yc 1, (2 * cp), .inr (.inl (vp_updL (va_cpy f (fun _ => 0) (0 : Int32).toNatClampNeg (0 : Int32).toNatClampNeg (nI cp : Int32).toNatClampNeg) (nI xs.length : Int32).toNatClampNeg v))))] H := hP
  have hD : va_D A [(r, .inr (5, [.ref (u1 0 0), .int (nI (xs.length + 1))])), (x, .inl (yc 1, cp, .inr (.inl f))), ((u1 0 0), .inl (yc 1, (2 * cp), .inr (.inl (vp_updL (va_cpy f (fun _ => 0) (0 : Int32).toNatClampNeg (0 : Int32).toNatClampNeg (nI cp : Int32).toNatClampNeg) (nI xs.length : Int32).toNatClampNeg v))))] := hD
  exact te_row hx hb hr hlk hP hD hS (u1 0 0) (vp_updL (va_cpy f (fun _ => 0) (0 : Int32).toNatClampNeg (0 : Int32).toNatClampNeg (nI cp : Int32).toNatClampNeg) (nI xs.length : Int32).toNatClampNeg v) (xs.length + 1) (by simp) (rc_add (rc_grow (cq := 2 * cp) hf hle (by omega)) (by omega)) [0, 2] rfl rfl (by first | exact (Nat.le_of_ble_eq_true rfl) | exact Nat.zero_le _ | omega | (dsimp only; omega)) (by first | exact (Nat.le_of_ble_eq_true rfl) | exact Nat.zero_le _ | omega | (dsimp only; omega)) dX6_add_79
set_option maxHeartbeats 4000000 in
set_option maxRecDepth 100000 in
theorem l_ins (l : Launch) (D : va_G) (yc : Nat → ClassId) (e0 : Nat) (r : Nat) (x : Nat) (cp : Nat) (xs : List Int64) (f : Nat → Int64) (sz : Nat) (j : Nat) (v : Int64) (hle : xs.length ≤ cp) (hcp : cp ≤ 8388608) (hf : RC (cp, xs) f) (hn : xs.length < cp) (hj : j ≤ xs.length) : Met l yX6_insert (ws_ yX6_insert cX6_insert 4 none) { frames := 1, cells := 0, slots := 0, locals := 40 } (PR D yc e0 [(r, .inr (5, [.ref x, .int (nI xs.length)])), (x, .inl (yc 1, cp, .inr (.inl f)))] sz [.ref r, .int (nI j), .long v]) ((fun A => RQ D yc A r [] (cp, xs.take j ++ v :: xs.drop j)) (va_A [(r, .inr (5, [.ref x, .int (nI xs.length)])), (x, .inl (yc 1, cp, .inr (.inl f)))] sz)) 0 0 (va_A [(r, .inr (5, [.ref x, .int (nI xs.length)])), (x, .inl (yc 1, cp, .inr (.inl f)))] sz) := by
  refine zk_M (y := yX6_insert) (cc := cX6_insert) (maxL := 4) (w := [(r, .inr (5, [.ref x, .int (nI xs.length)])), (x, .inl (yc 1, cp, .inr (.inl f)))]) (av := [.ref r, .int (nI j), .long v]) (Qc := (fun A => RQ D yc A r [] (cp, xs.take j ++ v :: xs.drop j))) (by decide) (Nat.le_of_ble_eq_true rfl) ?_
  intro p e s m args below meth c A ls hx hb hml hr hlk hown hnm hts hP hD hS hA hC hl
  have hK := hC.1
  have hN := hC.2.1
  have hl : lv_has ls 4 [(0, .ref r), (1, .int (nI j)), (2, .long v)] := hl
  refine lv_aload_n hx hb dX6_insert_0 rfl (lv_at hl 0 rfl) ?_
  refine va_get (D := D) (ci := 5) (v := .int (nI xs.length)) (C := RX6) (T := TX6) (N := 2) hx hb hts iX6 hown hK hP 0 rfl rfl 1 (by decide) (hts _ wq914) (fun _ h9 => h9) rfl dX6_insert_1 ?_
  refine lv_aload_n hx hb dX6_insert_4 rfl (lv_at hl 0 rfl) ?_
  refine va_get (D := D) (ci := 5) (v := .ref x) (C := RX6) (T := TX6) (N := 2) hx hb hts iX6 hown hK hP 0 rfl rfl 0 (by decide) (hts _ wq913) (fun _ h9 => h9) rfl dX6_insert_5 ?_
  refine va_alen hx hb hK hP 1 1 rfl rfl (v := nI cp) rfl dX6_insert_8 ?_
  refine lv_icmp_lt (tgt := 40) hx hb dX6_insert_9 (by decide) (fun _ => ?_) (fun h9 => absurd (nI_lt (by omega) (by omega)) h9)
  refine lv_iload_n hx hb dX6_insert_40 rfl (lv_at hl 1 rfl) ?_
  refine lv_if_lt (tgt := 102) hx hb dX6_insert_41 (by decide) (fun h9 => absurd h9 (nI_pos (by omega))) (fun _ => ?_)
  refine lv_iload_n hx hb dX6_insert_44 rfl (lv_at hl 1 rfl) ?_
  refine lv_aload_n hx hb dX6_insert_45 rfl (lv_at hl 0 rfl) ?_
  refine va_get (D := D) (ci := 5) (v := .int (nI xs.length)) (C := RX6) (T := TX6) (N := 2) hx hb hts iX6 hown hK hP 0 rfl rfl 1 (by decide) (hts _ wq914) (fun _ h9 => h9) rfl dX6_insert_46 ?_
  refine lv_icmp_gt (tgt := 102) hx hb dX6_insert_49 (by decide) (fun h9 => absurd h9 (nI_nlt (by omega) (by omega))) (fun _ => ?_)
  refine lv_aload_n hx hb dX6_insert_52 rfl (lv_at hl 0 rfl) ?_
  refine va_get (D := D) (ci := 5) (v := .int (nI xs.length)) (C := RX6) (T := TX6) (N := 2) hx hb hts iX6 hown hK hP 0 rfl rfl 1 (by decide) (hts _ wq914) (fun _ h9 => h9) rfl dX6_insert_53 ?_
  refine lv_aload_n hx hb dX6_insert_56 rfl (lv_at hl 0 rfl) ?_
  refine va_get (D := D) (ci := 5) (v := .ref x) (C := RX6) (T := TX6) (N := 2) hx hb hts iX6 hown hK hP 0 rfl rfl 0 (by decide) (hts _ wq913) (fun _ h9 => h9) rfl dX6_insert_57 ?_
  refine va_alen hx hb hK hP 1 1 rfl rfl (v := nI cp) rfl dX6_insert_60 ?_
  refine lv_icmp_ge (tgt := 102) hx hb dX6_insert_61 (by decide) (fun h9 => absurd h9 (nI_ge (by omega) (by omega))) (fun _ => ?_)
  refine lv_aload_n hx hb dX6_insert_64 rfl (lv_at hl 0 rfl) ?_
  refine va_get (D := D) (ci := 5) (v := .ref x) (C := RX6) (T := TX6) (N := 2) hx hb hts iX6 hown hK hP 0 rfl rfl 0 (by decide) (hts _ wq913) (fun _ h9 => h9) rfl dX6_insert_65 ?_
  refine lv_iload_n hx hb dX6_insert_68 rfl (lv_at hl 1 rfl) ?_
  refine lv_aload_n hx hb dX6_insert_69 rfl (lv_at hl 0 rfl) ?_
  refine va_get (D := D) (ci := 5) (v := .ref x) (C := RX6) (T := TX6) (N := 2) hx hb hts iX6 hown hK hP 0 rfl rfl 0 (by decide) (hts _ wq913) (fun _ h9 => h9) rfl dX6_insert_70 ?_
  refine lv_iload_n hx hb dX6_insert_73 rfl (lv_at hl 1 rfl) ?_
  refine lv_iconst (v := 1) hx hb dX6_insert_74 (by decide) ?_
  refine lv_iadd hx hb dX6_insert_75 ?_
  refine zk_ti (y := nI (j + 1)) (nI_1 _) ?_
  refine lv_aload_n hx hb dX6_insert_76 rfl (lv_at hl 0 rfl) ?_
  refine va_get (D := D) (ci := 5) (v := .int (nI xs.length)) (C := RX6) (T := TX6) (N := 2) hx hb hts iX6 hown hK hP 0 rfl rfl 1 (by decide) (hts _ wq914) (fun _ h9 => h9) rfl dX6_insert_77 ?_
  refine lv_iload_n hx hb dX6_insert_80 rfl (lv_at hl 1 rfl) ?_
  refine lv_isub hx hb dX6_insert_81 ?_
  refine zk_ti (y := nI (xs.length - j)) (pk_sub (by omega)) ?_
  refine va_copyl (ty := .long) hx hb (by rw [hml]; exact hl.1.symm) hown (hts _ wq325) (hts _ wq327) (hts _ wq326) (hts _ wq20) hK hP hD hS 1 1 1 1 rfl rfl rfl rfl rfl (nI_pos (by omega)) (nI_pos (by omega)) (nI_pos (by omega)) (by rw [nI_clamp (by omega), nI_clamp (by omega)]; omega) (by rw [nI_clamp (by omega), nI_clamp (by omega)]; omega) (fun _ _ => rfl) (Nat.le_of_ble_eq_true rfl) (Nat.le_of_ble_eq_true rfl) dX6_insert_82 (fun H locs hP hD hS => ?_)
  have hP : va_P D vwCl [(r, .inr (5, [.ref x, .int (nI xs.length)])), (x, .inl (yc 1, cp, .inr (.inl (va_cpy f f (nI j : Int32).toNatClampNeg (nI (j + 1) : Int32).toNatClampNeg (nI (xs.length - j) : Int32).toNatClampNeg))))] H := hP
  have hD : va_D A [(r, .inr (5, [.ref x, .int (nI xs.length)])), (x, .inl (yc 1, cp, .inr (.inl (va_cpy f f (nI j : Int32).toNatClampNeg (nI (j + 1) : Int32).toNatClampNeg (nI (xs.length - j) : Int32).toNatClampNeg))))] := hD
  refine lv_aload_n hx hb dX6_insert_85 rfl (lv_at hl 0 rfl) ?_
  refine va_get (D := D) (ci := 5) (v := .ref x) (C := RX6) (T := TX6) (N := 2) hx hb hts iX6 hown hK hP 0 rfl rfl 0 (by decide) (hts _ wq913) (fun _ h9 => h9) rfl dX6_insert_86 ?_
  refine lv_iload_n hx hb dX6_insert_89 rfl (lv_at hl 1 rfl) ?_
  refine lv_lload_n hx hb dX6_insert_90 rfl (lv_at hl 2 rfl) ?_
  refine va_last hx hb hK hP hD hS 1 1 rfl rfl (vp_in_nI (by omega) (by omega)) dX6_insert_91 (fun H locs hP hD hS => ?_)
  have hP : va_P D vwCl [(r, .inr (5, [.ref x, .int (nI xs.length)])), (x, .inl (yc 1, cp, .inr (.inl (vp_updL (va_cpy f f (nI j : Int32).toNatClampNeg (nI (j + 1) : Int32).toNatClampNeg (nI (xs.length - j) : Int32).toNatClampNeg) (nI j : Int32).toNatClampNeg v))))] H := hP
  have hD : va_D A [(r, .inr (5, [.ref x, .int (nI xs.length)])), (x, .inl (yc 1, cp, .inr (.inl (vp_updL (va_cpy f f (nI j : Int32).toNatClampNeg (nI (j + 1) : Int32).toNatClampNeg (nI (xs.length - j) : Int32).toNatClampNeg) (nI j : Int32).toNatClampNeg v))))] := hD
  refine lv_aload_n hx hb dX6_insert_92 rfl (lv_at hl 0 rfl) ?_
  refine lv_dup hx hb dX6_insert_93 rfl ?_
  refine va_get (D := D) (ci := 5) (v := .int (nI xs.length)) (C := RX6) (T := TX6) (N := 2) hx hb hts iX6 hown hK hP 0 rfl rfl 1 (by decide) (hts _ wq914) (fun _ h9 => h9) rfl dX6_insert_94 ?_
  refine lv_iconst (v := 1) hx hb dX6_insert_97 (by decide) ?_
  refine lv_iadd hx hb dX6_insert_98 ?_
  refine zk_ti (y := nI (xs.length + 1)) (nI_1 _) ?_
  refine va_put (D := D) (ci := 5) (v := .int (nI (xs.length + 1))) (ty := .int) (C := RX6) (T := TX6) (N := 2) hx hb hts iX6 tyX6 tyX6_ok nmX6 hown hK hP hD hS 0 rfl rfl 1 (by decide) (hts _ wq914) (fun _ h9 => h9) rfl (by decide +kernel) rfl rfl (Nat.le_of_ble_eq_true rfl) dX6_insert_99 (fun H locs hP hD hS => ?_)
  have hP : va_P D vwCl [(r, .inr (5, [.ref x, .int (nI (xs.length + 1))])), (x, .inl (yc 1, cp, .inr (.inl (vp_updL (va_cpy f f (nI j : Int32).toNatClampNeg (nI (j + 1) : Int32).toNatClampNeg (nI (xs.length - j) : Int32).toNatClampNeg) (nI j : Int32).toNatClampNeg v))))] H := hP
  have hD : va_D A [(r, .inr (5, [.ref x, .int (nI (xs.length + 1))])), (x, .inl (yc 1, cp, .inr (.inl (vp_updL (va_cpy f f (nI j : Int32).toNatClampNeg (nI (j + 1) : Int32).toNatClampNeg (nI (xs.length - j) : Int32).toNatClampNeg) (nI j : Int32).toNatClampNeg v))))] := hD
  exact te_row hx hb hr hlk hP hD hS x (vp_updL (va_cpy f f (nI j : Int32).toNatClampNeg (nI (j + 1) : Int32).toNatClampNeg (nI (xs.length - j) : Int32).toNatClampNeg) (nI j : Int32).toNatClampNeg v) (xs.length + 1) (by simp; omega) (rc_ins hf hj (by omega)) [0, 1] rfl rfl (by first | exact (Nat.le_of_ble_eq_true rfl) | exact Nat.zero_le _ | omega | (dsimp only; omega)) (by first | exact (Nat.le_of_ble_eq_true rfl) | exact Nat.zero_le _ | omega | (dsimp only; omega)) dX6_insert_102
set_option maxHeartbeats 4000000 in
set_option maxRecDepth 100000 in
theorem l_insG (l : Launch) (D : va_G) (yc : Nat → ClassId) (e0 : Nat) (r : Nat) (x : Nat) (cp : Nat) (xs : List Int64) (f : Nat → Int64) (sz : Nat) (j : Nat) (v : Int64) (hle : xs.length ≤ cp) (hcp : cp ≤ 8388608) (hf : RC (cp, xs) f) (hn : xs.length = cp) (h4 : 8 ≤ cp ∧ cp ≤ 4000000) (hj : j ≤ xs.length) : Met l yX6_insert (ws_ yX6_insert cX6_insert 4 none) { frames := 2, cells := 1, slots := (2 * cp), locals := 62 } (PR D yc e0 [(r, .inr (5, [.ref x, .int (nI xs.length)])), (x, .inl (yc 1, cp, .inr (.inl f)))] sz [.ref r, .int (nI j), .long v]) ((fun A => RQ D yc A r [] (2 * cp, xs.take j ++ v :: xs.drop j)) (va_A [(r, .inr (5, [.ref x, .int (nI xs.length)])), (x, .inl (yc 1, cp, .inr (.inl f)))] sz)) 1 (2 * cp) (va_A [(r, .inr (5, [.ref x, .int (nI xs.length)])), (x, .inl (yc 1, cp, .inr (.inl f)))] sz) := by
  refine zk_M (y := yX6_insert) (cc := cX6_insert) (maxL := 4) (w := [(r, .inr (5, [.ref x, .int (nI xs.length)])), (x, .inl (yc 1, cp, .inr (.inl f)))]) (av := [.ref r, .int (nI j), .long v]) (Qc := (fun A => RQ D yc A r [] (2 * cp, xs.take j ++ v :: xs.drop j))) (by decide) (Nat.le_of_ble_eq_true rfl) ?_
  intro p e s m args below meth c A ls hx hb hml hr hlk hown hnm hts hP hD hS hA hC hl
  have hK := hC.1
  have hN := hC.2.1
  have hl : lv_has ls 4 [(0, .ref r), (1, .int (nI j)), (2, .long v)] := hl
  refine lv_aload_n hx hb dX6_insert_0 rfl (lv_at hl 0 rfl) ?_
  refine va_get (D := D) (ci := 5) (v := .int (nI xs.length)) (C := RX6) (T := TX6) (N := 2) hx hb hts iX6 hown hK hP 0 rfl rfl 1 (by decide) (hts _ wq914) (fun _ h9 => h9) rfl dX6_insert_1 ?_
  refine lv_aload_n hx hb dX6_insert_4 rfl (lv_at hl 0 rfl) ?_
  refine va_get (D := D) (ci := 5) (v := .ref x) (C := RX6) (T := TX6) (N := 2) hx hb hts iX6 hown hK hP 0 rfl rfl 0 (by decide) (hts _ wq913) (fun _ h9 => h9) rfl dX6_insert_5 ?_
  refine va_alen hx hb hK hP 1 1 rfl rfl (v := nI cp) rfl dX6_insert_8 ?_
  refine lv_icmp_lt (tgt := 40) hx hb dX6_insert_9 (by decide) (fun h9 => absurd h9 (nI_nlt (by omega) (by omega))) (fun _ => ?_)
  refine lv_aload_n hx hb dX6_insert_12 rfl (lv_at hl 0 rfl) ?_
  refine va_get (D := D) (ci := 5) (v := .ref x) (C := RX6) (T := TX6) (N := 2) hx hb hts iX6 hown hK hP 0 rfl rfl 0 (by decide) (hts _ wq913) (fun _ h9 => h9) rfl dX6_insert_13 ?_
  refine va_alen hx hb hK hP 1 1 rfl rfl (v := nI cp) rfl dX6_insert_16 ?_
  refine lv_ldc hx hb hown (hts _ wq348) dX6_insert_17 ?_
  refine lv_icmp_ge (tgt := 40) hx hb dX6_insert_19 (by decide) (fun h9 => absurd h9 (show ¬ nI 8388608 ≤ nI cp from nI_ge (by omega) (by omega))) (fun _ => ?_)
  refine lv_aload_n hx hb dX6_insert_22 rfl (lv_at hl 0 rfl) ?_
  refine lv_aload_n hx hb dX6_insert_23 rfl (lv_at hl 0 rfl) ?_
  refine va_get (D := D) (ci := 5) (v := .ref x) (C := RX6) (T := TX6) (N := 2) hx hb hts iX6 hown hK hP 0 rfl rfl 0 (by decide) (hts _ wq913) (fun _ h9 => h9) rfl dX6_insert_24 ?_
  refine lv_aload_n hx hb dX6_insert_27 rfl (lv_at hl 0 rfl) ?_
  refine va_get (D := D) (ci := 5) (v := .ref x) (C := RX6) (T := TX6) (N := 2) hx hb hts iX6 hown hK hP 0 rfl rfl 0 (by decide) (hts _ wq913) (fun _ h9 => h9) rfl dX6_insert_28 ?_
  refine va_alen hx hb hK hP 1 1 rfl rfl (v := nI cp) rfl dX6_insert_31 ?_
  refine lv_iconst (v := 2) hx hb dX6_insert_32 (by decide) ?_
  refine lv_imul hx hb dX6_insert_33 ?_
  refine zk_ti (y := nI (2 * cp)) (by rw [show (2 : Int32) = nI 2 from rfl, pk_mul, Nat.mul_comm]) ?_
  refine zk_q (wr := [(r, .inr (5, [.ref x, .int (nI xs.length)]))]) (va_runS (As := [.ref x, .int (nI (2 * cp))]) (rest := [.ref r]) ⟨hx, hb, hml, hown, hts⟩ (l_copyOf l D yc e0 x cp f s.heap.size (2 * cp) (by omega) (by omega)) (va_cwS 2 hts (lw_S wq349 wq350 wq19 wq351) rfl rfl rfl (by decide +kernel) ⟨(Nat.le_of_ble_eq_true rfl), (Nat.le_of_ble_eq_true rfl)⟩) (zk_pS hC hP hD hS hA [1] rfl rfl) rfl rfl hl.1 rfl (lv_room (Nat.le_of_ble_eq_true rfl)) dX6_insert_34 ⟨(by show 0 + 1 ≤ 1; omega), (by show 0 + (2 * cp) ≤ (2 * cp); omega)⟩) hP hD hS hA [1] [0] rfl rfl rfl (by decide) (fun u1 H locs hP hD hS => ?_)
  have hP : va_P D vwCl [(r, .inr (5, [.ref x, .int (nI xs.length)])), (x, .inl (yc 1, cp, .inr (.inl f))), ((u1 0 0), .inl (yc 1, (2 * cp), .inr (.inl (va_cpy f (fun _ => 0) (0 : Int32).toNatClampNeg (0 : Int32).toNatClampNeg (nI cp : Int32).toNatClampNeg))))] H := hP
  have hD : va_D A [(r, .inr (5, [.ref x, .int (nI xs.length)])), (x, .inl (yc 1, cp, .inr (.inl f))), ((u1 0 0), .inl (yc 1, (2 * cp), .inr (.inl (va_cpy f (fun _ => 0) (0 : Int32).toNatClampNeg (0 : Int32).toNatClampNeg (nI cp : Int32).toNatClampNeg))))] := hD
  refine zk_tv (y := .ref (u1 0 0)) rfl ?_
  refine va_put (D := D) (ci := 5) (v := .ref (u1 0 0)) (ty := (.array .long)) (C := RX6) (T := TX6) (N := 2) hx hb hts iX6 tyX6 tyX6_ok nmX6 hown hK hP hD hS 0 rfl rfl 0 (by decide) (hts _ wq913) (fun _ h9 => h9) rfl (by decide +kernel) rfl rfl (Nat.le_of_ble_eq_true rfl) dX6_insert_37 (fun H locs hP hD hS => ?_)
  have hP : va_P D vwCl [(r, .inr (5, [.ref (u1 0 0), .int (nI xs.length)])), (x, .inl (yc 1, cp, .inr (.inl f))), ((u1 0 0), .inl (yc 1, (2 * cp), .inr (.inl (va_cpy f (fun _ => 0) (0 : Int32).toNatClampNeg (0 : Int32).toNatClampNeg (nI cp : Int32).toNatClampNeg))))] H := hP
  have hD : va_D A [(r, .inr (5, [.ref (u1 0 0), .int (nI xs.length)])), (x, .inl (yc 1, cp, .inr (.inl f))), ((u1 0 0), .inl (yc 1, (2 * cp), .inr (.inl (va_cpy f (fun _ => 0) (0 : Int32).toNatClampNeg (0 : Int32).toNatClampNeg (nI cp : Int32).toNatClampNeg))))] := hD
  refine lv_iload_n hx hb dX6_insert_40 rfl (lv_at hl 1 rfl) ?_
  refine lv_if_lt (tgt := 102) hx hb dX6_insert_41 (by decide) (fun h9 => absurd h9 (nI_pos (by omega))) (fun _ => ?_)
  refine lv_iload_n hx hb dX6_insert_44 rfl (lv_at hl 1 rfl) ?_
  refine lv_aload_n hx hb dX6_insert_45 rfl (lv_at hl 0 rfl) ?_
  refine va_get (D := D) (ci := 5) (v := .int (nI xs.length)) (C := RX6) (T := TX6) (N := 2) hx hb hts iX6 hown hK hP 0 rfl rfl 1 (by decide) (hts _ wq914) (fun _ h9 => h9) rfl dX6_insert_46 ?_
  refine lv_icmp_gt (tgt := 102) hx hb dX6_insert_49 (by decide) (fun h9 => absurd h9 (nI_nlt (by omega) (by omega))) (fun _ => ?_)
  refine lv_aload_n hx hb dX6_insert_52 rfl (lv_at hl 0 rfl) ?_
  refine va_get (D := D) (ci := 5) (v := .int (nI xs.length)) (C := RX6) (T := TX6) (N := 2) hx hb hts iX6 hown hK hP 0 rfl rfl 1 (by decide) (hts _ wq914) (fun _ h9 => h9) rfl dX6_insert_53 ?_
  refine lv_aload_n hx hb dX6_insert_56 rfl (lv_at hl 0 rfl) ?_
  refine va_get (D := D) (ci := 5) (v := .ref (u1 0 0)) (C := RX6) (T := TX6) (N := 2) hx hb hts iX6 hown hK hP 0 rfl rfl 0 (by decide) (hts _ wq913) (fun _ h9 => h9) rfl dX6_insert_57 ?_
  refine va_alen hx hb hK hP 2 1 rfl rfl (v := nI (2 * cp)) rfl dX6_insert_60 ?_
  refine lv_icmp_ge (tgt := 102) hx hb dX6_insert_61 (by decide) (fun h9 => absurd h9 (nI_ge (by omega) (by omega))) (fun _ => ?_)
  refine lv_aload_n hx hb dX6_insert_64 rfl (lv_at hl 0 rfl) ?_
  refine va_get (D := D) (ci := 5) (v := .ref (u1 0 0)) (C := RX6) (T := TX6) (N := 2) hx hb hts iX6 hown hK hP 0 rfl rfl 0 (by decide) (hts _ wq913) (fun _ h9 => h9) rfl dX6_insert_65 ?_
  refine lv_iload_n hx hb dX6_insert_68 rfl (lv_at hl 1 rfl) ?_
  refine lv_aload_n hx hb dX6_insert_69 rfl (lv_at hl 0 rfl) ?_
  refine va_get (D := D) (ci := 5) (v := .ref (u1 0 0)) (C := RX6) (T := TX6) (N := 2) hx hb hts iX6 hown hK hP 0 rfl rfl 0 (by decide) (hts _ wq913) (fun _ h9 => h9) rfl dX6_insert_70 ?_
  refine lv_iload_n hx hb dX6_insert_73 rfl (lv_at hl 1 rfl) ?_
  refine lv_iconst (v := 1) hx hb dX6_insert_74 (by decide) ?_
  refine lv_iadd hx hb dX6_insert_75 ?_
  refine zk_ti (y := nI (j + 1)) (nI_1 _) ?_
  refine lv_aload_n hx hb dX6_insert_76 rfl (lv_at hl 0 rfl) ?_
  refine va_get (D := D) (ci := 5) (v := .int (nI xs.length)) (C := RX6) (T := TX6) (N := 2) hx hb hts iX6 hown hK hP 0 rfl rfl 1 (by decide) (hts _ wq914) (fun _ h9 => h9) rfl dX6_insert_77 ?_
  refine lv_iload_n hx hb dX6_insert_80 rfl (lv_at hl 1 rfl) ?_
  refine lv_isub hx hb dX6_insert_81 ?_
  refine zk_ti (y := nI (xs.length - j)) (pk_sub (by omega)) ?_
  refine va_copyl (ty := .long) hx hb (by rw [hml]; exact hl.1.symm) hown (hts _ wq325) (hts _ wq327) (hts _ wq326) (hts _ wq20) hK hP hD hS 2 2 1 1 rfl rfl rfl rfl rfl (nI_pos (by omega)) (nI_pos (by omega)) (nI_pos (by omega)) (by rw [nI_clamp (by omega), nI_clamp (by omega)]; omega) (by rw [nI_clamp (by omega), nI_clamp (by omega)]; omega) (fun _ _ => rfl) (Nat.le_of_ble_eq_true rfl) (Nat.le_of_ble_eq_true rfl) dX6_insert_82 (fun H locs hP hD hS => ?_)
  have hP : va_P D vwCl [(r, .inr (5, [.ref (u1 0 0), .int (nI xs.length)])), (x, .inl (yc 1, cp, .inr (.inl f))), ((u1 0 0), .inl (yc 1, (2 * cp), .inr (.inl (va_cpy (va_cpy f (fun _ => 0) (0 : Int32).toNatClampNeg (0 : Int32).toNatClampNeg (nI cp : Int32).toNatClampNeg) (va_cpy f (fun _ => 0) (0 : Int32).toNatClampNeg (0 : Int32).toNatClampNeg (nI cp : Int32).toNatClampNeg) (nI j : Int32).toNatClampNeg (nI (j + 1) : Int32).toNatClampNeg (nI (xs.length - j) : Int32).toNatClampNeg))))] H := hP
  have hD : va_D A [(r, .inr (5, [.ref (u1 0 0), .int (nI xs.length)])), (x, .inl (yc 1, cp, .inr (.inl f))), ((u1 0 0), .inl (yc 1, (2 * cp), .inr (.inl (va_cpy (va_cpy f (fun _ => 0) (0 : Int32).toNatClampNeg (0 : Int32).toNatClampNeg (nI cp : Int32).toNatClampNeg) (va_cpy f (fun _ => 0) (0 : Int32).toNatClampNeg (0 : Int32).toNatClampNeg (nI cp : Int32).toNatClampNeg) (nI j : Int32).toNatClampNeg (nI (j + 1) : Int32).toNatClampNeg (nI (xs.length - j) : Int32).toNatClampNeg))))] := hD
  refine lv_aload_n hx hb dX6_insert_85 rfl (lv_at hl 0 rfl) ?_
  refine va_get (D := D) (ci := 5) (v := .ref (u1 0 0)) (C := RX6) (T := TX6) (N := 2) hx hb hts iX6 hown hK hP 0 rfl rfl 0 (by decide) (hts _ wq913) (fun _ h9 => h9) rfl dX6_insert_86 ?_
  refine lv_iload_n hx hb dX6_insert_89 rfl (lv_at hl 1 rfl) ?_
  refine lv_lload_n hx hb dX6_insert_90 rfl (lv_at hl 2 rfl) ?_
  refine va_last hx hb hK hP hD hS 2 1 rfl rfl (vp_in_nI (by omega) (by omega)) dX6_insert_91 (fun H locs hP hD hS => ?_)
  have hP : va_P D vwCl [(r, .inr (5, [.ref (u1 0 0), .int (nI xs.length)])), (x, .inl (yc 1, cp, .inr (.inl f))), ((u1 0 0), .inl (yc 1, (2 * cp), .inr (.inl (vp_updL (va_cpy (va_cpy f (fun _ => 0) (0 : Int32).toNatClampNeg (0 : Int32).toNatClampNeg (nI cp : Int32).toNatClampNeg) (va_cpy f (fun _ => 0) (0 : Int32).toNatClampNeg (0 : Int32).toNatClampNeg (nI cp : Int32).toNatClampNeg) (nI j : Int32).toNatClampNeg (nI (j + 1) : Int32).toNatClampNeg (nI (xs.length - j) : Int32).toNatClampNeg) (nI j : Int32).toNatClampNeg v))))] H := hP
  have hD : va_D A [(r, .inr (5, [.ref (u1 0 0), .int (nI xs.length)])), (x, .inl (yc 1, cp, .inr (.inl f))), ((u1 0 0), .inl (yc 1, (2 * cp), .inr (.inl (vp_updL (va_cpy (va_cpy f (fun _ => 0) (0 : Int32).toNatClampNeg (0 : Int32).toNatClampNeg (nI cp : Int32).toNatClampNeg) (va_cpy f (fun _ => 0) (0 : Int32).toNatClampNeg (0 : Int32).toNatClampNeg (nI cp : Int32).toNatClampNeg) (nI j : Int32).toNatClampNeg (nI (j + 1) : Int32).toNatClampNeg (nI (xs.length - j) : Int32).toNatClampNeg) (nI j : Int32).toNatClampNeg v))))] := hD
  refine lv_aload_n hx hb dX6_insert_92 rfl (lv_at hl 0 rfl) ?_
  refine lv_dup hx hb dX6_insert_93 rfl ?_
  refine va_get (D := D) (ci := 5) (v := .int (nI xs.length)) (C := RX6) (T := TX6) (N := 2) hx hb hts iX6 hown hK hP 0 rfl rfl 1 (by decide) (hts _ wq914) (fun _ h9 => h9) rfl dX6_insert_94 ?_
  refine lv_iconst (v := 1) hx hb dX6_insert_97 (by decide) ?_
  refine lv_iadd hx hb dX6_insert_98 ?_
  refine zk_ti (y := nI (xs.length + 1)) (nI_1 _) ?_
  refine va_put (D := D) (ci := 5) (v := .int (nI (xs.length + 1))) (ty := .int) (C := RX6) (T := TX6) (N := 2) hx hb hts iX6 tyX6 tyX6_ok nmX6 hown hK hP hD hS 0 rfl rfl 1 (by decide) (hts _ wq914) (fun _ h9 => h9) rfl (by decide +kernel) rfl rfl (Nat.le_of_ble_eq_true rfl) dX6_insert_99 (fun H locs hP hD hS => ?_)
  have hP : va_P D vwCl [(r, .inr (5, [.ref (u1 0 0), .int (nI (xs.length + 1))])), (x, .inl (yc 1, cp, .inr (.inl f))), ((u1 0 0), .inl (yc 1, (2 * cp), .inr (.inl (vp_updL (va_cpy (va_cpy f (fun _ => 0) (0 : Int32).toNatClampNeg (0 : Int32).toNatClampNeg (nI cp : Int32).toNatClampNeg) (va_cpy f (fun _ => 0) (0 : Int32).toNatClampNeg (0 : Int32).toNatClampNeg (nI cp : Int32).toNatClampNeg) (nI j : Int32).toNatClampNeg (nI (j + 1) : Int32).toNatClampNeg (nI (xs.length - j) : Int32).toNatClampNeg) (nI j : Int32).toNatClampNeg v))))] H := hP
  have hD : va_D A [(r, .inr (5, [.ref (u1 0 0), .int (nI (xs.length + 1))])), (x, .inl (yc 1, cp, .inr (.inl f))), ((u1 0 0), .inl (yc 1, (2 * cp), .inr (.inl (vp_updL (va_cpy (va_cpy f (fun _ => 0) (0 : Int32).toNatClampNeg (0 : Int32).toNatClampNeg (nI cp : Int32).toNatClampNeg) (va_cpy f (fun _ => 0) (0 : Int32).toNatClampNeg (0 : Int32).toNatClampNeg (nI cp : Int32).toNatClampNeg) (nI j : Int32).toNatClampNeg (nI (j + 1) : Int32).toNatClampNeg (nI (xs.length - j) : Int32).toNatClampNeg) (nI j : Int32).toNatClampNeg v))))] := hD
  exact te_row hx hb hr hlk hP hD hS (u1 0 0) (vp_updL (va_cpy (va_cpy f (fun _ => 0) (0 : Int32).toNatClampNeg (0 : Int32).toNatClampNeg (nI cp : Int32).toNatClampNeg) (va_cpy f (fun _ => 0) (0 : Int32).toNatClampNeg (0 : Int32).toNatClampNeg (nI cp : Int32).toNatClampNeg) (nI j : Int32).toNatClampNeg (nI (j + 1) : Int32).toNatClampNeg (nI (xs.length - j) : Int32).toNatClampNeg) (nI j : Int32).toNatClampNeg v) (xs.length + 1) (by simp; omega) (rc_ins (rc_grow (cq := 2 * cp) hf hle (by omega)) hj (by omega)) [0, 2] rfl rfl (by first | exact (Nat.le_of_ble_eq_true rfl) | exact Nat.zero_le _ | omega | (dsimp only; omega)) (by first | exact (Nat.le_of_ble_eq_true rfl) | exact Nat.zero_le _ | omega | (dsimp only; omega)) dX6_insert_102
set_option maxHeartbeats 4000000 in
set_option maxRecDepth 100000 in
theorem l_insX (l : Launch) (D : va_G) (yc : Nat → ClassId) (e0 : Nat) (r : Nat) (x : Nat) (cp : Nat) (xs : List Int64) (f : Nat → Int64) (sz : Nat) (j : Nat) (v : Int64) (hle : xs.length ≤ cp) (hcp : cp ≤ 8388608) (hf : RC (cp, xs) f) (hn : xs.length < cp) (hj : xs.length < j) (hj2 : j < 2 ^ 31) : Met l yX6_insert (ws_ yX6_insert cX6_insert 4 none) { frames := 0, cells := 0, slots := 0, locals := 0 } (PR D yc e0 [(r, .inr (5, [.ref x, .int (nI xs.length)])), (x, .inl (yc 1, cp, .inr (.inl f)))] sz [.ref r, .int (nI j), .long v]) ((fun A => RQ D yc A r [] (cp, xs)) (va_A [(r, .inr (5, [.ref x, .int (nI xs.length)])), (x, .inl (yc 1, cp, .inr (.inl f)))] sz)) 0 0 (va_A [(r, .inr (5, [.ref x, .int (nI xs.length)])), (x, .inl (yc 1, cp, .inr (.inl f)))] sz) := by
  refine zk_M (y := yX6_insert) (cc := cX6_insert) (maxL := 4) (w := [(r, .inr (5, [.ref x, .int (nI xs.length)])), (x, .inl (yc 1, cp, .inr (.inl f)))]) (av := [.ref r, .int (nI j), .long v]) (Qc := (fun A => RQ D yc A r [] (cp, xs))) (by decide) (Nat.le_of_ble_eq_true rfl) ?_
  intro p e s m args below meth c A ls hx hb hml hr hlk hown hnm hts hP hD hS hA hC hl
  have hK := hC.1
  have hN := hC.2.1
  have hl : lv_has ls 4 [(0, .ref r), (1, .int (nI j)), (2, .long v)] := hl
  refine lv_aload_n hx hb dX6_insert_0 rfl (lv_at hl 0 rfl) ?_
  refine va_get (D := D) (ci := 5) (v := .int (nI xs.length)) (C := RX6) (T := TX6) (N := 2) hx hb hts iX6 hown hK hP 0 rfl rfl 1 (by decide) (hts _ wq914) (fun _ h9 => h9) rfl dX6_insert_1 ?_
  refine lv_aload_n hx hb dX6_insert_4 rfl (lv_at hl 0 rfl) ?_
  refine va_get (D := D) (ci := 5) (v := .ref x) (C := RX6) (T := TX6) (N := 2) hx hb hts iX6 hown hK hP 0 rfl rfl 0 (by decide) (hts _ wq913) (fun _ h9 => h9) rfl dX6_insert_5 ?_
  refine va_alen hx hb hK hP 1 1 rfl rfl (v := nI cp) rfl dX6_insert_8 ?_
  refine lv_icmp_lt (tgt := 40) hx hb dX6_insert_9 (by decide) (fun _ => ?_) (fun h9 => absurd (nI_lt (by omega) (by omega)) h9)
  refine lv_iload_n hx hb dX6_insert_40 rfl (lv_at hl 1 rfl) ?_
  refine lv_if_lt (tgt := 102) hx hb dX6_insert_41 (by decide) (fun h9 => absurd h9 (nI_pos (by omega))) (fun _ => ?_)
  refine lv_iload_n hx hb dX6_insert_44 rfl (lv_at hl 1 rfl) ?_
  refine lv_aload_n hx hb dX6_insert_45 rfl (lv_at hl 0 rfl) ?_
  refine va_get (D := D) (ci := 5) (v := .int (nI xs.length)) (C := RX6) (T := TX6) (N := 2) hx hb hts iX6 hown hK hP 0 rfl rfl 1 (by decide) (hts _ wq914) (fun _ h9 => h9) rfl dX6_insert_46 ?_
  refine lv_icmp_gt (tgt := 102) hx hb dX6_insert_49 (by decide) (fun _ => ?_) (fun h9 => absurd (nI_lt (by omega) (by omega)) h9)
  exact te_row hx hb hr hlk hP hD hS x f xs.length rfl hf [0, 1] rfl rfl (by first | exact (Nat.le_of_ble_eq_true rfl) | exact Nat.zero_le _ | omega | (dsimp only; omega)) (by first | exact (Nat.le_of_ble_eq_true rfl) | exact Nat.zero_le _ | omega | (dsimp only; omega)) dX6_insert_102
set_option maxHeartbeats 4000000 in
set_option maxRecDepth 100000 in
theorem l_insGX (l : Launch) (D : va_G) (yc : Nat → ClassId) (e0 : Nat) (r : Nat) (x : Nat) (cp : Nat) (xs : List Int64) (f : Nat → Int64) (sz : Nat) (j : Nat) (v : Int64) (hle : xs.length ≤ cp) (hcp : cp ≤ 8388608) (hf : RC (cp, xs) f) (hn : xs.length = cp) (h4 : 8 ≤ cp ∧ cp ≤ 4000000) (hj : xs.length < j) (hj2 : j < 2 ^ 31) : Met l yX6_insert (ws_ yX6_insert cX6_insert 4 none) { frames := 2, cells := 1, slots := (2 * cp), locals := 62 } (PR D yc e0 [(r, .inr (5, [.ref x, .int (nI xs.length)])), (x, .inl (yc 1, cp, .inr (.inl f)))] sz [.ref r, .int (nI j), .long v]) ((fun A => RQ D yc A r [] (2 * cp, xs)) (va_A [(r, .inr (5, [.ref x, .int (nI xs.length)])), (x, .inl (yc 1, cp, .inr (.inl f)))] sz)) 1 (2 * cp) (va_A [(r, .inr (5, [.ref x, .int (nI xs.length)])), (x, .inl (yc 1, cp, .inr (.inl f)))] sz) := by
  refine zk_M (y := yX6_insert) (cc := cX6_insert) (maxL := 4) (w := [(r, .inr (5, [.ref x, .int (nI xs.length)])), (x, .inl (yc 1, cp, .inr (.inl f)))]) (av := [.ref r, .int (nI j), .long v]) (Qc := (fun A => RQ D yc A r [] (2 * cp, xs))) (by decide) (Nat.le_of_ble_eq_true rfl) ?_
  intro p e s m args below meth c A ls hx hb hml hr hlk hown hnm hts hP hD hS hA hC hl
  have hK := hC.1
  have hN := hC.2.1
  have hl : lv_has ls 4 [(0, .ref r), (1, .int (nI j)), (2, .long v)] := hl
  refine lv_aload_n hx hb dX6_insert_0 rfl (lv_at hl 0 rfl) ?_
  refine va_get (D := D) (ci := 5) (v := .int (nI xs.length)) (C := RX6) (T := TX6) (N := 2) hx hb hts iX6 hown hK hP 0 rfl rfl 1 (by decide) (hts _ wq914) (fun _ h9 => h9) rfl dX6_insert_1 ?_
  refine lv_aload_n hx hb dX6_insert_4 rfl (lv_at hl 0 rfl) ?_
  refine va_get (D := D) (ci := 5) (v := .ref x) (C := RX6) (T := TX6) (N := 2) hx hb hts iX6 hown hK hP 0 rfl rfl 0 (by decide) (hts _ wq913) (fun _ h9 => h9) rfl dX6_insert_5 ?_
  refine va_alen hx hb hK hP 1 1 rfl rfl (v := nI cp) rfl dX6_insert_8 ?_
  refine lv_icmp_lt (tgt := 40) hx hb dX6_insert_9 (by decide) (fun h9 => absurd h9 (nI_nlt (by omega) (by omega))) (fun _ => ?_)
  refine lv_aload_n hx hb dX6_insert_12 rfl (lv_at hl 0 rfl) ?_
  refine va_get (D := D) (ci := 5) (v := .ref x) (C := RX6) (T := TX6) (N := 2) hx hb hts iX6 hown hK hP 0 rfl rfl 0 (by decide) (hts _ wq913) (fun _ h9 => h9) rfl dX6_insert_13 ?_
  refine va_alen hx hb hK hP 1 1 rfl rfl (v := nI cp) rfl dX6_insert_16 ?_
  refine lv_ldc hx hb hown (hts _ wq348) dX6_insert_17 ?_
  refine lv_icmp_ge (tgt := 40) hx hb dX6_insert_19 (by decide) (fun h9 => absurd h9 (show ¬ nI 8388608 ≤ nI cp from nI_ge (by omega) (by omega))) (fun _ => ?_)
  refine lv_aload_n hx hb dX6_insert_22 rfl (lv_at hl 0 rfl) ?_
  refine lv_aload_n hx hb dX6_insert_23 rfl (lv_at hl 0 rfl) ?_
  refine va_get (D := D) (ci := 5) (v := .ref x) (C := RX6) (T := TX6) (N := 2) hx hb hts iX6 hown hK hP 0 rfl rfl 0 (by decide) (hts _ wq913) (fun _ h9 => h9) rfl dX6_insert_24 ?_
  refine lv_aload_n hx hb dX6_insert_27 rfl (lv_at hl 0 rfl) ?_
  refine va_get (D := D) (ci := 5) (v := .ref x) (C := RX6) (T := TX6) (N := 2) hx hb hts iX6 hown hK hP 0 rfl rfl 0 (by decide) (hts _ wq913) (fun _ h9 => h9) rfl dX6_insert_28 ?_
  refine va_alen hx hb hK hP 1 1 rfl rfl (v := nI cp) rfl dX6_insert_31 ?_
  refine lv_iconst (v := 2) hx hb dX6_insert_32 (by decide) ?_
  refine lv_imul hx hb dX6_insert_33 ?_
  refine zk_ti (y := nI (2 * cp)) (by rw [show (2 : Int32) = nI 2 from rfl, pk_mul, Nat.mul_comm]) ?_
  refine zk_q (wr := [(r, .inr (5, [.ref x, .int (nI xs.length)]))]) (va_runS (As := [.ref x, .int (nI (2 * cp))]) (rest := [.ref r]) ⟨hx, hb, hml, hown, hts⟩ (l_copyOf l D yc e0 x cp f s.heap.size (2 * cp) (by omega) (by omega)) (va_cwS 2 hts (lw_S wq349 wq350 wq19 wq351) rfl rfl rfl (by decide +kernel) ⟨(Nat.le_of_ble_eq_true rfl), (Nat.le_of_ble_eq_true rfl)⟩) (zk_pS hC hP hD hS hA [1] rfl rfl) rfl rfl hl.1 rfl (lv_room (Nat.le_of_ble_eq_true rfl)) dX6_insert_34 ⟨(by show 0 + 1 ≤ 1; omega), (by show 0 + (2 * cp) ≤ (2 * cp); omega)⟩) hP hD hS hA [1] [0] rfl rfl rfl (by decide) (fun u1 H locs hP hD hS => ?_)
  have hP : va_P D vwCl [(r, .inr (5, [.ref x, .int (nI xs.length)])), (x, .inl (yc 1, cp, .inr (.inl f))), ((u1 0 0), .inl (yc 1, (2 * cp), .inr (.inl (va_cpy f (fun _ => 0) (0 : Int32).toNatClampNeg (0 : Int32).toNatClampNeg (nI cp : Int32).toNatClampNeg))))] H := hP
  have hD : va_D A [(r, .inr (5, [.ref x, .int (nI xs.length)])), (x, .inl (yc 1, cp, .inr (.inl f))), ((u1 0 0), .inl (yc 1, (2 * cp), .inr (.inl (va_cpy f (fun _ => 0) (0 : Int32).toNatClampNeg (0 : Int32).toNatClampNeg (nI cp : Int32).toNatClampNeg))))] := hD
  refine zk_tv (y := .ref (u1 0 0)) rfl ?_
  refine va_put (D := D) (ci := 5) (v := .ref (u1 0 0)) (ty := (.array .long)) (C := RX6) (T := TX6) (N := 2) hx hb hts iX6 tyX6 tyX6_ok nmX6 hown hK hP hD hS 0 rfl rfl 0 (by decide) (hts _ wq913) (fun _ h9 => h9) rfl (by decide +kernel) rfl rfl (Nat.le_of_ble_eq_true rfl) dX6_insert_37 (fun H locs hP hD hS => ?_)
  have hP : va_P D vwCl [(r, .inr (5, [.ref (u1 0 0), .int (nI xs.length)])), (x, .inl (yc 1, cp, .inr (.inl f))), ((u1 0 0), .inl (yc 1, (2 * cp), .inr (.inl (va_cpy f (fun _ => 0) (0 : Int32).toNatClampNeg (0 : Int32).toNatClampNeg (nI cp : Int32).toNatClampNeg))))] H := hP
  have hD : va_D A [(r, .inr (5, [.ref (u1 0 0), .int (nI xs.length)])), (x, .inl (yc 1, cp, .inr (.inl f))), ((u1 0 0), .inl (yc 1, (2 * cp), .inr (.inl (va_cpy f (fun _ => 0) (0 : Int32).toNatClampNeg (0 : Int32).toNatClampNeg (nI cp : Int32).toNatClampNeg))))] := hD
  refine lv_iload_n hx hb dX6_insert_40 rfl (lv_at hl 1 rfl) ?_
  refine lv_if_lt (tgt := 102) hx hb dX6_insert_41 (by decide) (fun h9 => absurd h9 (nI_pos (by omega))) (fun _ => ?_)
  refine lv_iload_n hx hb dX6_insert_44 rfl (lv_at hl 1 rfl) ?_
  refine lv_aload_n hx hb dX6_insert_45 rfl (lv_at hl 0 rfl) ?_
  refine va_get (D := D) (ci := 5) (v := .int (nI xs.length)) (C := RX6) (T := TX6) (N := 2) hx hb hts iX6 hown hK hP 0 rfl rfl 1 (by decide) (hts _ wq914) (fun _ h9 => h9) rfl dX6_insert_46 ?_
  refine lv_icmp_gt (tgt := 102) hx hb dX6_insert_49 (by decide) (fun _ => ?_) (fun h9 => absurd (nI_lt (by omega) (by omega)) h9)
  exact te_row hx hb hr hlk hP hD hS (u1 0 0) (va_cpy f (fun _ => 0) (0 : Int32).toNatClampNeg (0 : Int32).toNatClampNeg (nI cp : Int32).toNatClampNeg) xs.length rfl (rc_grow (cq := 2 * cp) hf hle (by omega)) [0, 2] rfl rfl (by first | exact (Nat.le_of_ble_eq_true rfl) | exact Nat.zero_le _ | omega | (dsimp only; omega)) (by first | exact (Nat.le_of_ble_eq_true rfl) | exact Nat.zero_le _ | omega | (dsimp only; omega)) dX6_insert_102
set_option maxHeartbeats 4000000 in
set_option maxRecDepth 100000 in
theorem l_rem (l : Launch) (D : va_G) (yc : Nat → ClassId) (e0 : Nat) (r : Nat) (x : Nat) (cp : Nat) (xs : List Int64) (f : Nat → Int64) (sz : Nat) (a : Nat) (b : Nat) (hle : xs.length ≤ cp) (hcp : cp ≤ 8388608) (hf : RC (cp, xs) f) (ha : a < 2 ^ 31) (hb9 : b < 2 ^ 31) (h0 : 0 < b) (hab : a + b ≤ xs.length) : Met l yX6_remove (ws_ yX6_remove cX6_remove 3 none) { frames := 1, cells := 0, slots := 0, locals := 40 } (PR D yc e0 [(r, .inr (5, [.ref x, .int (nI xs.length)])), (x, .inl (yc 1, cp, .inr (.inl f)))] sz [.ref r, .int (nI a), .int (nI b)]) ((fun A => RQ D yc A r [] (cp, xs.take a ++ xs.drop (a + b))) (va_A [(r, .inr (5, [.ref x, .int (nI xs.length)])), (x, .inl (yc 1, cp, .inr (.inl f)))] sz)) 0 0 (va_A [(r, .inr (5, [.ref x, .int (nI xs.length)])), (x, .inl (yc 1, cp, .inr (.inl f)))] sz) := by
  refine zk_M (y := yX6_remove) (cc := cX6_remove) (maxL := 3) (w := [(r, .inr (5, [.ref x, .int (nI xs.length)])), (x, .inl (yc 1, cp, .inr (.inl f)))]) (av := [.ref r, .int (nI a), .int (nI b)]) (Qc := (fun A => RQ D yc A r [] (cp, xs.take a ++ xs.drop (a + b)))) (by decide) (Nat.le_of_ble_eq_true rfl) ?_
  intro p e s m args below meth c A ls hx hb hml hr hlk hown hnm hts hP hD hS hA hC hl
  have hK := hC.1
  have hN := hC.2.1
  have hl : lv_has ls 3 [(0, .ref r), (1, .int (nI a)), (2, .int (nI b))] := hl
  refine lv_iload_n hx hb dX6_remove_0 rfl (lv_at hl 1 rfl) ?_
  refine lv_if_lt (tgt := 63) hx hb dX6_remove_1 (by decide) (fun h9 => absurd h9 (nI_pos (by omega))) (fun _ => ?_)
  refine lv_iload_n hx hb dX6_remove_4 rfl (lv_at hl 2 rfl) ?_
  refine lv_if_le (tgt := 63) hx hb dX6_remove_5 (by decide) (fun h9 => absurd h9 (nI_nle (by omega) (by omega))) (fun _ => ?_)
  refine lv_iload_n hx hb dX6_remove_8 rfl (lv_at hl 1 rfl) ?_
  refine lv_aload_n hx hb dX6_remove_9 rfl (lv_at hl 0 rfl) ?_
  refine va_get (D := D) (ci := 5) (v := .int (nI xs.length)) (C := RX6) (T := TX6) (N := 2) hx hb hts iX6 hown hK hP 0 rfl rfl 1 (by decide) (hts _ wq914) (fun _ h9 => h9) rfl dX6_remove_10 ?_
  refine lv_iload_n hx hb dX6_remove_13 rfl (lv_at hl 2 rfl) ?_
  refine lv_isub hx hb dX6_remove_14 ?_
  refine lv_icmp_gt (tgt := 63) hx hb dX6_remove_15 (by decide) (fun h9 => absurd h9 (zsuble (by omega) (by omega))) (fun _ => ?_)
  refine lv_aload_n hx hb dX6_remove_18 rfl (lv_at hl 0 rfl) ?_
  refine va_get (D := D) (ci := 5) (v := .int (nI xs.length)) (C := RX6) (T := TX6) (N := 2) hx hb hts iX6 hown hK hP 0 rfl rfl 1 (by decide) (hts _ wq914) (fun _ h9 => h9) rfl dX6_remove_19 ?_
  refine lv_aload_n hx hb dX6_remove_22 rfl (lv_at hl 0 rfl) ?_
  refine va_get (D := D) (ci := 5) (v := .ref x) (C := RX6) (T := TX6) (N := 2) hx hb hts iX6 hown hK hP 0 rfl rfl 0 (by decide) (hts _ wq913) (fun _ h9 => h9) rfl dX6_remove_23 ?_
  refine va_alen hx hb hK hP 1 1 rfl rfl (v := nI cp) rfl dX6_remove_26 ?_
  refine lv_icmp_gt (tgt := 63) hx hb dX6_remove_27 (by decide) (fun h9 => absurd h9 (nI_nlt (by omega) (by omega))) (fun _ => ?_)
  refine lv_aload_n hx hb dX6_remove_30 rfl (lv_at hl 0 rfl) ?_
  refine va_get (D := D) (ci := 5) (v := .ref x) (C := RX6) (T := TX6) (N := 2) hx hb hts iX6 hown hK hP 0 rfl rfl 0 (by decide) (hts _ wq913) (fun _ h9 => h9) rfl dX6_remove_31 ?_
  refine lv_iload_n hx hb dX6_remove_34 rfl (lv_at hl 1 rfl) ?_
  refine lv_iload_n hx hb dX6_remove_35 rfl (lv_at hl 2 rfl) ?_
  refine lv_iadd hx hb dX6_remove_36 ?_
  refine zk_ti (y := nI (a + b)) (nI_add _ _) ?_
  refine lv_aload_n hx hb dX6_remove_37 rfl (lv_at hl 0 rfl) ?_
  refine va_get (D := D) (ci := 5) (v := .ref x) (C := RX6) (T := TX6) (N := 2) hx hb hts iX6 hown hK hP 0 rfl rfl 0 (by decide) (hts _ wq913) (fun _ h9 => h9) rfl dX6_remove_38 ?_
  refine lv_iload_n hx hb dX6_remove_41 rfl (lv_at hl 1 rfl) ?_
  refine lv_aload_n hx hb dX6_remove_42 rfl (lv_at hl 0 rfl) ?_
  refine va_get (D := D) (ci := 5) (v := .int (nI xs.length)) (C := RX6) (T := TX6) (N := 2) hx hb hts iX6 hown hK hP 0 rfl rfl 1 (by decide) (hts _ wq914) (fun _ h9 => h9) rfl dX6_remove_43 ?_
  refine lv_iload_n hx hb dX6_remove_46 rfl (lv_at hl 1 rfl) ?_
  refine lv_isub hx hb dX6_remove_47 ?_
  refine zk_ti (y := nI (xs.length - a)) (pk_sub (by omega)) ?_
  refine lv_iload_n hx hb dX6_remove_48 rfl (lv_at hl 2 rfl) ?_
  refine lv_isub hx hb dX6_remove_49 ?_
  refine zk_ti (y := nI ((xs.length - a) - b)) (pk_sub (by omega)) ?_
  refine va_copyl (ty := .long) hx hb (by rw [hml]; exact hl.1.symm) hown (hts _ wq325) (hts _ wq327) (hts _ wq326) (hts _ wq20) hK hP hD hS 1 1 1 1 rfl rfl rfl rfl rfl (nI_pos (by omega)) (nI_pos (by omega)) (nI_pos (by omega)) (by rw [nI_clamp (by omega), nI_clamp (by omega)]; omega) (by rw [nI_clamp (by omega), nI_clamp (by omega)]; omega) (fun _ _ => rfl) (Nat.le_of_ble_eq_true rfl) (Nat.le_of_ble_eq_true rfl) dX6_remove_50 (fun H locs hP hD hS => ?_)
  have hP : va_P D vwCl [(r, .inr (5, [.ref x, .int (nI xs.length)])), (x, .inl (yc 1, cp, .inr (.inl (va_cpy f f (nI (a + b) : Int32).toNatClampNeg (nI a : Int32).toNatClampNeg (nI ((xs.length - a) - b) : Int32).toNatClampNeg))))] H := hP
  have hD : va_D A [(r, .inr (5, [.ref x, .int (nI xs.length)])), (x, .inl (yc 1, cp, .inr (.inl (va_cpy f f (nI (a + b) : Int32).toNatClampNeg (nI a : Int32).toNatClampNeg (nI ((xs.length - a) - b) : Int32).toNatClampNeg))))] := hD
  refine lv_aload_n hx hb dX6_remove_53 rfl (lv_at hl 0 rfl) ?_
  refine lv_dup hx hb dX6_remove_54 rfl ?_
  refine va_get (D := D) (ci := 5) (v := .int (nI xs.length)) (C := RX6) (T := TX6) (N := 2) hx hb hts iX6 hown hK hP 0 rfl rfl 1 (by decide) (hts _ wq914) (fun _ h9 => h9) rfl dX6_remove_55 ?_
  refine lv_iload_n hx hb dX6_remove_58 rfl (lv_at hl 2 rfl) ?_
  refine lv_isub hx hb dX6_remove_59 ?_
  refine zk_ti (y := nI (xs.length - b)) (pk_sub (by omega)) ?_
  refine va_put (D := D) (ci := 5) (v := .int (nI (xs.length - b))) (ty := .int) (C := RX6) (T := TX6) (N := 2) hx hb hts iX6 tyX6 tyX6_ok nmX6 hown hK hP hD hS 0 rfl rfl 1 (by decide) (hts _ wq914) (fun _ h9 => h9) rfl (by decide +kernel) rfl rfl (Nat.le_of_ble_eq_true rfl) dX6_remove_60 (fun H locs hP hD hS => ?_)
  have hP : va_P D vwCl [(r, .inr (5, [.ref x, .int (nI (xs.length - b))])), (x, .inl (yc 1, cp, .inr (.inl (va_cpy f f (nI (a + b) : Int32).toNatClampNeg (nI a : Int32).toNatClampNeg (nI ((xs.length - a) - b) : Int32).toNatClampNeg))))] H := hP
  have hD : va_D A [(r, .inr (5, [.ref x, .int (nI (xs.length - b))])), (x, .inl (yc 1, cp, .inr (.inl (va_cpy f f (nI (a + b) : Int32).toNatClampNeg (nI a : Int32).toNatClampNeg (nI ((xs.length - a) - b) : Int32).toNatClampNeg))))] := hD
  exact te_row hx hb hr hlk hP hD hS x (va_cpy f f (nI (a + b) : Int32).toNatClampNeg (nI a : Int32).toNatClampNeg (nI ((xs.length - a) - b) : Int32).toNatClampNeg) (xs.length - b) (by simp; omega) (rc_rem hf hab (by omega)) [0, 1] rfl rfl (by first | exact (Nat.le_of_ble_eq_true rfl) | exact Nat.zero_le _ | omega | (dsimp only; omega)) (by first | exact (Nat.le_of_ble_eq_true rfl) | exact Nat.zero_le _ | omega | (dsimp only; omega)) dX6_remove_63
set_option maxHeartbeats 4000000 in
set_option maxRecDepth 100000 in
theorem l_rem0 (l : Launch) (D : va_G) (yc : Nat → ClassId) (e0 : Nat) (r : Nat) (x : Nat) (cp : Nat) (xs : List Int64) (f : Nat → Int64) (sz : Nat) (a : Nat) (hle : xs.length ≤ cp) (hcp : cp ≤ 8388608) (hf : RC (cp, xs) f) (ha : a < 2 ^ 31) : Met l yX6_remove (ws_ yX6_remove cX6_remove 3 none) { frames := 0, cells := 0, slots := 0, locals := 0 } (PR D yc e0 [(r, .inr (5, [.ref x, .int (nI xs.length)])), (x, .inl (yc 1, cp, .inr (.inl f)))] sz [.ref r, .int (nI a), .int (nI 0)]) ((fun A => RQ D yc A r [] (cp, xs)) (va_A [(r, .inr (5, [.ref x, .int (nI xs.length)])), (x, .inl (yc 1, cp, .inr (.inl f)))] sz)) 0 0 (va_A [(r, .inr (5, [.ref x, .int (nI xs.length)])), (x, .inl (yc 1, cp, .inr (.inl f)))] sz) := by
  refine zk_M (y := yX6_remove) (cc := cX6_remove) (maxL := 3) (w := [(r, .inr (5, [.ref x, .int (nI xs.length)])), (x, .inl (yc 1, cp, .inr (.inl f)))]) (av := [.ref r, .int (nI a), .int (nI 0)]) (Qc := (fun A => RQ D yc A r [] (cp, xs))) (by decide) (Nat.le_of_ble_eq_true rfl) ?_
  intro p e s m args below meth c A ls hx hb hml hr hlk hown hnm hts hP hD hS hA hC hl
  have hK := hC.1
  have hN := hC.2.1
  have hl : lv_has ls 3 [(0, .ref r), (1, .int (nI a)), (2, .int (nI 0))] := hl
  refine lv_iload_n hx hb dX6_remove_0 rfl (lv_at hl 1 rfl) ?_
  refine lv_if_lt (tgt := 63) hx hb dX6_remove_1 (by decide) (fun h9 => absurd h9 (nI_pos (by omega))) (fun _ => ?_)
  refine lv_iload_n hx hb dX6_remove_4 rfl (lv_at hl 2 rfl) ?_
  refine lv_if_le (tgt := 63) hx hb dX6_remove_5 (by decide) (fun _ => ?_) (fun h9 => absurd (show nI 0 ≤ nI 0 from nI_le (by omega) (by omega)) h9)
  exact te_row hx hb hr hlk hP hD hS x f xs.length rfl hf [0, 1] rfl rfl (by first | exact (Nat.le_of_ble_eq_true rfl) | exact Nat.zero_le _ | omega | (dsimp only; omega)) (by first | exact (Nat.le_of_ble_eq_true rfl) | exact Nat.zero_le _ | omega | (dsimp only; omega)) dX6_remove_63
set_option maxHeartbeats 4000000 in
set_option maxRecDepth 100000 in
theorem l_remX (l : Launch) (D : va_G) (yc : Nat → ClassId) (e0 : Nat) (r : Nat) (x : Nat) (cp : Nat) (xs : List Int64) (f : Nat → Int64) (sz : Nat) (a : Nat) (b : Nat) (hle : xs.length ≤ cp) (hcp : cp ≤ 8388608) (hf : RC (cp, xs) f) (ha : a < 2 ^ 31) (hb9 : b < 2 ^ 31) (h0 : 0 < b) (hab : xs.length < a + b) : Met l yX6_remove (ws_ yX6_remove cX6_remove 3 none) { frames := 0, cells := 0, slots := 0, locals := 0 } (PR D yc e0 [(r, .inr (5, [.ref x, .int (nI xs.length)])), (x, .inl (yc 1, cp, .inr (.inl f)))] sz [.ref r, .int (nI a), .int (nI b)]) ((fun A => RQ D yc A r [] (cp, xs)) (va_A [(r, .inr (5, [.ref x, .int (nI xs.length)])), (x, .inl (yc 1, cp, .inr (.inl f)))] sz)) 0 0 (va_A [(r, .inr (5, [.ref x, .int (nI xs.length)])), (x, .inl (yc 1, cp, .inr (.inl f)))] sz) := by
  refine zk_M (y := yX6_remove) (cc := cX6_remove) (maxL := 3) (w := [(r, .inr (5, [.ref x, .int (nI xs.length)])), (x, .inl (yc 1, cp, .inr (.inl f)))]) (av := [.ref r, .int (nI a), .int (nI b)]) (Qc := (fun A => RQ D yc A r [] (cp, xs))) (by decide) (Nat.le_of_ble_eq_true rfl) ?_
  intro p e s m args below meth c A ls hx hb hml hr hlk hown hnm hts hP hD hS hA hC hl
  have hK := hC.1
  have hN := hC.2.1
  have hl : lv_has ls 3 [(0, .ref r), (1, .int (nI a)), (2, .int (nI b))] := hl
  refine lv_iload_n hx hb dX6_remove_0 rfl (lv_at hl 1 rfl) ?_
  refine lv_if_lt (tgt := 63) hx hb dX6_remove_1 (by decide) (fun h9 => absurd h9 (nI_pos (by omega))) (fun _ => ?_)
  refine lv_iload_n hx hb dX6_remove_4 rfl (lv_at hl 2 rfl) ?_
  refine lv_if_le (tgt := 63) hx hb dX6_remove_5 (by decide) (fun h9 => absurd h9 (nI_nle (by omega) (by omega))) (fun _ => ?_)
  refine lv_iload_n hx hb dX6_remove_8 rfl (lv_at hl 1 rfl) ?_
  refine lv_aload_n hx hb dX6_remove_9 rfl (lv_at hl 0 rfl) ?_
  refine va_get (D := D) (ci := 5) (v := .int (nI xs.length)) (C := RX6) (T := TX6) (N := 2) hx hb hts iX6 hown hK hP 0 rfl rfl 1 (by decide) (hts _ wq914) (fun _ h9 => h9) rfl dX6_remove_10 ?_
  refine lv_iload_n hx hb dX6_remove_13 rfl (lv_at hl 2 rfl) ?_
  refine lv_isub hx hb dX6_remove_14 ?_
  refine lv_icmp_gt (tgt := 63) hx hb dX6_remove_15 (by decide) (fun _ => ?_) (fun h9 => absurd (zsubgt hab (by omega) (by omega) (by omega)) h9)
  exact te_row hx hb hr hlk hP hD hS x f xs.length rfl hf [0, 1] rfl rfl (by first | exact (Nat.le_of_ble_eq_true rfl) | exact Nat.zero_le _ | omega | (dsimp only; omega)) (by first | exact (Nat.le_of_ble_eq_true rfl) | exact Nat.zero_le _ | omega | (dsimp only; omega)) dX6_remove_63
set_option maxHeartbeats 4000000 in
set_option maxRecDepth 100000 in
theorem l_sho (l : Launch) (D : va_G) (yc : Nat → ClassId) (e0 : Nat) (r : Nat) (x : Nat) (cp : Nat) (xs : List Int64) (f : Nat → Int64) (sz : Nat) (j : Nat) (hle : xs.length ≤ cp) (hcp : cp ≤ 8388608) (hf : RC (cp, xs) f) (hj : j < xs.length) : Met l yX6_shorten (ws_ yX6_shorten cX6_shorten 2 none) { frames := 0, cells := 0, slots := 0, locals := 0 } (PR D yc e0 [(r, .inr (5, [.ref x, .int (nI xs.length)])), (x, .inl (yc 1, cp, .inr (.inl f)))] sz [.ref r, .int (nI j)]) ((fun A => RQ D yc A r [] (cp, xs.take j)) (va_A [(r, .inr (5, [.ref x, .int (nI xs.length)])), (x, .inl (yc 1, cp, .inr (.inl f)))] sz)) 0 0 (va_A [(r, .inr (5, [.ref x, .int (nI xs.length)])), (x, .inl (yc 1, cp, .inr (.inl f)))] sz) := by
  refine zk_M (y := yX6_shorten) (cc := cX6_shorten) (maxL := 2) (w := [(r, .inr (5, [.ref x, .int (nI xs.length)])), (x, .inl (yc 1, cp, .inr (.inl f)))]) (av := [.ref r, .int (nI j)]) (Qc := (fun A => RQ D yc A r [] (cp, xs.take j))) (by decide) (Nat.le_of_ble_eq_true rfl) ?_
  intro p e s m args below meth c A ls hx hb hml hr hlk hown hnm hts hP hD hS hA hC hl
  have hK := hC.1
  have hN := hC.2.1
  have hl : lv_has ls 2 [(0, .ref r), (1, .int (nI j))] := hl
  refine lv_iload_n hx hb dX6_shorten_0 rfl (lv_at hl 1 rfl) ?_
  refine lv_if_lt (tgt := 17) hx hb dX6_shorten_1 (by decide) (fun h9 => absurd h9 (nI_pos (by omega))) (fun _ => ?_)
  refine lv_iload_n hx hb dX6_shorten_4 rfl (lv_at hl 1 rfl) ?_
  refine lv_aload_n hx hb dX6_shorten_5 rfl (lv_at hl 0 rfl) ?_
  refine va_get (D := D) (ci := 5) (v := .int (nI xs.length)) (C := RX6) (T := TX6) (N := 2) hx hb hts iX6 hown hK hP 0 rfl rfl 1 (by decide) (hts _ wq914) (fun _ h9 => h9) rfl dX6_shorten_6 ?_
  refine lv_icmp_ge (tgt := 17) hx hb dX6_shorten_9 (by decide) (fun h9 => absurd h9 (nI_ge (by omega) (by omega))) (fun _ => ?_)
  refine lv_aload_n hx hb dX6_shorten_12 rfl (lv_at hl 0 rfl) ?_
  refine lv_iload_n hx hb dX6_shorten_13 rfl (lv_at hl 1 rfl) ?_
  refine va_put (D := D) (ci := 5) (v := .int (nI j)) (ty := .int) (C := RX6) (T := TX6) (N := 2) hx hb hts iX6 tyX6 tyX6_ok nmX6 hown hK hP hD hS 0 rfl rfl 1 (by decide) (hts _ wq914) (fun _ h9 => h9) rfl (by decide +kernel) rfl rfl (Nat.le_of_ble_eq_true rfl) dX6_shorten_14 (fun H locs hP hD hS => ?_)
  have hP : va_P D vwCl [(r, .inr (5, [.ref x, .int (nI j)])), (x, .inl (yc 1, cp, .inr (.inl f)))] H := hP
  have hD : va_D A [(r, .inr (5, [.ref x, .int (nI j)])), (x, .inl (yc 1, cp, .inr (.inl f)))] := hD
  exact te_row hx hb hr hlk hP hD hS x f j (by simp; omega) (rc_take hf) [0, 1] rfl rfl (by first | exact (Nat.le_of_ble_eq_true rfl) | exact Nat.zero_le _ | omega | (dsimp only; omega)) (by first | exact (Nat.le_of_ble_eq_true rfl) | exact Nat.zero_le _ | omega | (dsimp only; omega)) dX6_shorten_17
set_option maxHeartbeats 4000000 in
set_option maxRecDepth 100000 in
theorem l_sho0 (l : Launch) (D : va_G) (yc : Nat → ClassId) (e0 : Nat) (r : Nat) (x : Nat) (cp : Nat) (xs : List Int64) (f : Nat → Int64) (sz : Nat) (j : Nat) (hle : xs.length ≤ cp) (hcp : cp ≤ 8388608) (hf : RC (cp, xs) f) (hj : xs.length ≤ j) (hj2 : j < 2 ^ 31) : Met l yX6_shorten (ws_ yX6_shorten cX6_shorten 2 none) { frames := 0, cells := 0, slots := 0, locals := 0 } (PR D yc e0 [(r, .inr (5, [.ref x, .int (nI xs.length)])), (x, .inl (yc 1, cp, .inr (.inl f)))] sz [.ref r, .int (nI j)]) ((fun A => RQ D yc A r [] (cp, xs)) (va_A [(r, .inr (5, [.ref x, .int (nI xs.length)])), (x, .inl (yc 1, cp, .inr (.inl f)))] sz)) 0 0 (va_A [(r, .inr (5, [.ref x, .int (nI xs.length)])), (x, .inl (yc 1, cp, .inr (.inl f)))] sz) := by
  refine zk_M (y := yX6_shorten) (cc := cX6_shorten) (maxL := 2) (w := [(r, .inr (5, [.ref x, .int (nI xs.length)])), (x, .inl (yc 1, cp, .inr (.inl f)))]) (av := [.ref r, .int (nI j)]) (Qc := (fun A => RQ D yc A r [] (cp, xs))) (by decide) (Nat.le_of_ble_eq_true rfl) ?_
  intro p e s m args below meth c A ls hx hb hml hr hlk hown hnm hts hP hD hS hA hC hl
  have hK := hC.1
  have hN := hC.2.1
  have hl : lv_has ls 2 [(0, .ref r), (1, .int (nI j))] := hl
  refine lv_iload_n hx hb dX6_shorten_0 rfl (lv_at hl 1 rfl) ?_
  refine lv_if_lt (tgt := 17) hx hb dX6_shorten_1 (by decide) (fun h9 => absurd h9 (nI_pos (by omega))) (fun _ => ?_)
  refine lv_iload_n hx hb dX6_shorten_4 rfl (lv_at hl 1 rfl) ?_
  refine lv_aload_n hx hb dX6_shorten_5 rfl (lv_at hl 0 rfl) ?_
  refine va_get (D := D) (ci := 5) (v := .int (nI xs.length)) (C := RX6) (T := TX6) (N := 2) hx hb hts iX6 hown hK hP 0 rfl rfl 1 (by decide) (hts _ wq914) (fun _ h9 => h9) rfl dX6_shorten_6 ?_
  refine lv_icmp_ge (tgt := 17) hx hb dX6_shorten_9 (by decide) (fun _ => ?_) (fun h9 => absurd (nI_le (by omega) (by omega)) h9)
  exact te_row hx hb hr hlk hP hD hS x f xs.length rfl hf [0, 1] rfl rfl (by first | exact (Nat.le_of_ble_eq_true rfl) | exact Nat.zero_le _ | omega | (dsimp only; omega)) (by first | exact (Nat.le_of_ble_eq_true rfl) | exact Nat.zero_le _ | omega | (dsimp only; omega)) dX6_shorten_17
set_option maxHeartbeats 4000000 in
set_option maxRecDepth 100000 in
theorem l_shoN (l : Launch) (D : va_G) (yc : Nat → ClassId) (e0 : Nat) (r : Nat) (x : Nat) (cp : Nat) (xs : List Int64) (f : Nat → Int64) (sz : Nat) (i1 : Int32) (hle : xs.length ≤ cp) (hcp : cp ≤ 8388608) (hf : RC (cp, xs) f) (hj : i1 < 0) : Met l yX6_shorten (ws_ yX6_shorten cX6_shorten 2 none) { frames := 0, cells := 0, slots := 0, locals := 0 } (PR D yc e0 [(r, .inr (5, [.ref x, .int (nI xs.length)])), (x, .inl (yc 1, cp, .inr (.inl f)))] sz [.ref r, .int i1]) ((fun A => RQ D yc A r [] (cp, xs)) (va_A [(r, .inr (5, [.ref x, .int (nI xs.length)])), (x, .inl (yc 1, cp, .inr (.inl f)))] sz)) 0 0 (va_A [(r, .inr (5, [.ref x, .int (nI xs.length)])), (x, .inl (yc 1, cp, .inr (.inl f)))] sz) := by
  refine zk_M (y := yX6_shorten) (cc := cX6_shorten) (maxL := 2) (w := [(r, .inr (5, [.ref x, .int (nI xs.length)])), (x, .inl (yc 1, cp, .inr (.inl f)))]) (av := [.ref r, .int i1]) (Qc := (fun A => RQ D yc A r [] (cp, xs))) (by decide) (Nat.le_of_ble_eq_true rfl) ?_
  intro p e s m args below meth c A ls hx hb hml hr hlk hown hnm hts hP hD hS hA hC hl
  have hK := hC.1
  have hN := hC.2.1
  have hl : lv_has ls 2 [(0, .ref r), (1, .int i1)] := hl
  refine lv_iload_n hx hb dX6_shorten_0 rfl (lv_at hl 1 rfl) ?_
  refine lv_if_lt (tgt := 17) hx hb dX6_shorten_1 (by decide) (fun _ => ?_) (fun h9 => absurd hj h9)
  exact te_row hx hb hr hlk hP hD hS x f xs.length rfl hf [0, 1] rfl rfl (by first | exact (Nat.le_of_ble_eq_true rfl) | exact Nat.zero_le _ | omega | (dsimp only; omega)) (by first | exact (Nat.le_of_ble_eq_true rfl) | exact Nat.zero_le _ | omega | (dsimp only; omega)) dX6_shorten_17
set_option maxHeartbeats 4000000 in
theorem lp_room {p : Program} {l : Launch} {e : Env} {R : Room} {s : State} {m : MethodId} {args : Array Value} {below : List Frame} {meth : Method} {c : Code} {H : Heap} {locs : List Loc} {cells slots : Nat} {Q : State → Prop} (hx : p.tables.exec = Jvm.exec) (hb : c.code = cX6_become) (hown : s.vm.findClass yX6_become.cls = some m.cls) (hts : ∀ w ∈ lw_all, w.before args s = true) (W9 r9 r8 rm : Nat) (fr9 i9 : Int32) (hw9 : W9 ≤ 8388608) (kk : ∀ ls : Array Slot, lv_has ls 7 [(5, .int (nI rm)), (4, .int (nI W9)), (3, .int fr9), (0, .ref r9), (1, .ref r8), (2, .int i9)] → W p l e R s m args below meth c H locs cells slots Q (F0 m 71 ls [])) : ∀ (n z : Nat) (ls : Array Slot), z + n = 30 → z ≤ 20 → zroom n (8 * 2 ^ z) W9 = rm → lv_has ls 7 [(6, .int (nI z)), (5, .int (nI (8 * 2 ^ z))), (4, .int (nI W9)), (3, .int fr9), (0, .ref r9), (1, .ref r8), (2, .int i9)] → W p l e R s m args below meth c H locs cells slots Q (F0 m 45 ls []) := by
  intro n
  induction n with
  | zero =>
    intro z ls hz hz20 hr hl
    exact absurd hz (by omega)
  | succ n ih =>
    intro z ls hz hz20 hr hl
    have hp9 : 2 ^ z ≤ 2 ^ 20 := Nat.pow_le_pow_right (by decide) hz20
    have hp8 : (2 : Nat) ^ 20 = 1048576 := by decide
    by_cases hlt : 8 * 2 ^ z < W9
    · have hz2 : z < 20 := by
        rcases Nat.lt_or_ge z 20 with h1 | h1
        · exact h1
        · have e : z = 20 := by omega
          subst e
          omega
      have e9 : zroom n (8 * 2 ^ (z + 1)) W9 = rm := by rw [← hr]; show _ = (if _ then _ else _); rw [if_pos hlt, show 2 * (8 * 2 ^ z) = 8 * 2 ^ (z + 1) by rw [Nat.pow_succ]; omega]
      refine lv_iload hx hb dX6_become_45 (lv_at hl 0 rfl) ?_
      refine lv_bipush (v := 30) hx hb dX6_become_47 (by decide) ?_
      refine lv_icmp_ge (tgt := 71) hx hb dX6_become_49 (by decide) (fun h9 => absurd h9 (show ¬ nI 30 ≤ nI z from nI_ge (by omega) (by omega))) (fun _ => ?_)
      refine lv_iload hx hb dX6_become_52 (lv_at hl 1 rfl) ?_
      refine lv_iload hx hb dX6_become_54 (lv_at hl 2 rfl) ?_
      refine lv_icmp_ge (tgt := 71) hx hb dX6_become_56 (by decide) (fun h9 => absurd h9 (nI_ge (by omega) (by omega))) (fun _ => ?_)
      refine lv_iload hx hb dX6_become_59 (lv_at hl 1 rfl) ?_
      refine lv_iconst (v := 2) hx hb dX6_become_61 (by decide) ?_
      refine lv_imul hx hb dX6_become_62 ?_
      refine zk_ti (y := nI (2 * (8 * 2 ^ z))) (by rw [show (2 : Int32) = nI 2 from rfl, pk_mul, Nat.mul_comm]) ?_
      refine zk_ti (y := nI (8 * 2 ^ (z + 1))) (by rw [show 2 * (8 * 2 ^ z) = 8 * 2 ^ (z + 1) by rw [Nat.pow_succ]; omega]) ?_
      refine lv_istore (lv' := [(5, .int (nI (8 * 2 ^ (z + 1)))), (6, .int (nI z)), (4, .int (nI W9)), (3, .int fr9), (0, .ref r9), (1, .ref r8), (2, .int i9)]) hx hb dX6_become_63 hl (by decide) rfl (fun ls hl => ?_)
      refine lv_iinc (v := nI (z + 1)) (lv' := [(6, .int (nI (z + 1))), (5, .int (nI (8 * 2 ^ (z + 1)))), (4, .int (nI W9)), (3, .int fr9), (0, .ref r9), (1, .ref r8), (2, .int i9)]) hx hb dX6_become_65 hl (k := 1) rfl (nI_1 _) (by decide) rfl (fun ls hl => ?_)
      refine lv_goto (tgt := 45) hx hb dX6_become_68 (by decide) ?_
      exact ih (z + 1) _ (by omega) (by omega) e9 (lv_sub hl [0, 1, 2, 3, 4, 5, 6] rfl)
    · have e9 : 8 * 2 ^ z = rm := by rw [← hr]; show _ = (if _ then _ else _); rw [if_neg hlt]
      refine lv_iload hx hb dX6_become_45 (lv_at hl 0 rfl) ?_
      refine lv_bipush (v := 30) hx hb dX6_become_47 (by decide) ?_
      refine lv_icmp_ge (tgt := 71) hx hb dX6_become_49 (by decide) (fun h9 => absurd h9 (show ¬ nI 30 ≤ nI z from nI_ge (by omega) (by omega))) (fun _ => ?_)
      refine lv_iload hx hb dX6_become_52 (lv_at hl 1 rfl) ?_
      refine lv_iload hx hb dX6_become_54 (lv_at hl 2 rfl) ?_
      refine lv_icmp_ge (tgt := 71) hx hb dX6_become_56 (by decide) (fun _ => ?_) (fun h9 => absurd (nI_le (by omega) (by omega)) h9)
      rw [e9] at hl
      exact kk _ (lv_sub hl [1, 2, 3, 4, 5, 6] rfl)
set_option maxHeartbeats 4000000 in
set_option maxRecDepth 100000 in
theorem l_bec (l : Launch) (D : va_G) (yc : Nat → ClassId) (e0 : Nat) (r : Nat) (x : Nat) (cp : Nat) (xs : List Int64) (f : Nat → Int64) (sz : Nat) (r2 : Nat) (x2 : Nat) (cq : Nat) (ys : List Int64) (g : Nat → Int64) (i1 : Int32) (hle : xs.length ≤ cp) (hcp : cp ≤ 8388608) (hf : RC (cp, xs) f) (hle2 : ys.length ≤ cq) (hcq : cq ≤ 8388608) (hg : RC (cq, ys) g) (hw : ys.length - zfrom i1 ys.length ≤ cp) : Met l yX6_become (ws_ yX6_become cX6_become 7 none) { frames := 1, cells := 0, slots := 0, locals := 40 } (PR D yc e0 [(r, .inr (5, [.ref x, .int (nI xs.length)])), (x, .inl (yc 1, cp, .inr (.inl f))), (r2, .inr (5, [.ref x2, .int (nI ys.length)])), (x2, .inl (yc 1, cq, .inr (.inl g)))] sz [.ref r, .ref r2, .int i1]) ((fun A => RQ D yc A r (RW yc r2 x2 cq ys.length g) (cp, ys.drop (zfrom i1 ys.length))) (va_A [(r, .inr (5, [.ref x, .int (nI xs.length)])), (x, .inl (yc 1, cp, .inr (.inl f))), (r2, .inr (5, [.ref x2, .int (nI ys.length)])), (x2, .inl (yc 1, cq, .inr (.inl g)))] sz)) 0 0 (va_A [(r, .inr (5, [.ref x, .int (nI xs.length)])), (x, .inl (yc 1, cp, .inr (.inl f))), (r2, .inr (5, [.ref x2, .int (nI ys.length)])), (x2, .inl (yc 1, cq, .inr (.inl g)))] sz) := by
  refine zk_M (y := yX6_become) (cc := cX6_become) (maxL := 7) (w := [(r, .inr (5, [.ref x, .int (nI xs.length)])), (x, .inl (yc 1, cp, .inr (.inl f))), (r2, .inr (5, [.ref x2, .int (nI ys.length)])), (x2, .inl (yc 1, cq, .inr (.inl g)))]) (av := [.ref r, .ref r2, .int i1]) (Qc := (fun A => RQ D yc A r (RW yc r2 x2 cq ys.length g) (cp, ys.drop (zfrom i1 ys.length)))) (by decide) (Nat.le_of_ble_eq_true rfl) ?_
  intro p e s m args below meth c A ls hx hb hml hr hlk hown hnm hts hP hD hS hA hC hl
  have hK := hC.1
  have hN := hC.2.1
  have hl : lv_has ls 7 [(0, .ref r), (1, .ref r2), (2, .int i1)] := hl
  have hfr := (zfrom_ok i1 (n := ys.length) (by omega)).2
  refine lv_iconst (v := 0) hx hb dX6_become_0 (by decide) ?_
  refine lv_iload_n hx hb dX6_become_1 rfl (lv_at hl 2 rfl) ?_
  refine lv_aload_n hx hb dX6_become_2 rfl (lv_at hl 1 rfl) ?_
  refine va_get (D := D) (ci := 5) (v := .int (nI ys.length)) (C := RX6) (T := TX6) (N := 2) hx hb hts iX6 hown hK hP 2 rfl rfl 1 (by decide) (hts _ wq914) (fun _ h9 => h9) rfl dX6_become_3 ?_
  refine va_mmin hx hb (by rw [hml]; exact hl.1.symm) hown (hts _ wq373) (hts _ wq300) (hts _ wq14) (hts _ wq301) (Nat.le_of_ble_eq_true rfl) (Nat.le_of_ble_eq_true rfl) (by first | exact (Nat.le_of_ble_eq_true rfl) | exact Nat.zero_le _ | omega | (dsimp only; omega)) (by first | exact (Nat.le_of_ble_eq_true rfl) | exact Nat.zero_le _ | omega | (dsimp only; omega)) dX6_become_6 ?_
  refine zk_ti (y := zmin i1 (nI ys.length)) rfl ?_
  refine va_mmax hx hb (by rw [hml]; exact hl.1.symm) hown (hts _ wq374) (hts _ wq375) (hts _ wq14) (hts _ wq376) (Nat.le_of_ble_eq_true rfl) (Nat.le_of_ble_eq_true rfl) (by first | exact (Nat.le_of_ble_eq_true rfl) | exact Nat.zero_le _ | omega | (dsimp only; omega)) (by first | exact (Nat.le_of_ble_eq_true rfl) | exact Nat.zero_le _ | omega | (dsimp only; omega)) dX6_become_9 ?_
  refine zk_ti (y := zmax 0 (zmin i1 (nI ys.length))) rfl ?_
  refine zk_ti (y := nI (zfrom i1 ys.length)) (zfrom_ok i1 (by omega)).1 ?_
  refine lv_istore_n (lv' := [(3, .int (nI (zfrom i1 ys.length))), (0, .ref r), (1, .ref r2), (2, .int i1)]) hx hb dX6_become_12 rfl hl (by decide) rfl (fun ls hl => ?_)
  refine lv_aload_n hx hb dX6_become_13 rfl (lv_at hl 2 rfl) ?_
  refine va_get (D := D) (ci := 5) (v := .int (nI ys.length)) (C := RX6) (T := TX6) (N := 2) hx hb hts iX6 hown hK hP 2 rfl rfl 1 (by decide) (hts _ wq914) (fun _ h9 => h9) rfl dX6_become_14 ?_
  refine lv_iload_n hx hb dX6_become_17 rfl (lv_at hl 0 rfl) ?_
  refine lv_isub hx hb dX6_become_18 ?_
  refine zk_ti (y := nI (ys.length - (zfrom i1 ys.length))) (pk_sub (by omega)) ?_
  refine lv_istore (lv' := [(4, .int (nI (ys.length - (zfrom i1 ys.length)))), (3, .int (nI (zfrom i1 ys.length))), (0, .ref r), (1, .ref r2), (2, .int i1)]) hx hb dX6_become_19 hl (by decide) rfl (fun ls hl => ?_)
  refine lv_iload hx hb dX6_become_21 (lv_at hl 0 rfl) ?_
  refine lv_aload_n hx hb dX6_become_23 rfl (lv_at hl 2 rfl) ?_
  refine va_get (D := D) (ci := 5) (v := .ref x) (C := RX6) (T := TX6) (N := 2) hx hb hts iX6 hown hK hP 0 rfl rfl 0 (by decide) (hts _ wq913) (fun _ h9 => h9) rfl dX6_become_24 ?_
  refine va_alen hx hb hK hP 1 1 rfl rfl (v := nI cp) rfl dX6_become_27 ?_
  refine lv_icmp_le (tgt := 79) hx hb dX6_become_28 (by decide) (fun _ => ?_) (fun h9 => absurd (nI_le (by omega) (by omega)) h9)
  refine lv_iload hx hb dX6_become_79 (lv_at hl 0 rfl) ?_
  refine lv_aload_n hx hb dX6_become_81 rfl (lv_at hl 2 rfl) ?_
  refine va_get (D := D) (ci := 5) (v := .ref x) (C := RX6) (T := TX6) (N := 2) hx hb hts iX6 hown hK hP 0 rfl rfl 0 (by decide) (hts _ wq913) (fun _ h9 => h9) rfl dX6_become_82 ?_
  refine va_alen hx hb hK hP 1 1 rfl rfl (v := nI cp) rfl dX6_become_85 ?_
  refine lv_icmp_gt (tgt := 122) hx hb dX6_become_86 (by decide) (fun h9 => absurd h9 (nI_nlt (by omega) (by omega))) (fun _ => ?_)
  refine lv_aload_n hx hb dX6_become_89 rfl (lv_at hl 3 rfl) ?_
  refine va_get (D := D) (ci := 5) (v := .int (nI ys.length)) (C := RX6) (T := TX6) (N := 2) hx hb hts iX6 hown hK hP 2 rfl rfl 1 (by decide) (hts _ wq914) (fun _ h9 => h9) rfl dX6_become_90 ?_
  refine lv_aload_n hx hb dX6_become_93 rfl (lv_at hl 3 rfl) ?_
  refine va_get (D := D) (ci := 5) (v := .ref x2) (C := RX6) (T := TX6) (N := 2) hx hb hts iX6 hown hK hP 2 rfl rfl 0 (by decide) (hts _ wq913) (fun _ h9 => h9) rfl dX6_become_94 ?_
  refine va_alen hx hb hK hP 3 1 rfl rfl (v := nI cq) rfl dX6_become_97 ?_
  refine lv_icmp_gt (tgt := 122) hx hb dX6_become_98 (by decide) (fun h9 => absurd h9 (nI_nlt (by omega) (by omega))) (fun _ => ?_)
  refine lv_aload_n hx hb dX6_become_101 rfl (lv_at hl 3 rfl) ?_
  refine va_get (D := D) (ci := 5) (v := .ref x2) (C := RX6) (T := TX6) (N := 2) hx hb hts iX6 hown hK hP 2 rfl rfl 0 (by decide) (hts _ wq913) (fun _ h9 => h9) rfl dX6_become_102 ?_
  refine lv_iload_n hx hb dX6_become_105 rfl (lv_at hl 1 rfl) ?_
  refine lv_aload_n hx hb dX6_become_106 rfl (lv_at hl 2 rfl) ?_
  refine va_get (D := D) (ci := 5) (v := .ref x) (C := RX6) (T := TX6) (N := 2) hx hb hts iX6 hown hK hP 0 rfl rfl 0 (by decide) (hts _ wq913) (fun _ h9 => h9) rfl dX6_become_107 ?_
  refine lv_iconst (v := 0) hx hb dX6_become_110 (by decide) ?_
  refine lv_iload hx hb dX6_become_111 (lv_at hl 0 rfl) ?_
  refine va_copyl (ty := .long) hx hb (by rw [hml]; exact hl.1.symm) hown (hts _ wq325) (hts _ wq327) (hts _ wq326) (hts _ wq20) hK hP hD hS 3 1 1 1 rfl rfl rfl rfl rfl (nI_pos (by omega)) (by decide) (nI_pos (by omega)) (by rw [nI_clamp (by omega), nI_clamp (by omega)]; omega) (by rw [zc0, nI_clamp (by omega)]; omega) (fun _ _ => rfl) (Nat.le_of_ble_eq_true rfl) (Nat.le_of_ble_eq_true rfl) dX6_become_113 (fun H locs hP hD hS => ?_)
  have hP : va_P D vwCl [(r, .inr (5, [.ref x, .int (nI xs.length)])), (x, .inl (yc 1, cp, .inr (.inl (va_cpy g f (nI (zfrom i1 ys.length) : Int32).toNatClampNeg (0 : Int32).toNatClampNeg (nI (ys.length - (zfrom i1 ys.length)) : Int32).toNatClampNeg)))), (r2, .inr (5, [.ref x2, .int (nI ys.length)])), (x2, .inl (yc 1, cq, .inr (.inl g)))] H := hP
  have hD : va_D A [(r, .inr (5, [.ref x, .int (nI xs.length)])), (x, .inl (yc 1, cp, .inr (.inl (va_cpy g f (nI (zfrom i1 ys.length) : Int32).toNatClampNeg (0 : Int32).toNatClampNeg (nI (ys.length - (zfrom i1 ys.length)) : Int32).toNatClampNeg)))), (r2, .inr (5, [.ref x2, .int (nI ys.length)])), (x2, .inl (yc 1, cq, .inr (.inl g)))] := hD
  refine lv_aload_n hx hb dX6_become_116 rfl (lv_at hl 2 rfl) ?_
  refine lv_iload hx hb dX6_become_117 (lv_at hl 0 rfl) ?_
  refine va_put (D := D) (ci := 5) (v := .int (nI (ys.length - (zfrom i1 ys.length)))) (ty := .int) (C := RX6) (T := TX6) (N := 2) hx hb hts iX6 tyX6 tyX6_ok nmX6 hown hK hP hD hS 0 rfl rfl 1 (by decide) (hts _ wq914) (fun _ h9 => h9) rfl (by decide +kernel) rfl rfl (Nat.le_of_ble_eq_true rfl) dX6_become_119 (fun H locs hP hD hS => ?_)
  have hP : va_P D vwCl [(r, .inr (5, [.ref x, .int (nI (ys.length - (zfrom i1 ys.length)))])), (x, .inl (yc 1, cp, .inr (.inl (va_cpy g f (nI (zfrom i1 ys.length) : Int32).toNatClampNeg (0 : Int32).toNatClampNeg (nI (ys.length - (zfrom i1 ys.length)) : Int32).toNatClampNeg)))), (r2, .inr (5, [.ref x2, .int (nI ys.length)])), (x2, .inl (yc 1, cq, .inr (.inl g)))] H := hP
  have hD : va_D A [(r, .inr (5, [.ref x, .int (nI (ys.length - (zfrom i1 ys.length)))])), (x, .inl (yc 1, cp, .inr (.inl (va_cpy g f (nI (zfrom i1 ys.length) : Int32).toNatClampNeg (0 : Int32).toNatClampNeg (nI (ys.length - (zfrom i1 ys.length)) : Int32).toNatClampNeg)))), (r2, .inr (5, [.ref x2, .int (nI ys.length)])), (x2, .inl (yc 1, cq, .inr (.inl g)))] := hD
  exact te_row hx hb hr hlk hP hD hS x (va_cpy g f (nI (zfrom i1 ys.length) : Int32).toNatClampNeg (0 : Int32).toNatClampNeg (nI (ys.length - (zfrom i1 ys.length)) : Int32).toNatClampNeg) (ys.length - (zfrom i1 ys.length)) List.length_drop (rc_bec hg hfr (by omega)) [0, 1, 2, 3] rfl rfl (by first | exact (Nat.le_of_ble_eq_true rfl) | exact Nat.zero_le _ | omega | (dsimp only; omega)) (by first | exact (Nat.le_of_ble_eq_true rfl) | exact Nat.zero_le _ | omega | (dsimp only; omega)) dX6_become_122
set_option maxHeartbeats 4000000 in
set_option maxRecDepth 100000 in
theorem l_becG (l : Launch) (D : va_G) (yc : Nat → ClassId) (e0 : Nat) (r : Nat) (x : Nat) (cp : Nat) (xs : List Int64) (f : Nat → Int64) (sz : Nat) (r2 : Nat) (x2 : Nat) (cq : Nat) (ys : List Int64) (g : Nat → Int64) (i1 : Int32) (rm : Nat) (hle : xs.length ≤ cp) (hcp : cp ≤ 8388608) (hf : RC (cp, xs) f) (hle2 : ys.length ≤ cq) (hcq : cq ≤ 8388608) (hg : RC (cq, ys) g) (hw : cp < ys.length - zfrom i1 ys.length) (hrm : zroom 30 8 (ys.length - zfrom i1 ys.length) = rm) : Met l yX6_become (ws_ yX6_become cX6_become 7 none) { frames := 1, cells := 1, slots := rm, locals := 40 } (PR D yc e0 [(r, .inr (5, [.ref x, .int (nI xs.length)])), (x, .inl (yc 1, cp, .inr (.inl f))), (r2, .inr (5, [.ref x2, .int (nI ys.length)])), (x2, .inl (yc 1, cq, .inr (.inl g)))] sz [.ref r, .ref r2, .int i1]) ((fun A => RQ D yc A r (RW yc r2 x2 cq ys.length g) (rm, ys.drop (zfrom i1 ys.length))) (va_A [(r, .inr (5, [.ref x, .int (nI xs.length)])), (x, .inl (yc 1, cp, .inr (.inl f))), (r2, .inr (5, [.ref x2, .int (nI ys.length)])), (x2, .inl (yc 1, cq, .inr (.inl g)))] sz)) 1 rm (va_A [(r, .inr (5, [.ref x, .int (nI xs.length)])), (x, .inl (yc 1, cp, .inr (.inl f))), (r2, .inr (5, [.ref x2, .int (nI ys.length)])), (x2, .inl (yc 1, cq, .inr (.inl g)))] sz) := by
  refine zk_M (y := yX6_become) (cc := cX6_become) (maxL := 7) (w := [(r, .inr (5, [.ref x, .int (nI xs.length)])), (x, .inl (yc 1, cp, .inr (.inl f))), (r2, .inr (5, [.ref x2, .int (nI ys.length)])), (x2, .inl (yc 1, cq, .inr (.inl g)))]) (av := [.ref r, .ref r2, .int i1]) (Qc := (fun A => RQ D yc A r (RW yc r2 x2 cq ys.length g) (rm, ys.drop (zfrom i1 ys.length)))) (by decide) (Nat.le_of_ble_eq_true rfl) ?_
  intro p e s m args below meth c A ls hx hb hml hr hlk hown hnm hts hP hD hS hA hC hl
  have hK := hC.1
  have hN := hC.2.1
  have hl : lv_has ls 7 [(0, .ref r), (1, .ref r2), (2, .int i1)] := hl
  have hfr := (zfrom_ok i1 (n := ys.length) (by omega)).2
  have hz9 := zroom_ok 30 0 (ys.length - zfrom i1 ys.length) rfl (by omega) (by omega)
  rw [show zroom 30 (8 * 2 ^ 0) (ys.length - zfrom i1 ys.length) = rm from hrm] at hz9
  have hz5 := hz9.2.1.le
  have hz6 := hz9.1
  refine lv_iconst (v := 0) hx hb dX6_become_0 (by decide) ?_
  refine lv_iload_n hx hb dX6_become_1 rfl (lv_at hl 2 rfl) ?_
  refine lv_aload_n hx hb dX6_become_2 rfl (lv_at hl 1 rfl) ?_
  refine va_get (D := D) (ci := 5) (v := .int (nI ys.length)) (C := RX6) (T := TX6) (N := 2) hx hb hts iX6 hown hK hP 2 rfl rfl 1 (by decide) (hts _ wq914) (fun _ h9 => h9) rfl dX6_become_3 ?_
  refine va_mmin hx hb (by rw [hml]; exact hl.1.symm) hown (hts _ wq373) (hts _ wq300) (hts _ wq14) (hts _ wq301) (Nat.le_of_ble_eq_true rfl) (Nat.le_of_ble_eq_true rfl) (by first | exact (Nat.le_of_ble_eq_true rfl) | exact Nat.zero_le _ | omega | (dsimp only; omega)) (by first | exact (Nat.le_of_ble_eq_true rfl) | exact Nat.zero_le _ | omega | (dsimp only; omega)) dX6_become_6 ?_
  refine zk_ti (y := zmin i1 (nI ys.length)) rfl ?_
  refine va_mmax hx hb (by rw [hml]; exact hl.1.symm) hown (hts _ wq374) (hts _ wq375) (hts _ wq14) (hts _ wq376) (Nat.le_of_ble_eq_true rfl) (Nat.le_of_ble_eq_true rfl) (by first | exact (Nat.le_of_ble_eq_true rfl) | exact Nat.zero_le _ | omega | (dsimp only; omega)) (by first | exact (Nat.le_of_ble_eq_true rfl) | exact Nat.zero_le _ | omega | (dsimp only; omega)) dX6_become_9 ?_
  refine zk_ti (y := zmax 0 (zmin i1 (nI ys.length))) rfl ?_
  refine zk_ti (y := nI (zfrom i1 ys.length)) (zfrom_ok i1 (by omega)).1 ?_
  refine lv_istore_n (lv' := [(3, .int (nI (zfrom i1 ys.length))), (0, .ref r), (1, .ref r2), (2, .int i1)]) hx hb dX6_become_12 rfl hl (by decide) rfl (fun ls hl => ?_)
  refine lv_aload_n hx hb dX6_become_13 rfl (lv_at hl 2 rfl) ?_
  refine va_get (D := D) (ci := 5) (v := .int (nI ys.length)) (C := RX6) (T := TX6) (N := 2) hx hb hts iX6 hown hK hP 2 rfl rfl 1 (by decide) (hts _ wq914) (fun _ h9 => h9) rfl dX6_become_14 ?_
  refine lv_iload_n hx hb dX6_become_17 rfl (lv_at hl 0 rfl) ?_
  refine lv_isub hx hb dX6_become_18 ?_
  refine zk_ti (y := nI (ys.length - (zfrom i1 ys.length))) (pk_sub (by omega)) ?_
  refine lv_istore (lv' := [(4, .int (nI (ys.length - (zfrom i1 ys.length)))), (3, .int (nI (zfrom i1 ys.length))), (0, .ref r), (1, .ref r2), (2, .int i1)]) hx hb dX6_become_19 hl (by decide) rfl (fun ls hl => ?_)
  refine lv_iload hx hb dX6_become_21 (lv_at hl 0 rfl) ?_
  refine lv_aload_n hx hb dX6_become_23 rfl (lv_at hl 2 rfl) ?_
  refine va_get (D := D) (ci := 5) (v := .ref x) (C := RX6) (T := TX6) (N := 2) hx hb hts iX6 hown hK hP 0 rfl rfl 0 (by decide) (hts _ wq913) (fun _ h9 => h9) rfl dX6_become_24 ?_
  refine va_alen hx hb hK hP 1 1 rfl rfl (v := nI cp) rfl dX6_become_27 ?_
  refine lv_icmp_le (tgt := 79) hx hb dX6_become_28 (by decide) (fun h9 => absurd h9 (nI_ge (by omega) (by omega))) (fun _ => ?_)
  refine lv_iload hx hb dX6_become_31 (lv_at hl 0 rfl) ?_
  refine lv_ldc hx hb hown (hts _ wq348) dX6_become_33 ?_
  refine lv_icmp_gt (tgt := 79) hx hb dX6_become_35 (by decide) (fun h9 => absurd h9 (show ¬ nI 8388608 < nI _ from nI_nlt (by omega) (by omega))) (fun _ => ?_)
  refine lv_bipush (v := 8) hx hb dX6_become_38 (by decide) ?_
  refine lv_istore (lv' := [(5, .int 8), (4, .int (nI (ys.length - (zfrom i1 ys.length)))), (3, .int (nI (zfrom i1 ys.length))), (0, .ref r), (1, .ref r2), (2, .int i1)]) hx hb dX6_become_40 hl (by decide) rfl (fun ls hl => ?_)
  refine lv_iconst (v := 0) hx hb dX6_become_42 (by decide) ?_
  refine lv_istore (lv' := [(6, .int 0), (5, .int 8), (4, .int (nI (ys.length - (zfrom i1 ys.length)))), (3, .int (nI (zfrom i1 ys.length))), (0, .ref r), (1, .ref r2), (2, .int i1)]) hx hb dX6_become_43 hl (by decide) rfl (fun ls hl => ?_)
  refine lp_room hx hb hown hts (ys.length - zfrom i1 ys.length) r r2 rm (nI (zfrom i1 ys.length)) i1 (by omega) (fun ls hl => ?_) 30 0 ls rfl (by omega) hrm (lv_sub hl [0, 1, 2, 3, 4, 5, 6] rfl)
  refine lv_aload_n hx hb dX6_become_71 rfl (lv_at hl 3 rfl) ?_
  refine lv_iload hx hb dX6_become_72 (lv_at hl 0 rfl) ?_
  refine va_newa (atype := .long) (a0 := (rm, .inr (.inl (fun _ => 0)))) hx hb (hts _ wq587) rfl hK hP hD hS hA (fun cA => rfl) (nI_pos (by omega)) (N' := rm) (nI_clamp (by omega)) (by show rm * 8 ≤ 536870912; omega) (by show 0 + 1 ≤ 1; omega) (by show 0 + rm ≤ rm; omega) dX6_become_74 (fun q1 cA H hK1 hP hD hS => ?_)
  obtain rfl : cA = yc 1 := zk_same hK1 3 1 rfl rfl
  have hP : va_P D vwCl [(r, .inr (5, [.ref x, .int (nI xs.length)])), (x, .inl (yc 1, cp, .inr (.inl f))), (r2, .inr (5, [.ref x2, .int (nI ys.length)])), (x2, .inl (yc 1, cq, .inr (.inl g))), (q1, .inl (yc 1, rm, .inr (.inl (fun _ => 0))))] H := hP
  have hD : va_D A [(r, .inr (5, [.ref x, .int (nI xs.length)])), (x, .inl (yc 1, cp, .inr (.inl f))), (r2, .inr (5, [.ref x2, .int (nI ys.length)])), (x2, .inl (yc 1, cq, .inr (.inl g))), (q1, .inl (yc 1, rm, .inr (.inl (fun _ => 0))))] := hD
  refine va_put (D := D) (ci := 5) (v := .ref q1) (ty := (.array .long)) (C := RX6) (T := TX6) (N := 2) hx hb hts iX6 tyX6 tyX6_ok nmX6 hown hK hP hD hS 0 rfl rfl 0 (by decide) (hts _ wq913) (fun _ h9 => h9) rfl (by decide +kernel) rfl rfl (Nat.le_of_ble_eq_true rfl) dX6_become_76 (fun H locs hP hD hS => ?_)
  have hP : va_P D vwCl [(r, .inr (5, [.ref q1, .int (nI xs.length)])), (x, .inl (yc 1, cp, .inr (.inl f))), (r2, .inr (5, [.ref x2, .int (nI ys.length)])), (x2, .inl (yc 1, cq, .inr (.inl g))), (q1, .inl (yc 1, rm, .inr (.inl (fun _ => 0))))] H := hP
  have hD : va_D A [(r, .inr (5, [.ref q1, .int (nI xs.length)])), (x, .inl (yc 1, cp, .inr (.inl f))), (r2, .inr (5, [.ref x2, .int (nI ys.length)])), (x2, .inl (yc 1, cq, .inr (.inl g))), (q1, .inl (yc 1, rm, .inr (.inl (fun _ => 0))))] := hD
  refine lv_iload hx hb dX6_become_79 (lv_at hl 1 rfl) ?_
  refine lv_aload_n hx hb dX6_become_81 rfl (lv_at hl 3 rfl) ?_
  refine va_get (D := D) (ci := 5) (v := .ref q1) (C := RX6) (T := TX6) (N := 2) hx hb hts iX6 hown hK hP 0 rfl rfl 0 (by decide) (hts _ wq913) (fun _ h9 => h9) rfl dX6_become_82 ?_
  refine va_alen hx hb hK hP 4 1 rfl rfl (v := nI rm) rfl dX6_become_85 ?_
  refine lv_icmp_gt (tgt := 122) hx hb dX6_become_86 (by decide) (fun h9 => absurd h9 (nI_nlt (by omega) (by omega))) (fun _ => ?_)
  refine lv_aload_n hx hb dX6_become_89 rfl (lv_at hl 4 rfl) ?_
  refine va_get (D := D) (ci := 5) (v := .int (nI ys.length)) (C := RX6) (T := TX6) (N := 2) hx hb hts iX6 hown hK hP 2 rfl rfl 1 (by decide) (hts _ wq914) (fun _ h9 => h9) rfl dX6_become_90 ?_
  refine lv_aload_n hx hb dX6_become_93 rfl (lv_at hl 4 rfl) ?_
  refine va_get (D := D) (ci := 5) (v := .ref x2) (C := RX6) (T := TX6) (N := 2) hx hb hts iX6 hown hK hP 2 rfl rfl 0 (by decide) (hts _ wq913) (fun _ h9 => h9) rfl dX6_become_94 ?_
  refine va_alen hx hb hK hP 3 1 rfl rfl (v := nI cq) rfl dX6_become_97 ?_
  refine lv_icmp_gt (tgt := 122) hx hb dX6_become_98 (by decide) (fun h9 => absurd h9 (nI_nlt (by omega) (by omega))) (fun _ => ?_)
  refine lv_aload_n hx hb dX6_become_101 rfl (lv_at hl 4 rfl) ?_
  refine va_get (D := D) (ci := 5) (v := .ref x2) (C := RX6) (T := TX6) (N := 2) hx hb hts iX6 hown hK hP 2 rfl rfl 0 (by decide) (hts _ wq913) (fun _ h9 => h9) rfl dX6_become_102 ?_
  refine lv_iload_n hx hb dX6_become_105 rfl (lv_at hl 2 rfl) ?_
  refine lv_aload_n hx hb dX6_become_106 rfl (lv_at hl 3 rfl) ?_
  refine va_get (D := D) (ci := 5) (v := .ref q1) (C := RX6) (T := TX6) (N := 2) hx hb hts iX6 hown hK hP 0 rfl rfl 0 (by decide) (hts _ wq913) (fun _ h9 => h9) rfl dX6_become_107 ?_
  refine lv_iconst (v := 0) hx hb dX6_become_110 (by decide) ?_
  refine lv_iload hx hb dX6_become_111 (lv_at hl 1 rfl) ?_
  refine va_copyl (ty := .long) hx hb (by rw [hml]; exact hl.1.symm) hown (hts _ wq325) (hts _ wq327) (hts _ wq326) (hts _ wq20) hK hP hD hS 3 4 1 1 rfl rfl rfl rfl rfl (nI_pos (by omega)) (by decide) (nI_pos (by omega)) (by rw [nI_clamp (by omega), nI_clamp (by omega)]; omega) (by rw [zc0, nI_clamp (by omega)]; omega) (fun _ _ => rfl) (Nat.le_of_ble_eq_true rfl) (Nat.le_of_ble_eq_true rfl) dX6_become_113 (fun H locs hP hD hS => ?_)
  have hP : va_P D vwCl [(r, .inr (5, [.ref q1, .int (nI xs.length)])), (x, .inl (yc 1, cp, .inr (.inl f))), (r2, .inr (5, [.ref x2, .int (nI ys.length)])), (x2, .inl (yc 1, cq, .inr (.inl g))), (q1, .inl (yc 1, rm, .inr (.inl (va_cpy g (fun _ => 0) (nI (zfrom i1 ys.length) : Int32).toNatClampNeg (0 : Int32).toNatClampNeg (nI (ys.length - (zfrom i1 ys.length)) : Int32).toNatClampNeg))))] H := hP
  have hD : va_D A [(r, .inr (5, [.ref q1, .int (nI xs.length)])), (x, .inl (yc 1, cp, .inr (.inl f))), (r2, .inr (5, [.ref x2, .int (nI ys.length)])), (x2, .inl (yc 1, cq, .inr (.inl g))), (q1, .inl (yc 1, rm, .inr (.inl (va_cpy g (fun _ => 0) (nI (zfrom i1 ys.length) : Int32).toNatClampNeg (0 : Int32).toNatClampNeg (nI (ys.length - (zfrom i1 ys.length)) : Int32).toNatClampNeg))))] := hD
  refine lv_aload_n hx hb dX6_become_116 rfl (lv_at hl 3 rfl) ?_
  refine lv_iload hx hb dX6_become_117 (lv_at hl 1 rfl) ?_
  refine va_put (D := D) (ci := 5) (v := .int (nI (ys.length - (zfrom i1 ys.length)))) (ty := .int) (C := RX6) (T := TX6) (N := 2) hx hb hts iX6 tyX6 tyX6_ok nmX6 hown hK hP hD hS 0 rfl rfl 1 (by decide) (hts _ wq914) (fun _ h9 => h9) rfl (by decide +kernel) rfl rfl (Nat.le_of_ble_eq_true rfl) dX6_become_119 (fun H locs hP hD hS => ?_)
  have hP : va_P D vwCl [(r, .inr (5, [.ref q1, .int (nI (ys.length - (zfrom i1 ys.length)))])), (x, .inl (yc 1, cp, .inr (.inl f))), (r2, .inr (5, [.ref x2, .int (nI ys.length)])), (x2, .inl (yc 1, cq, .inr (.inl g))), (q1, .inl (yc 1, rm, .inr (.inl (va_cpy g (fun _ => 0) (nI (zfrom i1 ys.length) : Int32).toNatClampNeg (0 : Int32).toNatClampNeg (nI (ys.length - (zfrom i1 ys.length)) : Int32).toNatClampNeg))))] H := hP
  have hD : va_D A [(r, .inr (5, [.ref q1, .int (nI (ys.length - (zfrom i1 ys.length)))])), (x, .inl (yc 1, cp, .inr (.inl f))), (r2, .inr (5, [.ref x2, .int (nI ys.length)])), (x2, .inl (yc 1, cq, .inr (.inl g))), (q1, .inl (yc 1, rm, .inr (.inl (va_cpy g (fun _ => 0) (nI (zfrom i1 ys.length) : Int32).toNatClampNeg (0 : Int32).toNatClampNeg (nI (ys.length - (zfrom i1 ys.length)) : Int32).toNatClampNeg))))] := hD
  exact te_row hx hb hr hlk hP hD hS q1 (va_cpy g (fun _ => 0) (nI (zfrom i1 ys.length) : Int32).toNatClampNeg (0 : Int32).toNatClampNeg (nI (ys.length - (zfrom i1 ys.length)) : Int32).toNatClampNeg) (ys.length - (zfrom i1 ys.length)) List.length_drop (rc_bec hg hfr (by omega)) [0, 4, 2, 3] rfl rfl (by first | exact (Nat.le_of_ble_eq_true rfl) | exact Nat.zero_le _ | omega | (dsimp only; omega)) (by first | exact (Nat.le_of_ble_eq_true rfl) | exact Nat.zero_le _ | omega | (dsimp only; omega)) dX6_become_122
