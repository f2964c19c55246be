set_option maxHeartbeats 8000000 in
set_option maxRecDepth 100000 in
theorem whole_start {p : Program} {e : Env} {s : State} {m : MethodId} {below : List Frame} {meth : Method} {c : Code} (l : Launch) (hflags : l.flags = flags0) {b L : Nat} {xs : Nat → Int32} (hL : L ≤ 6) (C0 : lw_At p s m meth c b L xs) : W p l e room_1 s m #[Value.ref b] below meth c s.heap [] 0 0 (lw_Z below #[Value.ref b] s) (entryFrame m ([Value.ref b] : List Value).toArray 9) := by
  have hst : l.stackTraces = false := by unfold Launch.stackTraces; rw [hflags]; decide +kernel
  obtain ⟨D, yc, e0, hC0⟩ := law_cx C0
  obtain ⟨d0, e_d⟩ : ∃ d0, d0 = s.drawn := ⟨_, rfl⟩
  have hd0 : s.drawn.sameBut d0 lw_cs := by rw [e_d]; exact Drawn.sameBut.refl s.drawn lw_cs
  refine W.base ?_
  rw [← e_d]
  have hC : CX D yc e0 (fun q : Nat => s.heap.size ≤ q) (s.setDrawn d0) := hC0.go (H := s.heap) (locs := []) va_S.rf (fun _ h => h) rfl (show s.WarmedH s.vm from State.WarmedH.refl s)
  obtain ⟨H, hHH⟩ : ∃ H, H = s.heap := ⟨_, rfl⟩
  rw [← hHH]
  have hS : va_S (fun q : Nat => s.heap.size ≤ q) s.heap H [] := by rw [hHH]; exact va_S.rf
  obtain ⟨hx, hb, hr, hml, hown, hts0, hX, hbl, hlk, hgv⟩ := id C0
  have hts : ∀ w ∈ lw_all, w.before #[Value.ref b] (s.setDrawn d0) = true := dr_words (fun w h => hts0 w (lw_all_tbl h)) d0
  have hK := hC.1
  have hN := hC.2.1
  have hbA : ¬ (fun q : Nat => s.heap.size ≤ q) b := Nat.not_le.mpr hbl
  have hX : va_X b L xs (s.setDrawn d0) (s.setDrawn d0).heap := hX
  have hbl : b < (s.setDrawn d0).heap.size := hbl
  have hA : ∀ q : Nat, (s.setDrawn d0).heap.size ≤ q → (fun q : Nat => s.heap.size ≤ q) q := fun _ h => h
  have hS : va_S (fun q : Nat => s.heap.size ≤ q) (s.setDrawn d0).heap H [] := hS
  have hP : va_P D vwCl [] H := fun k q h => by simp at h
  have hD : va_D (fun q : Nat => s.heap.size ≤ q) [] := ⟨fun i j p q h => by simp at h, fun k q h => by simp at h⟩
  have hl := lv_entry ([.ref b]) (n := 9) (Nat.le_of_ble_eq_true rfl)
  rw [lg_entry_eq]
  generalize (lg_sl ([.ref b]) ++ List.replicate (9 - (lg_sl ([.ref b])).length) Slot.unset).toArray = ls at hl ⊢
  have hl : lv_has ls 9 [(0, .ref b)] := hl
  refine va_new (ci := 9) (fs := [.null, .null, .int 0, .int 0, .int 0]) (C := RX10) (T := TX10) (N := 5) hx hb hts iX10 tyX10 tyX10_ok hown (hts _ wq31) (hts _ wq32) (hts _ wq1) hK hP hD hS hA rfl dfX10 (Nat.le_of_ble_eq_true rfl) (Nat.le_of_ble_eq_true rfl) dL_law_0 (fun q1 H hP hD hS => ?_)
  have hP : va_P D vwCl [(q1, .inr (9, [.null, .null, .int 0, .int 0, .int 0]))] H := hP
  have hD : va_D (fun q : Nat => s.heap.size ≤ q) [(q1, .inr (9, [.null, .null, .int 0, .int 0, .int 0]))] := hD
  refine W.widen (k := 1) (n := 5) (Nat.le_of_ble_eq_true rfl) (Nat.le_of_ble_eq_true rfl) ?_
  refine lv_dup hx hb dL_law_3 rfl ?_
  refine zk_v (wr := []) (va_runI (As := []) (rest := [.ref q1]) ⟨hx, hb, hml, hown, hts⟩ (kX10_init_0 l hst D yc e0 H.size q1) (cwI 0 hts (lw_C wq35) rfl rfl rfl (hts _ wq1) (hts _ wq33) (hts _ wq34) rfl (by decide +kernel) ⟨(Nat.le_of_ble_eq_true rfl), (Nat.le_of_ble_eq_true rfl)⟩) (zk_pS hC hP hD hS hA [0] rfl rfl) rfl rfl hl.1 rfl (lv_room (Nat.le_of_ble_eq_true rfl)) dL_law_4 ⟨(Nat.le_of_ble_eq_true rfl), (Nat.le_of_ble_eq_true rfl)⟩) hP hD hS hA [0] [] rfl rfl rfl (by decide) (fun u2 H locs hP hD hS => ?_)
  have hP : va_P D vwCl [(q1, .inr (9, [.ref (u2 0 0), .ref (u2 1 0), .int 0, .int 0, .int 0])), ((u2 0 0), .inr (2, [.int 0, .ref (u2 2 0), .int 8, .int (-1), .int 0, .int 0, .int 0, .int 0])), ((u2 2 0), .inr (0, [.int 0, .ref e0, .int 0])), ((u2 1 0), .inr (2, [.int 1, .ref (u2 3 0), .int 8, .int (-1), .int 0, .int 0, .int 0, .int 0])), ((u2 3 0), .inr (0, [.int 0, .ref e0, .int 0]))] H := hP
  have hD : va_D (fun q : Nat => s.heap.size ≤ q) [(q1, .inr (9, [.ref (u2 0 0), .ref (u2 1 0), .int 0, .int 0, .int 0])), ((u2 0 0), .inr (2, [.int 0, .ref (u2 2 0), .int 8, .int (-1), .int 0, .int 0, .int 0, .int 0])), ((u2 2 0), .inr (0, [.int 0, .ref e0, .int 0])), ((u2 1 0), .inr (2, [.int 1, .ref (u2 3 0), .int 8, .int (-1), .int 0, .int 0, .int 0, .int 0])), ((u2 3 0), .inr (0, [.int 0, .ref e0, .int 0]))] := hD
  refine W.widen (k := 5) (n := 27) (Nat.le_of_ble_eq_true rfl) (Nat.le_of_ble_eq_true rfl) ?_
  refine lv_astore_n (lv' := [(1, .ref q1), (0, .ref b)]) hx hb dL_law_7 rfl hl (by decide) rfl (fun ls hl => ?_)
  refine va_new (ci := 13) (fs := [.int 0, .int 0, .null, .null, .null, .null, .null, .null, .null, .int 0, .long 0]) (C := RX14) (T := TX14) (N := 11) hx hb hts iX14 tyX14 tyX14_ok hown (hts _ wq1353) (hts _ wq1354) (hts _ wq6) hK hP hD hS hA rfl dfX14 (Nat.le_of_ble_eq_true rfl) (Nat.le_of_ble_eq_true rfl) dL_law_8 (fun q3 H hP hD hS => ?_)
  have hP : va_P D vwCl [(q1, .inr (9, [.ref (u2 0 0), .ref (u2 1 0), .int 0, .int 0, .int 0])), ((u2 0 0), .inr (2, [.int 0, .ref (u2 2 0), .int 8, .int (-1), .int 0, .int 0, .int 0, .int 0])), ((u2 2 0), .inr (0, [.int 0, .ref e0, .int 0])), ((u2 1 0), .inr (2, [.int 1, .ref (u2 3 0), .int 8, .int (-1), .int 0, .int 0, .int 0, .int 0])), ((u2 3 0), .inr (0, [.int 0, .ref e0, .int 0])), (q3, .inr (13, [.int 0, .int 0, .null, .null, .null, .null, .null, .null, .null, .int 0, .long 0]))] H := hP
  have hD : va_D (fun q : Nat => s.heap.size ≤ q) [(q1, .inr (9, [.ref (u2 0 0), .ref (u2 1 0), .int 0, .int 0, .int 0])), ((u2 0 0), .inr (2, [.int 0, .ref (u2 2 0), .int 8, .int (-1), .int 0, .int 0, .int 0, .int 0])), ((u2 2 0), .inr (0, [.int 0, .ref e0, .int 0])), ((u2 1 0), .inr (2, [.int 1, .ref (u2 3 0), .int 8, .int (-1), .int 0, .int 0, .int 0, .int 0])), ((u2 3 0), .inr (0, [.int 0, .ref e0, .int 0])), (q3, .inr (13, [.int 0, .int 0, .null, .null, .null, .null, .null, .null, .null, .int 0, .long 0]))] := hD
  refine W.widen (k := 6) (n := 38) (Nat.le_of_ble_eq_true rfl) (Nat.le_of_ble_eq_true rfl) ?_
  refine lv_dup hx hb dL_law_11 rfl ?_
  refine zk_v (wr := [(q1, .inr (9, [.ref (u2 0 0), .ref (u2 1 0), .int 0, .int 0, .int 0])), ((u2 0 0), .inr (2, [.int 0, .ref (u2 2 0), .int 8, .int (-1), .int 0, .int 0, .int 0, .int 0])), ((u2 2 0), .inr (0, [.int 0, .ref e0, .int 0])), ((u2 1 0), .inr (2, [.int 1, .ref (u2 3 0), .int 8, .int (-1), .int 0, .int 0, .int 0, .int 0])), ((u2 3 0), .inr (0, [.int 0, .ref e0, .int 0]))]) (va_runI (As := []) (rest := [.ref q3]) ⟨hx, hb, hml, hown, hts⟩ (kX14_init_0 l hst D yc e0 H.size q3) (cwI 0 hts (lw_C wq1357) rfl rfl rfl (hts _ wq6) (hts _ wq1355) (hts _ wq1356) rfl (by decide +kernel) ⟨(Nat.le_of_ble_eq_true rfl), (Nat.le_of_ble_eq_true rfl)⟩) (zk_pS hC hP hD hS hA [5] rfl rfl) rfl rfl hl.1 rfl (lv_room (Nat.le_of_ble_eq_true rfl)) dL_law_12 ⟨(Nat.le_of_ble_eq_true rfl), (Nat.le_of_ble_eq_true rfl)⟩) hP hD hS hA [5] [0, 1, 2, 3, 4] rfl rfl rfl (by decide) (fun u4 H locs hP hD hS => ?_)
  have hP : va_P D vwCl [(q1, .inr (9, [.ref (u2 0 0), .ref (u2 1 0), .int 0, .int 0, .int 0])), ((u2 0 0), .inr (2, [.int 0, .ref (u2 2 0), .int 8, .int (-1), .int 0, .int 0, .int 0, .int 0])), ((u2 2 0), .inr (0, [.int 0, .ref e0, .int 0])), ((u2 1 0), .inr (2, [.int 1, .ref (u2 3 0), .int 8, .int (-1), .int 0, .int 0, .int 0, .int 0])), ((u2 3 0), .inr (0, [.int 0, .ref e0, .int 0])), (q3, .inr (13, [.int 0, .int 0, .ref (u4 2 0), .ref (u4 3 0), .ref (u4 4 0), .ref (u4 5 0), .ref (u4 6 0), .ref (u4 7 0), .ref (u4 8 0), .int 0, .long 0])), ((u4 2 0), .inl (yc 0, 12, .inl (fun _ => 0))), ((u4 3 0), .inl (yc 6, 12, .inr (.inr (.inr (.inr (fun i => if i < 12 then some ((u4 0) i) else none)))))), (((u4 0) 0), .inl (yc 0, 2, .inl (fun _ => 0))), ((u4 4 0), .inl (yc 6, 12, .inr (.inr (.inr (.inr (fun i => if i < 12 then some ((u4 1) i) else none)))))), (((u4 1) 0), .inl (yc 0, 4, .inl (fun _ => 0))), ((u4 5 0), .inl (yc 4, 12, .inr (.inr (.inr (.inr (fun _ => none)))))), ((u4 7 0), .inr (12, [.int 8, .int (-1), .int 0, .int 0, .int 0, .int 0, .int 0, .ref (u4 9 0), .ref (u4 10 0), .ref (u4 11 0), .ref (u4 12 0), .ref (u4 13 0), .ref (u4 14 0), .ref (u4 15 0), .ref (u4 16 0), .ref (u4 17 0), .ref q3])), ((u4 8 0), .inr (12, [.int 8, .int (-1), .int 0, .int 0, .int 0, .int 0, .int 0, .ref (u4 18 0), .ref (u4 19 0), .ref (u4 20 0), .ref (u4 21 0), .ref (u4 22 0), .ref (u4 23 0), .ref (u4 24 0), .ref (u4 25 0), .ref (u4 26 0), .ref q3]))] H := hP
  have hD : va_D (fun q : Nat => s.heap.size ≤ q) [(q1, .inr (9, [.ref (u2 0 0), .ref (u2 1 0), .int 0, .int 0, .int 0])), ((u2 0 0), .inr (2, [.int 0, .ref (u2 2 0), .int 8, .int (-1), .int 0, .int 0, .int 0, .int 0])), ((u2 2 0), .inr (0, [.int 0, .ref e0, .int 0])), ((u2 1 0), .inr (2, [.int 1, .ref (u2 3 0), .int 8, .int (-1), .int 0, .int 0, .int 0, .int 0])), ((u2 3 0), .inr (0, [.int 0, .ref e0, .int 0])), (q3, .inr (13, [.int 0, .int 0, .ref (u4 2 0), .ref (u4 3 0), .ref (u4 4 0), .ref (u4 5 0), .ref (u4 6 0), .ref (u4 7 0), .ref (u4 8 0), .int 0, .long 0])), ((u4 2 0), .inl (yc 0, 12, .inl (fun _ => 0))), ((u4 3 0), .inl (yc 6, 12, .inr (.inr (.inr (.inr (fun i => if i < 12 then some ((u4 0) i) else none)))))), (((u4 0) 0), .inl (yc 0, 2, .inl (fun _ => 0))), ((u4 4 0), .inl (yc 6, 12, .inr (.inr (.inr (.inr (fun i => if i < 12 then some ((u4 1) i) else none)))))), (((u4 1) 0), .inl (yc 0, 4, .inl (fun _ => 0))), ((u4 5 0), .inl (yc 4, 12, .inr (.inr (.inr (.inr (fun _ => none)))))), ((u4 7 0), .inr (12, [.int 8, .int (-1), .int 0, .int 0, .int 0, .int 0, .int 0, .ref (u4 9 0), .ref (u4 10 0), .ref (u4 11 0), .ref (u4 12 0), .ref (u4 13 0), .ref (u4 14 0), .ref (u4 15 0), .ref (u4 16 0), .ref (u4 17 0), .ref q3])), ((u4 8 0), .inr (12, [.int 8, .int (-1), .int 0, .int 0, .int 0, .int 0, .int 0, .ref (u4 18 0), .ref (u4 19 0), .ref (u4 20 0), .ref (u4 21 0), .ref (u4 22 0), .ref (u4 23 0), .ref (u4 24 0), .ref (u4 25 0), .ref (u4 26 0), .ref q3]))] := hD
  refine W.widen (k := 751) (n := 7908) (Nat.le_of_ble_eq_true rfl) (Nat.le_of_ble_eq_true rfl) ?_
  refine lv_astore_n (lv' := [(2, .ref q3), (1, .ref q1), (0, .ref b)]) hx hb dL_law_15 rfl hl (by decide) rfl (fun ls hl => ?_)
  refine lv_iconst (v := 1) hx hb dL_law_16 (by decide) ?_
  refine va_newa (atype := .long) (a0 := (1, .inr (.inl (fun _ => 0)))) hx hb (hts _ wq585) rfl hK hP hD hS hA (fun cA => rfl) (by decide) (N' := 1) (by decide) (Nat.le_of_ble_eq_true rfl) (Nat.le_of_ble_eq_true rfl) (Nat.le_of_ble_eq_true rfl) dL_law_17 (fun q5 cA H hK1 hP hD hS => ?_)
  obtain rfl : cA = yc 1 := zk_same hK1 9 1 rfl rfl
  have hP : va_P D vwCl [(q1, .inr (9, [.ref (u2 0 0), .ref (u2 1 0), .int 0, .int 0, .int 0])), ((u2 0 0), .inr (2, [.int 0, .ref (u2 2 0), .int 8, .int (-1), .int 0, .int 0, .int 0, .int 0])), ((u2 2 0), .inr (0, [.int 0, .ref e0, .int 0])), ((u2 1 0), .inr (2, [.int 1, .ref (u2 3 0), .int 8, .int (-1), .int 0, .int 0, .int 0, .int 0])), ((u2 3 0), .inr (0, [.int 0, .ref e0, .int 0])), (q3, .inr (13, [.int 0, .int 0, .ref (u4 2 0), .ref (u4 3 0), .ref (u4 4 0), .ref (u4 5 0), .ref (u4 6 0), .ref (u4 7 0), .ref (u4 8 0), .int 0, .long 0])), ((u4 2 0), .inl (yc 0, 12, .inl (fun _ => 0))), ((u4 3 0), .inl (yc 6, 12, .inr (.inr (.inr (.inr (fun i => if i < 12 then some ((u4 0) i) else none)))))), (((u4 0) 0), .inl (yc 0, 2, .inl (fun _ => 0))), ((u4 4 0), .inl (yc 6, 12, .inr (.inr (.inr (.inr (fun i => if i < 12 then some ((u4 1) i) else none)))))), (((u4 1) 0), .inl (yc 0, 4, .inl (fun _ => 0))), ((u4 5 0), .inl (yc 4, 12, .inr (.inr (.inr (.inr (fun _ => none)))))), ((u4 7 0), .inr (12, [.int 8, .int (-1), .int 0, .int 0, .int 0, .int 0, .int 0, .ref (u4 9 0), .ref (u4 10 0), .ref (u4 11 0), .ref (u4 12 0), .ref (u4 13 0), .ref (u4 14 0), .ref (u4 15 0), .ref (u4 16 0), .ref (u4 17 0), .ref q3])), ((u4 8 0), .inr (12, [.int 8, .int (-1), .int 0, .int 0, .int 0, .int 0, .int 0, .ref (u4 18 0), .ref (u4 19 0), .ref (u4 20 0), .ref (u4 21 0), .ref (u4 22 0), .ref (u4 23 0), .ref (u4 24 0), .ref (u4 25 0), .ref (u4 26 0), .ref q3])), (q5, .inl (yc 1, 1, .inr (.inl (fun _ => 0))))] H := hP
  have hD : va_D (fun q : Nat => s.heap.size ≤ q) [(q1, .inr (9, [.ref (u2 0 0), .ref (u2 1 0), .int 0, .int 0, .int 0])), ((u2 0 0), .inr (2, [.int 0, .ref (u2 2 0), .int 8, .int (-1), .int 0, .int 0, .int 0, .int 0])), ((u2 2 0), .inr (0, [.int 0, .ref e0, .int 0])), ((u2 1 0), .inr (2, [.int 1, .ref (u2 3 0), .int 8, .int (-1), .int 0, .int 0, .int 0, .int 0])), ((u2 3 0), .inr (0, [.int 0, .ref e0, .int 0])), (q3, .inr (13, [.int 0, .int 0, .ref (u4 2 0), .ref (u4 3 0), .ref (u4 4 0), .ref (u4 5 0), .ref (u4 6 0), .ref (u4 7 0), .ref (u4 8 0), .int 0, .long 0])), ((u4 2 0), .inl (yc 0, 12, .inl (fun _ => 0))), ((u4 3 0), .inl (yc 6, 12, .inr (.inr (.inr (.inr (fun i => if i < 12 then some ((u4 0) i) else none)))))), (((u4 0) 0), .inl (yc 0, 2, .inl (fun _ => 0))), ((u4 4 0), .inl (yc 6, 12, .inr (.inr (.inr (.inr (fun i => if i < 12 then some ((u4 1) i) else none)))))), (((u4 1) 0), .inl (yc 0, 4, .inl (fun _ => 0))), ((u4 5 0), .inl (yc 4, 12, .inr (.inr (.inr (.inr (fun _ => none)))))), ((u4 7 0), .inr (12, [.int 8, .int (-1), .int 0, .int 0, .int 0, .int 0, .int 0, .ref (u4 9 0), .ref (u4 10 0), .ref (u4 11 0), .ref (u4 12 0), .ref (u4 13 0), .ref (u4 14 0), .ref (u4 15 0), .ref (u4 16 0), .ref (u4 17 0), .ref q3])), ((u4 8 0), .inr (12, [.int 8, .int (-1), .int 0, .int 0, .int 0, .int 0, .int 0, .ref (u4 18 0), .ref (u4 19 0), .ref (u4 20 0), .ref (u4 21 0), .ref (u4 22 0), .ref (u4 23 0), .ref (u4 24 0), .ref (u4 25 0), .ref (u4 26 0), .ref q3])), (q5, .inl (yc 1, 1, .inr (.inl (fun _ => 0))))] := hD
  refine W.widen (k := 752) (n := 7909) (Nat.le_of_ble_eq_true rfl) (Nat.le_of_ble_eq_true rfl) ?_
  refine lv_astore_n (lv' := [(3, .ref q5), (2, .ref q3), (1, .ref q1), (0, .ref b)]) hx hb dL_law_19 rfl hl (by decide) rfl (fun ls hl => ?_)
  refine lv_iconst (v := 0) hx hb dL_law_20 (by decide) ?_
  refine lv_istore (lv' := [(4, .int 0), (3, .ref q5), (2, .ref q3), (1, .ref q1), (0, .ref b)]) hx hb dL_law_21 hl (by decide) rfl (fun ls hl => ?_)
  rcases (show L = 6 ∨ L = 0 ∨ L = 1 ∨ L = 2 ∨ L = 3 ∨ L = 4 ∨ L = 5 by omega) with rfl | rfl | rfl | rfl | rfl | rfl | rfl
  rotate_left
  · exact law_out C0 hd0 (by decide) (Nat.le_of_ble_eq_true rfl) (Nat.le_of_ble_eq_true rfl) hS (lv_sub hl [0, 4] rfl)
  · exact law_out C0 hd0 (by decide) (Nat.le_of_ble_eq_true rfl) (Nat.le_of_ble_eq_true rfl) hS (lv_sub hl [0, 4] rfl)
  · exact law_out C0 hd0 (by decide) (Nat.le_of_ble_eq_true rfl) (Nat.le_of_ble_eq_true rfl) hS (lv_sub hl [0, 4] rfl)
  · exact law_out C0 hd0 (by decide) (Nat.le_of_ble_eq_true rfl) (Nat.le_of_ble_eq_true rfl) hS (lv_sub hl [0, 4] rfl)
  · exact law_out C0 hd0 (by decide) (Nat.le_of_ble_eq_true rfl) (Nat.le_of_ble_eq_true rfl) hS (lv_sub hl [0, 4] rfl)
  · exact law_out C0 hd0 (by decide) (Nat.le_of_ble_eq_true rfl) (Nat.le_of_ble_eq_true rfl) hS (lv_sub hl [0, 4] rfl)
  refine lv_iload hx hb dL_law_23 (lv_at hl 0 rfl) ?_
  refine lv_aload_n hx hb dL_law_25 rfl (lv_at hl 4 rfl) ?_
  refine va_slen hx hb hX hbl hbA hS dL_law_26 ?_
  refine lv_bipush (v := 6) hx hb dL_law_27 (by decide) ?_
  refine lv_isub hx hb dL_law_29 ?_
  refine lv_icmp_gt (tgt := 2956) hx hb dL_law_30 (by decide) (fun h9 => absurd h9 (by decide)) (fun _ => ?_)
  refine lv_aload_n hx hb dL_law_33 rfl (lv_at hl 4 rfl) ?_
  refine lv_iload hx hb dL_law_34 (lv_at hl 0 rfl) ?_
  refine va_sld (i := 0) hx hb hX hbl hbA hS (by unfold vp_in; decide) dL_law_36 ?_
  refine zk_ti (y := xs 0) rfl ?_
  refine lv_bipush (v := 63) hx hb dL_law_37 (by decide) ?_
  refine lv_iand hx hb dL_law_39 ?_
  obtain ⟨j, hj, ej⟩ := pk_andE (xs 0) (m := 63) 6 (by decide)
  refine zk_ti (y := nI j) ej ?_
  rcases (show j = 0 ∨ j = 1 ∨ j = 2 ∨ j = 3 ∨ j = 4 ∨ j = 5 ∨ j = 6 ∨ j = 7 ∨ j = 8 ∨ j = 9 ∨ j = 10 ∨ j = 11 ∨ j = 12 ∨ j = 13 ∨ j = 14 ∨ j = 15 ∨ j = 16 ∨ j = 17 ∨ j = 18 ∨ j = 19 ∨ j = 20 ∨ j = 21 ∨ j = 22 ∨ j = 23 ∨ j = 24 ∨ j = 25 ∨ j = 26 ∨ j = 27 ∨ j = 28 ∨ j = 29 ∨ j = 30 ∨ j = 31 ∨ j = 32 ∨ j = 33 ∨ j = 34 ∨ j = 35 ∨ j = 36 ∨ j = 37 ∨ j = 38 ∨ j = 39 ∨ j = 40 ∨ j = 41 ∨ j = 42 ∨ j = 43 ∨ j = 44 ∨ j = 45 ∨ j = 46 ∨ j = 47 ∨ j = 48 ∨ 49 ≤ j by omega) with rfl | rfl | rfl | rfl | rfl | rfl | rfl | rfl | rfl | rfl | rfl | rfl | rfl | rfl | rfl | rfl | rfl | rfl | rfl | rfl | rfl | rfl | rfl | rfl | rfl | rfl | rfl | rfl | rfl | rfl | rfl | rfl | rfl | rfl | rfl | rfl | rfl | rfl | rfl | rfl | rfl | rfl | rfl | rfl | rfl | rfl | rfl | rfl | rfl | hj9
  · refine lv_tableIn (off := 212) (tgt := 252) hx hb dL_law_40 (by decide) (by decide) (by decide) (by decide) ?_
    by_cases h0 : (xs 1) < 0
    · exact case_0a hst C0 hd0 hC q5 q3 q1 (u2 0 0) (u2 1 0) (u2 2 0) (u2 3 0) (u4 2 0) (u4 3 0) (u4 4 0) (u4 5 0) (u4 6 0) (u4 7 0) (u4 8 0) (u4 0) (u4 1) (u4 9 0) (u4 10 0) (u4 11 0) (u4 12 0) (u4 13 0) (u4 14 0) (u4 15 0) (u4 16 0) (u4 17 0) (u4 18 0) (u4 19 0) (u4 20 0) (u4 21 0) (u4 22 0) (u4 23 0) (u4 24 0) (u4 25 0) (u4 26 0) h0 hP hD hS (lv_sub hl [0, 1, 2, 3, 4] rfl)
    · by_cases h1 : 1000 < (xs 1)
      · exact case_0b hst C0 hd0 hC q5 q3 q1 (u2 0 0) (u2 1 0) (u2 2 0) (u2 3 0) (u4 2 0) (u4 3 0) (u4 4 0) (u4 5 0) (u4 6 0) (u4 7 0) (u4 8 0) (u4 0) (u4 1) (u4 9 0) (u4 10 0) (u4 11 0) (u4 12 0) (u4 13 0) (u4 14 0) (u4 15 0) (u4 16 0) (u4 17 0) (u4 18 0) (u4 19 0) (u4 20 0) (u4 21 0) (u4 22 0) (u4 23 0) (u4 24 0) (u4 25 0) (u4 26 0) h0 h1 hP hD hS (lv_sub hl [0, 1, 2, 3, 4] rfl)
      · exact case_0c hst C0 hd0 hC q5 q3 q1 (u2 0 0) (u2 1 0) (u2 2 0) (u2 3 0) (u4 2 0) (u4 3 0) (u4 4 0) (u4 5 0) (u4 6 0) (u4 7 0) (u4 8 0) (u4 0) (u4 1) (u4 9 0) (u4 10 0) (u4 11 0) (u4 12 0) (u4 13 0) (u4 14 0) (u4 15 0) (u4 16 0) (u4 17 0) (u4 18 0) (u4 19 0) (u4 20 0) (u4 21 0) (u4 22 0) (u4 23 0) (u4 24 0) (u4 25 0) (u4 26 0) h0 h1 hP hD hS (lv_sub hl [0, 1, 2, 3, 4] rfl)
  · refine lv_tableIn (off := 268) (tgt := 308) hx hb dL_law_40 (by decide) (by decide) (by decide) (by decide) ?_
    exact case_1 hst C0 hd0 hC q5 q3 q1 (u2 0 0) (u2 1 0) (u2 2 0) (u2 3 0) (u4 2 0) (u4 3 0) (u4 4 0) (u4 5 0) (u4 6 0) (u4 7 0) (u4 8 0) (u4 0) (u4 1) (u4 9 0) (u4 10 0) (u4 11 0) (u4 12 0) (u4 13 0) (u4 14 0) (u4 15 0) (u4 16 0) (u4 17 0) (u4 18 0) (u4 19 0) (u4 20 0) (u4 21 0) (u4 22 0) (u4 23 0) (u4 24 0) (u4 25 0) (u4 26 0)  hP hD hS (lv_sub hl [0, 1, 2, 3, 4] rfl)
  · refine lv_tableIn (off := 348) (tgt := 388) hx hb dL_law_40 (by decide) (by decide) (by decide) (by decide) ?_
    exact case_2 hst C0 hd0 hC q5 q3 q1 (u2 0 0) (u2 1 0) (u2 2 0) (u2 3 0) (u4 2 0) (u4 3 0) (u4 4 0) (u4 5 0) (u4 6 0) (u4 7 0) (u4 8 0) (u4 0) (u4 1) (u4 9 0) (u4 10 0) (u4 11 0) (u4 12 0) (u4 13 0) (u4 14 0) (u4 15 0) (u4 16 0) (u4 17 0) (u4 18 0) (u4 19 0) (u4 20 0) (u4 21 0) (u4 22 0) (u4 23 0) (u4 24 0) (u4 25 0) (u4 26 0)  hP hD hS (lv_sub hl [0, 1, 2, 3, 4] rfl)
  · refine lv_tableIn (off := 428) (tgt := 468) hx hb dL_law_40 (by decide) (by decide) (by decide) (by decide) ?_
    exact case_3 hst C0 hd0 hC q5 q3 q1 (u2 0 0) (u2 1 0) (u2 2 0) (u2 3 0) (u4 2 0) (u4 3 0) (u4 4 0) (u4 5 0) (u4 6 0) (u4 7 0) (u4 8 0) (u4 0) (u4 1) (u4 9 0) (u4 10 0) (u4 11 0) (u4 12 0) (u4 13 0) (u4 14 0) (u4 15 0) (u4 16 0) (u4 17 0) (u4 18 0) (u4 19 0) (u4 20 0) (u4 21 0) (u4 22 0) (u4 23 0) (u4 24 0) (u4 25 0) (u4 26 0)  hP hD hS (lv_sub hl [0, 1, 2, 3, 4] rfl)
  · refine lv_tableIn (off := 532) (tgt := 572) hx hb dL_law_40 (by decide) (by decide) (by decide) (by decide) ?_
    exact case_4 hst C0 hd0 hC q5 q3 q1 (u2 0 0) (u2 1 0) (u2 2 0) (u2 3 0) (u4 2 0) (u4 3 0) (u4 4 0) (u4 5 0) (u4 6 0) (u4 7 0) (u4 8 0) (u4 0) (u4 1) (u4 9 0) (u4 10 0) (u4 11 0) (u4 12 0) (u4 13 0) (u4 14 0) (u4 15 0) (u4 16 0) (u4 17 0) (u4 18 0) (u4 19 0) (u4 20 0) (u4 21 0) (u4 22 0) (u4 23 0) (u4 24 0) (u4 25 0) (u4 26 0)  hP hD hS (lv_sub hl [0, 1, 2, 3, 4] rfl)
  · refine lv_tableIn (off := 612) (tgt := 652) hx hb dL_law_40 (by decide) (by decide) (by decide) (by decide) ?_
    exact case_5 hst C0 hd0 hC q5 q3 q1 (u2 0 0) (u2 1 0) (u2 2 0) (u2 3 0) (u4 2 0) (u4 3 0) (u4 4 0) (u4 5 0) (u4 6 0) (u4 7 0) (u4 8 0) (u4 0) (u4 1) (u4 9 0) (u4 10 0) (u4 11 0) (u4 12 0) (u4 13 0) (u4 14 0) (u4 15 0) (u4 16 0) (u4 17 0) (u4 18 0) (u4 19 0) (u4 20 0) (u4 21 0) (u4 22 0) (u4 23 0) (u4 24 0) (u4 25 0) (u4 26 0)  hP hD hS (lv_sub hl [0, 1, 2, 3, 4] rfl)
  · refine lv_tableIn (off := 716) (tgt := 756) hx hb dL_law_40 (by decide) (by decide) (by decide) (by decide) ?_
    exact case_6 hst C0 hd0 hC q5 q3 q1 (u2 0 0) (u2 1 0) (u2 2 0) (u2 3 0) (u4 2 0) (u4 3 0) (u4 4 0) (u4 5 0) (u4 6 0) (u4 7 0) (u4 8 0) (u4 0) (u4 1) (u4 9 0) (u4 10 0) (u4 11 0) (u4 12 0) (u4 13 0) (u4 14 0) (u4 15 0) (u4 16 0) (u4 17 0) (u4 18 0) (u4 19 0) (u4 20 0) (u4 21 0) (u4 22 0) (u4 23 0) (u4 24 0) (u4 25 0) (u4 26 0)  hP hD hS (lv_sub hl [0, 1, 2, 3, 4] rfl)
  · refine lv_tableIn (off := 784) (tgt := 824) hx hb dL_law_40 (by decide) (by decide) (by decide) (by decide) ?_
    exact case_7 hst C0 hd0 hC q5 q3 q1 (u2 0 0) (u2 1 0) (u2 2 0) (u2 3 0) (u4 2 0) (u4 3 0) (u4 4 0) (u4 5 0) (u4 6 0) (u4 7 0) (u4 8 0) (u4 0) (u4 1) (u4 9 0) (u4 10 0) (u4 11 0) (u4 12 0) (u4 13 0) (u4 14 0) (u4 15 0) (u4 16 0) (u4 17 0) (u4 18 0) (u4 19 0) (u4 20 0) (u4 21 0) (u4 22 0) (u4 23 0) (u4 24 0) (u4 25 0) (u4 26 0)  hP hD hS (lv_sub hl [0, 1, 2, 3, 4] rfl)
  · refine lv_tableIn (off := 840) (tgt := 880) hx hb dL_law_40 (by decide) (by decide) (by decide) (by decide) ?_
    exact case_8 hst C0 hd0 hC q5 q3 q1 (u2 0 0) (u2 1 0) (u2 2 0) (u2 3 0) (u4 2 0) (u4 3 0) (u4 4 0) (u4 5 0) (u4 6 0) (u4 7 0) (u4 8 0) (u4 0) (u4 1) (u4 9 0) (u4 10 0) (u4 11 0) (u4 12 0) (u4 13 0) (u4 14 0) (u4 15 0) (u4 16 0) (u4 17 0) (u4 18 0) (u4 19 0) (u4 20 0) (u4 21 0) (u4 22 0) (u4 23 0) (u4 24 0) (u4 25 0) (u4 26 0)  hP hD hS (lv_sub hl [0, 1, 2, 3, 4] rfl)
  · refine lv_tableIn (off := 884) (tgt := 924) hx hb dL_law_40 (by decide) (by decide) (by decide) (by decide) ?_
    by_cases h0 : (xs 1) < 1
    · exact case_9a hst C0 hd0 hC q5 q3 q1 (u2 0 0) (u2 1 0) (u2 2 0) (u2 3 0) (u4 2 0) (u4 3 0) (u4 4 0) (u4 5 0) (u4 6 0) (u4 7 0) (u4 8 0) (u4 0) (u4 1) (u4 9 0) (u4 10 0) (u4 11 0) (u4 12 0) (u4 13 0) (u4 14 0) (u4 15 0) (u4 16 0) (u4 17 0) (u4 18 0) (u4 19 0) (u4 20 0) (u4 21 0) (u4 22 0) (u4 23 0) (u4 24 0) (u4 25 0) (u4 26 0) h0 hP hD hS (lv_sub hl [0, 1, 2, 3, 4] rfl)
    · by_cases h1 : 20 < (xs 1)
      · exact case_9b hst C0 hd0 hC q5 q3 q1 (u2 0 0) (u2 1 0) (u2 2 0) (u2 3 0) (u4 2 0) (u4 3 0) (u4 4 0) (u4 5 0) (u4 6 0) (u4 7 0) (u4 8 0) (u4 0) (u4 1) (u4 9 0) (u4 10 0) (u4 11 0) (u4 12 0) (u4 13 0) (u4 14 0) (u4 15 0) (u4 16 0) (u4 17 0) (u4 18 0) (u4 19 0) (u4 20 0) (u4 21 0) (u4 22 0) (u4 23 0) (u4 24 0) (u4 25 0) (u4 26 0) h0 h1 hP hD hS (lv_sub hl [0, 1, 2, 3, 4] rfl)
      · exact case_9c hst C0 hd0 hC q5 q3 q1 (u2 0 0) (u2 1 0) (u2 2 0) (u2 3 0) (u4 2 0) (u4 3 0) (u4 4 0) (u4 5 0) (u4 6 0) (u4 7 0) (u4 8 0) (u4 0) (u4 1) (u4 9 0) (u4 10 0) (u4 11 0) (u4 12 0) (u4 13 0) (u4 14 0) (u4 15 0) (u4 16 0) (u4 17 0) (u4 18 0) (u4 19 0) (u4 20 0) (u4 21 0) (u4 22 0) (u4 23 0) (u4 24 0) (u4 25 0) (u4 26 0) h0 h1 hP hD hS (lv_sub hl [0, 1, 2, 3, 4] rfl)
  · refine lv_tableIn (off := 940) (tgt := 980) hx hb dL_law_40 (by decide) (by decide) (by decide) (by decide) ?_
    exact case_10 hst C0 hd0 hC q5 q3 q1 (u2 0 0) (u2 1 0) (u2 2 0) (u2 3 0) (u4 2 0) (u4 3 0) (u4 4 0) (u4 5 0) (u4 6 0) (u4 7 0) (u4 8 0) (u4 0) (u4 1) (u4 9 0) (u4 10 0) (u4 11 0) (u4 12 0) (u4 13 0) (u4 14 0) (u4 15 0) (u4 16 0) (u4 17 0) (u4 18 0) (u4 19 0) (u4 20 0) (u4 21 0) (u4 22 0) (u4 23 0) (u4 24 0) (u4 25 0) (u4 26 0)  hP hD hS (lv_sub hl [0, 1, 2, 3, 4] rfl)
  · refine lv_tableIn (off := 1032) (tgt := 1072) hx hb dL_law_40 (by decide) (by decide) (by decide) (by decide) ?_
    exact case_11 hst C0 hd0 hC q5 q3 q1 (u2 0 0) (u2 1 0) (u2 2 0) (u2 3 0) (u4 2 0) (u4 3 0) (u4 4 0) (u4 5 0) (u4 6 0) (u4 7 0) (u4 8 0) (u4 0) (u4 1) (u4 9 0) (u4 10 0) (u4 11 0) (u4 12 0) (u4 13 0) (u4 14 0) (u4 15 0) (u4 16 0) (u4 17 0) (u4 18 0) (u4 19 0) (u4 20 0) (u4 21 0) (u4 22 0) (u4 23 0) (u4 24 0) (u4 25 0) (u4 26 0)  hP hD hS (lv_sub hl [0, 1, 2, 3, 4] rfl)
  · refine lv_tableIn (off := 1088) (tgt := 1128) hx hb dL_law_40 (by decide) (by decide) (by decide) (by decide) ?_
    by_cases h0 : (xs 1) < 1
    · exact case_12a hst C0 hd0 hC q5 q3 q1 (u2 0 0) (u2 1 0) (u2 2 0) (u2 3 0) (u4 2 0) (u4 3 0) (u4 4 0) (u4 5 0) (u4 6 0) (u4 7 0) (u4 8 0) (u4 0) (u4 1) (u4 9 0) (u4 10 0) (u4 11 0) (u4 12 0) (u4 13 0) (u4 14 0) (u4 15 0) (u4 16 0) (u4 17 0) (u4 18 0) (u4 19 0) (u4 20 0) (u4 21 0) (u4 22 0) (u4 23 0) (u4 24 0) (u4 25 0) (u4 26 0) h0 hP hD hS (lv_sub hl [0, 1, 2, 3, 4] rfl)
    · by_cases h1 : 200 < (xs 1)
      · exact case_12b hst C0 hd0 hC q5 q3 q1 (u2 0 0) (u2 1 0) (u2 2 0) (u2 3 0) (u4 2 0) (u4 3 0) (u4 4 0) (u4 5 0) (u4 6 0) (u4 7 0) (u4 8 0) (u4 0) (u4 1) (u4 9 0) (u4 10 0) (u4 11 0) (u4 12 0) (u4 13 0) (u4 14 0) (u4 15 0) (u4 16 0) (u4 17 0) (u4 18 0) (u4 19 0) (u4 20 0) (u4 21 0) (u4 22 0) (u4 23 0) (u4 24 0) (u4 25 0) (u4 26 0) h0 h1 hP hD hS (lv_sub hl [0, 1, 2, 3, 4] rfl)
      · exact case_12c hst C0 hd0 hC q5 q3 q1 (u2 0 0) (u2 1 0) (u2 2 0) (u2 3 0) (u4 2 0) (u4 3 0) (u4 4 0) (u4 5 0) (u4 6 0) (u4 7 0) (u4 8 0) (u4 0) (u4 1) (u4 9 0) (u4 10 0) (u4 11 0) (u4 12 0) (u4 13 0) (u4 14 0) (u4 15 0) (u4 16 0) (u4 17 0) (u4 18 0) (u4 19 0) (u4 20 0) (u4 21 0) (u4 22 0) (u4 23 0) (u4 24 0) (u4 25 0) (u4 26 0) h0 h1 hP hD hS (lv_sub hl [0, 1, 2, 3, 4] rfl)
  · refine lv_tableIn (off := 1144) (tgt := 1184) hx hb dL_law_40 (by decide) (by decide) (by decide) (by decide) ?_
    exact case_13 hst C0 hd0 hC q5 q3 q1 (u2 0 0) (u2 1 0) (u2 2 0) (u2 3 0) (u4 2 0) (u4 3 0) (u4 4 0) (u4 5 0) (u4 6 0) (u4 7 0) (u4 8 0) (u4 0) (u4 1) (u4 9 0) (u4 10 0) (u4 11 0) (u4 12 0) (u4 13 0) (u4 14 0) (u4 15 0) (u4 16 0) (u4 17 0) (u4 18 0) (u4 19 0) (u4 20 0) (u4 21 0) (u4 22 0) (u4 23 0) (u4 24 0) (u4 25 0) (u4 26 0)  hP hD hS (lv_sub hl [0, 1, 2, 3, 4] rfl)
  · refine lv_tableIn (off := 1207) (tgt := 1247) hx hb dL_law_40 (by decide) (by decide) (by decide) (by decide) ?_
    exact case_14 hst C0 hd0 hC q5 q3 q1 (u2 0 0) (u2 1 0) (u2 2 0) (u2 3 0) (u4 2 0) (u4 3 0) (u4 4 0) (u4 5 0) (u4 6 0) (u4 7 0) (u4 8 0) (u4 0) (u4 1) (u4 9 0) (u4 10 0) (u4 11 0) (u4 12 0) (u4 13 0) (u4 14 0) (u4 15 0) (u4 16 0) (u4 17 0) (u4 18 0) (u4 19 0) (u4 20 0) (u4 21 0) (u4 22 0) (u4 23 0) (u4 24 0) (u4 25 0) (u4 26 0)  hP hD hS (lv_sub hl [0, 1, 2, 3, 4] rfl)
  · refine lv_tableIn (off := 1251) (tgt := 1291) hx hb dL_law_40 (by decide) (by decide) (by decide) (by decide) ?_
    exact case_15 hst C0 hd0 hC q5 q3 q1 (u2 0 0) (u2 1 0) (u2 2 0) (u2 3 0) (u4 2 0) (u4 3 0) (u4 4 0) (u4 5 0) (u4 6 0) (u4 7 0) (u4 8 0) (u4 0) (u4 1) (u4 9 0) (u4 10 0) (u4 11 0) (u4 12 0) (u4 13 0) (u4 14 0) (u4 15 0) (u4 16 0) (u4 17 0) (u4 18 0) (u4 19 0) (u4 20 0) (u4 21 0) (u4 22 0) (u4 23 0) (u4 24 0) (u4 25 0) (u4 26 0)  hP hD hS (lv_sub hl [0, 1, 2, 3, 4] rfl)
  · refine lv_tableIn (off := 1295) (tgt := 1335) hx hb dL_law_40 (by decide) (by decide) (by decide) (by decide) ?_
    exact case_16 hst C0 hd0 hC q5 q3 q1 (u2 0 0) (u2 1 0) (u2 2 0) (u2 3 0) (u4 2 0) (u4 3 0) (u4 4 0) (u4 5 0) (u4 6 0) (u4 7 0) (u4 8 0) (u4 0) (u4 1) (u4 9 0) (u4 10 0) (u4 11 0) (u4 12 0) (u4 13 0) (u4 14 0) (u4 15 0) (u4 16 0) (u4 17 0) (u4 18 0) (u4 19 0) (u4 20 0) (u4 21 0) (u4 22 0) (u4 23 0) (u4 24 0) (u4 25 0) (u4 26 0)  hP hD hS (lv_sub hl [0, 1, 2, 3, 4] rfl)
  · refine lv_tableIn (off := 1308) (tgt := 1348) hx hb dL_law_40 (by decide) (by decide) (by decide) (by decide) ?_
    exact case_17 hst C0 hd0 hC q5 q3 q1 (u2 0 0) (u2 1 0) (u2 2 0) (u2 3 0) (u4 2 0) (u4 3 0) (u4 4 0) (u4 5 0) (u4 6 0) (u4 7 0) (u4 8 0) (u4 0) (u4 1) (u4 9 0) (u4 10 0) (u4 11 0) (u4 12 0) (u4 13 0) (u4 14 0) (u4 15 0) (u4 16 0) (u4 17 0) (u4 18 0) (u4 19 0) (u4 20 0) (u4 21 0) (u4 22 0) (u4 23 0) (u4 24 0) (u4 25 0) (u4 26 0)  hP hD hS (lv_sub hl [0, 1, 2, 3, 4] rfl)
  · refine lv_tableIn (off := 1321) (tgt := 1361) hx hb dL_law_40 (by decide) (by decide) (by decide) (by decide) ?_
    exact case_18 hst C0 hd0 hC q5 q3 q1 (u2 0 0) (u2 1 0) (u2 2 0) (u2 3 0) (u4 2 0) (u4 3 0) (u4 4 0) (u4 5 0) (u4 6 0) (u4 7 0) (u4 8 0) (u4 0) (u4 1) (u4 9 0) (u4 10 0) (u4 11 0) (u4 12 0) (u4 13 0) (u4 14 0) (u4 15 0) (u4 16 0) (u4 17 0) (u4 18 0) (u4 19 0) (u4 20 0) (u4 21 0) (u4 22 0) (u4 23 0) (u4 24 0) (u4 25 0) (u4 26 0)  hP hD hS (lv_sub hl [0, 1, 2, 3, 4] rfl)
  · refine lv_tableIn (off := 1377) (tgt := 1417) hx hb dL_law_40 (by decide) (by decide) (by decide) (by decide) ?_
    exact case_19 hst C0 hd0 hC q5 q3 q1 (u2 0 0) (u2 1 0) (u2 2 0) (u2 3 0) (u4 2 0) (u4 3 0) (u4 4 0) (u4 5 0) (u4 6 0) (u4 7 0) (u4 8 0) (u4 0) (u4 1) (u4 9 0) (u4 10 0) (u4 11 0) (u4 12 0) (u4 13 0) (u4 14 0) (u4 15 0) (u4 16 0) (u4 17 0) (u4 18 0) (u4 19 0) (u4 20 0) (u4 21 0) (u4 22 0) (u4 23 0) (u4 24 0) (u4 25 0) (u4 26 0)  hP hD hS (lv_sub hl [0, 1, 2, 3, 4] rfl)
  · refine lv_tableIn (off := 1433) (tgt := 1473) hx hb dL_law_40 (by decide) (by decide) (by decide) (by decide) ?_
    exact case_20 hst C0 hd0 hC q5 q3 q1 (u2 0 0) (u2 1 0) (u2 2 0) (u2 3 0) (u4 2 0) (u4 3 0) (u4 4 0) (u4 5 0) (u4 6 0) (u4 7 0) (u4 8 0) (u4 0) (u4 1) (u4 9 0) (u4 10 0) (u4 11 0) (u4 12 0) (u4 13 0) (u4 14 0) (u4 15 0) (u4 16 0) (u4 17 0) (u4 18 0) (u4 19 0) (u4 20 0) (u4 21 0) (u4 22 0) (u4 23 0) (u4 24 0) (u4 25 0) (u4 26 0)  hP hD hS (lv_sub hl [0, 1, 2, 3, 4] rfl)
  · refine lv_tableIn (off := 1489) (tgt := 1529) hx hb dL_law_40 (by decide) (by decide) (by decide) (by decide) ?_
    exact case_21 hst C0 hd0 hC q5 q3 q1 (u2 0 0) (u2 1 0) (u2 2 0) (u2 3 0) (u4 2 0) (u4 3 0) (u4 4 0) (u4 5 0) (u4 6 0) (u4 7 0) (u4 8 0) (u4 0) (u4 1) (u4 9 0) (u4 10 0) (u4 11 0) (u4 12 0) (u4 13 0) (u4 14 0) (u4 15 0) (u4 16 0) (u4 17 0) (u4 18 0) (u4 19 0) (u4 20 0) (u4 21 0) (u4 22 0) (u4 23 0) (u4 24 0) (u4 25 0) (u4 26 0)  hP hD hS (lv_sub hl [0, 1, 2, 3, 4] rfl)
  · refine lv_tableIn (off := 1545) (tgt := 1585) hx hb dL_law_40 (by decide) (by decide) (by decide) (by decide) ?_
    exact case_22 hst C0 hd0 hC q5 q3 q1 (u2 0 0) (u2 1 0) (u2 2 0) (u2 3 0) (u4 2 0) (u4 3 0) (u4 4 0) (u4 5 0) (u4 6 0) (u4 7 0) (u4 8 0) (u4 0) (u4 1) (u4 9 0) (u4 10 0) (u4 11 0) (u4 12 0) (u4 13 0) (u4 14 0) (u4 15 0) (u4 16 0) (u4 17 0) (u4 18 0) (u4 19 0) (u4 20 0) (u4 21 0) (u4 22 0) (u4 23 0) (u4 24 0) (u4 25 0) (u4 26 0)  hP hD hS (lv_sub hl [0, 1, 2, 3, 4] rfl)
  · refine lv_tableIn (off := 1601) (tgt := 1641) hx hb dL_law_40 (by decide) (by decide) (by decide) (by decide) ?_
    exact case_23 hst C0 hd0 hC q5 q3 q1 (u2 0 0) (u2 1 0) (u2 2 0) (u2 3 0) (u4 2 0) (u4 3 0) (u4 4 0) (u4 5 0) (u4 6 0) (u4 7 0) (u4 8 0) (u4 0) (u4 1) (u4 9 0) (u4 10 0) (u4 11 0) (u4 12 0) (u4 13 0) (u4 14 0) (u4 15 0) (u4 16 0) (u4 17 0) (u4 18 0) (u4 19 0) (u4 20 0) (u4 21 0) (u4 22 0) (u4 23 0) (u4 24 0) (u4 25 0) (u4 26 0)  hP hD hS (lv_sub hl [0, 1, 2, 3, 4] rfl)
  · refine lv_tableIn (off := 1657) (tgt := 1697) hx hb dL_law_40 (by decide) (by decide) (by decide) (by decide) ?_
    exact case_24 hst C0 hd0 hC q5 q3 q1 (u2 0 0) (u2 1 0) (u2 2 0) (u2 3 0) (u4 2 0) (u4 3 0) (u4 4 0) (u4 5 0) (u4 6 0) (u4 7 0) (u4 8 0) (u4 0) (u4 1) (u4 9 0) (u4 10 0) (u4 11 0) (u4 12 0) (u4 13 0) (u4 14 0) (u4 15 0) (u4 16 0) (u4 17 0) (u4 18 0) (u4 19 0) (u4 20 0) (u4 21 0) (u4 22 0) (u4 23 0) (u4 24 0) (u4 25 0) (u4 26 0)  hP hD hS (lv_sub hl [0, 1, 2, 3, 4] rfl)
  · refine lv_tableIn (off := 1720) (tgt := 1760) hx hb dL_law_40 (by decide) (by decide) (by decide) (by decide) ?_
    exact case_25 hst C0 hd0 hC q5 q3 q1 (u2 0 0) (u2 1 0) (u2 2 0) (u2 3 0) (u4 2 0) (u4 3 0) (u4 4 0) (u4 5 0) (u4 6 0) (u4 7 0) (u4 8 0) (u4 0) (u4 1) (u4 9 0) (u4 10 0) (u4 11 0) (u4 12 0) (u4 13 0) (u4 14 0) (u4 15 0) (u4 16 0) (u4 17 0) (u4 18 0) (u4 19 0) (u4 20 0) (u4 21 0) (u4 22 0) (u4 23 0) (u4 24 0) (u4 25 0) (u4 26 0)  hP hD hS (lv_sub hl [0, 1, 2, 3, 4] rfl)
  · refine lv_tableIn (off := 1783) (tgt := 1823) hx hb dL_law_40 (by decide) (by decide) (by decide) (by decide) ?_
    by_cases h0 : xs 2 = 0
    · exact case_26a hst C0 hd0 hC q5 q3 q1 (u2 0 0) (u2 1 0) (u2 2 0) (u2 3 0) (u4 2 0) (u4 3 0) (u4 4 0) (u4 5 0) (u4 6 0) (u4 7 0) (u4 8 0) (u4 0) (u4 1) (u4 9 0) (u4 10 0) (u4 11 0) (u4 12 0) (u4 13 0) (u4 14 0) (u4 15 0) (u4 16 0) (u4 17 0) (u4 18 0) (u4 19 0) (u4 20 0) (u4 21 0) (u4 22 0) (u4 23 0) (u4 24 0) (u4 25 0) (u4 26 0) h0 hP hD hS (lv_sub hl [0, 1, 2, 3, 4] rfl)
    · exact case_26b hst C0 hd0 hC q5 q3 q1 (u2 0 0) (u2 1 0) (u2 2 0) (u2 3 0) (u4 2 0) (u4 3 0) (u4 4 0) (u4 5 0) (u4 6 0) (u4 7 0) (u4 8 0) (u4 0) (u4 1) (u4 9 0) (u4 10 0) (u4 11 0) (u4 12 0) (u4 13 0) (u4 14 0) (u4 15 0) (u4 16 0) (u4 17 0) (u4 18 0) (u4 19 0) (u4 20 0) (u4 21 0) (u4 22 0) (u4 23 0) (u4 24 0) (u4 25 0) (u4 26 0) h0 hP hD hS (lv_sub hl [0, 1, 2, 3, 4] rfl)
  · refine lv_tableIn (off := 1867) (tgt := 1907) hx hb dL_law_40 (by decide) (by decide) (by decide) (by decide) ?_
    by_cases h0 : xs 2 = 0
    · exact case_27a hst C0 hd0 hC q5 q3 q1 (u2 0 0) (u2 1 0) (u2 2 0) (u2 3 0) (u4 2 0) (u4 3 0) (u4 4 0) (u4 5 0) (u4 6 0) (u4 7 0) (u4 8 0) (u4 0) (u4 1) (u4 9 0) (u4 10 0) (u4 11 0) (u4 12 0) (u4 13 0) (u4 14 0) (u4 15 0) (u4 16 0) (u4 17 0) (u4 18 0) (u4 19 0) (u4 20 0) (u4 21 0) (u4 22 0) (u4 23 0) (u4 24 0) (u4 25 0) (u4 26 0) h0 hP hD hS (lv_sub hl [0, 1, 2, 3, 4] rfl)
    · exact case_27b hst C0 hd0 hC q5 q3 q1 (u2 0 0) (u2 1 0) (u2 2 0) (u2 3 0) (u4 2 0) (u4 3 0) (u4 4 0) (u4 5 0) (u4 6 0) (u4 7 0) (u4 8 0) (u4 0) (u4 1) (u4 9 0) (u4 10 0) (u4 11 0) (u4 12 0) (u4 13 0) (u4 14 0) (u4 15 0) (u4 16 0) (u4 17 0) (u4 18 0) (u4 19 0) (u4 20 0) (u4 21 0) (u4 22 0) (u4 23 0) (u4 24 0) (u4 25 0) (u4 26 0) h0 hP hD hS (lv_sub hl [0, 1, 2, 3, 4] rfl)
  · refine lv_tableIn (off := 1958) (tgt := 1998) hx hb dL_law_40 (by decide) (by decide) (by decide) (by decide) ?_
    exact case_28 hst C0 hd0 hC q5 q3 q1 (u2 0 0) (u2 1 0) (u2 2 0) (u2 3 0) (u4 2 0) (u4 3 0) (u4 4 0) (u4 5 0) (u4 6 0) (u4 7 0) (u4 8 0) (u4 0) (u4 1) (u4 9 0) (u4 10 0) (u4 11 0) (u4 12 0) (u4 13 0) (u4 14 0) (u4 15 0) (u4 16 0) (u4 17 0) (u4 18 0) (u4 19 0) (u4 20 0) (u4 21 0) (u4 22 0) (u4 23 0) (u4 24 0) (u4 25 0) (u4 26 0)  hP hD hS (lv_sub hl [0, 1, 2, 3, 4] rfl)
  · refine lv_tableIn (off := 2033) (tgt := 2073) hx hb dL_law_40 (by decide) (by decide) (by decide) (by decide) ?_
    exact case_29 hst C0 hd0 hC q5 q3 q1 (u2 0 0) (u2 1 0) (u2 2 0) (u2 3 0) (u4 2 0) (u4 3 0) (u4 4 0) (u4 5 0) (u4 6 0) (u4 7 0) (u4 8 0) (u4 0) (u4 1) (u4 9 0) (u4 10 0) (u4 11 0) (u4 12 0) (u4 13 0) (u4 14 0) (u4 15 0) (u4 16 0) (u4 17 0) (u4 18 0) (u4 19 0) (u4 20 0) (u4 21 0) (u4 22 0) (u4 23 0) (u4 24 0) (u4 25 0) (u4 26 0)  hP hD hS (lv_sub hl [0, 1, 2, 3, 4] rfl)
  · refine lv_tableIn (off := 2089) (tgt := 2129) hx hb dL_law_40 (by decide) (by decide) (by decide) (by decide) ?_
    exact case_30 hst C0 hd0 hC q5 q3 q1 (u2 0 0) (u2 1 0) (u2 2 0) (u2 3 0) (u4 2 0) (u4 3 0) (u4 4 0) (u4 5 0) (u4 6 0) (u4 7 0) (u4 8 0) (u4 0) (u4 1) (u4 9 0) (u4 10 0) (u4 11 0) (u4 12 0) (u4 13 0) (u4 14 0) (u4 15 0) (u4 16 0) (u4 17 0) (u4 18 0) (u4 19 0) (u4 20 0) (u4 21 0) (u4 22 0) (u4 23 0) (u4 24 0) (u4 25 0) (u4 26 0)  hP hD hS (lv_sub hl [0, 1, 2, 3, 4] rfl)
  · refine lv_tableIn (off := 2169) (tgt := 2209) hx hb dL_law_40 (by decide) (by decide) (by decide) (by decide) ?_
    exact case_31 hst C0 hd0 hC q5 q3 q1 (u2 0 0) (u2 1 0) (u2 2 0) (u2 3 0) (u4 2 0) (u4 3 0) (u4 4 0) (u4 5 0) (u4 6 0) (u4 7 0) (u4 8 0) (u4 0) (u4 1) (u4 9 0) (u4 10 0) (u4 11 0) (u4 12 0) (u4 13 0) (u4 14 0) (u4 15 0) (u4 16 0) (u4 17 0) (u4 18 0) (u4 19 0) (u4 20 0) (u4 21 0) (u4 22 0) (u4 23 0) (u4 24 0) (u4 25 0) (u4 26 0)  hP hD hS (lv_sub hl [0, 1, 2, 3, 4] rfl)
  · refine lv_tableIn (off := 2225) (tgt := 2265) hx hb dL_law_40 (by decide) (by decide) (by decide) (by decide) ?_
    exact case_32 hst C0 hd0 hC q5 q3 q1 (u2 0 0) (u2 1 0) (u2 2 0) (u2 3 0) (u4 2 0) (u4 3 0) (u4 4 0) (u4 5 0) (u4 6 0) (u4 7 0) (u4 8 0) (u4 0) (u4 1) (u4 9 0) (u4 10 0) (u4 11 0) (u4 12 0) (u4 13 0) (u4 14 0) (u4 15 0) (u4 16 0) (u4 17 0) (u4 18 0) (u4 19 0) (u4 20 0) (u4 21 0) (u4 22 0) (u4 23 0) (u4 24 0) (u4 25 0) (u4 26 0)  hP hD hS (lv_sub hl [0, 1, 2, 3, 4] rfl)
  · refine lv_tableIn (off := 2281) (tgt := 2321) hx hb dL_law_40 (by decide) (by decide) (by decide) (by decide) ?_
    exact case_33 hst C0 hd0 hC q5 q3 q1 (u2 0 0) (u2 1 0) (u2 2 0) (u2 3 0) (u4 2 0) (u4 3 0) (u4 4 0) (u4 5 0) (u4 6 0) (u4 7 0) (u4 8 0) (u4 0) (u4 1) (u4 9 0) (u4 10 0) (u4 11 0) (u4 12 0) (u4 13 0) (u4 14 0) (u4 15 0) (u4 16 0) (u4 17 0) (u4 18 0) (u4 19 0) (u4 20 0) (u4 21 0) (u4 22 0) (u4 23 0) (u4 24 0) (u4 25 0) (u4 26 0)  hP hD hS (lv_sub hl [0, 1, 2, 3, 4] rfl)
  · refine lv_tableIn (off := 2337) (tgt := 2377) hx hb dL_law_40 (by decide) (by decide) (by decide) (by decide) ?_
    exact case_34 hst C0 hd0 hC q5 q3 q1 (u2 0 0) (u2 1 0) (u2 2 0) (u2 3 0) (u4 2 0) (u4 3 0) (u4 4 0) (u4 5 0) (u4 6 0) (u4 7 0) (u4 8 0) (u4 0) (u4 1) (u4 9 0) (u4 10 0) (u4 11 0) (u4 12 0) (u4 13 0) (u4 14 0) (u4 15 0) (u4 16 0) (u4 17 0) (u4 18 0) (u4 19 0) (u4 20 0) (u4 21 0) (u4 22 0) (u4 23 0) (u4 24 0) (u4 25 0) (u4 26 0)  hP hD hS (lv_sub hl [0, 1, 2, 3, 4] rfl)
  · refine lv_tableIn (off := 2405) (tgt := 2445) hx hb dL_law_40 (by decide) (by decide) (by decide) (by decide) ?_
    exact case_35 hst C0 hd0 hC q5 q3 q1 (u2 0 0) (u2 1 0) (u2 2 0) (u2 3 0) (u4 2 0) (u4 3 0) (u4 4 0) (u4 5 0) (u4 6 0) (u4 7 0) (u4 8 0) (u4 0) (u4 1) (u4 9 0) (u4 10 0) (u4 11 0) (u4 12 0) (u4 13 0) (u4 14 0) (u4 15 0) (u4 16 0) (u4 17 0) (u4 18 0) (u4 19 0) (u4 20 0) (u4 21 0) (u4 22 0) (u4 23 0) (u4 24 0) (u4 25 0) (u4 26 0)  hP hD hS (lv_sub hl [0, 1, 2, 3, 4] rfl)
  · refine lv_tableIn (off := 2473) (tgt := 2513) hx hb dL_law_40 (by decide) (by decide) (by decide) (by decide) ?_
    exact case_36 hst C0 hd0 hC q5 q3 q1 (u2 0 0) (u2 1 0) (u2 2 0) (u2 3 0) (u4 2 0) (u4 3 0) (u4 4 0) (u4 5 0) (u4 6 0) (u4 7 0) (u4 8 0) (u4 0) (u4 1) (u4 9 0) (u4 10 0) (u4 11 0) (u4 12 0) (u4 13 0) (u4 14 0) (u4 15 0) (u4 16 0) (u4 17 0) (u4 18 0) (u4 19 0) (u4 20 0) (u4 21 0) (u4 22 0) (u4 23 0) (u4 24 0) (u4 25 0) (u4 26 0)  hP hD hS (lv_sub hl [0, 1, 2, 3, 4] rfl)
  · refine lv_tableIn (off := 2541) (tgt := 2581) hx hb dL_law_40 (by decide) (by decide) (by decide) (by decide) ?_
    exact case_37 hst C0 hd0 hC q5 q3 q1 (u2 0 0) (u2 1 0) (u2 2 0) (u2 3 0) (u4 2 0) (u4 3 0) (u4 4 0) (u4 5 0) (u4 6 0) (u4 7 0) (u4 8 0) (u4 0) (u4 1) (u4 9 0) (u4 10 0) (u4 11 0) (u4 12 0) (u4 13 0) (u4 14 0) (u4 15 0) (u4 16 0) (u4 17 0) (u4 18 0) (u4 19 0) (u4 20 0) (u4 21 0) (u4 22 0) (u4 23 0) (u4 24 0) (u4 25 0) (u4 26 0)  hP hD hS (lv_sub hl [0, 1, 2, 3, 4] rfl)
  · refine lv_tableIn (off := 2554) (tgt := 2594) hx hb dL_law_40 (by decide) (by decide) (by decide) (by decide) ?_
    exact case_38 hst C0 hd0 hC q5 q3 q1 (u2 0 0) (u2 1 0) (u2 2 0) (u2 3 0) (u4 2 0) (u4 3 0) (u4 4 0) (u4 5 0) (u4 6 0) (u4 7 0) (u4 8 0) (u4 0) (u4 1) (u4 9 0) (u4 10 0) (u4 11 0) (u4 12 0) (u4 13 0) (u4 14 0) (u4 15 0) (u4 16 0) (u4 17 0) (u4 18 0) (u4 19 0) (u4 20 0) (u4 21 0) (u4 22 0) (u4 23 0) (u4 24 0) (u4 25 0) (u4 26 0)  hP hD hS (lv_sub hl [0, 1, 2, 3, 4] rfl)
  · refine lv_tableIn (off := 2567) (tgt := 2607) hx hb dL_law_40 (by decide) (by decide) (by decide) (by decide) ?_
    exact case_39 hst C0 hd0 hC q5 q3 q1 (u2 0 0) (u2 1 0) (u2 2 0) (u2 3 0) (u4 2 0) (u4 3 0) (u4 4 0) (u4 5 0) (u4 6 0) (u4 7 0) (u4 8 0) (u4 0) (u4 1) (u4 9 0) (u4 10 0) (u4 11 0) (u4 12 0) (u4 13 0) (u4 14 0) (u4 15 0) (u4 16 0) (u4 17 0) (u4 18 0) (u4 19 0) (u4 20 0) (u4 21 0) (u4 22 0) (u4 23 0) (u4 24 0) (u4 25 0) (u4 26 0)  hP hD hS (lv_sub hl [0, 1, 2, 3, 4] rfl)
  · refine lv_tableIn (off := 2580) (tgt := 2620) hx hb dL_law_40 (by decide) (by decide) (by decide) (by decide) ?_
    exact case_40 hst C0 hd0 hC q5 q3 q1 (u2 0 0) (u2 1 0) (u2 2 0) (u2 3 0) (u4 2 0) (u4 3 0) (u4 4 0) (u4 5 0) (u4 6 0) (u4 7 0) (u4 8 0) (u4 0) (u4 1) (u4 9 0) (u4 10 0) (u4 11 0) (u4 12 0) (u4 13 0) (u4 14 0) (u4 15 0) (u4 16 0) (u4 17 0) (u4 18 0) (u4 19 0) (u4 20 0) (u4 21 0) (u4 22 0) (u4 23 0) (u4 24 0) (u4 25 0) (u4 26 0)  hP hD hS (lv_sub hl [0, 1, 2, 3, 4] rfl)
  · refine lv_tableIn (off := 2593) (tgt := 2633) hx hb dL_law_40 (by decide) (by decide) (by decide) (by decide) ?_
    exact case_41 hst C0 hd0 hC q5 q3 q1 (u2 0 0) (u2 1 0) (u2 2 0) (u2 3 0) (u4 2 0) (u4 3 0) (u4 4 0) (u4 5 0) (u4 6 0) (u4 7 0) (u4 8 0) (u4 0) (u4 1) (u4 9 0) (u4 10 0) (u4 11 0) (u4 12 0) (u4 13 0) (u4 14 0) (u4 15 0) (u4 16 0) (u4 17 0) (u4 18 0) (u4 19 0) (u4 20 0) (u4 21 0) (u4 22 0) (u4 23 0) (u4 24 0) (u4 25 0) (u4 26 0)  hP hD hS (lv_sub hl [0, 1, 2, 3, 4] rfl)
  · refine lv_tableIn (off := 2606) (tgt := 2646) hx hb dL_law_40 (by decide) (by decide) (by decide) (by decide) ?_
    exact case_42 hst C0 hd0 hC q5 q3 q1 (u2 0 0) (u2 1 0) (u2 2 0) (u2 3 0) (u4 2 0) (u4 3 0) (u4 4 0) (u4 5 0) (u4 6 0) (u4 7 0) (u4 8 0) (u4 0) (u4 1) (u4 9 0) (u4 10 0) (u4 11 0) (u4 12 0) (u4 13 0) (u4 14 0) (u4 15 0) (u4 16 0) (u4 17 0) (u4 18 0) (u4 19 0) (u4 20 0) (u4 21 0) (u4 22 0) (u4 23 0) (u4 24 0) (u4 25 0) (u4 26 0)  hP hD hS (lv_sub hl [0, 1, 2, 3, 4] rfl)
  · refine lv_tableIn (off := 2619) (tgt := 2659) hx hb dL_law_40 (by decide) (by decide) (by decide) (by decide) ?_
    exact case_43 hst C0 hd0 hC q5 q3 q1 (u2 0 0) (u2 1 0) (u2 2 0) (u2 3 0) (u4 2 0) (u4 3 0) (u4 4 0) (u4 5 0) (u4 6 0) (u4 7 0) (u4 8 0) (u4 0) (u4 1) (u4 9 0) (u4 10 0) (u4 11 0) (u4 12 0) (u4 13 0) (u4 14 0) (u4 15 0) (u4 16 0) (u4 17 0) (u4 18 0) (u4 19 0) (u4 20 0) (u4 21 0) (u4 22 0) (u4 23 0) (u4 24 0) (u4 25 0) (u4 26 0)  hP hD hS (lv_sub hl [0, 1, 2, 3, 4] rfl)
  · refine lv_tableIn (off := 2660) (tgt := 2700) hx hb dL_law_40 (by decide) (by decide) (by decide) (by decide) ?_
    by_cases h0 : (xs 1) < 1
    · exact case_44a hst C0 hd0 hC q5 q3 q1 (u2 0 0) (u2 1 0) (u2 2 0) (u2 3 0) (u4 2 0) (u4 3 0) (u4 4 0) (u4 5 0) (u4 6 0) (u4 7 0) (u4 8 0) (u4 0) (u4 1) (u4 9 0) (u4 10 0) (u4 11 0) (u4 12 0) (u4 13 0) (u4 14 0) (u4 15 0) (u4 16 0) (u4 17 0) (u4 18 0) (u4 19 0) (u4 20 0) (u4 21 0) (u4 22 0) (u4 23 0) (u4 24 0) (u4 25 0) (u4 26 0) h0 hP hD hS (lv_sub hl [0, 1, 2, 3, 4] rfl)
    · by_cases h1 : 200 < (xs 1)
      · exact case_44b hst C0 hd0 hC q5 q3 q1 (u2 0 0) (u2 1 0) (u2 2 0) (u2 3 0) (u4 2 0) (u4 3 0) (u4 4 0) (u4 5 0) (u4 6 0) (u4 7 0) (u4 8 0) (u4 0) (u4 1) (u4 9 0) (u4 10 0) (u4 11 0) (u4 12 0) (u4 13 0) (u4 14 0) (u4 15 0) (u4 16 0) (u4 17 0) (u4 18 0) (u4 19 0) (u4 20 0) (u4 21 0) (u4 22 0) (u4 23 0) (u4 24 0) (u4 25 0) (u4 26 0) h0 h1 hP hD hS (lv_sub hl [0, 1, 2, 3, 4] rfl)
      · exact case_44c hst C0 hd0 hC q5 q3 q1 (u2 0 0) (u2 1 0) (u2 2 0) (u2 3 0) (u4 2 0) (u4 3 0) (u4 4 0) (u4 5 0) (u4 6 0) (u4 7 0) (u4 8 0) (u4 0) (u4 1) (u4 9 0) (u4 10 0) (u4 11 0) (u4 12 0) (u4 13 0) (u4 14 0) (u4 15 0) (u4 16 0) (u4 17 0) (u4 18 0) (u4 19 0) (u4 20 0) (u4 21 0) (u4 22 0) (u4 23 0) (u4 24 0) (u4 25 0) (u4 26 0) h0 h1 hP hD hS (lv_sub hl [0, 1, 2, 3, 4] rfl)
  · refine lv_tableIn (off := 2716) (tgt := 2756) hx hb dL_law_40 (by decide) (by decide) (by decide) (by decide) ?_
    exact case_45 hst C0 hd0 hC q5 q3 q1 (u2 0 0) (u2 1 0) (u2 2 0) (u2 3 0) (u4 2 0) (u4 3 0) (u4 4 0) (u4 5 0) (u4 6 0) (u4 7 0) (u4 8 0) (u4 0) (u4 1) (u4 9 0) (u4 10 0) (u4 11 0) (u4 12 0) (u4 13 0) (u4 14 0) (u4 15 0) (u4 16 0) (u4 17 0) (u4 18 0) (u4 19 0) (u4 20 0) (u4 21 0) (u4 22 0) (u4 23 0) (u4 24 0) (u4 25 0) (u4 26 0)  hP hD hS (lv_sub hl [0, 1, 2, 3, 4] rfl)
  · refine lv_tableIn (off := 2784) (tgt := 2824) hx hb dL_law_40 (by decide) (by decide) (by decide) (by decide) ?_
    exact case_46 hst C0 hd0 hC q5 q3 q1 (u2 0 0) (u2 1 0) (u2 2 0) (u2 3 0) (u4 2 0) (u4 3 0) (u4 4 0) (u4 5 0) (u4 6 0) (u4 7 0) (u4 8 0) (u4 0) (u4 1) (u4 9 0) (u4 10 0) (u4 11 0) (u4 12 0) (u4 13 0) (u4 14 0) (u4 15 0) (u4 16 0) (u4 17 0) (u4 18 0) (u4 19 0) (u4 20 0) (u4 21 0) (u4 22 0) (u4 23 0) (u4 24 0) (u4 25 0) (u4 26 0)  hP hD hS (lv_sub hl [0, 1, 2, 3, 4] rfl)
  · refine lv_tableIn (off := 2840) (tgt := 2880) hx hb dL_law_40 (by decide) (by decide) (by decide) (by decide) ?_
    exact case_47 hst C0 hd0 hC q5 q3 q1 (u2 0 0) (u2 1 0) (u2 2 0) (u2 3 0) (u4 2 0) (u4 3 0) (u4 4 0) (u4 5 0) (u4 6 0) (u4 7 0) (u4 8 0) (u4 0) (u4 1) (u4 9 0) (u4 10 0) (u4 11 0) (u4 12 0) (u4 13 0) (u4 14 0) (u4 15 0) (u4 16 0) (u4 17 0) (u4 18 0) (u4 19 0) (u4 20 0) (u4 21 0) (u4 22 0) (u4 23 0) (u4 24 0) (u4 25 0) (u4 26 0)  hP hD hS (lv_sub hl [0, 1, 2, 3, 4] rfl)
  · refine lv_tableIn (off := 2896) (tgt := 2936) hx hb dL_law_40 (by decide) (by decide) (by decide) (by decide) ?_
    exact case_48 hst C0 hd0 hC q5 q3 q1 (u2 0 0) (u2 1 0) (u2 2 0) (u2 3 0) (u4 2 0) (u4 3 0) (u4 4 0) (u4 5 0) (u4 6 0) (u4 7 0) (u4 8 0) (u4 0) (u4 1) (u4 9 0) (u4 10 0) (u4 11 0) (u4 12 0) (u4 13 0) (u4 14 0) (u4 15 0) (u4 16 0) (u4 17 0) (u4 18 0) (u4 19 0) (u4 20 0) (u4 21 0) (u4 22 0) (u4 23 0) (u4 24 0) (u4 25 0) (u4 26 0)  hP hD hS (lv_sub hl [0, 1, 2, 3, 4] rfl)
  · refine lv_tableOut (tgt := 2950) hx hb dL_law_40 (Or.inr (by rw [nI_toInt (by omega)]; omega)) (by decide) ?_
    exact law_tail C0 hd0 (Nat.le_of_ble_eq_true rfl) (Nat.le_of_ble_eq_true rfl) hS (lv_sub hl [0, 4] rfl)
set_option maxHeartbeats 4000000 in
theorem lw_walk (l : Launch) (hflags : l.flags = flags0) (b : Addr) (xs : List Int32) : MetFree l x (headSpec (Jvm.Cond.code x code maxLocals ret :: tables_1) room_1) (lw_P b xs) (fun _ _ _ _ _ => True) lw_Q := by
  refine MetFree.of_bodyS (code := code) (maxLocals := maxLocals) (ret := ret) (by decide) ?_ ?_
  · intro args s m h hn
    obtain ⟨meth, c, h1, h2, h3, h4, h5, h6, -, -⟩ := Cond.code_spec hn (atoms_spec (ws := Jvm.Cond.code x code maxLocals ret :: tables_1) h _ List.mem_cons_self)
    exact ⟨meth, c, h1, h2, h3, h4, h5, h6⟩
  · intro p e s m args below meth c s₁ B hml0 hP _
    obtain ⟨rfl, hx, hbd, hgv⟩ := hP
    obtain ⟨scr, harrAt, hlist, hof, hsmall⟩ := hx
    obtain ⟨hcb, hkn, -, -⟩ := State.arrayAt?_spec harrAt
    have hown : s.vm.findClass R_law = some m.cls := findClass_of_methodNamed B.named
    have hts0 : ∀ c ∈ (Jvm.Cond.code x code maxLocals ret :: tables_1), c.before #[Value.ref b] s = true := atoms_spec (ws := Jvm.Cond.code x code maxLocals ret :: tables_1) B.pre
    have hts : ∀ w ∈ lw_tbl, w.before #[Value.ref b] s = true := k2_hts_sels lw_privs (fun w hw => hts0 w (List.mem_cons_of_mem _ hw)) lw_privs_ok
    have hml : c.maxLocals = 9 := B.maxLocals_eq (hts0 _ List.mem_cons_self)
    have X₀ : Stand p l e room_1 s m #[Value.ref b] below meth c s₁ [] 0 0 := Stand.of_body B
    have hh0 : s₁.heap = s.heap := by rw [B.state]; rfl
    have hsz : scr.slots.size = xs.length := by rw [← Array.length_toList, hlist, List.length_map]
    have hval : ∀ j : Nat, j < xs.length → scr.slots[j]? = some (.int (xs.getD j 0)) := fun j hj => by
      rw [← Array.getElem?_toList, hlist]
      simp [hj]
    have hbl : b < s.heap.size := (Array.getElem?_eq_some_iff.mp hcb).1
    have hX : va_X b xs.length (fun j => xs.getD j 0) s s.heap := ⟨scr, hcb, hof, hkn, hsz, hval⟩
    have K : W p l e room_1 s m #[Value.ref b] below meth c s₁.heap [] 0 0 (lw_Z below #[Value.ref b] s) (entryFrame m ([Value.ref b] : List Value).toArray 9) := by
      rw [hh0]
      exact whole_start l hflags hbd ⟨B.exec, B.bytes, B.returns, hml, hown, hts, hX, hbl, B.notSynchronized, hgv⟩
    obtain ⟨t, a1, o, b1, b2, b3⟩ := K s₁ rfl X₀
    exact ⟨t, o, a1, b1, b2, b3⟩
theorem lw_pre_spec {args : Array Value} {s : State} (h : (Jvm.Cond.and given_1 narrow_1).before args s = true) (hr : rest_1_c.before args s = true) : ∃ (b : Addr) (xs : List Int32), lw_P b xs args s := by
  have hs := flat_of_before _ h
  have hq := flat_of_before _ hr
  have hc : (Cond.count 1).before args s = true := hs _ (by decide +kernel)
  have harr : (Cond.arrayOf (.arg 0) .int).before args s = true := hs _ (by decide +kernel)
  have hle : (Cond.le (.length (.arg 0)) (.int 6)).before args s = true := hs _ (by decide +kernel)
  have hlen : (Cond.isInt (.length (.arg 0))).before args s = true := hq _ (by decide +kernel)
  have hall : (Cond.all (.arg 0) (.isInt (.elem (.arg 0) (.index 0)))).before args s = true := hq _ (by decide +kernel)
  obtain ⟨b, xs, hb, hx⟩ := State.ints_of_pre rfl harr hlen hall
  have hsm : xs.length < 2 ^ 31 := hx.choose_spec.2.2.2
  have hev : (Term.length (.arg 0)).eval args s none [] s = some (.int xs.length.toInt32) := hx.length_eval hb
  have hv := Cond.le_ints hev (show (Term.int 6).eval args s none [] s = some (.int 6) from rfl)
  have hd : xs.length.toInt32 ≤ 6 := by
    simpa [Cond.before, Cond.holds, hv] using hle
  have hN : xs.length ≤ 6 := (Int32.ofNat_le_ofNat hsm (by decide)).mp (show Int32.ofNat xs.length ≤ Int32.ofNat 6 from hd)
  exact ⟨b, xs, Cond.one_arg hc (show args[0]? = some (.ref b) from hb), hx, hN, h⟩
theorem lw_comes (l : Launch) (hflags : l.flags = flags0) : Comes l x (Jvm.Cond.code x code maxLocals ret :: tables_1) room_1 (fun tb e args s => Calls_1 tb e args s ∧ rest_1 tb e args s ∧ Pre_1 tb e args s)
    (fun _ _ args s o t => lw_Q args s o t) := by
  intro p e ha hc hk s m args below hf hfit hheap happ hpre
  obtain ⟨b, xs, hP⟩ := lw_pre_spec hpre.2.2 hpre.2.1
  obtain ⟨k, o, h1, h2, h3, hQ⟩ := lw_walk l hflags b xs p e ha hc hk s m args below hf ((Spec.applies_iff_loose hf).mp happ).1 hP trivial
  exact ⟨k, o, h1, h2, h3, hQ⟩
theorem lw_frame {s t : State} {o : Outcome} {args : Array Value} (h : State.butDraws s t lw_cs (fun t1 => Framed s o t1 [] 600002 7302232)) :
    State.butDraws s t [Jvm.Choice.named "NaN.bits"] (fun t1 => Framed s o t1 (fieldLocs frame_1_writes args s ++ arrayLocs frame_1_arrays args s ++ staticLocs frame_1_statics s) 600002 7302232) := h
theorem lw_limb (L : Cond) (hL : ∀ (args : Array Value) (s t : State), L.after args s (.returned (some (.int 1))) t = true) :
    ArmFor flags0 classFile x code maxLocals ret World_1 tables_1 room_1 Calls_1 rest_1 Pre_1
      (fun tb e a s o t => postC L tb e a s o t ∧ State.butDraws s t [Jvm.Choice.named "NaN.bits"] (fun t1 => Framed s o t1 (fieldLocs frame_1_writes a s ++ arrayLocs frame_1_arrays a s ++ staticLocs frame_1_statics s) 600002 7302232)) := by
  intro l hflags _ _ p e ha hc hk s m args below hf hfit hheap happ hpre
  obtain ⟨k, o, h1, h2, h3, rfl, hF⟩ := lw_comes l hflags p e ha hc hk s m args below hf hfit hheap happ hpre
  exact ⟨k, _, h1, h2, h3, hL args s _, lw_frame hF⟩
theorem i_vc : Claimed_1_1 ∧ Claimed_1_2 := ⟨lw_limb limb_1_1 (fun args s t => by simp [limb_1_1, Cond.after, Cond.holds, Cond.value]), lw_limb limb_1_2 (fun args s t => Cond.after_iff.mpr (by
  first | (rw [show limb_1_2 = Cond.eq .result (.int 1) from rfl, Cond.eq_ints (x := 1) (y := 1) rfl rfl]; simp; done) | (simp [limb_1_2, Cond.value, Term.eval]; done)))⟩

