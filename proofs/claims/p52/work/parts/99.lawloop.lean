/-! ===== the law's loop ===== -/
theorem ZI.mono {s : State} {Z : Nat × Nat} {n n' : Nat} (h : ZI s Z n) (hn : n ≤ n') : ZI s Z n' := ⟨by have := h.1; omega, h.2.1, by have := h.2.2; omega⟩
theorem LW.back {s : State} {D : va_G} {yc : Nat → ClassId} {e0 : Nat} {B : Nat → Prop} {S : TS} {Z : Nat × Nat} {w : TW} {H : Heap} (h : LW s D yc e0 B S Z w H) : LW s D yc e0 (A9 s) S Z w H :=
  ⟨h.1.monoA h.2.2.1, h.2.1, fun _ h => h, fun q hq => Nat.le_trans h.2.1.1 hq⟩
theorem upd_lt {f : Nat → Int32} {g : Nat → Int32} {k : Nat} (h : ∀ i, i < k → f i = g i) : ∀ i, i < k + 1 → upd f k (g k) i = g i := fun i hi => by
  unfold upd
  by_cases e : i = k
  · rw [if_pos e, e]
  · rw [if_neg e]; exact h i (by omega)
theorem upd_in {f g : Nat → Int32} {P : Nat → Prop} {k : Nat} {v : Int32} (h : ∀ i, i < k → P i → f i = g i) (hv : P k → v = g k) : ∀ i, i < k + 1 → P i → upd f k v i = g i := fun i hi hp => by
  unfold upd
  by_cases e : i = k
  · rw [if_pos e, e]; exact hv (by rw [← e]; exact hp)
  · rw [if_neg e]; exact h i (by omega) hp
set_option maxHeartbeats 4000000 in
set_option maxRecDepth 100000 in
theorem y_mk {p : Program} {l : Launch} {e : Env} {s : State} {m : MethodId} {below : List Frame} {meth : Method} {c : Code} {D : va_G} {yc : Nat → ClassId} {e0 : Nat} {b L : Nat} {xs : Nat → Int32} {Q : State → Prop} (hx : p.tables.exec = Jvm.exec) (hb : c.code = cL_law) (hml : c.maxLocals = 12) (hown : s.vm.findClass RL = some m.cls) (hts : ∀ w ∈ lw_all, w.before #[Value.ref b] s = true) (hC : CX D yc e0 (A9 s) s) (hX : va_X b L xs s s.heap) (hbl : b < s.heap.size) (hL : L ≤ 260) {S : TS} {B : Nat → Prop} {Z : Nat × Nat} {w : TW} {a : Nat} {ti off at_ : Nat} {x : Int32} (hn12 : zn S ≤ 12) (ha : ¬ B a) (ha2 : s.heap.size ≤ a) (kk : ∀ (H : Heap) (f : Nat → Int32) (ls : Array Slot), (∀ j, j < zn S → f j = w.1 0 0 (3 * j) 0) → IA D yc a f H → LW s D yc e0 B S Z w H → lv_has ls 12 [(8, .int (nI (zn S))), (7, .ref a), (6, .int x), (5, .int (nI ti)), (4, .int (nI off)), (3, .int (nI at_)), (2, .int (nI (zn S))), (1, .ref (zg S 7 0 0)), (0, .ref b)] → W p l e room_1 s m #[Value.ref b] below meth c H [] room_1.cells room_1.slots Q (F0 m 144 ls [])) : ∀ (j k : Nat), k + j = zn S → ∀ {H : Heap} {f : Nat → Int32} {ls : Array Slot}, LW s D yc e0 B S Z w H → IA D yc a f H → (∀ i, i < k → f i = w.1 0 0 (3 * i) 0) → lv_has ls 12 [(8, .int (nI k)), (7, .ref a), (6, .int x), (5, .int (nI ti)), (4, .int (nI off)), (3, .int (nI at_)), (2, .int (nI (zn S))), (1, .ref (zg S 7 0 0)), (0, .ref b)] → W p l e room_1 s m #[Value.ref b] below meth c H [] room_1.cells room_1.slots Q (F0 m 121 ls [])
  | 0, k, hj, H, f, ls, hW, hI7, hf, hl => by
    have hj : k = zn S := hj
    subst hj
    refine lv_iload hx hb dL_law_121 (lv_at hl 0 rfl) ?_
    refine lv_iload_n hx hb dL_law_123 rfl (lv_at hl 6 rfl) ?_
    refine lv_icmp_ge (tgt := 144) hx hb dL_law_124 (by decide) (fun _ => ?_) (fun h9 => absurd (nI_le (Nat.le_refl _) (by omega)) h9)
    exact kk _ _ _ hf hI7 hW hl
  | j + 1, k, hj, H, f, ls, hW, hI7, hf, hl => by
    have hk : k < zn S := by omega
    refine lv_iload hx hb dL_law_121 (lv_at hl 0 rfl) ?_
    refine lv_iload_n hx hb dL_law_123 rfl (lv_at hl 6 rfl) ?_
    refine lv_icmp_ge (tgt := 144) hx hb dL_law_124 (by decide) (fun h9 => absurd h9 (nI_ge hk (by omega))) (fun _ => ?_)
    refine lv_aload hx hb dL_law_127 (lv_at hl 1 rfl) ?_
    refine lv_iload hx hb dL_law_129 (lv_at hl 0 rfl) ?_
    refine lv_aload_n hx hb dL_law_131 rfl (lv_at hl 7 rfl) ?_
    refine lv_iload hx hb dL_law_132 (lv_at hl 0 rfl) ?_
    refine zr_i (va_runV (As := [.int (nI k)]) (rest := [.int (nI k), .ref a]) ⟨hx, hb, hml, hown, hts⟩ (k_X10_markOf l D yc e0 _ S _ w.1 w.2.1 w.2.2 k hk) (cwV 1 hts (lw_V wq631 wq632 wq633 wq1 wq634) rfl rfl rfl (by decide +kernel) ⟨(Nat.le_of_ble_eq_true rfl), (Nat.le_of_ble_eq_true rfl)⟩) (lp_V hC hW 7 0 0 dm7 rfl rfl) rfl rfl hl.1 rfl (lv_room (Nat.le_of_ble_eq_true rfl)) dL_law_134 ⟨(Nat.le_of_ble_eq_true rfl), (Nat.le_of_ble_eq_true rfl)⟩) ?_
    refine zk_ti (y := w.1 0 0 (3 * k) 0) rfl ?_
    refine lw_iast hx hb hC hW hI7 ha ha2 (by omega) dL_law_137 (fun H hW hI7 hq9 hz9 => ?_)
    refine lv_iinc (v := nI (k + 1)) (lv' := [(8, .int (nI (k + 1))), (7, .ref a), (6, .int x), (5, .int (nI ti)), (4, .int (nI off)), (3, .int (nI at_)), (2, .int (nI (zn S))), (1, .ref (zg S 7 0 0)), (0, .ref b)]) hx hb dL_law_138 hl (k := 0) rfl (nI_1 k) (by decide) rfl (fun ls hl => ?_)
    refine lv_goto (tgt := 121) hx hb dL_law_141 (by decide) ?_
    exact y_mk hx hb hml hown hts hC hX hbl hL hn12 ha ha2 kk j (k + 1) (by omega) hW hI7 (upd_lt (g := fun i => w.1 0 0 (3 * i) 0) hf) (lv_sub hl [0, 1, 2, 3, 4, 5, 6, 7, 8] rfl)
set_option maxHeartbeats 4000000 in
set_option maxRecDepth 100000 in
theorem y_kp {p : Program} {l : Launch} {e : Env} {s : State} {m : MethodId} {below : List Frame} {meth : Method} {c : Code} {D : va_G} {yc : Nat → ClassId} {e0 : Nat} {b L : Nat} {xs : Nat → Int32} {Q : State → Prop} (hx : p.tables.exec = Jvm.exec) (hb : c.code = cL_law) (hml : c.maxLocals = 12) (hown : s.vm.findClass RL = some m.cls) (hts : ∀ w ∈ lw_all, w.before #[Value.ref b] s = true) (hC : CX D yc e0 (A9 s) s) (hX : va_X b L xs s s.heap) (hbl : b < s.heap.size) (hL : L ≤ 260) {S : TS} {B : Nat → Prop} {Z : Nat × Nat} {w : TW} {a : Nat} {ti off at_ : Nat} {a2 : Nat} {x : Int32} {f : Nat → Int32} (hn12 : zn S ≤ 12) (hGS : GS w.2.1) (ha8 : ¬ B a2) (ha28 : s.heap.size ≤ a2) (hne : a ≠ a2) (kk : ∀ (H : Heap) (f8 : Nat → Int32) (ls : Array Slot), (∀ i, i < zn S → w.1 8 0 i 0 = 7 → f8 i = w.1 0 0 (3 * i + (w.2.1 0 i).1) 7) → IA D yc a2 f8 H → IA D yc a f H → LW s D yc e0 B S Z w H → lv_has ls 12 [(11, .int (nI (zn S))), (10, .ref a2), (9, .int (nI 13)), (8, .int 1), (7, .ref a), (6, .int x), (5, .int (nI ti)), (4, .int (nI off)), (3, .int (nI at_)), (2, .int (nI (zn S))), (1, .ref (zg S 7 0 0)), (0, .ref b)] → W p l e room_1 s m #[Value.ref b] below meth c H [] room_1.cells room_1.slots Q (F0 m 361 ls [])) : ∀ (j k : Nat), k + j = zn S → ∀ {H : Heap} {f8 : Nat → Int32} {ls : Array Slot}, LW s D yc e0 B S Z w H → IA D yc a2 f8 H → IA D yc a f H → (∀ i, i < k → w.1 8 0 i 0 = 7 → f8 i = w.1 0 0 (3 * i + (w.2.1 0 i).1) 7) → lv_has ls 12 [(11, .int (nI k)), (10, .ref a2), (9, .int (nI 13)), (8, .int 1), (7, .ref a), (6, .int x), (5, .int (nI ti)), (4, .int (nI off)), (3, .int (nI at_)), (2, .int (nI (zn S))), (1, .ref (zg S 7 0 0)), (0, .ref b)] → W p l e room_1 s m #[Value.ref b] below meth c H [] room_1.cells room_1.slots Q (F0 m 323 ls [])
  | 0, k, hj, H, f8, ls, hW, hI8, hI7, hf, hl => by
    have hj : k = zn S := hj
    subst hj
    refine lv_iload hx hb dL_law_323 (lv_at hl 0 rfl) ?_
    refine lv_iload_n hx hb dL_law_325 rfl (lv_at hl 9 rfl) ?_
    refine lv_icmp_ge (tgt := 361) hx hb dL_law_326 (by decide) (fun _ => ?_) (fun h9 => absurd (nI_le (Nat.le_refl _) (by omega)) h9)
    exact kk _ _ _ hf hI8 hI7 hW hl
  | j + 1, k, hj, H, f8, ls, hW, hI8, hI7, hf, hl => by
    have hk : k < zn S := by omega
    refine lv_iload hx hb dL_law_323 (lv_at hl 0 rfl) ?_
    refine lv_iload_n hx hb dL_law_325 rfl (lv_at hl 9 rfl) ?_
    refine lv_icmp_ge (tgt := 361) hx hb dL_law_326 (by decide) (fun h9 => absurd h9 (nI_ge hk (by omega))) (fun _ => ?_)
    refine lv_aload hx hb dL_law_329 (lv_at hl 1 rfl) ?_
    refine lv_iload hx hb dL_law_331 (lv_at hl 0 rfl) ?_
    refine lv_aload_n hx hb dL_law_333 rfl (lv_at hl 10 rfl) ?_
    refine lv_iload hx hb dL_law_334 (lv_at hl 0 rfl) ?_
    refine zr_i (va_runV (As := [.int (nI k)]) (rest := [.int (nI k), .ref a2]) ⟨hx, hb, hml, hown, hts⟩ (k_X10_sortOf l D yc e0 _ S _ w.1 w.2.1 w.2.2 k hk) (cwV 1 hts (lw_V wq627 wq628 wq629 wq1 wq630) rfl rfl rfl (by decide +kernel) ⟨(Nat.le_of_ble_eq_true rfl), (Nat.le_of_ble_eq_true rfl)⟩) (lp_V hC hW 7 0 0 dm7 rfl rfl) rfl rfl hl.1 rfl (lv_room (Nat.le_of_ble_eq_true rfl)) dL_law_336 ⟨(Nat.le_of_ble_eq_true rfl), (Nat.le_of_ble_eq_true rfl)⟩) ?_
    refine zk_ti (y := w.1 8 0 k 0) rfl ?_
    refine lv_bipush (v := 7) hx hb dL_law_339 (by decide) ?_
    refine lv_icmp_ne (tgt := 353) hx hb dL_law_341 (by decide) (fun h7 => ?_) (fun h7 => ?_)
    · refine lv_iconst (v := 0) hx hb dL_law_353 (by decide) ?_
      refine lw_iast hx hb hC hW hI8 ha8 ha28 (by omega) dL_law_354 (fun H1 hW1 hI81 hq9 hz9 => ?_)
      refine lv_iinc (v := nI (k + 1)) (lv' := [(11, .int (nI (k + 1))), (10, .ref a2), (9, .int (nI 13)), (8, .int 1), (7, .ref a), (6, .int x), (5, .int (nI ti)), (4, .int (nI off)), (3, .int (nI at_)), (2, .int (nI (zn S))), (1, .ref (zg S 7 0 0)), (0, .ref b)]) hx hb dL_law_355 hl (k := 0) rfl (nI_1 k) (by decide) rfl (fun ls hl => ?_)
      refine lv_goto (tgt := 323) hx hb dL_law_358 (by decide) ?_
      exact y_kp hx hb hml hown hts hC hX hbl hL hn12 hGS ha8 ha28 hne kk j (k + 1) (by omega) hW1 hI81 (hI7.kept (hq9 _ hne)) (upd_in (P := fun i => w.1 8 0 i 0 = 7) (g := fun i => w.1 0 0 (3 * i + (w.2.1 0 i).1) 7) hf (fun h8 => absurd h8 h7)) (lv_sub hl [0, 1, 2, 3, 4, 5, 6, 7, 8, 9, 10, 11] rfl)
    · refine lv_aload_n hx hb dL_law_344 rfl (lv_at hl 10 rfl) ?_
      refine lv_iload hx hb dL_law_345 (lv_at hl 0 rfl) ?_
      refine zr_i (va_runV (As := [.int (nI k)]) (rest := [.int (nI k), .ref a2]) ⟨hx, hb, hml, hown, hts⟩ (k_X10_committed l D yc e0 _ S _ w.1 w.2.1 w.2.2 k hk h7 (by rcases hGS 0 k with h | h <;> omega)) (cwV 1 hts (lw_V wq666 wq667 wq668 wq1 wq669) rfl rfl rfl (by decide +kernel) ⟨(Nat.le_of_ble_eq_true rfl), (Nat.le_of_ble_eq_true rfl)⟩) (lp_V hC hW 7 0 0 dm7 rfl rfl) rfl rfl hl.1 rfl (lv_room (Nat.le_of_ble_eq_true rfl)) dL_law_347 ⟨(Nat.le_of_ble_eq_true rfl), (Nat.le_of_ble_eq_true rfl)⟩) ?_
      refine zk_ti (y := w.1 0 0 (3 * k + (w.2.1 0 k).1) 7) rfl ?_
      refine lv_goto (tgt := 354) hx hb dL_law_350 (by decide) ?_
      refine lw_iast hx hb hC hW hI8 ha8 ha28 (by omega) dL_law_354 (fun H1 hW1 hI81 hq9 hz9 => ?_)
      refine lv_iinc (v := nI (k + 1)) (lv' := [(11, .int (nI (k + 1))), (10, .ref a2), (9, .int (nI 13)), (8, .int 1), (7, .ref a), (6, .int x), (5, .int (nI ti)), (4, .int (nI off)), (3, .int (nI at_)), (2, .int (nI (zn S))), (1, .ref (zg S 7 0 0)), (0, .ref b)]) hx hb dL_law_355 hl (k := 0) rfl (nI_1 k) (by decide) rfl (fun ls hl => ?_)
      refine lv_goto (tgt := 323) hx hb dL_law_358 (by decide) ?_
      exact y_kp hx hb hml hown hts hC hX hbl hL hn12 hGS ha8 ha28 hne kk j (k + 1) (by omega) hW1 hI81 (hI7.kept (hq9 _ hne)) (upd_in (P := fun i => w.1 8 0 i 0 = 7) (g := fun i => w.1 0 0 (3 * i + (w.2.1 0 i).1) 7) hf (fun h8 => rfl)) (lv_sub hl [0, 1, 2, 3, 4, 5, 6, 7, 8, 9, 10, 11] rfl)
set_option maxHeartbeats 4000000 in
set_option maxRecDepth 100000 in
theorem y_sm {p : Program} {l : Launch} {e : Env} {s : State} {m : MethodId} {below : List Frame} {meth : Method} {c : Code} {D : va_G} {yc : Nat → ClassId} {e0 : Nat} {b L : Nat} {xs : Nat → Int32} {Q : State → Prop} (hx : p.tables.exec = Jvm.exec) (hb : c.code = cL_law) (hml : c.maxLocals = 12) (hown : s.vm.findClass RL = some m.cls) (hts : ∀ w ∈ lw_all, w.before #[Value.ref b] s = true) (hC : CX D yc e0 (A9 s) s) (hX : va_X b L xs s s.heap) (hbl : b < s.heap.size) (hL : L ≤ 260) {S : TS} {B : Nat → Prop} {Z : Nat × Nat} {w : TW} {a : Nat} {ti off at_ : Nat} {a2 : Nat} {x : Int32} {H : Heap} {f8 : Nat → Int32} (hn12 : zn S ≤ 12) (hGS : GS w.2.1) (hI8 : IA D yc a2 f8 H) (hok : ∀ k, k < zn S → w.1 8 0 k 0 = 7 → w.1 0 0 (3 * k) 7 = f8 k ∧ w.1 0 0 (3 * k + (w.2.1 0 k).1) 7 = f8 k) (kk : ∀ (ls : Array Slot), lv_has ls 12 [(11, .int (nI (zn S))), (10, .ref a2), (9, .int (nI 13)), (8, .int 1), (7, .ref a), (6, .int x), (5, .int (nI ti)), (4, .int (nI off)), (3, .int (nI at_)), (2, .int (nI (zn S))), (1, .ref (zg S 7 0 0)), (0, .ref b)] → W p l e room_1 s m #[Value.ref b] below meth c H [] room_1.cells room_1.slots Q (F0 m 422 ls [])) : ∀ (j k : Nat), k + j = zn S → ∀ {ls : Array Slot}, LW s D yc e0 B S Z w H → lv_has ls 12 [(11, .int (nI k)), (10, .ref a2), (9, .int (nI 13)), (8, .int 1), (7, .ref a), (6, .int x), (5, .int (nI ti)), (4, .int (nI off)), (3, .int (nI at_)), (2, .int (nI (zn S))), (1, .ref (zg S 7 0 0)), (0, .ref b)] → W p l e room_1 s m #[Value.ref b] below meth c H [] room_1.cells room_1.slots Q (F0 m 369 ls [])
  | 0, k, hj, ls, hW, hl => by
    have hj : k = zn S := hj
    subst hj
    refine lv_iload hx hb dL_law_369 (lv_at hl 0 rfl) ?_
    refine lv_iload_n hx hb dL_law_371 rfl (lv_at hl 9 rfl) ?_
    refine lv_icmp_ge (tgt := 422) hx hb dL_law_372 (by decide) (fun _ => ?_) (fun h9 => absurd (nI_le (Nat.le_refl _) (by omega)) h9)
    exact kk _ hl
  | j + 1, k, hj, ls, hW, hl => by
    have hk : k < zn S := by omega
    refine lv_iload hx hb dL_law_369 (lv_at hl 0 rfl) ?_
    refine lv_iload_n hx hb dL_law_371 rfl (lv_at hl 9 rfl) ?_
    refine lv_icmp_ge (tgt := 422) hx hb dL_law_372 (by decide) (fun h9 => absurd h9 (nI_ge hk (by omega))) (fun _ => ?_)
    refine lv_aload_n hx hb dL_law_375 rfl (lv_at hl 10 rfl) ?_
    refine lv_iload hx hb dL_law_376 (lv_at hl 0 rfl) ?_
    refine zr_i (va_runV (As := [.int (nI k)]) (rest := []) ⟨hx, hb, hml, hown, hts⟩ (k_X10_sortOf l D yc e0 _ S _ w.1 w.2.1 w.2.2 k hk) (cwV 1 hts (lw_V wq627 wq628 wq629 wq1 wq630) rfl rfl rfl (by decide +kernel) ⟨(Nat.le_of_ble_eq_true rfl), (Nat.le_of_ble_eq_true rfl)⟩) (lp_V hC hW 7 0 0 dm7 rfl rfl) rfl rfl hl.1 rfl (lv_room (Nat.le_of_ble_eq_true rfl)) dL_law_378 ⟨(Nat.le_of_ble_eq_true rfl), (Nat.le_of_ble_eq_true rfl)⟩) ?_
    refine zk_ti (y := w.1 8 0 k 0) rfl ?_
    refine lv_bipush (v := 7) hx hb dL_law_381 (by decide) ?_
    refine lv_icmp_ne (tgt := 416) hx hb dL_law_383 (by decide) (fun h7 => ?_) (fun h7 => ?_)
    · refine lv_iinc (v := nI (k + 1)) (lv' := [(11, .int (nI (k + 1))), (10, .ref a2), (9, .int (nI 13)), (8, .int 1), (7, .ref a), (6, .int x), (5, .int (nI ti)), (4, .int (nI off)), (3, .int (nI at_)), (2, .int (nI (zn S))), (1, .ref (zg S 7 0 0)), (0, .ref b)]) hx hb dL_law_416 hl (k := 0) rfl (nI_1 k) (by decide) rfl (fun ls hl => ?_)
      refine lv_goto (tgt := 369) hx hb dL_law_419 (by decide) ?_
      exact y_sm hx hb hml hown hts hC hX hbl hL hn12 hGS hI8 hok kk j (k + 1) (by omega) hW (lv_sub hl [0, 1, 2, 3, 4, 5, 6, 7, 8, 9, 10, 11] rfl)
    · refine lv_aload_n hx hb dL_law_386 rfl (lv_at hl 10 rfl) ?_
      refine lv_iload hx hb dL_law_387 (lv_at hl 0 rfl) ?_
      refine zr_i (va_runV (As := [.int (nI k)]) (rest := []) ⟨hx, hb, hml, hown, hts⟩ (k_X10_outputs l D yc e0 _ S _ w.1 w.2.1 w.2.2 k hk h7) (cwV 1 hts (lw_V wq658 wq659 wq660 wq1 wq661) rfl rfl rfl (by decide +kernel) ⟨(Nat.le_of_ble_eq_true rfl), (Nat.le_of_ble_eq_true rfl)⟩) (lp_V hC hW 7 0 0 dm7 rfl rfl) rfl rfl hl.1 rfl (lv_room (Nat.le_of_ble_eq_true rfl)) dL_law_389 ⟨(Nat.le_of_ble_eq_true rfl), (Nat.le_of_ble_eq_true rfl)⟩) ?_
      refine zk_ti (y := w.1 0 0 (3 * k) 7) rfl ?_
      refine lv_aload hx hb dL_law_392 (lv_at hl 1 rfl) ?_
      refine lv_iload hx hb dL_law_394 (lv_at hl 0 rfl) ?_
      refine lw_iald hx hb hC hI8 (by omega) dL_law_396 ?_
      refine lv_icmp_ne (tgt := 414) hx hb dL_law_397 (by decide) (fun h9 => absurd (hok k hk h7).1 h9) (fun _ => ?_)
      refine lv_aload_n hx hb dL_law_400 rfl (lv_at hl 10 rfl) ?_
      refine lv_iload hx hb dL_law_401 (lv_at hl 0 rfl) ?_
      refine zr_i (va_runV (As := [.int (nI k)]) (rest := []) ⟨hx, hb, hml, hown, hts⟩ (k_X10_committed l D yc e0 _ S _ w.1 w.2.1 w.2.2 k hk h7 (by rcases hGS 0 k with h | h <;> omega)) (cwV 1 hts (lw_V wq666 wq667 wq668 wq1 wq669) rfl rfl rfl (by decide +kernel) ⟨(Nat.le_of_ble_eq_true rfl), (Nat.le_of_ble_eq_true rfl)⟩) (lp_V hC hW 7 0 0 dm7 rfl rfl) rfl rfl hl.1 rfl (lv_room (Nat.le_of_ble_eq_true rfl)) dL_law_403 ⟨(Nat.le_of_ble_eq_true rfl), (Nat.le_of_ble_eq_true rfl)⟩) ?_
      refine zk_ti (y := w.1 0 0 (3 * k + (w.2.1 0 k).1) 7) rfl ?_
      refine lv_aload hx hb dL_law_406 (lv_at hl 1 rfl) ?_
      refine lv_iload hx hb dL_law_408 (lv_at hl 0 rfl) ?_
      refine lw_iald hx hb hC hI8 (by omega) dL_law_410 ?_
      refine lv_icmp_eq (tgt := 416) hx hb dL_law_411 (by decide) (fun _ => ?_) (fun h9 => absurd (hok k hk h7).2 h9)
      refine lv_iinc (v := nI (k + 1)) (lv' := [(11, .int (nI (k + 1))), (10, .ref a2), (9, .int (nI 13)), (8, .int 1), (7, .ref a), (6, .int x), (5, .int (nI ti)), (4, .int (nI off)), (3, .int (nI at_)), (2, .int (nI (zn S))), (1, .ref (zg S 7 0 0)), (0, .ref b)]) hx hb dL_law_416 hl (k := 0) rfl (nI_1 k) (by decide) rfl (fun ls hl => ?_)
      refine lv_goto (tgt := 369) hx hb dL_law_419 (by decide) ?_
      exact y_sm hx hb hml hown hts hC hX hbl hL hn12 hGS hI8 hok kk j (k + 1) (by omega) hW (lv_sub hl [0, 1, 2, 3, 4, 5, 6, 7, 8, 9, 10, 11] rfl)
set_option maxHeartbeats 4000000 in
set_option maxRecDepth 100000 in
theorem y_ck {p : Program} {l : Launch} {e : Env} {s : State} {m : MethodId} {below : List Frame} {meth : Method} {c : Code} {D : va_G} {yc : Nat → ClassId} {e0 : Nat} {b L : Nat} {xs : Nat → Int32} {Q : State → Prop} (hx : p.tables.exec = Jvm.exec) (hb : c.code = cL_law) (hml : c.maxLocals = 12) (hown : s.vm.findClass RL = some m.cls) (hts : ∀ w ∈ lw_all, w.before #[Value.ref b] s = true) (hC : CX D yc e0 (A9 s) s) (hX : va_X b L xs s s.heap) (hbl : b < s.heap.size) (hL : L ≤ 260) {S : TS} {B : Nat → Prop} {Z : Nat × Nat} {w : TW} {a : Nat} {ti off at_ : Nat} {cr : Int32} {H : Heap} {f : Nat → Int32} (hn12 : zn S ≤ 12) (hW : LW s D yc e0 B S Z w H) (hI7 : IA D yc a f H) (hok : cr = 0 → ∀ k, k < zn S → f k ≤ w.1 0 0 (3 * k) 0) (kk : ∀ (ls : Array Slot), lv_has ls 12 [(10, .int (nI (zn S))), (8, .int cr), (7, .ref a), (5, .int (nI ti)), (4, .int (nI off)), (3, .int (nI at_)), (2, .int (nI (zn S))), (1, .ref (zg S 7 0 0)), (0, .ref b)] → W p l e room_1 s m #[Value.ref b] below meth c H [] room_1.cells room_1.slots Q (F0 m 470 ls [])) : ∀ (j k : Nat), k + j = zn S → ∀ {ls : Array Slot}, lv_has ls 12 [(10, .int (nI k)), (8, .int cr), (7, .ref a), (5, .int (nI ti)), (4, .int (nI off)), (3, .int (nI at_)), (2, .int (nI (zn S))), (1, .ref (zg S 7 0 0)), (0, .ref b)] → W p l e room_1 s m #[Value.ref b] below meth c H [] room_1.cells room_1.slots Q (F0 m 437 ls [])
  | 0, k, hj, ls, hl => by
    have hj : k = zn S := hj
    subst hj
    refine lv_iload hx hb dL_law_437 (lv_at hl 0 rfl) ?_
    refine lv_iload_n hx hb dL_law_439 rfl (lv_at hl 6 rfl) ?_
    refine lv_icmp_ge (tgt := 470) hx hb dL_law_440 (by decide) (fun _ => ?_) (fun h9 => absurd (nI_le (Nat.le_refl _) (by omega)) h9)
    exact kk _ hl
  | j + 1, k, hj, ls, hl => by
    have hk : k < zn S := by omega
    refine lv_iload hx hb dL_law_437 (lv_at hl 0 rfl) ?_
    refine lv_iload_n hx hb dL_law_439 rfl (lv_at hl 6 rfl) ?_
    refine lv_icmp_ge (tgt := 470) hx hb dL_law_440 (by decide) (fun h9 => absurd h9 (nI_ge hk (by omega))) (fun _ => ?_)
    refine lv_iload hx hb dL_law_443 (lv_at hl 1 rfl) ?_
    refine lv_if_ne (tgt := 464) hx hb dL_law_445 (by decide) (fun h8 => ?_) (fun h8 => ?_)
    · refine lv_iinc (v := nI (k + 1)) (lv' := [(10, .int (nI (k + 1))), (8, .int cr), (7, .ref a), (5, .int (nI ti)), (4, .int (nI off)), (3, .int (nI at_)), (2, .int (nI (zn S))), (1, .ref (zg S 7 0 0)), (0, .ref b)]) hx hb dL_law_464 hl (k := 0) rfl (nI_1 k) (by decide) rfl (fun ls hl => ?_)
      refine lv_goto (tgt := 437) hx hb dL_law_467 (by decide) ?_
      exact y_ck hx hb hml hown hts hC hX hbl hL hn12 hW hI7 hok kk j (k + 1) (by omega) (lv_sub hl [0, 1, 2, 3, 4, 5, 6, 7, 8] rfl)
    · refine lv_aload_n hx hb dL_law_448 rfl (lv_at hl 7 rfl) ?_
      refine lv_iload hx hb dL_law_449 (lv_at hl 0 rfl) ?_
      refine zr_i (va_runV (As := [.int (nI k)]) (rest := []) ⟨hx, hb, hml, hown, hts⟩ (k_X10_markOf l D yc e0 _ S _ w.1 w.2.1 w.2.2 k hk) (cwV 1 hts (lw_V wq631 wq632 wq633 wq1 wq634) rfl rfl rfl (by decide +kernel) ⟨(Nat.le_of_ble_eq_true rfl), (Nat.le_of_ble_eq_true rfl)⟩) (lp_V hC hW 7 0 0 dm7 rfl rfl) rfl rfl hl.1 rfl (lv_room (Nat.le_of_ble_eq_true rfl)) dL_law_451 ⟨(Nat.le_of_ble_eq_true rfl), (Nat.le_of_ble_eq_true rfl)⟩) ?_
      refine zk_ti (y := w.1 0 0 (3 * k) 0) rfl ?_
      refine lv_aload hx hb dL_law_454 (lv_at hl 2 rfl) ?_
      refine lv_iload hx hb dL_law_456 (lv_at hl 0 rfl) ?_
      refine lw_iald hx hb hC hI7 (by omega) dL_law_458 ?_
      refine lv_icmp_ge (tgt := 464) hx hb dL_law_459 (by decide) (fun _ => ?_) (fun h9 => absurd (hok h8 k hk) h9)
      refine lv_iinc (v := nI (k + 1)) (lv' := [(10, .int (nI (k + 1))), (8, .int cr), (7, .ref a), (5, .int (nI ti)), (4, .int (nI off)), (3, .int (nI at_)), (2, .int (nI (zn S))), (1, .ref (zg S 7 0 0)), (0, .ref b)]) hx hb dL_law_464 hl (k := 0) rfl (nI_1 k) (by decide) rfl (fun ls hl => ?_)
      refine lv_goto (tgt := 437) hx hb dL_law_467 (by decide) ?_
      exact y_ck hx hb hml hown hts hC hX hbl hL hn12 hW hI7 hok kk j (k + 1) (by omega) (lv_sub hl [0, 1, 2, 3, 4, 5, 6, 7, 8] rfl)
