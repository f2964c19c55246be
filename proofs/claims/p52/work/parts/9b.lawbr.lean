set_option maxHeartbeats 4000000 in
set_option maxRecDepth 100000 in
theorem y_bw {p : Program} {l : Launch} {e : Env} {s : State} {m : MethodId} {below : List Frame} {meth : Method} {c : Code} {D : va_G} {yc : Nat → ClassId} {e0 : Nat} {b L : Nat} {xs : Nat → Int32} {Q : State → Prop} (hx : p.tables.exec = Jvm.exec) (hb : c.code = cL_law) (hml : c.maxLocals = 12) (hown : s.vm.findClass RL = some m.cls) (hts : ∀ w ∈ lw_all, w.before #[Value.ref b] s = true) (hC : CX D yc e0 (A9 s) s) (hX : va_X b L xs s s.heap) (hbl : b < s.heap.size) (hL : L ≤ 260) {S : TS} {so : Nat → Nat} {B : Nat → Prop} {Z : Nat × Nat} {w : TW} {H : Heap} {a : Nat} {f : Nat → Int32} {t n0 bn off at_ ti : Nat} {x : Int32} (hW : LW s D yc e0 B S Z w H) (hI7 : IA D yc a f H) (ha : ¬ B a) (ha2 : s.heap.size ≤ a) (hf : ∀ j, j < zn S → f j = w.1 0 0 (3 * j) 0) (hI : INV S so False t w) (ht : t ≤ 1800) (hZ : ZI s Z n0) (hn0 : n0 ≤ 90) (hst : ¬ w.1 7 0 0 2 = 0) (hal : alf so w.2.2 (zn S) = off) (hof : off ≤ 45) (hbn : w.1 6 0 0 4 = nI bn) (hbn2 : bn ≤ 45) (hat : at_ ≤ 400) (hpos : 0 < zn S) {wh : Nat} (kk : ∀ (w1 : TW) (Z1 : Nat × Nat) (B1 : Nat → Prop) (H1 : Heap) (of1 : Nat) (cr : Int32) (ls : Array Slot), LW s D yc e0 B1 S Z1 w1 H1 → IA D yc a f H1 → INV S so False (t + 40) w1 → ZI s Z1 (n0 + 1) → (∃ bn1, bn1 ≤ bn + 1 ∧ w1.1 6 0 0 4 = nI bn1) → ¬ w1.1 7 0 0 2 = 0 → (alf so w1.2.2 (zn S) = of1 ∧ of1 ≤ off + 1) → (cr = 0 → ∀ k, k < zn S → f k ≤ w1.1 0 0 (3 * k) 0) → lv_has ls 12 [(8, .int cr), (7, .ref a), (5, .int (nI ti)), (4, .int (nI of1)), (3, .int (nI at_)), (2, .int (nI (zn S))), (1, .ref (zg S 7 0 0)), (0, .ref b)] → W p l e room_1 s m #[Value.ref b] below meth c H1 [] room_1.cells room_1.slots Q (F0 m 422 ls [])) {ls : Array Slot} (hl : lv_has ls 12 [(9, .int (nI wh)), (8, .int 0), (7, .ref a), (6, .int x), (3, .int (nI at_)), (5, .int (nI ti)), (4, .int (nI off)), (2, .int (nI (zn S))), (1, .ref (zg S 7 0 0)), (0, .ref b)]) : W p l e room_1 s m #[Value.ref b] below meth c H [] room_1.cells room_1.slots Q (F0 m 240 ls []) := by
  have hn12 := hW.1.n12
  refine lv_aload_n hx hb dL_law_240 rfl (lv_at hl 8 rfl) ?_
  refine lv_iconst (v := 1) hx hb dL_law_241 (by decide) ?_
  refine zk_ti (y := nI 1) (by decide) ?_
  refine lv_iload hx hb dL_law_242 (lv_at hl 3 rfl) ?_
  refine lv_iconst (v := 4) hx hb dL_law_244 (by decide) ?_
  refine lv_ishr hx hb dL_law_245 ?_
  obtain ⟨y245, hy245⟩ : ∃ y : Int32, y = x >>> ((4 : Int32) &&& 31) := ⟨_, rfl⟩
  refine zk_ti (y := y245) hy245.symm ?_
  refine lv_bipush (v := 40) hx hb dL_law_246 (by decide) ?_
  refine zk_ti (y := nI 40) (by decide) ?_
  refine zr_i (va_runS (As := [.int y245, .int (nI 40)]) (rest := [.int (nI 1), .ref (zg S 7 0 0)]) ⟨hx, hb, hml, hown, hts⟩ (y_below l y245 40 (by omega) (by omega)) (va_cwS 2 hts (lw_S wq794 wq795 wq0 wq796) rfl rfl rfl (by decide +kernel) ⟨(Nat.le_of_ble_eq_true rfl), (Nat.le_of_ble_eq_true rfl)⟩) (tp_N) rfl rfl hl.1 rfl (lv_room (Nat.le_of_ble_eq_true rfl)) dL_law_248 ⟨(Nat.le_of_ble_eq_true rfl), (Nat.le_of_ble_eq_true rfl)⟩) ?_
  have b248 := bel_lt (v := y245) (n := 40) (by omega)
  refine lv_iadd hx hb dL_law_251 ?_
  refine zk_ti (y := nI (1 + bel y245 40)) (nI_add _ _) ?_
  have hR := work_RS (mi := 1 + bel y245 40) hI (by omega)
  refine lw_i (w1 := (w_X10_work S w (1 + bel y245 40))) (hZ.zb (by omega) hR.1 (by omega)) hW (by have h9 := hZ.top (by omega) hI (by omega) hW; exact ⟨by omega, by omega⟩) (fun hle9 => va_runV (As := [.int (nI (1 + bel y245 40))]) (rest := []) ⟨hx, hb, hml, hown, hts⟩ (k_X10_work l D yc e0 _ S Z _ _ w H.size (zh H) (1 + bel y245 40) (by omega) (by omega) hst hI.2.1 hI.2.2.1 (hZ.zb (by omega) hR.1 (by omega))) (cwV 1 hts (lw_V wq269 wq270 wq271 wq1 wq272) rfl rfl rfl (by decide +kernel) ⟨(Nat.le_of_ble_eq_true rfl), (Nat.le_of_ble_eq_true rfl)⟩) (lq_V hC hW 7 0 0 dm7 rfl rfl) rfl rfl hl.1 rfl (lv_room (Nat.le_of_ble_eq_true rfl)) dL_law_252 hle9) (fun H1 hW1 hz1 hk1 => ?_)
  refine lv_pop hx hb dL_law_255 rfl ?_
  refine lv_goto (tgt := 422) hx hb dL_law_256 (by decide) ?_
  exact kk _ Z B H1 off 0 _ hW1 (hI7.kept (hk1 a hI7.lt ha)) (hR.1.mono (by omega)) (hZ.mono (by omega)) ⟨bn, by omega, hR.2.2.1.trans hbn⟩ (by rw [hR.2.1]; exact hst) ⟨(alf_eq _ hn12 hR.2.2.2.1).trans hal, by omega⟩ (fun _ k hk => by rw [hf k hk]; exact hR.2.2.2.2 k hk) (lv_sub hl [1, 2, 5, 6, 4, 7, 8, 9] rfl)
set_option maxHeartbeats 4000000 in
set_option maxRecDepth 100000 in
theorem y_ba {p : Program} {l : Launch} {e : Env} {s : State} {m : MethodId} {below : List Frame} {meth : Method} {c : Code} {D : va_G} {yc : Nat → ClassId} {e0 : Nat} {b L : Nat} {xs : Nat → Int32} {Q : State → Prop} (hx : p.tables.exec = Jvm.exec) (hb : c.code = cL_law) (hml : c.maxLocals = 12) (hown : s.vm.findClass RL = some m.cls) (hts : ∀ w ∈ lw_all, w.before #[Value.ref b] s = true) (hC : CX D yc e0 (A9 s) s) (hX : va_X b L xs s s.heap) (hbl : b < s.heap.size) (hL : L ≤ 260) {S : TS} {so : Nat → Nat} {B : Nat → Prop} {Z : Nat × Nat} {w : TW} {H : Heap} {a : Nat} {f : Nat → Int32} {t n0 bn off at_ ti : Nat} {x : Int32} (hW : LW s D yc e0 B S Z w H) (hI7 : IA D yc a f H) (ha : ¬ B a) (ha2 : s.heap.size ≤ a) (hf : ∀ j, j < zn S → f j = w.1 0 0 (3 * j) 0) (hI : INV S so False t w) (ht : t ≤ 1800) (hZ : ZI s Z n0) (hn0 : n0 ≤ 90) (hst : ¬ w.1 7 0 0 2 = 0) (hal : alf so w.2.2 (zn S) = off) (hof : off ≤ 45) (hbn : w.1 6 0 0 4 = nI bn) (hbn2 : bn ≤ 45) (hat : at_ ≤ 400) (hpos : 0 < zn S) {wh : Nat} (kk : ∀ (w1 : TW) (Z1 : Nat × Nat) (B1 : Nat → Prop) (H1 : Heap) (of1 : Nat) (cr : Int32) (ls : Array Slot), LW s D yc e0 B1 S Z1 w1 H1 → IA D yc a f H1 → INV S so False (t + 40) w1 → ZI s Z1 (n0 + 1) → (∃ bn1, bn1 ≤ bn + 1 ∧ w1.1 6 0 0 4 = nI bn1) → ¬ w1.1 7 0 0 2 = 0 → (alf so w1.2.2 (zn S) = of1 ∧ of1 ≤ off + 1) → (cr = 0 → ∀ k, k < zn S → f k ≤ w1.1 0 0 (3 * k) 0) → lv_has ls 12 [(8, .int cr), (7, .ref a), (5, .int (nI ti)), (4, .int (nI of1)), (3, .int (nI at_)), (2, .int (nI (zn S))), (1, .ref (zg S 7 0 0)), (0, .ref b)] → W p l e room_1 s m #[Value.ref b] below meth c H1 [] room_1.cells room_1.slots Q (F0 m 422 ls [])) {ls : Array Slot} (hl : lv_has ls 12 [(9, .int (nI wh)), (8, .int 0), (7, .ref a), (6, .int x), (3, .int (nI at_)), (5, .int (nI ti)), (4, .int (nI off)), (2, .int (nI (zn S))), (1, .ref (zg S 7 0 0)), (0, .ref b)]) : W p l e room_1 s m #[Value.ref b] below meth c H [] room_1.cells room_1.slots Q (F0 m 266 ls []) := by
  have hn12 := hW.1.n12
  refine lv_aload_n hx hb dL_law_266 rfl (lv_at hl 8 rfl) ?_
  refine lv_iload hx hb dL_law_267 (lv_at hl 3 rfl) ?_
  refine lv_iconst (v := 4) hx hb dL_law_269 (by decide) ?_
  refine lv_ishr hx hb dL_law_270 ?_
  obtain ⟨y270, hy270⟩ : ∃ y : Int32, y = x >>> ((4 : Int32) &&& 31) := ⟨_, rfl⟩
  refine zk_ti (y := y270) hy270.symm ?_
  refine lv_iload_n hx hb dL_law_271 rfl (lv_at hl 7 rfl) ?_
  refine zr_i (va_runS (As := [.int y270, .int (nI (zn S))]) (rest := [.ref (zg S 7 0 0)]) ⟨hx, hb, hml, hown, hts⟩ (y_below l y270 (zn S) (by omega) (by omega)) (va_cwS 2 hts (lw_S wq794 wq795 wq0 wq796) rfl rfl rfl (by decide +kernel) ⟨(Nat.le_of_ble_eq_true rfl), (Nat.le_of_ble_eq_true rfl)⟩) (tp_N) rfl rfl hl.1 rfl (lv_room (Nat.le_of_ble_eq_true rfl)) dL_law_272 ⟨(Nat.le_of_ble_eq_true rfl), (Nat.le_of_ble_eq_true rfl)⟩) ?_
  have b272 := bel_lt (v := y270) (n := (zn S)) (by omega)
  have hR := workAt_RS (k := bel y270 (zn S)) hI (by omega) b272
  refine lw_i (w1 := (w_X10_workAt S w (bel y270 (zn S)))) (hZ.zb (by omega) hR.1 (by omega)) hW (by have h9 := hZ.top (by omega) hI (by omega) hW; exact ⟨by omega, by omega⟩) (fun hle9 => va_runV (As := [.int (nI (bel y270 (zn S)))]) (rest := []) ⟨hx, hb, hml, hown, hts⟩ (k_X10_workAt l D yc e0 _ S Z _ _ w H.size (zh H) (bel y270 (zn S)) b272 hst hI.2.1 (hZ.zb (by omega) hR.1 (by omega))) (cwV 1 hts (lw_V wq588 wq589 wq590 wq1 wq591) rfl rfl rfl (by decide +kernel) ⟨(Nat.le_of_ble_eq_true rfl), (Nat.le_of_ble_eq_true rfl)⟩) (lq_V hC hW 7 0 0 dm7 rfl rfl) rfl rfl hl.1 rfl (lv_room (Nat.le_of_ble_eq_true rfl)) dL_law_275 hle9) (fun H1 hW1 hz1 hk1 => ?_)
  refine lv_pop hx hb dL_law_278 rfl ?_
  refine lv_goto (tgt := 422) hx hb dL_law_279 (by decide) ?_
  exact kk _ Z B H1 off 0 _ hW1 (hI7.kept (hk1 a hI7.lt ha)) (hR.1.mono (by omega)) (hZ.mono (by omega)) ⟨bn, by omega, hR.2.2.1.trans hbn⟩ (by rw [hR.2.1]; exact hst) ⟨(alf_eq _ hn12 hR.2.2.2.1).trans hal, by omega⟩ (fun _ k hk => by rw [hf k hk]; exact hR.2.2.2.2 k hk) (lv_sub hl [1, 2, 5, 6, 4, 7, 8, 9] rfl)
set_option maxHeartbeats 4000000 in
set_option maxRecDepth 100000 in
theorem y_bc {p : Program} {l : Launch} {e : Env} {s : State} {m : MethodId} {below : List Frame} {meth : Method} {c : Code} {D : va_G} {yc : Nat → ClassId} {e0 : Nat} {b L : Nat} {xs : Nat → Int32} {Q : State → Prop} (hx : p.tables.exec = Jvm.exec) (hb : c.code = cL_law) (hml : c.maxLocals = 12) (hown : s.vm.findClass RL = some m.cls) (hts : ∀ w ∈ lw_all, w.before #[Value.ref b] s = true) (hC : CX D yc e0 (A9 s) s) (hX : va_X b L xs s s.heap) (hbl : b < s.heap.size) (hL : L ≤ 260) {S : TS} {so : Nat → Nat} {B : Nat → Prop} {Z : Nat × Nat} {w : TW} {H : Heap} {a : Nat} {f : Nat → Int32} {t n0 bn off at_ ti : Nat} {x : Int32} (hW : LW s D yc e0 B S Z w H) (hI7 : IA D yc a f H) (ha : ¬ B a) (ha2 : s.heap.size ≤ a) (hf : ∀ j, j < zn S → f j = w.1 0 0 (3 * j) 0) (hI : INV S so False t w) (ht : t ≤ 1800) (hZ : ZI s Z n0) (hn0 : n0 ≤ 90) (hst : ¬ w.1 7 0 0 2 = 0) (hal : alf so w.2.2 (zn S) = off) (hof : off ≤ 45) (hbn : w.1 6 0 0 4 = nI bn) (hbn2 : bn ≤ 45) (hat : at_ ≤ 400) (hpos : 0 < zn S) {wh : Nat} (hwh : wh ≠ 13) (hwh2 : wh < 14) (kk : ∀ (w1 : TW) (Z1 : Nat × Nat) (B1 : Nat → Prop) (H1 : Heap) (of1 : Nat) (cr : Int32) (ls : Array Slot), LW s D yc e0 B1 S Z1 w1 H1 → IA D yc a f H1 → INV S so False (t + 40) w1 → ZI s Z1 (n0 + 1) → (∃ bn1, bn1 ≤ bn + 1 ∧ w1.1 6 0 0 4 = nI bn1) → ¬ w1.1 7 0 0 2 = 0 → (alf so w1.2.2 (zn S) = of1 ∧ of1 ≤ off + 1) → (cr = 0 → ∀ k, k < zn S → f k ≤ w1.1 0 0 (3 * k) 0) → lv_has ls 12 [(8, .int cr), (7, .ref a), (5, .int (nI ti)), (4, .int (nI of1)), (3, .int (nI at_)), (2, .int (nI (zn S))), (1, .ref (zg S 7 0 0)), (0, .ref b)] → W p l e room_1 s m #[Value.ref b] below meth c H1 [] room_1.cells room_1.slots Q (F0 m 422 ls [])) {ls : Array Slot} (hl : lv_has ls 12 [(9, .int (nI wh)), (8, .int 0), (7, .ref a), (6, .int x), (3, .int (nI at_)), (5, .int (nI ti)), (4, .int (nI off)), (2, .int (nI (zn S))), (1, .ref (zg S 7 0 0)), (0, .ref b)]) : W p l e room_1 s m #[Value.ref b] below meth c H [] room_1.cells room_1.slots Q (F0 m 289 ls []) := by
  have hn12 := hW.1.n12
  refine lv_aload_n hx hb dL_law_289 rfl (lv_at hl 8 rfl) ?_
  refine zr_i (va_runV (As := []) (rest := []) ⟨hx, hb, hml, hown, hts⟩ (k_X10_begun l D yc e0 _ S _ w.1 w.2.1 w.2.2) (cwV 0 hts (lw_V wq670 wq671 wq672 wq1 wq673) rfl rfl rfl (by decide +kernel) ⟨(Nat.le_of_ble_eq_true rfl), (Nat.le_of_ble_eq_true rfl)⟩) (lp_V hC hW 7 0 0 dm7 rfl rfl) rfl rfl hl.1 rfl (lv_room (Nat.le_of_ble_eq_true rfl)) dL_law_290 ⟨(Nat.le_of_ble_eq_true rfl), (Nat.le_of_ble_eq_true rfl)⟩) ?_
  refine zk_ti (y := w.1 6 0 0 5) rfl ?_
  refine lv_if_ne (tgt := 304) hx hb dL_law_293 (by decide) (fun hb0 => ?_) (fun hb0 => ?_)
  · refine lv_iload hx hb dL_law_304 (lv_at hl 0 rfl) ?_
    refine lv_bipush (v := 13) hx hb dL_law_306 (by decide) ?_
    refine zk_ti (y := nI 13) (by decide) ?_
    refine lv_icmp_ne (tgt := 422) hx hb dL_law_308 (by decide) (fun _ => ?_) (fun h9 => absurd h9 (fun h9 => hwh ((nI_eq (by omega) (by decide)).mp h9)))
    exact kk w Z B H off 0 _ hW hI7 (hI.mono (by omega)) (hZ.mono (by omega)) ⟨bn, by omega, hbn⟩ hst ⟨hal, by omega⟩ (fun _ k hk => by rw [hf k hk]; exact zi_le.mpr (Int.le_refl _)) (lv_sub hl [1, 2, 5, 6, 4, 7, 8, 9] rfl)
  · refine lv_aload_n hx hb dL_law_296 rfl (lv_at hl 8 rfl) ?_
    have hR := ckp_INV hI hpos hb0 hbn (by omega)
    refine lw_i (w1 := (w_X10_checkpoint S w)) (hZ.zb (by omega) hR.1 (by omega)) hW (by have h9 := hZ.top (by omega) hI (by omega) hW; exact ⟨by omega, by omega⟩) (fun hle9 => va_runV (As := []) (rest := []) ⟨hx, hb, hml, hown, hts⟩ (k_X10_checkpoint l D yc e0 _ S Z _ _ w H.size (zh H) hst hb0 (hZ.zb (by omega) hR.1 (by omega))) (cwV 0 hts (lw_V wq593 wq594 wq595 wq1 wq596) rfl rfl rfl (by decide +kernel) ⟨(Nat.le_of_ble_eq_true rfl), (Nat.le_of_ble_eq_true rfl)⟩) (lq_V hC hW 7 0 0 dm7 rfl rfl) rfl rfl hl.1 rfl (lv_room (Nat.le_of_ble_eq_true rfl)) dL_law_297 hle9) (fun H1 hW1 hz1 hk1 => ?_)
    refine lv_pop hx hb dL_law_300 rfl ?_
    refine lv_goto (tgt := 422) hx hb dL_law_301 (by decide) ?_
    exact kk _ Z B H1 off 0 _ hW1 (hI7.kept (hk1 a hI7.lt ha)) (hR.1.mono (by omega)) (hZ.mono (by omega)) ⟨bn + 1, by omega, hR.2.1⟩ (by rw [hR.2.2.2 7 0 0 2 (by omega) (by omega)]; exact hst) ⟨by rw [hR.2.2.1]; exact hal, by omega⟩ (fun _ k hk => by rw [hf k hk, hR.2.2.2 0 0 (3 * k) 0 (by omega) (by omega)]; exact zi_le.mpr (Int.le_refl _)) (lv_sub hl [1, 2, 5, 6, 4, 7, 8, 9] rfl)
set_option maxHeartbeats 4000000 in
set_option maxRecDepth 100000 in
theorem y_bx {p : Program} {l : Launch} {e : Env} {s : State} {m : MethodId} {below : List Frame} {meth : Method} {c : Code} {D : va_G} {yc : Nat → ClassId} {e0 : Nat} {b L : Nat} {xs : Nat → Int32} {Q : State → Prop} (hx : p.tables.exec = Jvm.exec) (hb : c.code = cL_law) (hml : c.maxLocals = 12) (hown : s.vm.findClass RL = some m.cls) (hts : ∀ w ∈ lw_all, w.before #[Value.ref b] s = true) (hC : CX D yc e0 (A9 s) s) (hX : va_X b L xs s s.heap) (hbl : b < s.heap.size) (hL : L ≤ 260) {S : TS} {so : Nat → Nat} {B : Nat → Prop} {Z : Nat × Nat} {w : TW} {H : Heap} {a : Nat} {f : Nat → Int32} {t n0 bn off at_ ti : Nat} {x : Int32} (hW : LW s D yc e0 B S Z w H) (hI7 : IA D yc a f H) (ha : ¬ B a) (ha2 : s.heap.size ≤ a) (hf : ∀ j, j < zn S → f j = w.1 0 0 (3 * j) 0) (hI : INV S so False t w) (ht : t ≤ 1800) (hZ : ZI s Z n0) (hn0 : n0 ≤ 90) (hst : ¬ w.1 7 0 0 2 = 0) (hal : alf so w.2.2 (zn S) = off) (hof : off ≤ 45) (hbn : w.1 6 0 0 4 = nI bn) (hbn2 : bn ≤ 45) (hat : at_ ≤ 400) (hpos : 0 < zn S) (kk : ∀ (w1 : TW) (Z1 : Nat × Nat) (B1 : Nat → Prop) (H1 : Heap) (of1 : Nat) (cr : Int32) (ls : Array Slot), LW s D yc e0 B1 S Z1 w1 H1 → IA D yc a f H1 → INV S so False (t + 40) w1 → ZI s Z1 (n0 + 1) → (∃ bn1, bn1 ≤ bn + 1 ∧ w1.1 6 0 0 4 = nI bn1) → ¬ w1.1 7 0 0 2 = 0 → (alf so w1.2.2 (zn S) = of1 ∧ of1 ≤ off + 1) → (cr = 0 → ∀ k, k < zn S → f k ≤ w1.1 0 0 (3 * k) 0) → lv_has ls 12 [(8, .int cr), (7, .ref a), (5, .int (nI ti)), (4, .int (nI of1)), (3, .int (nI at_)), (2, .int (nI (zn S))), (1, .ref (zg S 7 0 0)), (0, .ref b)] → W p l e room_1 s m #[Value.ref b] below meth c H1 [] room_1.cells room_1.slots Q (F0 m 422 ls [])) {ls : Array Slot} (hl : lv_has ls 12 [(9, .int (nI 13)), (8, .int 0), (7, .ref a), (6, .int x), (3, .int (nI at_)), (5, .int (nI ti)), (4, .int (nI off)), (2, .int (nI (zn S))), (1, .ref (zg S 7 0 0)), (0, .ref b)]) : W p l e room_1 s m #[Value.ref b] below meth c H [] room_1.cells room_1.slots Q (F0 m 311 ls []) := by
  have hn12 := hW.1.n12
  refine lv_iconst (v := 1) hx hb dL_law_311 (by decide) ?_
  refine lv_istore (lv' := [(8, .int 1), (9, .int (nI 13)), (7, .ref a), (6, .int x), (3, .int (nI at_)), (5, .int (nI ti)), (4, .int (nI off)), (2, .int (nI (zn S))), (1, .ref (zg S 7 0 0)), (0, .ref b)]) hx hb dL_law_312 hl (by decide) rfl (fun ls hl => ?_)
  refine lv_bipush (v := 12) hx hb dL_law_314 (by decide) ?_
  refine lw_newa hx hb hC (hts _ wq1206) hW (hZ.top (by omega) hI (by omega) hW) dL_law_316 (fun H1 hW1 hI8 hB8 hz1 hq1 => ?_)
  refine lv_astore (lv' := [(10, .ref H.size), (8, .int 1), (9, .int (nI 13)), (7, .ref a), (6, .int x), (3, .int (nI at_)), (5, .int (nI ti)), (4, .int (nI off)), (2, .int (nI (zn S))), (1, .ref (zg S 7 0 0)), (0, .ref b)]) hx hb dL_law_318 hl (by decide) rfl (fun ls hl => ?_)
  refine lv_iconst (v := 0) hx hb dL_law_320 (by decide) ?_
  refine zk_ti (y := nI 0) (by decide) ?_
  refine lv_istore (lv' := [(11, .int (nI 0)), (10, .ref H.size), (8, .int 1), (9, .int (nI 13)), (7, .ref a), (6, .int x), (3, .int (nI at_)), (5, .int (nI ti)), (4, .int (nI off)), (2, .int (nI (zn S))), (1, .ref (zg S 7 0 0)), (0, .ref b)]) hx hb dL_law_321 hl (by decide) rfl (fun ls hl => ?_)
  have hne : a ≠ H.size := Nat.ne_of_lt hI7.lt
  have hGS := hI.2.1
  refine y_kp hx hb hml hown hts hC hX hbl hL hn12 hGS (fun h9 => h9.2 rfl) hW.2.1.1 hne (fun H2 f8 ls hf8 hI8 hI7 hW2 hl => ?_) (zn S) 0 (by omega) hW1 hI8 (hI7.kept (hq1 a hI7.lt)) (fun i h9 => absurd h9 (Nat.not_lt_zero i)) (lv_sub hl [0, 1, 3, 2, 4, 5, 7, 8, 6, 9, 10, 11] rfl)
  refine lv_aload_n hx hb dL_law_361 rfl (lv_at hl 10 rfl) ?_
  have hR := crash_INV hI (by omega)
  refine lw_i (w1 := (w_X10_crash S w)) (hZ.more.zb (by omega) hR.1 (by omega)) hW2 (by have h9 := hZ.more.top (by omega) hI (by omega) hW2; exact ⟨by omega, by omega⟩) (fun hle9 => va_runV (As := []) (rest := []) ⟨hx, hb, hml, hown, hts⟩ (k_X10_crash l D yc e0 _ S _ _ _ w H2.size (zh H2) hst hGS (hZ.more.zb (by omega) hR.1 (by omega))) (cwV 0 hts (lw_V wq601 wq602 wq603 wq1 wq604) rfl rfl rfl (by decide +kernel) ⟨(Nat.le_of_ble_eq_true rfl), (Nat.le_of_ble_eq_true rfl)⟩) (lq_V hC hW2 7 0 0 dm7 rfl rfl) rfl rfl hl.1 rfl (lv_room (Nat.le_of_ble_eq_true rfl)) dL_law_362 hle9) (fun H3 hW3 hz3 hk3 => ?_)
  refine lv_pop hx hb dL_law_365 rfl ?_
  refine lv_iconst (v := 0) hx hb dL_law_366 (by decide) ?_
  refine zk_ti (y := nI 0) (by decide) ?_
  refine lv_istore (lv' := [(11, .int (nI 0)), (10, .ref H.size), (9, .int (nI 13)), (8, .int 1), (7, .ref a), (6, .int x), (5, .int (nI ti)), (4, .int (nI off)), (3, .int (nI at_)), (2, .int (nI (zn S))), (1, .ref (zg S 7 0 0)), (0, .ref b)]) hx hb dL_law_367 hl (by decide) rfl (fun ls hl => ?_)
  have hR2 := hR.2.1
  refine y_sm hx hb hml hown hts hC hX hbl hL hn12 hR.1.2.1 (hI8.kept (hk3 _ hI8.lt (fun h9 => h9.2 rfl))) (fun k hk h7 => ?_) (fun ls hl => ?_) (zn S) 0 (by omega) hW3 (lv_sub hl [0, 1, 2, 3, 4, 5, 6, 7, 8, 9, 10, 11] rfl)
  · rw [hR.2.2.1] at h7
    exact ⟨((hR2 k hk 7 (by omega)).1).trans (hf8 k hk h7).symm, ((hR2 k hk 7 (by omega)).2).trans (hf8 k hk h7).symm⟩
  · exact kk _ _ _ H3 off 1 _ hW3 (hI7.kept (hk3 _ hI7.lt (fun h9 => ha h9.1))) (hR.1.mono (by omega)) hZ.more ⟨bn, by omega, hR.2.2.2.2.2.1.trans hbn⟩ (by rw [hR.2.2.2.1]; exact hst) ⟨(alf_eq _ hn12 hR.2.2.2.2.2.2).trans hal, by omega⟩ (fun h9 => absurd h9 (by decide)) (lv_sub hl [3, 4, 6, 7, 8, 9, 10, 11] rfl)
set_option maxHeartbeats 4000000 in
set_option maxRecDepth 100000 in
theorem y_bo {p : Program} {l : Launch} {e : Env} {s : State} {m : MethodId} {below : List Frame} {meth : Method} {c : Code} {D : va_G} {yc : Nat → ClassId} {e0 : Nat} {b L : Nat} {xs : Nat → Int32} {Q : State → Prop} (hx : p.tables.exec = Jvm.exec) (hb : c.code = cL_law) (hml : c.maxLocals = 12) (hown : s.vm.findClass RL = some m.cls) (hts : ∀ w ∈ lw_all, w.before #[Value.ref b] s = true) (hC : CX D yc e0 (A9 s) s) (hX : va_X b L xs s s.heap) (hbl : b < s.heap.size) (hL : L ≤ 260) {S : TS} {so : Nat → Nat} {B : Nat → Prop} {Z : Nat × Nat} {w : TW} {H : Heap} {a : Nat} {f : Nat → Int32} {t n0 bn off at_ ti : Nat} {x : Int32} (hW : LW s D yc e0 B S Z w H) (hI7 : IA D yc a f H) (ha : ¬ B a) (ha2 : s.heap.size ≤ a) (hf : ∀ j, j < zn S → f j = w.1 0 0 (3 * j) 0) (hI : INV S so False t w) (ht : t ≤ 1800) (hZ : ZI s Z n0) (hn0 : n0 ≤ 90) (hst : ¬ w.1 7 0 0 2 = 0) (hal : alf so w.2.2 (zn S) = off) (hof : off ≤ 45) (hbn : w.1 6 0 0 4 = nI bn) (hbn2 : bn ≤ 45) (hat : at_ ≤ 400) (hpos : 0 < zn S) {wh : Nat} (kk : ∀ (w1 : TW) (Z1 : Nat × Nat) (B1 : Nat → Prop) (H1 : Heap) (of1 : Nat) (cr : Int32) (ls : Array Slot), LW s D yc e0 B1 S Z1 w1 H1 → IA D yc a f H1 → INV S so False (t + 40) w1 → ZI s Z1 (n0 + 1) → (∃ bn1, bn1 ≤ bn + 1 ∧ w1.1 6 0 0 4 = nI bn1) → ¬ w1.1 7 0 0 2 = 0 → (alf so w1.2.2 (zn S) = of1 ∧ of1 ≤ off + 1) → (cr = 0 → ∀ k, k < zn S → f k ≤ w1.1 0 0 (3 * k) 0) → lv_has ls 12 [(8, .int cr), (7, .ref a), (5, .int (nI ti)), (4, .int (nI of1)), (3, .int (nI at_)), (2, .int (nI (zn S))), (1, .ref (zg S 7 0 0)), (0, .ref b)] → W p l e room_1 s m #[Value.ref b] below meth c H1 [] room_1.cells room_1.slots Q (F0 m 422 ls [])) {ls : Array Slot} (hl : lv_has ls 12 [(9, .int (nI wh)), (8, .int 0), (7, .ref a), (6, .int x), (3, .int (nI at_)), (5, .int (nI ti)), (4, .int (nI off)), (2, .int (nI (zn S))), (1, .ref (zg S 7 0 0)), (0, .ref b)]) : W p l e room_1 s m #[Value.ref b] below meth c H [] room_1.cells room_1.slots Q (F0 m 175 ls []) := by
  have hn12 := hW.1.n12
  refine lv_iload hx hb dL_law_175 (lv_at hl 6 rfl) ?_
  refine lv_aload_n hx hb dL_law_177 rfl (lv_at hl 8 rfl) ?_
  refine lv_iload hx hb dL_law_178 (lv_at hl 3 rfl) ?_
  refine lv_iconst (v := 3) hx hb dL_law_180 (by decide) ?_
  refine lv_ishr hx hb dL_law_181 ?_
  obtain ⟨y181, hy181⟩ : ∃ y : Int32, y = x >>> ((3 : Int32) &&& 31) := ⟨_, rfl⟩
  refine zk_ti (y := y181) hy181.symm ?_
  refine lv_iload_n hx hb dL_law_182 rfl (lv_at hl 7 rfl) ?_
  refine zr_i (va_runS (As := [.int y181, .int (nI (zn S))]) (rest := [.ref (zg S 7 0 0), .int (nI off)]) ⟨hx, hb, hml, hown, hts⟩ (y_below l y181 (zn S) (by omega) (by omega)) (va_cwS 2 hts (lw_S wq794 wq795 wq0 wq796) rfl rfl rfl (by decide +kernel) ⟨(Nat.le_of_ble_eq_true rfl), (Nat.le_of_ble_eq_true rfl)⟩) (tp_N) rfl rfl hl.1 rfl (lv_room (Nat.le_of_ble_eq_true rfl)) dL_law_183 ⟨(Nat.le_of_ble_eq_true rfl), (Nat.le_of_ble_eq_true rfl)⟩) ?_
  have b183 := bel_lt (v := y181) (n := (zn S)) (by omega)
  refine lv_iload hx hb dL_law_186 (lv_at hl 3 rfl) ?_
  refine lv_bipush (v := 6) hx hb dL_law_188 (by decide) ?_
  refine lv_ishr hx hb dL_law_190 ?_
  obtain ⟨y190, hy190⟩ : ∃ y : Int32, y = x >>> ((6 : Int32) &&& 31) := ⟨_, rfl⟩
  refine zk_ti (y := y190) hy190.symm ?_
  refine lv_iconst (v := 4) hx hb dL_law_191 (by decide) ?_
  refine zk_ti (y := nI 4) (by decide) ?_
  refine zr_i (va_runS (As := [.int y190, .int (nI 4)]) (rest := [.int (nI (bel y181 (zn S))), .ref (zg S 7 0 0), .int (nI off)]) ⟨hx, hb, hml, hown, hts⟩ (y_below l y190 4 (by omega) (by omega)) (va_cwS 2 hts (lw_S wq794 wq795 wq0 wq796) rfl rfl rfl (by decide +kernel) ⟨(Nat.le_of_ble_eq_true rfl), (Nat.le_of_ble_eq_true rfl)⟩) (tp_N) rfl rfl hl.1 rfl (lv_room (Nat.le_of_ble_eq_true rfl)) dL_law_192 ⟨(Nat.le_of_ble_eq_true rfl), (Nat.le_of_ble_eq_true rfl)⟩) ?_
  have b192 := bel_lt (v := y190) (n := 4) (by omega)
  refine lv_iload hx hb dL_law_195 (lv_at hl 3 rfl) ?_
  refine lv_bipush (v := 7) hx hb dL_law_197 (by decide) ?_
  refine lv_ishr hx hb dL_law_199 ?_
  obtain ⟨y199, hy199⟩ : ∃ y : Int32, y = x >>> ((7 : Int32) &&& 31) := ⟨_, rfl⟩
  refine zk_ti (y := y199) hy199.symm ?_
  refine lv_bipush (v := 101) hx hb dL_law_200 (by decide) ?_
  refine zk_ti (y := nI 101) (by decide) ?_
  refine zr_i (va_runS (As := [.int y199, .int (nI 101)]) (rest := [.int (nI (bel y190 4)), .int (nI (bel y181 (zn S))), .ref (zg S 7 0 0), .int (nI off)]) ⟨hx, hb, hml, hown, hts⟩ (y_below l y199 101 (by omega) (by omega)) (va_cwS 2 hts (lw_S wq794 wq795 wq0 wq796) rfl rfl rfl (by decide +kernel) ⟨(Nat.le_of_ble_eq_true rfl), (Nat.le_of_ble_eq_true rfl)⟩) (tp_N) rfl rfl hl.1 rfl (lv_room (Nat.le_of_ble_eq_true rfl)) dL_law_202 ⟨(Nat.le_of_ble_eq_true rfl), (Nat.le_of_ble_eq_true rfl)⟩) ?_
  have b202 := bel_lt (v := y199) (n := 101) (by omega)
  refine lv_bipush (v := 30) hx hb dL_law_205 (by decide) ?_
  refine lv_isub hx hb dL_law_207 ?_
  obtain ⟨y207, hy207⟩ : ∃ y : Int32, y = (nI (bel y199 101)) - 30 := ⟨_, rfl⟩
  refine zk_ti (y := y207) hy207.symm ?_
  refine lv_iconst (v := 0) hx hb dL_law_208 (by decide) ?_
  refine lv_iload_n hx hb dL_law_209 rfl (lv_at hl 4 rfl) ?_
  refine lv_iload hx hb dL_law_210 (lv_at hl 3 rfl) ?_
  refine lv_bipush (v := 9) hx hb dL_law_212 (by decide) ?_
  refine lv_ishr hx hb dL_law_214 ?_
  obtain ⟨y214, hy214⟩ : ∃ y : Int32, y = x >>> ((9 : Int32) &&& 31) := ⟨_, rfl⟩
  refine zk_ti (y := y214) hy214.symm ?_
  refine lv_bipush (v := 30) hx hb dL_law_215 (by decide) ?_
  refine zk_ti (y := nI 30) (by decide) ?_
  refine zr_i (va_runS (As := [.int y214, .int (nI 30)]) (rest := [.int (nI at_), .int 0, .int y207, .int (nI (bel y190 4)), .int (nI (bel y181 (zn S))), .ref (zg S 7 0 0), .int (nI off)]) ⟨hx, hb, hml, hown, hts⟩ (y_below l y214 30 (by omega) (by omega)) (va_cwS 2 hts (lw_S wq794 wq795 wq0 wq796) rfl rfl rfl (by decide +kernel) ⟨(Nat.le_of_ble_eq_true rfl), (Nat.le_of_ble_eq_true rfl)⟩) (tp_N) rfl rfl hl.1 rfl (lv_room (Nat.le_of_ble_eq_true rfl)) dL_law_217 ⟨(Nat.le_of_ble_eq_true rfl), (Nat.le_of_ble_eq_true rfl)⟩) ?_
  have b217 := bel_lt (v := y214) (n := 30) (by omega)
  refine lv_isub hx hb dL_law_220 ?_
  refine zk_ti (y := nI at_ - nI (bel y214 30)) rfl ?_
  refine va_mmax hx hb (by rw [hml]; exact hl.1.symm) hown (hts _ wq1188) (hts _ wq375) (hts _ wq14) (hts _ wq376) (Nat.le_of_ble_eq_true rfl) (Nat.le_of_ble_eq_true rfl) (Nat.le_of_ble_eq_true rfl) (Nat.le_of_ble_eq_true rfl) dL_law_221 ?_
  refine zk_ti (y := nI (at_ - bel y214 30)) (mx_sub (by omega) (by omega)) ?_
  have hk := b183
  have hpl := (hI.1.2.2 (bel y181 (zn S)) hk).1
  by_cases hs : w.1 8 0 (bel y181 (zn S)) 0 = 0
  · have hs0 : so (bel y181 (zn S)) = 0 := (nI_eq (by have := hpl.2.1; omega) (by decide)).mp (hpl.1.symm.trans hs)
    have hlen := alf_le (q := w.2.2) (zn S) hk hs0
    have hR := offer_INV (v := y207) hI hk (a := (bel y190 4)) (tm := (at_ - bel y214 30)) (by omega) (by omega) (by omega)
    refine lw_i (w1 := ((w_X10_offer S w (bel y181 (zn S)) (bel y190 4) y207 (at_ - bel y214 30)).1, (1 : Int32))) (hZ.zb (by omega) hR.1 (by omega)) hW (by have h9 := hZ.top (by omega) hI (by omega) hW; exact ⟨by omega, by omega⟩) (fun hle9 => va_runS (As := [.ref (zg S 7 0 0), .int (nI (bel y181 (zn S))), .int (nI (bel y190 4)), .int y207, .int (nI (at_ - bel y214 30))]) (rest := [.int (nI off)]) ⟨hx, hb, hml, hown, hts⟩ (y_offer1 l hk hs hst (hI.opn hk) (by omega) (by omega) (by omega) (hZ.zb (by omega) hR.1 (by omega))) (va_cwS 5 hts (lw_S wq802 wq803 wq0 wq804) rfl rfl rfl (by decide +kernel) ⟨(Nat.le_of_ble_eq_true rfl), (Nat.le_of_ble_eq_true rfl)⟩) (lq_S hC hW) rfl rfl hl.1 rfl (lv_room (Nat.le_of_ble_eq_true rfl)) dL_law_224 hle9) (fun H1 hW1 hz1 hk1 => ?_)
    refine lv_iadd hx hb dL_law_227 ?_
    refine zk_ti (y := nI (off + 1)) (nI_1 off) ?_
    refine lv_istore (lv' := [(4, .int (nI (off + 1))), (9, .int (nI wh)), (8, .int 0), (7, .ref a), (6, .int x), (3, .int (nI at_)), (5, .int (nI ti)), (2, .int (nI (zn S))), (1, .ref (zg S 7 0 0)), (0, .ref b)]) hx hb dL_law_228 hl (by decide) rfl (fun ls hl => ?_)
    refine lv_goto (tgt := 422) hx hb dL_law_230 (by decide) ?_
    have hq : ∀ i, (w_X10_offer S w (bel y181 (zn S)) (bel y190 4) y207 (at_ - bel y214 30)).1.2.2 i = _ := hR.2.2
    have hal2 : alf so (w_X10_offer S w (bel y181 (zn S)) (bel y190 4) y207 (at_ - bel y214 30)).1.2.2 (zn S) = off + 1 := by
      rw [alf_upd hs0 (q := w.2.2) (by rw [hq, if_pos rfl]; simp [qadd]) (fun j hj => by rw [hq, if_neg (fun h9 => hj (by unfold rl at h9; omega))]) (zn S), if_pos hk, hal]
    exact kk _ Z B H1 (off + 1) 0 _ hW1 (hI7.kept (hk1 a hI7.lt ha)) (hR.1.mono (by omega)) (hZ.mono (by omega)) ⟨bn, by omega, by show (w_X10_offer S w (bel y181 (zn S)) (bel y190 4) y207 (at_ - bel y214 30)).1.1 6 0 0 4 = _; rw [hR.2.1]; exact hbn⟩ (by show ¬ (w_X10_offer S w (bel y181 (zn S)) (bel y190 4) y207 (at_ - bel y214 30)).1.1 7 0 0 2 = 0; rw [hR.2.1]; exact hst) ⟨hal2, by omega⟩ (fun _ k hk => by rw [hf k hk]; show _ ≤ (w_X10_offer S w (bel y181 (zn S)) (bel y190 4) y207 (at_ - bel y214 30)).1.1 0 0 (3 * k) 0; rw [hR.2.1]; exact zi_le.mpr (Int.le_refl _)) (lv_sub hl [2, 3, 6, 0, 5, 7, 8, 9] rfl)
  · refine zr_i (va_runS (As := [.ref (zg S 7 0 0), .int (nI (bel y181 (zn S))), .int (nI (bel y190 4)), .int y207, .int (nI (at_ - bel y214 30))]) (rest := [.int (nI off)]) ⟨hx, hb, hml, hown, hts⟩ (y_offer0 l hk hs) (va_cwS 5 hts (lw_S wq802 wq803 wq0 wq804) rfl rfl rfl (by decide +kernel) ⟨(Nat.le_of_ble_eq_true rfl), (Nat.le_of_ble_eq_true rfl)⟩) (lp_S hC hW) rfl rfl hl.1 rfl (lv_room (Nat.le_of_ble_eq_true rfl)) dL_law_224 ⟨(Nat.le_of_ble_eq_true rfl), (Nat.le_of_ble_eq_true rfl)⟩) ?_
    refine lv_iadd hx hb dL_law_227 ?_
    refine zk_ti (y := nI off) (Int32.add_zero _) ?_
    refine lv_istore (lv' := [(4, .int (nI off)), (9, .int (nI wh)), (8, .int 0), (7, .ref a), (6, .int x), (3, .int (nI at_)), (5, .int (nI ti)), (2, .int (nI (zn S))), (1, .ref (zg S 7 0 0)), (0, .ref b)]) hx hb dL_law_228 hl (by decide) rfl (fun ls hl => ?_)
    refine lv_goto (tgt := 422) hx hb dL_law_230 (by decide) ?_
    exact kk w Z B H off 0 _ hW hI7 (hI.mono (by omega)) (hZ.mono (by omega)) ⟨bn, by omega, hbn⟩ hst ⟨hal, by omega⟩ (fun _ k hk => by rw [hf k hk]; exact zi_le.mpr (Int.le_refl _)) (lv_sub hl [2, 3, 6, 0, 5, 7, 8, 9] rfl)
set_option maxHeartbeats 4000000 in
set_option maxRecDepth 100000 in
theorem y_disp {p : Program} {l : Launch} {e : Env} {s : State} {m : MethodId} {below : List Frame} {meth : Method} {c : Code} {D : va_G} {yc : Nat → ClassId} {e0 : Nat} {b L : Nat} {xs : Nat → Int32} {Q : State → Prop} (hx : p.tables.exec = Jvm.exec) (hb : c.code = cL_law) (hml : c.maxLocals = 12) (hown : s.vm.findClass RL = some m.cls) (hts : ∀ w ∈ lw_all, w.before #[Value.ref b] s = true) (hC : CX D yc e0 (A9 s) s) (hX : va_X b L xs s s.heap) (hbl : b < s.heap.size) (hL : L ≤ 260) {S : TS} {so : Nat → Nat} {B : Nat → Prop} {Z : Nat × Nat} {w : TW} {H : Heap} {a : Nat} {f : Nat → Int32} {t n0 bn off at0 ti : Nat} {x : Int32} (hW : LW s D yc e0 B S Z w H) (hI7 : IA D yc a f H) (ha : ¬ B a) (ha2 : s.heap.size ≤ a) (hf : ∀ j, j < zn S → f j = w.1 0 0 (3 * j) 0) (hI : INV S so False t w) (ht : t ≤ 1800) (hZ : ZI s Z n0) (hn0 : n0 ≤ 90) (hst : ¬ w.1 7 0 0 2 = 0) (hal : alf so w.2.2 (zn S) = off) (hof : off ≤ 45) (hbn : w.1 6 0 0 4 = nI bn) (hbn2 : bn ≤ 45) (hat : at0 + 8 ≤ 400) (hpos : 0 < zn S) (kk : ∀ at_, at_ ≤ at0 + 8 → ∀ (w1 : TW) (Z1 : Nat × Nat) (B1 : Nat → Prop) (H1 : Heap) (of1 : Nat) (cr : Int32) (ls : Array Slot), LW s D yc e0 B1 S Z1 w1 H1 → IA D yc a f H1 → INV S so False (t + 40) w1 → ZI s Z1 (n0 + 1) → (∃ bn1, bn1 ≤ bn + 1 ∧ w1.1 6 0 0 4 = nI bn1) → ¬ w1.1 7 0 0 2 = 0 → (alf so w1.2.2 (zn S) = of1 ∧ of1 ≤ off + 1) → (cr = 0 → ∀ k, k < zn S → f k ≤ w1.1 0 0 (3 * k) 0) → lv_has ls 12 [(8, .int cr), (7, .ref a), (5, .int (nI ti)), (4, .int (nI of1)), (3, .int (nI at_)), (2, .int (nI (zn S))), (1, .ref (zg S 7 0 0)), (0, .ref b)] → W p l e room_1 s m #[Value.ref b] below meth c H1 [] room_1.cells room_1.slots Q (F0 m 422 ls [])) {ls : Array Slot} (hl : lv_has ls 12 [(8, .int (nI (zn S))), (7, .ref a), (6, .int x), (3, .int (nI at0)), (5, .int (nI ti)), (4, .int (nI off)), (2, .int (nI (zn S))), (1, .ref (zg S 7 0 0)), (0, .ref b)]) : W p l e room_1 s m #[Value.ref b] below meth c H [] room_1.cells room_1.slots Q (F0 m 144 ls []) := by
  have hn12 := hW.1.n12
  refine lv_iload_n hx hb dL_law_144 rfl (lv_at hl 3 rfl) ?_
  refine lv_iload hx hb dL_law_145 (lv_at hl 2 rfl) ?_
  refine lv_iconst (v := 5) hx hb dL_law_147 (by decide) ?_
  refine lv_ishr hx hb dL_law_148 ?_
  obtain ⟨y148, hy148⟩ : ∃ y : Int32, y = x >>> ((5 : Int32) &&& 31) := ⟨_, rfl⟩
  refine zk_ti (y := y148) hy148.symm ?_
  refine lv_bipush (v := 9) hx hb dL_law_149 (by decide) ?_
  refine zk_ti (y := nI 9) (by decide) ?_
  refine zr_i (va_runS (As := [.int y148, .int (nI 9)]) (rest := [.int (nI at0)]) ⟨hx, hb, hml, hown, hts⟩ (y_below l y148 9 (by omega) (by omega)) (va_cwS 2 hts (lw_S wq794 wq795 wq0 wq796) rfl rfl rfl (by decide +kernel) ⟨(Nat.le_of_ble_eq_true rfl), (Nat.le_of_ble_eq_true rfl)⟩) (tp_N) rfl rfl hl.1 rfl (lv_room (Nat.le_of_ble_eq_true rfl)) dL_law_151 ⟨(Nat.le_of_ble_eq_true rfl), (Nat.le_of_ble_eq_true rfl)⟩) ?_
  have b151 := bel_lt (v := y148) (n := 9) (by omega)
  refine lv_iadd hx hb dL_law_154 ?_
  refine zk_ti (y := nI (at0 + bel y148 9)) (nI_add _ _) ?_
  refine lv_istore_n (lv' := [(3, .int (nI (at0 + bel y148 9))), (8, .int (nI (zn S))), (7, .ref a), (6, .int x), (5, .int (nI ti)), (4, .int (nI off)), (2, .int (nI (zn S))), (1, .ref (zg S 7 0 0)), (0, .ref b)]) hx hb dL_law_155 rfl hl (by decide) rfl (fun ls hl => ?_)
  refine lv_iconst (v := 0) hx hb dL_law_156 (by decide) ?_
  refine lv_istore (lv' := [(8, .int 0), (3, .int (nI (at0 + bel y148 9))), (7, .ref a), (6, .int x), (5, .int (nI ti)), (4, .int (nI off)), (2, .int (nI (zn S))), (1, .ref (zg S 7 0 0)), (0, .ref b)]) hx hb dL_law_157 hl (by decide) rfl (fun ls hl => ?_)
  refine lv_iload hx hb dL_law_159 (lv_at hl 3 rfl) ?_
  refine lv_bipush (v := 14) hx hb dL_law_161 (by decide) ?_
  refine zk_ti (y := nI 14) (by decide) ?_
  refine zr_i (va_runS (As := [.int x, .int (nI 14)]) (rest := []) ⟨hx, hb, hml, hown, hts⟩ (y_below l x 14 (by omega) (by omega)) (va_cwS 2 hts (lw_S wq794 wq795 wq0 wq796) rfl rfl rfl (by decide +kernel) ⟨(Nat.le_of_ble_eq_true rfl), (Nat.le_of_ble_eq_true rfl)⟩) (tp_N) rfl rfl hl.1 rfl (lv_room (Nat.le_of_ble_eq_true rfl)) dL_law_163 ⟨(Nat.le_of_ble_eq_true rfl), (Nat.le_of_ble_eq_true rfl)⟩) ?_
  have b163 := bel_lt (v := x) (n := 14) (by omega)
  refine lv_istore (lv' := [(9, .int (nI (bel x 14))), (8, .int 0), (3, .int (nI (at0 + bel y148 9))), (7, .ref a), (6, .int x), (5, .int (nI ti)), (4, .int (nI off)), (2, .int (nI (zn S))), (1, .ref (zg S 7 0 0)), (0, .ref b)]) hx hb dL_law_166 hl (by decide) rfl (fun ls hl => ?_)
  generalize hwh : bel x 14 = wh at b163 hl ⊢
  generalize hat9 : at0 + bel y148 9 = at_ at hl ⊢
  refine lv_iload hx hb dL_law_168 (lv_at hl 0 rfl) ?_
  refine lv_bipush (v := 6) hx hb dL_law_170 (by decide) ?_
  refine zk_ti (y := nI 6) (by decide) ?_
  refine lv_icmp_ge (tgt := 233) hx hb dL_law_172 (by decide) (fun h1 => ?_) (fun h1 => ?_)
  · refine lv_iload hx hb dL_law_233 (lv_at hl 0 rfl) ?_
    refine lv_bipush (v := 10) hx hb dL_law_235 (by decide) ?_
    refine zk_ti (y := nI 10) (by decide) ?_
    refine lv_icmp_ge (tgt := 259) hx hb dL_law_237 (by decide) (fun h2 => ?_) (fun h2 => ?_)
    · refine lv_iload hx hb dL_law_259 (lv_at hl 0 rfl) ?_
      refine lv_bipush (v := 10) hx hb dL_law_261 (by decide) ?_
      refine zk_ti (y := nI 10) (by decide) ?_
      refine lv_icmp_ne (tgt := 282) hx hb dL_law_263 (by decide) (fun h3 => ?_) (fun h3 => ?_)
      · refine lv_iload hx hb dL_law_282 (lv_at hl 0 rfl) ?_
        refine lv_bipush (v := 13) hx hb dL_law_284 (by decide) ?_
        refine zk_ti (y := nI 13) (by decide) ?_
        refine lv_icmp_ge (tgt := 304) hx hb dL_law_286 (by decide) (fun h4 => ?_) (fun h4 => ?_)
        · refine lv_iload hx hb dL_law_304 (lv_at hl 0 rfl) ?_
          refine lv_bipush (v := 13) hx hb dL_law_306 (by decide) ?_
          refine zk_ti (y := nI 13) (by decide) ?_
          refine lv_icmp_ne (tgt := 422) hx hb dL_law_308 (by decide) (fun h9 => absurd (by rw [show wh = 13 by have := (nI_leI (by omega) (by omega)).mp h4; omega]) h9) (fun _ => ?_)
          have h13 : wh = 13 := by have := (nI_leI (by omega) (by omega)).mp h4; omega
          subst h13
          exact y_bx hx hb hml hown hts hC hX hbl hL hW hI7 ha ha2 hf hI ht hZ hn0 hst hal hof hbn hbn2 (by omega) hpos (kk at_ (by omega)) (lv_sub hl [0, 1, 3, 4, 2, 5, 6, 7, 8, 9] rfl)
        · exact y_bc hx hb hml hown hts hC hX hbl hL hW hI7 ha ha2 hf hI ht hZ hn0 hst hal hof hbn hbn2 (by omega) hpos (fun h13 => h4 (nI_le (by omega) (by omega))) (by omega) (kk at_ (by omega)) (lv_sub hl [0, 1, 3, 4, 2, 5, 6, 7, 8, 9] rfl)
      · exact y_ba hx hb hml hown hts hC hX hbl hL hW hI7 ha ha2 hf hI ht hZ hn0 hst hal hof hbn hbn2 (by omega) hpos (kk at_ (by omega)) (lv_sub hl [0, 1, 3, 4, 2, 5, 6, 7, 8, 9] rfl)
    · exact y_bw hx hb hml hown hts hC hX hbl hL hW hI7 ha ha2 hf hI ht hZ hn0 hst hal hof hbn hbn2 (by omega) hpos (kk at_ (by omega)) (lv_sub hl [0, 1, 3, 4, 2, 5, 6, 7, 8, 9] rfl)
  · exact y_bo hx hb hml hown hts hC hX hbl hL hW hI7 ha ha2 hf hI ht hZ hn0 hst hal hof hbn hbn2 (by omega) hpos (kk at_ (by omega)) (lv_sub hl [0, 1, 3, 4, 2, 5, 6, 7, 8, 9] rfl)
