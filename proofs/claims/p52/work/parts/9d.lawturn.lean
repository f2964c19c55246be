/-- what holds at the head of the law's loop, at its round ti -/
def TSt (s : State) (D : va_G) (yc : Nat → ClassId) (e0 : Nat) (S : TS) (so : Nat → Nat) (ti : Nat) (Z : Nat × Nat) (w : TW) (H : Heap) (at_ off : Nat) : Prop :=
  LW s D yc e0 (A9 s) S Z w H ∧ INV S so False (40 * ti) w ∧ ZI s Z (2 * ti) ∧ (∃ bn, bn ≤ ti ∧ w.1 6 0 0 4 = nI bn) ∧ ¬ w.1 7 0 0 2 = 0 ∧ alf so w.2.2 (zn S) = off ∧ off ≤ ti ∧ at_ ≤ 8 * ti
set_option maxHeartbeats 4000000 in
set_option maxRecDepth 100000 in
theorem y_tail {p : Program} {l : Launch} {e : Env} {s : State} {m : MethodId} {below : List Frame} {meth : Method} {c : Code} {D : va_G} {yc : Nat → ClassId} {e0 : Nat} {b L : Nat} {xs : Nat → Int32} {Q : State → Prop} (hx : p.tables.exec = Jvm.exec) (hb : c.code = cL_law) (hml : c.maxLocals = 12) (hown : s.vm.findClass RL = some m.cls) (hts : ∀ w ∈ lw_all, w.before #[Value.ref b] s = true) (hC : CX D yc e0 (A9 s) s) (hX : va_X b L xs s s.heap) (hbl : b < s.heap.size) (hL : L ≤ 260) {S : TS} {so : Nat → Nat} {B : Nat → Prop} {Z : Nat × Nat} {w : TW} {H : Heap} {a : Nat} {f : Nat → Int32} {cr : Int32} {t ti off at_ : Nat} (hW : LW s D yc e0 B S Z w H) (hI7 : IA D yc a f H) (hI : INV S so False t w) (ht : t ≤ 100000) (hal : alf so w.2.2 (zn S) = off) (hok : cr = 0 → ∀ k, k < zn S → f k ≤ w.1 0 0 (3 * k) 0) (kk : ∀ (ls : Array Slot), lv_has ls 12 [(5, .int (nI (ti + 1))), (4, .int (nI off)), (3, .int (nI at_)), (2, .int (nI (zn S))), (1, .ref (zg S 7 0 0)), (0, .ref b)] → W p l e room_1 s m #[Value.ref b] below meth c H [] room_1.cells room_1.slots Q (F0 m 82 ls [])) {ls : Array Slot} (hl : lv_has ls 12 [(8, .int cr), (7, .ref a), (5, .int (nI ti)), (4, .int (nI off)), (3, .int (nI at_)), (2, .int (nI (zn S))), (1, .ref (zg S 7 0 0)), (0, .ref b)]) : W p l e room_1 s m #[Value.ref b] below meth c H [] room_1.cells room_1.slots Q (F0 m 422 ls []) := by
  have hn12 := hW.1.n12
  have hsd := hI.snd ht
  rw [hal] at hsd
  refine lv_aload_n hx hb dL_law_422 rfl (lv_at hl 6 rfl) ?_
  refine lv_iload_n hx hb dL_law_423 rfl (lv_at hl 5 rfl) ?_
  refine lv_iload hx hb dL_law_424 (lv_at hl 3 rfl) ?_
  refine zr_i (va_runS (As := [.ref (zg S 7 0 0), .int (nI (zn S)), .int (nI off)]) (rest := []) ⟨hx, hb, hml, hown, hts⟩ (y_isSound l hsd hI.2.1) (va_cwS 3 hts (lw_S wq1184 wq1185 wq0 wq1186) rfl rfl rfl (by decide +kernel) ⟨(Nat.le_of_ble_eq_true rfl), (Nat.le_of_ble_eq_true rfl)⟩) (lp_S hC hW) rfl rfl hl.1 rfl (lv_room (Nat.le_of_ble_eq_true rfl)) dL_law_426 ⟨(Nat.le_of_ble_eq_true rfl), (Nat.le_of_ble_eq_true rfl)⟩) ?_
  refine lv_if_ne (tgt := 434) hx hb dL_law_429 (by decide) (fun _ => ?_) (fun h9 => absurd h9 (by decide))
  refine lv_iconst (v := 0) hx hb dL_law_434 (by decide) ?_
  refine zk_ti (y := nI 0) (by decide) ?_
  refine lv_istore (lv' := [(10, .int (nI 0)), (8, .int cr), (7, .ref a), (5, .int (nI ti)), (4, .int (nI off)), (3, .int (nI at_)), (2, .int (nI (zn S))), (1, .ref (zg S 7 0 0)), (0, .ref b)]) hx hb dL_law_435 hl (by decide) rfl (fun ls hl => ?_)
  refine y_ck hx hb hml hown hts hC hX hbl hL hn12 hW hI7 hok (fun ls hl => ?_) (zn S) 0 (by omega) (lv_sub hl [0, 1, 2, 3, 4, 5, 6, 7, 8] rfl)
  refine lv_iinc (v := nI (ti + 1)) (lv' := [(5, .int (nI (ti + 1))), (10, .int (nI (zn S))), (8, .int cr), (7, .ref a), (4, .int (nI off)), (3, .int (nI at_)), (2, .int (nI (zn S))), (1, .ref (zg S 7 0 0)), (0, .ref b)]) hx hb dL_law_470 hl (k := 3) rfl (nI_1 ti) (by decide) rfl (fun ls hl => ?_)
  refine lv_goto (tgt := 82) hx hb dL_law_473 (by decide) ?_
  exact kk _ (lv_sub hl [0, 4, 5, 6, 7, 8] rfl)
set_option maxHeartbeats 4000000 in
set_option maxRecDepth 100000 in
theorem y_turn {p : Program} {l : Launch} {e : Env} {s : State} {m : MethodId} {below : List Frame} {meth : Method} {c : Code} {D : va_G} {yc : Nat → ClassId} {e0 : Nat} {b L : Nat} {xs : Nat → Int32} {Q : State → Prop} (hx : p.tables.exec = Jvm.exec) (hb : c.code = cL_law) (hml : c.maxLocals = 12) (hown : s.vm.findClass RL = some m.cls) (hts : ∀ w ∈ lw_all, w.before #[Value.ref b] s = true) (hC : CX D yc e0 (A9 s) s) (hX : va_X b L xs s s.heap) (hbl : b < s.heap.size) (hL : L ≤ 260) {S : TS} {so : Nat → Nat} {Z : Nat × Nat} {w : TW} {H : Heap} {ti off at_ : Nat} (hti : ti < 45) (hpos : 0 < zn S) (hT : TSt s D yc e0 S so ti Z w H at_ off) (kk : ∀ (w : TW) (Z : Nat × Nat) (H : Heap) (at_ off : Nat) (ls : Array Slot), TSt s D yc e0 S so (ti + 1) Z w H at_ off → lv_has ls 12 [(5, .int (nI (ti + 1))), (4, .int (nI off)), (3, .int (nI at_)), (2, .int (nI (zn S))), (1, .ref (zg S 7 0 0)), (0, .ref b)] → W p l e room_1 s m #[Value.ref b] below meth c H [] room_1.cells room_1.slots Q (F0 m 82 ls [])) {ls : Array Slot} (hl : lv_has ls 12 [(5, .int (nI ti)), (4, .int (nI off)), (3, .int (nI at_)), (2, .int (nI (zn S))), (1, .ref (zg S 7 0 0)), (0, .ref b)]) : W p l e room_1 s m #[Value.ref b] below meth c H [] room_1.cells room_1.slots Q (F0 m 82 ls []) := by
  obtain ⟨hW, hI, hZ, ⟨bn, hbn2, hbn⟩, hst, hal, hof, hat⟩ := hT
  have hn12 := hW.1.n12
  refine lv_iload hx hb dL_law_82 (lv_at hl 0 rfl) ?_
  refine lv_bipush (v := 45) hx hb dL_law_84 (by decide) ?_
  refine zk_ti (y := nI 45) (by decide) ?_
  refine lv_icmp_ge (tgt := 476) hx hb dL_law_86 (by decide) (fun h9 => absurd h9 (nI_ge hti (by decide))) (fun _ => ?_)
  refine lv_aload_n hx hb dL_law_89 rfl (lv_at hl 5 rfl) ?_
  refine lv_bipush (v := 14) hx hb dL_law_90 (by decide) ?_
  refine zk_ti (y := nI 14) (by decide) ?_
  refine lv_iload hx hb dL_law_92 (lv_at hl 0 rfl) ?_
  refine lv_bipush (v := 18) hx hb dL_law_94 (by decide) ?_
  refine zk_ti (y := nI 18) (by decide) ?_
  refine lv_irem hx hb dL_law_96 (nI_ne0 (by decide) (by decide)) ?_
  refine zk_ti (y := nI (ti % 18)) (pk_rem (by omega) (by decide) (by decide)) ?_
  refine lv_iadd hx hb dL_law_97 ?_
  refine zk_ti (y := nI (14 + ti % 18)) (nI_add _ _) ?_
  refine zr_i (va_runS (As := [.ref b, .int (nI (14 + ti % 18))]) (rest := []) ⟨hx, hb, hml, hown, hts⟩ (y_cell l (14 + ti % 18) (by omega) hL) (va_cwS 2 hts (lw_S wq798 wq799 wq0 wq800) rfl rfl rfl (by decide +kernel) ⟨(Nat.le_of_ble_eq_true rfl), (Nat.le_of_ble_eq_true rfl)⟩) (pc_S hX hbl (Nat.not_le.mpr hbl : ¬ A9 s b) hW.vs) rfl rfl hl.1 rfl (lv_room (Nat.le_of_ble_eq_true rfl)) dL_law_98 ⟨(Nat.le_of_ble_eq_true rfl), (Nat.le_of_ble_eq_true rfl)⟩) ?_
  refine lv_iload hx hb dL_law_101 (lv_at hl 0 rfl) ?_
  refine lv_bipush (v := 18) hx hb dL_law_103 (by decide) ?_
  refine zk_ti (y := nI 18) (by decide) ?_
  refine lv_idiv hx hb dL_law_105 (nI_ne0 (by decide) (by decide)) ?_
  obtain ⟨y105, hy105⟩ : ∃ y : Int32, y = (nI ti) / (nI 18) := ⟨_, rfl⟩
  refine zk_ti (y := y105) hy105.symm ?_
  refine lv_bipush (v := 6) hx hb dL_law_106 (by decide) ?_
  refine lv_imul hx hb dL_law_108 ?_
  obtain ⟨y108, hy108⟩ : ∃ y : Int32, y = y105 * 6 := ⟨_, rfl⟩
  refine zk_ti (y := y108) hy108.symm ?_
  refine lv_ishr hx hb dL_law_109 ?_
  obtain ⟨y109, hy109⟩ : ∃ y : Int32, y = (vcell L xs (14 + ti % 18)) >>> ((y108 : Int32) &&& 31) := ⟨_, rfl⟩
  refine zk_ti (y := y109) hy109.symm ?_
  refine lv_istore (lv' := [(6, .int y109), (5, .int (nI ti)), (4, .int (nI off)), (3, .int (nI at_)), (2, .int (nI (zn S))), (1, .ref (zg S 7 0 0)), (0, .ref b)]) hx hb dL_law_110 hl (by decide) rfl (fun ls hl => ?_)
  refine lv_bipush (v := 12) hx hb dL_law_112 (by decide) ?_
  refine lw_newa hx hb hC (hts _ wq1206) hW (hZ.top (by omega) hI (by omega) hW) dL_law_114 (fun H1 hW1 hI8 hB8 hz1 hq1 => ?_)
  refine lv_astore (lv' := [(7, .ref H.size), (6, .int y109), (5, .int (nI ti)), (4, .int (nI off)), (3, .int (nI at_)), (2, .int (nI (zn S))), (1, .ref (zg S 7 0 0)), (0, .ref b)]) hx hb dL_law_116 hl (by decide) rfl (fun ls hl => ?_)
  refine lv_iconst (v := 0) hx hb dL_law_118 (by decide) ?_
  refine zk_ti (y := nI 0) (by decide) ?_
  refine lv_istore (lv' := [(8, .int (nI 0)), (7, .ref H.size), (6, .int y109), (5, .int (nI ti)), (4, .int (nI off)), (3, .int (nI at_)), (2, .int (nI (zn S))), (1, .ref (zg S 7 0 0)), (0, .ref b)]) hx hb dL_law_119 hl (by decide) rfl (fun ls hl => ?_)
  refine y_mk hx hb hml hown hts hC hX hbl hL hn12 (fun h9 => h9.2 rfl) hW.2.1.1 (fun H2 f1 ls hf1 hI7 hW2 hl => ?_) (zn S) 0 (by omega) hW1 hI8 (fun i h9 => absurd h9 (Nat.not_lt_zero i)) (lv_sub hl [0, 1, 2, 3, 4, 5, 6, 7, 8] rfl)
  refine y_disp hx hb hml hown hts hC hX hbl hL hW2 hI7 (fun h9 => h9.2 rfl) hW.2.1.1 hf1 hI (by omega) hZ.more (by omega) hst hal (by omega) hbn (by omega) (by omega) hpos (fun at1 hat1 w1 Z1 B1 H1 of1 cr ls hW1 hI71 hI1 hZ1 hbn1 hst1 hal1 hok1 hl => ?_) (lv_sub hl [0, 1, 2, 5, 3, 4, 6, 7, 8] rfl)
  obtain ⟨bn1, hbn1, hbn2⟩ := hbn1
  exact y_tail hx hb hml hown hts hC hX hbl hL hW1 hI71 hI1 (by omega) hal1.1 hok1 (fun ls hl => kk w1 Z1 H1 at1 of1 ls ⟨hW1.back, hI1.mono (by omega), hZ1.mono (by omega), ⟨bn1, by omega, hbn2⟩, hst1, hal1.1, by omega, by omega⟩ hl) hl
set_option maxHeartbeats 4000000 in
set_option maxRecDepth 100000 in
theorem y_loop {p : Program} {l : Launch} {e : Env} {s : State} {m : MethodId} {below : List Frame} {meth : Method} {c : Code} {D : va_G} {yc : Nat → ClassId} {e0 : Nat} {b L : Nat} {xs : Nat → Int32} {Q : State → Prop} (hx : p.tables.exec = Jvm.exec) (hb : c.code = cL_law) (hml : c.maxLocals = 12) (hown : s.vm.findClass RL = some m.cls) (hts : ∀ w ∈ lw_all, w.before #[Value.ref b] s = true) (hC : CX D yc e0 (A9 s) s) (hX : va_X b L xs s s.heap) (hbl : b < s.heap.size) (hL : L ≤ 260) {S : TS} {so : Nat → Nat} (hpos : 0 < zn S) (kk : ∀ (w : TW) (Z : Nat × Nat) (H : Heap) (at_ off : Nat) (ls : Array Slot), TSt s D yc e0 S so 45 Z w H at_ off → lv_has ls 12 [(5, .int (nI 45)), (4, .int (nI off)), (3, .int (nI at_)), (2, .int (nI (zn S))), (1, .ref (zg S 7 0 0)), (0, .ref b)] → W p l e room_1 s m #[Value.ref b] below meth c H [] room_1.cells room_1.slots Q (F0 m 476 ls [])) : ∀ (j ti : Nat), ti + j = 45 → ∀ {w : TW} {Z : Nat × Nat} {H : Heap} {at_ off : Nat} {ls : Array Slot}, TSt s D yc e0 S so ti Z w H at_ off → lv_has ls 12 [(5, .int (nI ti)), (4, .int (nI off)), (3, .int (nI at_)), (2, .int (nI (zn S))), (1, .ref (zg S 7 0 0)), (0, .ref b)] → W p l e room_1 s m #[Value.ref b] below meth c H [] room_1.cells room_1.slots Q (F0 m 82 ls [])
  | 0, ti, hj, w, Z, H, at_, off, ls, hT, hl => by
    have hj : ti = 45 := hj
    subst hj
    refine lv_iload hx hb dL_law_82 (lv_at hl 0 rfl) ?_
    refine lv_bipush (v := 45) hx hb dL_law_84 (by decide) ?_
    refine zk_ti (y := nI 45) (by decide) ?_
    refine lv_icmp_ge (tgt := 476) hx hb dL_law_86 (by decide) (fun _ => ?_) (fun h9 => absurd (nI_le (Nat.le_refl _) (by decide)) h9)
    exact kk _ _ _ _ _ _ hT hl
  | j + 1, ti, hj, w, Z, H, at_, off, ls, hT, hl => by
    exact y_turn hx hb hml hown hts hC hX hbl hL (by omega) hpos hT (fun w Z H at_ off ls hT hl => y_loop hx hb hml hown hts hC hX hbl hL hpos kk j (ti + 1) (by omega) hT hl) hl
