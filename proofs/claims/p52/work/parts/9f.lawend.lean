/-! ===== the law's end ===== -/
theorem lgc (d : Int64) : lg_cmp d d = 0 := by simp [lg_cmp]
theorem nx_lt {S : TS} {w : TW} (hn : zn S ≤ 12) (hz : ZL S w 0) : ¬ v_X10_next S w.1 w.2.1 w.2.2 (zlast w 0) < -1 := by
  unfold v_X10_next
  rcases nw_two (S := S) (w := w) (fl := 0) hn hz.2 with ⟨a, -⟩ | ⟨m, m1, m2, -⟩
  · rw [a]; decide
  · rw [m2]
    intro h
    have h := zi_lt.mp h
    rw [zi_nI (by omega), zi_m1] at h
    omega
set_option maxHeartbeats 4000000 in
set_option maxRecDepth 100000 in
theorem y_fl {p : Program} {l : Launch} {e : Env} {s : State} {m : MethodId} {below : List Frame} {meth : Method} {c : Code} {D : va_G} {yc : Nat → ClassId} {e0 : Nat} {b L : Nat} {xs : Nat → Int32} {Q : State → Prop} (hx : p.tables.exec = Jvm.exec) (hb : c.code = cL_law) (hml : c.maxLocals = 12) (hown : s.vm.findClass RL = some m.cls) (hts : ∀ w ∈ lw_all, w.before #[Value.ref b] s = true) (hC : CX D yc e0 (A9 s) s) (hX : va_X b L xs s s.heap) (hbl : b < s.heap.size) (hL : L ≤ 260) {S : TS} {so : Nat → Nat} {B : Nat → Prop} {Z : Nat × Nat} {w : TW} {H : Heap} {cl : Prop} {t off : Nat} (hn12 : zn S ≤ 12) (hW : LW s D yc e0 B S Z w H) (hI : INV S so cl t w) (hnx : v_X10_next S w.1 w.2.1 w.2.2 (zlast w 0) = -1) (hfin : ∀ k, k < zn S → w.1 0 0 (3 * k) 0 = 1000000 ∧ v_X10_isBlocked0 S w.1 w.2.1 w.2.2 k = 0 ∧ v_X10_isBlocked1 S w.1 w.2.1 w.2.2 k = 0 ∧ v_X10_kept S w.1 w.2.1 w.2.2 k = 0 ∧ v_X10_isReady S w.1 w.2.1 w.2.2 k = 0 ∧ (w.1 8 0 k 0 = 7 → ¬ v_X10_wouldLose S w.1 w.2.1 w.2.2 k < 0 ∧ w.1 0 0 (3 * k) 7 = w.1 0 0 (3 * k) 4)) (kk : ∀ (ls : Array Slot), lv_has ls 12 [(7, .int (nI (zn S))), (4, .int (nI off)), (2, .int (nI (zn S))), (1, .ref (zg S 7 0 0)), (0, .ref b)] → W p l e room_1 s m #[Value.ref b] below meth c H [] room_1.cells room_1.slots Q (F0 m 696 ls [])) : ∀ (j k : Nat), k + j = zn S → ∀ {ls : Array Slot}, lv_has ls 12 [(7, .int (nI k)), (4, .int (nI off)), (2, .int (nI (zn S))), (1, .ref (zg S 7 0 0)), (0, .ref b)] → W p l e room_1 s m #[Value.ref b] below meth c H [] room_1.cells room_1.slots Q (F0 m 585 ls [])
  | 0, k, hj, ls, hl => by
    have hj : k = zn S := hj
    subst hj
    refine lv_iload hx hb dL_law_585 (lv_at hl 0 rfl) ?_
    refine lv_iload_n hx hb dL_law_587 rfl (lv_at hl 2 rfl) ?_
    refine lv_icmp_ge (tgt := 696) hx hb dL_law_588 (by decide) (fun _ => ?_) (fun h9 => absurd (nI_le (Nat.le_refl _) (by omega)) h9)
    exact kk _ hl
  | j + 1, k, hj, ls, hl => by
    have hk : k < zn S := by omega
    refine lv_iload hx hb dL_law_585 (lv_at hl 0 rfl) ?_
    refine lv_iload_n hx hb dL_law_587 rfl (lv_at hl 2 rfl) ?_
    refine lv_icmp_ge (tgt := 696) hx hb dL_law_588 (by decide) (fun h9 => absurd h9 (nI_ge hk (by omega))) (fun _ => ?_)
    refine lv_aload_n hx hb dL_law_591 rfl (lv_at hl 3 rfl) ?_
    refine zr_i (va_runV (As := []) (rest := []) ⟨hx, hb, hml, hown, hts⟩ (k_X10_next l D yc e0 _ S _ w.1 w.2.1 w.2.2 (zlast w 0) hI.2.2.1.1 hI.2.2.1.2) (cwV 0 hts (lw_V wq683 wq684 wq685 wq1 wq686) rfl rfl rfl (by decide +kernel) ⟨(Nat.le_of_ble_eq_true rfl), (Nat.le_of_ble_eq_true rfl)⟩) (lp_V hC hW 7 0 0 dm7 rfl rfl) rfl rfl hl.1 rfl (lv_room (Nat.le_of_ble_eq_true rfl)) dL_law_592 ⟨(Nat.le_of_ble_eq_true rfl), (Nat.le_of_ble_eq_true rfl)⟩) ?_
    refine zk_ti (y := (-1)) hnx ?_
    refine lv_if_ge (tgt := 696) hx hb dL_law_595 (by decide) (fun h9 => absurd h9 (by decide)) (fun _ => ?_)
    refine lv_aload_n hx hb dL_law_598 rfl (lv_at hl 3 rfl) ?_
    refine lv_iload hx hb dL_law_599 (lv_at hl 0 rfl) ?_
    refine zr_i (va_runV (As := [.int (nI k)]) (rest := []) ⟨hx, hb, hml, hown, hts⟩ (k_X10_sortOf l D yc e0 _ S _ w.1 w.2.1 w.2.2 k hk) (cwV 1 hts (lw_V wq627 wq628 wq629 wq1 wq630) rfl rfl rfl (by decide +kernel) ⟨(Nat.le_of_ble_eq_true rfl), (Nat.le_of_ble_eq_true rfl)⟩) (lp_V hC hW 7 0 0 dm7 rfl rfl) rfl rfl hl.1 rfl (lv_room (Nat.le_of_ble_eq_true rfl)) dL_law_601 ⟨(Nat.le_of_ble_eq_true rfl), (Nat.le_of_ble_eq_true rfl)⟩) ?_
    refine zk_ti (y := w.1 8 0 k 0) rfl ?_
    refine lv_istore (lv' := [(8, .int (w.1 8 0 k 0)), (7, .int (nI k)), (4, .int (nI off)), (2, .int (nI (zn S))), (1, .ref (zg S 7 0 0)), (0, .ref b)]) hx hb dL_law_604 hl (by decide) rfl (fun ls hl => ?_)
    refine lv_aload_n hx hb dL_law_606 rfl (lv_at hl 4 rfl) ?_
    refine lv_iload hx hb dL_law_607 (lv_at hl 1 rfl) ?_
    refine zr_i (va_runV (As := [.int (nI k)]) (rest := []) ⟨hx, hb, hml, hown, hts⟩ (k_X10_markOf l D yc e0 _ S _ w.1 w.2.1 w.2.2 k hk) (cwV 1 hts (lw_V wq631 wq632 wq633 wq1 wq634) rfl rfl rfl (by decide +kernel) ⟨(Nat.le_of_ble_eq_true rfl), (Nat.le_of_ble_eq_true rfl)⟩) (lp_V hC hW 7 0 0 dm7 rfl rfl) rfl rfl hl.1 rfl (lv_room (Nat.le_of_ble_eq_true rfl)) dL_law_609 ⟨(Nat.le_of_ble_eq_true rfl), (Nat.le_of_ble_eq_true rfl)⟩) ?_
    refine zk_ti (y := w.1 0 0 (3 * k) 0) rfl ?_
    refine lv_ldc hx hb hown (hts _ wq1205) dL_law_612 ?_
    refine lv_icmp_ne (tgt := 655) hx hb dL_law_614 (by decide) (fun h9 => absurd (hfin k hk).1 h9) (fun _ => ?_)
    refine lv_aload_n hx hb dL_law_617 rfl (lv_at hl 4 rfl) ?_
    refine lv_iload hx hb dL_law_618 (lv_at hl 1 rfl) ?_
    refine lv_iconst (v := 0) hx hb dL_law_620 (by decide) ?_
    refine zr_i (va_runV (As := [.int (nI k), .int 0]) (rest := []) ⟨hx, hb, hml, hown, hts⟩ (k_X10_isBlocked0 l D yc e0 _ S _ w.1 w.2.1 w.2.2 k hk) (cwV 2 hts (lw_V wq653 wq654 wq655 wq1 wq656) rfl rfl rfl (by decide +kernel) ⟨(Nat.le_of_ble_eq_true rfl), (Nat.le_of_ble_eq_true rfl)⟩) (lp_V hC hW 7 0 0 dm7 rfl rfl) rfl rfl hl.1 rfl (lv_room (Nat.le_of_ble_eq_true rfl)) dL_law_621 ⟨(Nat.le_of_ble_eq_true rfl), (Nat.le_of_ble_eq_true rfl)⟩) ?_
    refine zk_ti (y := v_X10_isBlocked0 S w.1 w.2.1 w.2.2 k) rfl ?_
    refine lv_if_ne (tgt := 655) hx hb dL_law_624 (by decide) (fun h9 => absurd (hfin k hk).2.1 h9) (fun _ => ?_)
    refine lv_aload_n hx hb dL_law_627 rfl (lv_at hl 4 rfl) ?_
    refine lv_iload hx hb dL_law_628 (lv_at hl 1 rfl) ?_
    refine lv_iconst (v := 1) hx hb dL_law_630 (by decide) ?_
    refine zr_i (va_runV (As := [.int (nI k), .int 1]) (rest := []) ⟨hx, hb, hml, hown, hts⟩ (k_X10_isBlocked1 l D yc e0 _ S _ w.1 w.2.1 w.2.2 k hk) (cwV 2 hts (lw_V wq653 wq654 wq655 wq1 wq656) rfl rfl rfl (by decide +kernel) ⟨(Nat.le_of_ble_eq_true rfl), (Nat.le_of_ble_eq_true rfl)⟩) (lp_V hC hW 7 0 0 dm7 rfl rfl) rfl rfl hl.1 rfl (lv_room (Nat.le_of_ble_eq_true rfl)) dL_law_631 ⟨(Nat.le_of_ble_eq_true rfl), (Nat.le_of_ble_eq_true rfl)⟩) ?_
    refine zk_ti (y := v_X10_isBlocked1 S w.1 w.2.1 w.2.2 k) rfl ?_
    refine lv_if_ne (tgt := 655) hx hb dL_law_634 (by decide) (fun h9 => absurd (hfin k hk).2.2.1 h9) (fun _ => ?_)
    refine lv_aload_n hx hb dL_law_637 rfl (lv_at hl 4 rfl) ?_
    refine lv_iload hx hb dL_law_638 (lv_at hl 1 rfl) ?_
    refine zr_i (va_runV (As := [.int (nI k)]) (rest := []) ⟨hx, hb, hml, hown, hts⟩ (k_X10_kept l D yc e0 _ S _ w.1 w.2.1 w.2.2 k hk) (cwV 1 hts (lw_V wq639 wq640 wq641 wq1 wq642) rfl rfl rfl (by decide +kernel) ⟨(Nat.le_of_ble_eq_true rfl), (Nat.le_of_ble_eq_true rfl)⟩) (lp_V hC hW 7 0 0 dm7 rfl rfl) rfl rfl hl.1 rfl (lv_room (Nat.le_of_ble_eq_true rfl)) dL_law_640 ⟨(Nat.le_of_ble_eq_true rfl), (Nat.le_of_ble_eq_true rfl)⟩) ?_
    refine zk_ti (y := v_X10_kept S w.1 w.2.1 w.2.2 k) rfl ?_
    refine lv_if_ne (tgt := 655) hx hb dL_law_643 (by decide) (fun h9 => absurd (hfin k hk).2.2.2.1 h9) (fun _ => ?_)
    refine lv_aload_n hx hb dL_law_646 rfl (lv_at hl 4 rfl) ?_
    refine lv_iload hx hb dL_law_647 (lv_at hl 1 rfl) ?_
    refine zr_i (va_runV (As := [.int (nI k)]) (rest := []) ⟨hx, hb, hml, hown, hts⟩ (k_X10_isReady l D yc e0 _ S _ w.1 w.2.1 w.2.2 k hk) (cwV 1 hts (lw_V wq649 wq650 wq651 wq1 wq652) rfl rfl rfl (by decide +kernel) ⟨(Nat.le_of_ble_eq_true rfl), (Nat.le_of_ble_eq_true rfl)⟩) (lp_V hC hW 7 0 0 dm7 rfl rfl) rfl rfl hl.1 rfl (lv_room (Nat.le_of_ble_eq_true rfl)) dL_law_649 ⟨(Nat.le_of_ble_eq_true rfl), (Nat.le_of_ble_eq_true rfl)⟩) ?_
    refine zk_ti (y := v_X10_isReady S w.1 w.2.1 w.2.2 k) rfl ?_
    refine lv_if_eq (tgt := 657) hx hb dL_law_652 (by decide) (fun _ => ?_) (fun h9 => absurd (hfin k hk).2.2.2.2.1 h9)
    refine lv_iload hx hb dL_law_657 (lv_at hl 0 rfl) ?_
    refine lv_bipush (v := 7) hx hb dL_law_659 (by decide) ?_
    refine lv_icmp_ne (tgt := 690) hx hb dL_law_661 (by decide) (fun h7 => ?_) (fun h7 => ?_)
    · refine lv_iinc (v := nI (k + 1)) (lv' := [(7, .int (nI (k + 1))), (8, .int (w.1 8 0 k 0)), (4, .int (nI off)), (2, .int (nI (zn S))), (1, .ref (zg S 7 0 0)), (0, .ref b)]) hx hb dL_law_690 hl (k := 1) rfl (nI_1 k) (by decide) rfl (fun ls hl => ?_)
      refine lv_goto (tgt := 585) hx hb dL_law_693 (by decide) ?_
      exact y_fl hx hb hml hown hts hC hX hbl hL hn12 hW hI hnx hfin kk j (k + 1) (by omega) (lv_sub hl [0, 2, 3, 4, 5] rfl)
    · refine lv_aload_n hx hb dL_law_664 rfl (lv_at hl 4 rfl) ?_
      refine lv_iload hx hb dL_law_665 (lv_at hl 1 rfl) ?_
      refine zr_i (va_runV (As := [.int (nI k)]) (rest := []) ⟨hx, hb, hml, hown, hts⟩ (k_X10_wouldLose l D yc e0 _ S _ w.1 w.2.1 w.2.2 k hk h7 (by rcases hI.2.1 0 k with h | h <;> omega)) (cwV 1 hts (lw_V wq704 wq705 wq706 wq1 wq707) rfl rfl rfl (by decide +kernel) ⟨(Nat.le_of_ble_eq_true rfl), (Nat.le_of_ble_eq_true rfl)⟩) (lp_V hC hW 7 0 0 dm7 rfl rfl) rfl rfl hl.1 rfl (lv_room (Nat.le_of_ble_eq_true rfl)) dL_law_667 ⟨(Nat.le_of_ble_eq_true rfl), (Nat.le_of_ble_eq_true rfl)⟩) ?_
      refine zk_ti (y := v_X10_wouldLose S w.1 w.2.1 w.2.2 k) rfl ?_
      refine lv_if_lt (tgt := 688) hx hb dL_law_670 (by decide) (fun h9 => absurd h9 ((hfin k hk).2.2.2.2.2 h7).1) (fun _ => ?_)
      refine lv_aload_n hx hb dL_law_673 rfl (lv_at hl 4 rfl) ?_
      refine lv_iload hx hb dL_law_674 (lv_at hl 1 rfl) ?_
      refine zr_i (va_runV (As := [.int (nI k)]) (rest := []) ⟨hx, hb, hml, hown, hts⟩ (k_X10_outputs l D yc e0 _ S _ w.1 w.2.1 w.2.2 k hk h7) (cwV 1 hts (lw_V wq658 wq659 wq660 wq1 wq661) rfl rfl rfl (by decide +kernel) ⟨(Nat.le_of_ble_eq_true rfl), (Nat.le_of_ble_eq_true rfl)⟩) (lp_V hC hW 7 0 0 dm7 rfl rfl) rfl rfl hl.1 rfl (lv_room (Nat.le_of_ble_eq_true rfl)) dL_law_676 ⟨(Nat.le_of_ble_eq_true rfl), (Nat.le_of_ble_eq_true rfl)⟩) ?_
      refine zk_ti (y := w.1 0 0 (3 * k) 7) rfl ?_
      refine lv_aload_n hx hb dL_law_679 rfl (lv_at hl 4 rfl) ?_
      refine lv_iload hx hb dL_law_680 (lv_at hl 1 rfl) ?_
      refine zr_i (va_runV (As := [.int (nI k)]) (rest := [.int (w.1 0 0 (3 * k) 7)]) ⟨hx, hb, hml, hown, hts⟩ (k_X10_taken l D yc e0 _ S _ w.1 w.2.1 w.2.2 k hk) (cwV 1 hts (lw_V wq635 wq636 wq637 wq1 wq638) rfl rfl rfl (by decide +kernel) ⟨(Nat.le_of_ble_eq_true rfl), (Nat.le_of_ble_eq_true rfl)⟩) (lp_V hC hW 7 0 0 dm7 rfl rfl) rfl rfl hl.1 rfl (lv_room (Nat.le_of_ble_eq_true rfl)) dL_law_682 ⟨(Nat.le_of_ble_eq_true rfl), (Nat.le_of_ble_eq_true rfl)⟩) ?_
      refine zk_ti (y := w.1 0 0 (3 * k) 4) rfl ?_
      refine lv_icmp_eq (tgt := 690) hx hb dL_law_685 (by decide) (fun _ => ?_) (fun h9 => absurd ((hfin k hk).2.2.2.2.2 h7).2 h9)
      refine lv_iinc (v := nI (k + 1)) (lv' := [(7, .int (nI (k + 1))), (8, .int (w.1 8 0 k 0)), (4, .int (nI off)), (2, .int (nI (zn S))), (1, .ref (zg S 7 0 0)), (0, .ref b)]) hx hb dL_law_690 hl (k := 1) rfl (nI_1 k) (by decide) rfl (fun ls hl => ?_)
      refine lv_goto (tgt := 585) hx hb dL_law_693 (by decide) ?_
      exact y_fl hx hb hml hown hts hC hX hbl hL hn12 hW hI hnx hfin kk j (k + 1) (by omega) (lv_sub hl [0, 2, 3, 4, 5] rfl)
set_option maxHeartbeats 4000000 in
set_option maxRecDepth 100000 in
theorem y_e5 {p : Program} {l : Launch} {e : Env} {s : State} {m : MethodId} {below : List Frame} {meth : Method} {c : Code} {D : va_G} {yc : Nat → ClassId} {e0 : Nat} {b L : Nat} {xs : Nat → Int32} {Q : State → Prop} (hx : p.tables.exec = Jvm.exec) (hb : c.code = cL_law) (hml : c.maxLocals = 12) (hown : s.vm.findClass RL = some m.cls) (hts : ∀ w ∈ lw_all, w.before #[Value.ref b] s = true) (hC : CX D yc e0 (A9 s) s) (hX : va_X b L xs s s.heap) (hbl : b < s.heap.size) (hL : L ≤ 260) {S : TS} {so : Nat → Nat} {B : Nat → Prop} {Z : Nat × Nat} {w : TW} {H : Heap} {t off : Nat} (hW : LW s D yc e0 B S Z w H) (hI : INV S so True t w) (ht : t ≤ 14045) (hZ : ZI s Z 90) (hal : alf so w.2.2 (zn S) = off) (hclo : ∀ k, k < zn S → so k = 0 → ¬ w.1 2 0 k 10 = 0) (hpos : 0 < zn S) (kret : ∀ (H : Heap) (ls : Array Slot), W p l e room_1 s m #[Value.ref b] below meth c H [] room_1.cells room_1.slots Q (F0 m 740 ls [.int 1])) {ls : Array Slot} (hl : lv_has ls 12 [(4, .int (nI off)), (2, .int (nI (zn S))), (1, .ref (zg S 7 0 0)), (0, .ref b)]) : W p l e room_1 s m #[Value.ref b] below meth c H [] room_1.cells room_1.slots Q (F0 m 582 ls []) := by
  have hn12 := hW.1.n12
  refine lv_iconst (v := 0) hx hb dL_law_582 (by decide) ?_
  refine zk_ti (y := nI 0) (by decide) ?_
  refine lv_istore (lv' := [(7, .int (nI 0)), (4, .int (nI off)), (2, .int (nI (zn S))), (1, .ref (zg S 7 0 0)), (0, .ref b)]) hx hb dL_law_583 hl (by decide) rfl (fun ls hl => ?_)
  have hz := hI.2.2.1
  rcases nw_two (S := S) (w := w) (fl := 0) hn12 hz.2 with ⟨hnx, hno⟩ | ⟨j, hj, hnx, hjw⟩
  · have hnx : v_X10_next S w.1 w.2.1 w.2.2 (zlast w 0) = -1 := hnx
    obtain ⟨f1, f2, f3⟩ := fin_ok hI (by omega) hno hclo
    refine y_fl hx hb hml hown hts hC hX hbl hL hn12 hW hI hnx f3 (fun ls hl => ?_) (zn S) 0 (by omega) (lv_sub hl [0, 1, 2, 3, 4] rfl)
    refine lv_aload_n hx hb dL_law_696 rfl (lv_at hl 3 rfl) ?_
    refine zr_i (va_runV (As := []) (rest := []) ⟨hx, hb, hml, hown, hts⟩ (k_X10_next l D yc e0 _ S _ w.1 w.2.1 w.2.2 (zlast w 0) hI.2.2.1.1 hI.2.2.1.2) (cwV 0 hts (lw_V wq683 wq684 wq685 wq1 wq686) rfl rfl rfl (by decide +kernel) ⟨(Nat.le_of_ble_eq_true rfl), (Nat.le_of_ble_eq_true rfl)⟩) (lp_V hC hW 7 0 0 dm7 rfl rfl) rfl rfl hl.1 rfl (lv_room (Nat.le_of_ble_eq_true rfl)) dL_law_697 ⟨(Nat.le_of_ble_eq_true rfl), (Nat.le_of_ble_eq_true rfl)⟩) ?_
    refine zk_ti (y := (-1)) hnx ?_
    refine lv_if_lt (tgt := 713) hx hb dL_law_700 (by decide) (fun _ => ?_) (fun h9 => absurd (by decide) h9)
    refine lv_aload_n hx hb dL_law_713 rfl (lv_at hl 3 rfl) ?_
    refine zr_i (va_runV (As := []) (rest := []) ⟨hx, hb, hml, hown, hts⟩ (k_X10_begun l D yc e0 _ S _ w.1 w.2.1 w.2.2) (cwV 0 hts (lw_V wq670 wq671 wq672 wq1 wq673) rfl rfl rfl (by decide +kernel) ⟨(Nat.le_of_ble_eq_true rfl), (Nat.le_of_ble_eq_true rfl)⟩) (lp_V hC hW 7 0 0 dm7 rfl rfl) rfl rfl hl.1 rfl (lv_room (Nat.le_of_ble_eq_true rfl)) dL_law_714 ⟨(Nat.le_of_ble_eq_true rfl), (Nat.le_of_ble_eq_true rfl)⟩) ?_
    refine zk_ti (y := w.1 6 0 0 5) rfl ?_
    refine lv_if_ne (tgt := 739) hx hb dL_law_717 (by decide) (fun h9 => absurd f1 h9) (fun _ => ?_)
    refine lv_aload_n hx hb dL_law_720 rfl (lv_at hl 3 rfl) ?_
    refine zr_i (va_runV (As := []) (rest := []) ⟨hx, hb, hml, hown, hts⟩ (k_X10_inFlight l D yc e0 _ S _ w.1 w.2.1 w.2.2) (cwV 0 hts (lw_V wq674 wq675 wq676 wq1 wq677) rfl rfl rfl (by decide +kernel) ⟨(Nat.le_of_ble_eq_true rfl), (Nat.le_of_ble_eq_true rfl)⟩) (lp_V hC hW 7 0 0 dm7 rfl rfl) rfl rfl hl.1 rfl (lv_room (Nat.le_of_ble_eq_true rfl)) dL_law_721 ⟨(Nat.le_of_ble_eq_true rfl), (Nat.le_of_ble_eq_true rfl)⟩) ?_
    refine zk_ti (y := v_X10_inFlight S w.1 w.2.1 w.2.2) rfl ?_
    refine lv_if_ne (tgt := 739) hx hb dL_law_724 (by decide) (fun h9 => absurd f2 h9) (fun _ => ?_)
    refine lv_aload_n hx hb dL_law_727 rfl (lv_at hl 3 rfl) ?_
    refine lv_iconst (v := 1) hx hb dL_law_728 (by decide) ?_
    refine zk_ti (y := nI 1) (by decide) ?_
    have hR := rest_RS (mi := 1) hI (by omega) (by omega)
    refine lw_i (w1 := (w_X10_itemsToRest S w 1)) (hZ.zb (by omega) hR.1 (by omega)) hW (by have h9 := hZ.top (by omega) hI (by omega) hW; exact ⟨by omega, by omega⟩) (fun hle9 => va_runV (As := [.int (nI 1)]) (rest := []) ⟨hx, hb, hml, hown, hts⟩ (k_X10_itemsToRest l D yc e0 _ S Z _ _ w H.size (zh H) 1 (by omega) (by omega) hI.2.1 hI.2.2.1 (hZ.zb (by omega) hR.1 (by omega))) (cwV 1 hts (lw_V wq687 wq688 wq689 wq1 wq690) rfl rfl rfl (by decide +kernel) ⟨(Nat.le_of_ble_eq_true rfl), (Nat.le_of_ble_eq_true rfl)⟩) (lq_V hC hW 7 0 0 dm7 rfl rfl) rfl rfl hl.1 rfl (lv_room (Nat.le_of_ble_eq_true rfl)) dL_law_729 hle9) (fun H1 hW1 hz1 hk1 => ?_)
    refine lv_if_ne (tgt := 739) hx hb dL_law_732 (by decide) (fun h9 => absurd (rest_zero hI (by omega) hno) h9) (fun _ => ?_)
    refine lv_iconst (v := 1) hx hb dL_law_735 (by decide) ?_
    refine lv_goto (tgt := 740) hx hb dL_law_736 (by decide) ?_
    exact kret _ _
  · have hnx : v_X10_next S w.1 w.2.1 w.2.2 (zlast w 0) = nI j := hnx
    have hsd := hI.snd (by omega)
    rw [hal] at hsd
    refine lv_iload hx hb dL_law_585 (lv_at hl 0 rfl) ?_
    refine lv_iload_n hx hb dL_law_587 rfl (lv_at hl 2 rfl) ?_
    refine lv_icmp_ge (tgt := 696) hx hb dL_law_588 (by decide) (fun h9 => absurd h9 (nI_ge hpos (by omega))) (fun _ => ?_)
    refine lv_aload_n hx hb dL_law_591 rfl (lv_at hl 3 rfl) ?_
    refine zr_i (va_runV (As := []) (rest := []) ⟨hx, hb, hml, hown, hts⟩ (k_X10_next l D yc e0 _ S _ w.1 w.2.1 w.2.2 (zlast w 0) hI.2.2.1.1 hI.2.2.1.2) (cwV 0 hts (lw_V wq683 wq684 wq685 wq1 wq686) rfl rfl rfl (by decide +kernel) ⟨(Nat.le_of_ble_eq_true rfl), (Nat.le_of_ble_eq_true rfl)⟩) (lp_V hC hW 7 0 0 dm7 rfl rfl) rfl rfl hl.1 rfl (lv_room (Nat.le_of_ble_eq_true rfl)) dL_law_592 ⟨(Nat.le_of_ble_eq_true rfl), (Nat.le_of_ble_eq_true rfl)⟩) ?_
    refine zk_ti (y := (nI j)) hnx ?_
    refine lv_if_ge (tgt := 696) hx hb dL_law_595 (by decide) (fun _ => ?_) (fun h9 => absurd (nI_pos' (by omega)) h9)
    refine lv_aload_n hx hb dL_law_696 rfl (lv_at hl 3 rfl) ?_
    refine zr_i (va_runV (As := []) (rest := []) ⟨hx, hb, hml, hown, hts⟩ (k_X10_next l D yc e0 _ S _ w.1 w.2.1 w.2.2 (zlast w 0) hI.2.2.1.1 hI.2.2.1.2) (cwV 0 hts (lw_V wq683 wq684 wq685 wq1 wq686) rfl rfl rfl (by decide +kernel) ⟨(Nat.le_of_ble_eq_true rfl), (Nat.le_of_ble_eq_true rfl)⟩) (lp_V hC hW 7 0 0 dm7 rfl rfl) rfl rfl hl.1 rfl (lv_room (Nat.le_of_ble_eq_true rfl)) dL_law_697 ⟨(Nat.le_of_ble_eq_true rfl), (Nat.le_of_ble_eq_true rfl)⟩) ?_
    refine zk_ti (y := (nI j)) hnx ?_
    refine lv_if_lt (tgt := 713) hx hb dL_law_700 (by decide) (fun h9 => absurd h9 (nI_pos (by omega))) (fun _ => ?_)
    refine lv_aload_n hx hb dL_law_703 rfl (lv_at hl 3 rfl) ?_
    refine lv_iload_n hx hb dL_law_704 rfl (lv_at hl 2 rfl) ?_
    refine lv_iload hx hb dL_law_705 (lv_at hl 1 rfl) ?_
    refine zr_i (va_runS (As := [.ref (zg S 7 0 0), .int (nI (zn S)), .int (nI off)]) (rest := []) ⟨hx, hb, hml, hown, hts⟩ (y_isSound l hsd hI.2.1) (va_cwS 3 hts (lw_S wq1184 wq1185 wq0 wq1186) rfl rfl rfl (by decide +kernel) ⟨(Nat.le_of_ble_eq_true rfl), (Nat.le_of_ble_eq_true rfl)⟩) (lp_S hC hW) rfl rfl hl.1 rfl (lv_room (Nat.le_of_ble_eq_true rfl)) dL_law_707 ⟨(Nat.le_of_ble_eq_true rfl), (Nat.le_of_ble_eq_true rfl)⟩) ?_
    refine lv_goto (tgt := 740) hx hb dL_law_710 (by decide) ?_
    exact kret _ _
theorem wk10 {S : TS} {so : Nat → Nat} {cl : Prop} {t mi : Nat} {w : TW} (h : INV S so cl t w) (hm : t + mi ≤ 100000) : ∀ k, (w_X10_work S w mi).1.1 2 0 k 10 = w.1 2 0 k 10 := fun k => by
  obtain ⟨a, b, c⟩ := work_INV (mi := mi) mi 0 t w h hm
  have e : (w_X10_work S w mi).1 = zset (r_X10_work S mi mi 0 w).1 7 0 0 4 (((r_X10_work S mi mi 0 w).1.1 7 0 0 4) + (nI (r_X10_work S mi mi 0 w).2)) := by
    unfold w_X10_work
    rw [zlet_eq, zlet_eq]
  rw [e, z9n (by omega)]
  exact b.2.1 k
set_option maxHeartbeats 4000000 in
set_option maxRecDepth 100000 in
theorem y_wl {p : Program} {l : Launch} {e : Env} {s : State} {m : MethodId} {below : List Frame} {meth : Method} {c : Code} {D : va_G} {yc : Nat → ClassId} {e0 : Nat} {b L : Nat} {xs : Nat → Int32} {Q : State → Prop} (hx : p.tables.exec = Jvm.exec) (hb : c.code = cL_law) (hml : c.maxLocals = 12) (hown : s.vm.findClass RL = some m.cls) (hts : ∀ w ∈ lw_all, w.before #[Value.ref b] s = true) (hC : CX D yc e0 (A9 s) s) (hX : va_X b L xs s s.heap) (hbl : b < s.heap.size) (hL : L ≤ 260) {S : TS} {so : Nat → Nat} {B : Nat → Prop} {Z : Nat × Nat} {t0 off : Nat} (hn12 : zn S ≤ 12) (hZ : ZI s Z 90) (ht0 : t0 ≤ 2045) (kk : ∀ (w : TW) (H : Heap) (t : Nat) (ls : Array Slot), t ≤ 14045 → LW s D yc e0 B S Z w H → INV S so True t w → alf so w.2.2 (zn S) = off → (∀ k, k < zn S → so k = 0 → ¬ w.1 2 0 k 10 = 0) → ¬ w.1 7 0 0 2 = 0 → lv_has ls 12 [(4, .int (nI off)), (2, .int (nI (zn S))), (1, .ref (zg S 7 0 0)), (0, .ref b)] → W p l e room_1 s m #[Value.ref b] below meth c H [] room_1.cells room_1.slots Q (F0 m 582 ls [])) : ∀ (j k : Nat), k + j = 60 → ∀ {w : TW} {H : Heap} {t : Nat} {ls : Array Slot}, t ≤ t0 + 200 * k → LW s D yc e0 B S Z w H → INV S so True t w → alf so w.2.2 (zn S) = off → (∀ k, k < zn S → so k = 0 → ¬ w.1 2 0 k 10 = 0) → ¬ w.1 7 0 0 2 = 0 → lv_has ls 12 [(7, .int (nI k)), (4, .int (nI off)), (2, .int (nI (zn S))), (1, .ref (zg S 7 0 0)), (0, .ref b)] → W p l e room_1 s m #[Value.ref b] below meth c H [] room_1.cells room_1.slots Q (F0 m 559 ls [])
  | 0, k, hj, w, H, t, ls, ht, hW, hI, hal, hclo, hst, hl => by
    have hj : k = 60 := hj
    subst hj
    refine lv_iload hx hb dL_law_559 (lv_at hl 0 rfl) ?_
    refine lv_bipush (v := 60) hx hb dL_law_561 (by decide) ?_
    refine zk_ti (y := nI 60) (by decide) ?_
    refine lv_icmp_ge (tgt := 582) hx hb dL_law_563 (by decide) (fun _ => ?_) (fun h9 => absurd (nI_le (Nat.le_refl _) (by decide)) h9)
    exact kk w H t ls (by omega) hW hI hal hclo hst (lv_sub hl [1, 2, 3, 4] rfl)
  | j + 1, k, hj, w, H, t, ls, ht, hW, hI, hal, hclo, hst, hl => by
    have hk : k < 60 := by omega
    refine lv_iload hx hb dL_law_559 (lv_at hl 0 rfl) ?_
    refine lv_bipush (v := 60) hx hb dL_law_561 (by decide) ?_
    refine zk_ti (y := nI 60) (by decide) ?_
    refine lv_icmp_ge (tgt := 582) hx hb dL_law_563 (by decide) (fun h9 => absurd h9 (nI_ge hk (by decide))) (fun _ => ?_)
    refine lv_aload_n hx hb dL_law_566 rfl (lv_at hl 3 rfl) ?_
    refine lv_sipush (v := 200) hx hb dL_law_567 (by decide) ?_
    refine zk_ti (y := nI 200) (by decide) ?_
    have hR := work_RS (mi := 200) hI (by omega)
    have hk10 := wk10 (mi := 200) hI (by omega)
    refine lw_i (w1 := (w_X10_work S w 200)) (hZ.zb (by omega) hR.1 (by omega)) hW (by have h9 := hZ.top (by omega) hI (by omega) hW; exact ⟨by omega, by omega⟩) (fun hle9 => va_runV (As := [.int (nI 200)]) (rest := []) ⟨hx, hb, hml, hown, hts⟩ (k_X10_work l D yc e0 _ S Z _ _ w H.size (zh H) 200 (by omega) (by omega) hst hI.2.1 hI.2.2.1 (hZ.zb (by omega) hR.1 (by omega))) (cwV 1 hts (lw_V wq269 wq270 wq271 wq1 wq272) rfl rfl rfl (by decide +kernel) ⟨(Nat.le_of_ble_eq_true rfl), (Nat.le_of_ble_eq_true rfl)⟩) (lq_V hC hW 7 0 0 dm7 rfl rfl) rfl rfl hl.1 rfl (lv_room (Nat.le_of_ble_eq_true rfl)) dL_law_570 hle9) (fun H1 hW1 hz1 hk1 => ?_)
    have hal1 := (alf_eq (so := so) _ hn12 hR.2.2.2.1).trans hal
    have hst1 : ¬ (w_X10_work S w 200).1.1 7 0 0 2 = 0 := by rw [hR.2.1]; exact hst
    refine lv_if_le (tgt := 582) hx hb dL_law_573 (by decide) (fun h9 => ?_) (fun h9 => ?_)
    · exact kk _ H1 (t + 200) ls (by omega) hW1 hR.1 hal1 (fun k hk hs => by show ¬ (w_X10_work S w 200).1.1 2 0 k 10 = 0; rw [hk10 k]; exact hclo k hk hs) hst1 (lv_sub hl [1, 2, 3, 4] rfl)
    · refine lv_iinc (v := nI (k + 1)) (lv' := [(7, .int (nI (k + 1))), (4, .int (nI off)), (2, .int (nI (zn S))), (1, .ref (zg S 7 0 0)), (0, .ref b)]) hx hb dL_law_576 hl (k := 0) rfl (nI_1 k) (by decide) rfl (fun ls hl => ?_)
      refine lv_goto (tgt := 559) hx hb dL_law_579 (by decide) ?_
      exact y_wl hx hb hml hown hts hC hX hbl hL hn12 hZ ht0 kk j (k + 1) (by omega) (by omega) hW1 hR.1 hal1 (fun k hk hs => by show ¬ (w_X10_work S w 200).1.1 2 0 k 10 = 0; rw [hk10 k]; exact hclo k hk hs) hst1 (lv_sub hl [0, 1, 2, 3, 4] rfl)
set_option maxHeartbeats 4000000 in
set_option maxRecDepth 100000 in
theorem y_e4 {p : Program} {l : Launch} {e : Env} {s : State} {m : MethodId} {below : List Frame} {meth : Method} {c : Code} {D : va_G} {yc : Nat → ClassId} {e0 : Nat} {b L : Nat} {xs : Nat → Int32} {Q : State → Prop} (hx : p.tables.exec = Jvm.exec) (hb : c.code = cL_law) (hml : c.maxLocals = 12) (hown : s.vm.findClass RL = some m.cls) (hts : ∀ w ∈ lw_all, w.before #[Value.ref b] s = true) (hC : CX D yc e0 (A9 s) s) (hX : va_X b L xs s s.heap) (hbl : b < s.heap.size) (hL : L ≤ 260) {S : TS} {so : Nat → Nat} {B : Nat → Prop} {Z : Nat × Nat} {w : TW} {H : Heap} {t off : Nat} (hW : LW s D yc e0 B S Z w H) (hI : INV S so True t w) (ht : t ≤ 2045) (hZ : ZI s Z 90) (hal : alf so w.2.2 (zn S) = off) (hclo : ∀ k, k < zn S → so k = 0 → ¬ w.1 2 0 k 10 = 0) (hpos : 0 < zn S) {bn : Nat} (hst : ¬ w.1 7 0 0 2 = 0) (hbn : w.1 6 0 0 4 = nI bn) (hbn2 : bn ≤ 100) (kret : ∀ (H : Heap) (ls : Array Slot), W p l e room_1 s m #[Value.ref b] below meth c H [] room_1.cells room_1.slots Q (F0 m 740 ls [.int 1])) {ls : Array Slot} (hl : lv_has ls 12 [(4, .int (nI off)), (2, .int (nI (zn S))), (1, .ref (zg S 7 0 0)), (0, .ref b)]) : W p l e room_1 s m #[Value.ref b] below meth c H [] room_1.cells room_1.slots Q (F0 m 544 ls []) := by
  have hn12 := hW.1.n12
  refine lv_aload_n hx hb dL_law_544 rfl (lv_at hl 2 rfl) ?_
  refine zr_i (va_runV (As := []) (rest := []) ⟨hx, hb, hml, hown, hts⟩ (k_X10_begun l D yc e0 _ S _ w.1 w.2.1 w.2.2) (cwV 0 hts (lw_V wq670 wq671 wq672 wq1 wq673) rfl rfl rfl (by decide +kernel) ⟨(Nat.le_of_ble_eq_true rfl), (Nat.le_of_ble_eq_true rfl)⟩) (lp_V hC hW 7 0 0 dm7 rfl rfl) rfl rfl hl.1 rfl (lv_room (Nat.le_of_ble_eq_true rfl)) dL_law_545 ⟨(Nat.le_of_ble_eq_true rfl), (Nat.le_of_ble_eq_true rfl)⟩) ?_
  refine zk_ti (y := w.1 6 0 0 5) rfl ?_
  refine lv_if_ne (tgt := 556) hx hb dL_law_548 (by decide) (fun hb0 => ?_) (fun hb0 => ?_)
  · refine lv_iconst (v := 0) hx hb dL_law_556 (by decide) ?_
    refine zk_ti (y := nI 0) (by decide) ?_
    refine lv_istore (lv' := [(7, .int (nI 0)), (4, .int (nI off)), (2, .int (nI (zn S))), (1, .ref (zg S 7 0 0)), (0, .ref b)]) hx hb dL_law_557 hl (by decide) rfl (fun ls hl => ?_)
    exact y_wl (t0 := t) hx hb hml hown hts hC hX hbl hL hn12 hZ ht (fun w H t ls ht hW hI hal hclo hst hl => y_e5 hx hb hml hown hts hC hX hbl hL hW hI ht hZ hal hclo hpos kret hl) 60 0 rfl (by omega) hW hI hal hclo hst (lv_sub hl [0, 1, 2, 3, 4] rfl)
  · refine lv_aload_n hx hb dL_law_551 rfl (lv_at hl 2 rfl) ?_
    have hR := ckp_INV hI hpos hb0 hbn (by omega)
    refine lw_i (w1 := (w_X10_checkpoint S w)) (hZ.zb (by omega) hR.1 (by omega)) hW (by have h9 := hZ.top (by omega) hI (by omega) hW; exact ⟨by omega, by omega⟩) (fun hle9 => va_runV (As := []) (rest := []) ⟨hx, hb, hml, hown, hts⟩ (k_X10_checkpoint l D yc e0 _ S Z _ _ w H.size (zh H) hst hb0 (hZ.zb (by omega) hR.1 (by omega))) (cwV 0 hts (lw_V wq593 wq594 wq595 wq1 wq596) rfl rfl rfl (by decide +kernel) ⟨(Nat.le_of_ble_eq_true rfl), (Nat.le_of_ble_eq_true rfl)⟩) (lq_V hC hW 7 0 0 dm7 rfl rfl) rfl rfl hl.1 rfl (lv_room (Nat.le_of_ble_eq_true rfl)) dL_law_552 hle9) (fun H1 hW1 hz1 hk1 => ?_)
    refine lv_pop hx hb dL_law_555 rfl ?_
    refine lv_iconst (v := 0) hx hb dL_law_556 (by decide) ?_
    refine zk_ti (y := nI 0) (by decide) ?_
    refine lv_istore (lv' := [(7, .int (nI 0)), (4, .int (nI off)), (2, .int (nI (zn S))), (1, .ref (zg S 7 0 0)), (0, .ref b)]) hx hb dL_law_557 hl (by decide) rfl (fun ls hl => ?_)
    exact y_wl (t0 := t) hx hb hml hown hts hC hX hbl hL hn12 hZ ht (fun w H t ls ht hW hI hal hclo hst hl => y_e5 hx hb hml hown hts hC hX hbl hL hW hI ht hZ hal hclo hpos kret hl) 60 0 rfl (by omega) hW1 hR.1 (by rw [hR.2.2.1]; exact hal) (fun k hk hs => by rw [hR.2.2.2 2 0 k 10 (by omega) (by omega)]; exact hclo k hk hs) (by rw [hR.2.2.2 7 0 0 2 (by omega) (by omega)]; exact hst) (lv_sub hl [0, 1, 2, 3, 4] rfl)
set_option maxHeartbeats 4000000 in
set_option maxRecDepth 100000 in
theorem y_cl {p : Program} {l : Launch} {e : Env} {s : State} {m : MethodId} {below : List Frame} {meth : Method} {c : Code} {D : va_G} {yc : Nat → ClassId} {e0 : Nat} {b L : Nat} {xs : Nat → Int32} {Q : State → Prop} (hx : p.tables.exec = Jvm.exec) (hb : c.code = cL_law) (hml : c.maxLocals = 12) (hown : s.vm.findClass RL = some m.cls) (hts : ∀ w ∈ lw_all, w.before #[Value.ref b] s = true) (hC : CX D yc e0 (A9 s) s) (hX : va_X b L xs s s.heap) (hbl : b < s.heap.size) (hL : L ≤ 260) {S : TS} {so : Nat → Nat} {B : Nat → Prop} {Z : Nat × Nat} {t off bn : Nat} (hn12 : zn S ≤ 12) (hZ : ZI s Z 90) (hpos : 0 < zn S) (ht : t ≤ 2045) (kret : ∀ (H : Heap) (ls : Array Slot), W p l e room_1 s m #[Value.ref b] below meth c H [] room_1.cells room_1.slots Q (F0 m 740 ls [.int 1])) : ∀ (j k : Nat), k + j = zn S → ∀ {w : TW} {H : Heap} {ls : Array Slot}, LW s D yc e0 B S Z w H → INV S so True t w → alf so w.2.2 (zn S) = off → ¬ w.1 7 0 0 2 = 0 → w.1 6 0 0 4 = nI bn → bn ≤ 100 → (∀ i, k ≤ i → i < zn S → w.1 2 0 i 10 = 0) → (∀ i, i < k → so i = 0 → ¬ w.1 2 0 i 10 = 0) → lv_has ls 12 [(7, .int (nI k)), (4, .int (nI off)), (2, .int (nI (zn S))), (1, .ref (zg S 7 0 0)), (0, .ref b)] → W p l e room_1 s m #[Value.ref b] below meth c H [] room_1.cells room_1.slots Q (F0 m 516 ls [])
  | 0, k, hj, w, H, ls, hW, hI, hal, hst, hbn, hbn2, hc1, hc2, hl => by
    have hj : k = zn S := hj
    subst hj
    refine lv_iload hx hb dL_law_516 (lv_at hl 0 rfl) ?_
    refine lv_iload_n hx hb dL_law_518 rfl (lv_at hl 2 rfl) ?_
    refine lv_icmp_ge (tgt := 544) hx hb dL_law_519 (by decide) (fun _ => ?_) (fun h9 => absurd (nI_le (Nat.le_refl _) (by omega)) h9)
    exact y_e4 hx hb hml hown hts hC hX hbl hL hW hI ht hZ hal hc2 hpos hst hbn hbn2 kret (lv_sub hl [1, 2, 3, 4] rfl)
  | j + 1, k, hj, w, H, ls, hW, hI, hal, hst, hbn, hbn2, hc1, hc2, hl => by
    have hk : k < zn S := by omega
    refine lv_iload hx hb dL_law_516 (lv_at hl 0 rfl) ?_
    refine lv_iload_n hx hb dL_law_518 rfl (lv_at hl 2 rfl) ?_
    refine lv_icmp_ge (tgt := 544) hx hb dL_law_519 (by decide) (fun h9 => absurd h9 (nI_ge hk (by omega))) (fun _ => ?_)
    refine lv_aload_n hx hb dL_law_522 rfl (lv_at hl 3 rfl) ?_
    refine lv_iload hx hb dL_law_523 (lv_at hl 0 rfl) ?_
    refine zr_i (va_runV (As := [.int (nI k)]) (rest := []) ⟨hx, hb, hml, hown, hts⟩ (k_X10_sortOf l D yc e0 _ S _ w.1 w.2.1 w.2.2 k hk) (cwV 1 hts (lw_V wq627 wq628 wq629 wq1 wq630) rfl rfl rfl (by decide +kernel) ⟨(Nat.le_of_ble_eq_true rfl), (Nat.le_of_ble_eq_true rfl)⟩) (lp_V hC hW 7 0 0 dm7 rfl rfl) rfl rfl hl.1 rfl (lv_room (Nat.le_of_ble_eq_true rfl)) dL_law_525 ⟨(Nat.le_of_ble_eq_true rfl), (Nat.le_of_ble_eq_true rfl)⟩) ?_
    refine zk_ti (y := w.1 8 0 k 0) rfl ?_
    refine lv_if_ne (tgt := 538) hx hb dL_law_528 (by decide) (fun h0 => ?_) (fun h0 => ?_)
    · refine lv_iinc (v := nI (k + 1)) (lv' := [(7, .int (nI (k + 1))), (4, .int (nI off)), (2, .int (nI (zn S))), (1, .ref (zg S 7 0 0)), (0, .ref b)]) hx hb dL_law_538 hl (k := 0) rfl (nI_1 k) (by decide) rfl (fun ls hl => ?_)
      refine lv_goto (tgt := 516) hx hb dL_law_541 (by decide) ?_
      exact y_cl hx hb hml hown hts hC hX hbl hL hn12 hZ hpos ht kret j (k + 1) (by omega) hW hI hal hst hbn hbn2 (fun i h1 h2 => hc1 i (by omega) h2) (fun i h1 hs => by
        by_cases e9 : i = k
        · exact absurd (by rw [((hI.1.2.2 k hk).1).1, ← e9, hs]; rfl) h0
        · exact hc2 i (by omega) hs) (lv_sub hl [0, 1, 2, 3, 4] rfl)
    · refine lv_aload_n hx hb dL_law_531 rfl (lv_at hl 3 rfl) ?_
      refine lv_iload hx hb dL_law_532 (lv_at hl 0 rfl) ?_
      have hR := close_RS hI hk
      refine lw_i (w1 := (w_X10_close S w k)) (hZ.zb (by omega) hR.1 (by omega)) hW (by have h9 := hZ.top (by omega) hI (by omega) hW; exact ⟨by omega, by omega⟩) (fun hle9 => va_runV (As := [.int (nI k)]) (rest := []) ⟨hx, hb, hml, hown, hts⟩ (k_X10_close l D yc e0 _ S Z _ _ w H.size (zh H) k hk h0 hst (hc1 k (Nat.le_refl _) hk) (hZ.zb (by omega) hR.1 (by omega))) (cwV 1 hts (lw_V wq211 wq212 wq213 wq1 wq214) rfl rfl rfl (by decide +kernel) ⟨(Nat.le_of_ble_eq_true rfl), (Nat.le_of_ble_eq_true rfl)⟩) (lq_V hC hW 7 0 0 dm7 rfl rfl) rfl rfl hl.1 rfl (lv_room (Nat.le_of_ble_eq_true rfl)) dL_law_534 hle9) (fun H1 hW1 hz1 hk1 => ?_)
      refine lv_pop hx hb dL_law_537 rfl ?_
      refine lv_iinc (v := nI (k + 1)) (lv' := [(7, .int (nI (k + 1))), (4, .int (nI off)), (2, .int (nI (zn S))), (1, .ref (zg S 7 0 0)), (0, .ref b)]) hx hb dL_law_538 hl (k := 0) rfl (nI_1 k) (by decide) rfl (fun ls hl => ?_)
      refine lv_goto (tgt := 516) hx hb dL_law_541 (by decide) ?_
      exact y_cl hx hb hml hown hts hC hX hbl hL hn12 hZ hpos ht kret j (k + 1) (by omega) hW1 hR.1 (by rw [hR.2.1]; exact hal) (by rw [hR.2.2.1 7 0 0 2 (by omega)]; exact hst) (by rw [hR.2.2.1 6 0 0 4 (by omega)]; exact hbn) hbn2 (fun i h1 h2 => by rw [hR.2.2.1 2 0 i 10 (by omega)]; exact hc1 i (by omega) h2) (fun i h1 hs => by
        by_cases e9 : i = k
        · rw [e9, hR.2.2.2]; decide
        · rw [hR.2.2.1 2 0 i 10 (by omega)]; exact hc2 i (by omega) hs) (lv_sub hl [0, 1, 2, 3, 4] rfl)
set_option maxHeartbeats 4000000 in
set_option maxRecDepth 100000 in
theorem y_end {p : Program} {l : Launch} {e : Env} {s : State} {m : MethodId} {below : List Frame} {meth : Method} {c : Code} {D : va_G} {yc : Nat → ClassId} {e0 : Nat} {b L : Nat} {xs : Nat → Int32} {Q : State → Prop} (hx : p.tables.exec = Jvm.exec) (hb : c.code = cL_law) (hml : c.maxLocals = 12) (hown : s.vm.findClass RL = some m.cls) (hts : ∀ w ∈ lw_all, w.before #[Value.ref b] s = true) (hC : CX D yc e0 (A9 s) s) (hX : va_X b L xs s s.heap) (hbl : b < s.heap.size) (hL : L ≤ 260) {S : TS} {so : Nat → Nat} {Z : Nat × Nat} {w : TW} {H : Heap} {off at_ : Nat} (hpos : 0 < zn S) (hT : TSt s D yc e0 S so 45 Z w H at_ off) (kret : ∀ (H : Heap) (ls : Array Slot), W p l e room_1 s m #[Value.ref b] below meth c H [] room_1.cells room_1.slots Q (F0 m 740 ls [.int 1])) {ls : Array Slot} (hl : lv_has ls 12 [(5, .int (nI 45)), (4, .int (nI off)), (3, .int (nI at_)), (2, .int (nI (zn S))), (1, .ref (zg S 7 0 0)), (0, .ref b)]) : W p l e room_1 s m #[Value.ref b] below meth c H [] room_1.cells room_1.slots Q (F0 m 476 ls []) := by
  obtain ⟨hW, hI, hZ, ⟨bn, hbn2, hbn⟩, hst, hal, hof, hat⟩ := hT
  have hn12 := hW.1.n12
  refine lv_aload_n hx hb dL_law_476 rfl (lv_at hl 4 rfl) ?_
  refine zr_l (va_runV (As := []) (rest := []) ⟨hx, hb, hml, hown, hts⟩ (k_X10_digest l D yc e0 _ S _ w.1 w.2.1 w.2.2 (zlast w 0) hI.2.2.1.1 hI.2.2.1.2 (hI.out (by omega)) (fun k _ => by rcases hI.2.1 0 k with h | h <;> omega)) (cwV 0 hts (lw_V wq708 wq709 wq710 wq1 wq711) rfl rfl rfl (by decide +kernel) ⟨(Nat.le_of_ble_eq_true rfl), (Nat.le_of_ble_eq_true rfl)⟩) (lp_V hC hW 7 0 0 dm7 rfl rfl) rfl rfl hl.1 rfl (lv_room (Nat.le_of_ble_eq_true rfl)) dL_law_477 ⟨(Nat.le_of_ble_eq_true rfl), (Nat.le_of_ble_eq_true rfl)⟩) ?_
  refine lv_lstore (lv' := [(5, .long (v_X10_digest S w.1 w.2.1 w.2.2 (zlast w 0))), (4, .int (nI off)), (3, .int (nI at_)), (2, .int (nI (zn S))), (1, .ref (zg S 7 0 0)), (0, .ref b)]) hx hb dL_law_480 hl (by decide) rfl (fun ls hl => ?_)
  refine lv_aload_n hx hb dL_law_482 rfl (lv_at hl 4 rfl) ?_
  refine lv_sipush (v := 200) hx hb dL_law_483 (by decide) ?_
  refine zk_ti (y := nI 200) (by decide) ?_
  have hR := rest_RS (mi := 200) hI (by omega) (by omega)
  refine lw_i (w1 := (w_X10_itemsToRest S w 200)) (hZ.zb (by omega) hR.1 (by omega)) hW (by have h9 := hZ.top (by omega) hI (by omega) hW; exact ⟨by omega, by omega⟩) (fun hle9 => va_runV (As := [.int (nI 200)]) (rest := []) ⟨hx, hb, hml, hown, hts⟩ (k_X10_itemsToRest l D yc e0 _ S Z _ _ w H.size (zh H) 200 (by omega) (by omega) hI.2.1 hI.2.2.1 (hZ.zb (by omega) hR.1 (by omega))) (cwV 1 hts (lw_V wq687 wq688 wq689 wq1 wq690) rfl rfl rfl (by decide +kernel) ⟨(Nat.le_of_ble_eq_true rfl), (Nat.le_of_ble_eq_true rfl)⟩) (lq_V hC hW 7 0 0 dm7 rfl rfl) rfl rfl hl.1 rfl (lv_room (Nat.le_of_ble_eq_true rfl)) dL_law_486 hle9) (fun H1 hW1 hz1 hk1 => ?_)
  have hA := hR.2.1
  have hI1 := hR.1
  have hz1 : zlast (w_X10_itemsToRest S w 200).1 0 = zlast w 0 := by unfold zlast; rw [hA.1 6 0 3 (by omega)]
  refine lv_iconst (v := (-1)) hx hb dL_law_489 (by decide) ?_
  refine lv_icmp_lt (tgt := 511) hx hb dL_law_490 (by decide) (fun h9 => absurd h9 hR.2.2.2) (fun _ => ?_)
  refine lv_aload_n hx hb dL_law_493 rfl (lv_at hl 4 rfl) ?_
  refine zr_i (va_runV (As := []) (rest := []) ⟨hx, hb, hml, hown, hts⟩ (k_X10_next l D yc e0 _ S _ (w_X10_itemsToRest S w 200).1.1 (w_X10_itemsToRest S w 200).1.2.1 (w_X10_itemsToRest S w 200).1.2.2 (zlast (w_X10_itemsToRest S w 200).1 0) hI1.2.2.1.1 hI1.2.2.1.2) (cwV 0 hts (lw_V wq683 wq684 wq685 wq1 wq686) rfl rfl rfl (by decide +kernel) ⟨(Nat.le_of_ble_eq_true rfl), (Nat.le_of_ble_eq_true rfl)⟩) (lp_V hC hW1 7 0 0 dm7 rfl rfl) rfl rfl hl.1 rfl (lv_room (Nat.le_of_ble_eq_true rfl)) dL_law_494 ⟨(Nat.le_of_ble_eq_true rfl), (Nat.le_of_ble_eq_true rfl)⟩) ?_
  refine lv_iconst (v := (-1)) hx hb dL_law_497 (by decide) ?_
  refine lv_icmp_lt (tgt := 511) hx hb dL_law_498 (by decide) (fun h9 => absurd h9 (nx_lt hn12 hI1.2.2.1)) (fun _ => ?_)
  refine lv_aload_n hx hb dL_law_501 rfl (lv_at hl 4 rfl) ?_
  refine zr_l (va_runV (As := []) (rest := []) ⟨hx, hb, hml, hown, hts⟩ (k_X10_digest l D yc e0 _ S _ (w_X10_itemsToRest S w 200).1.1 (w_X10_itemsToRest S w 200).1.2.1 (w_X10_itemsToRest S w 200).1.2.2 (zlast (w_X10_itemsToRest S w 200).1 0) hI1.2.2.1.1 hI1.2.2.1.2 (hI1.out (by omega)) (fun k _ => by rcases hI1.2.1 0 k with h | h <;> omega)) (cwV 0 hts (lw_V wq708 wq709 wq710 wq1 wq711) rfl rfl rfl (by decide +kernel) ⟨(Nat.le_of_ble_eq_true rfl), (Nat.le_of_ble_eq_true rfl)⟩) (lp_V hC hW1 7 0 0 dm7 rfl rfl) rfl rfl hl.1 rfl (lv_room (Nat.le_of_ble_eq_true rfl)) dL_law_502 ⟨(Nat.le_of_ble_eq_true rfl), (Nat.le_of_ble_eq_true rfl)⟩) ?_
  refine zk_tl (y := (v_X10_digest S w.1 w.2.1 w.2.2 (zlast w 0))) (by rw [hz1]; exact dig_ok hI.2.2.1.2 hn12 hI.1.2.1 hA (fun j => hR.2.2.1 0 j)) ?_
  refine lv_lload hx hb dL_law_505 (lv_at hl 0 rfl) ?_
  refine W.lcmp hx hb dL_law_507 ?_
  refine zk_ti (y := 0) (lgc _) ?_
  refine lv_if_eq (tgt := 513) hx hb dL_law_508 (by decide) (fun _ => ?_) (fun h9 => absurd rfl h9)
  refine lv_iconst (v := 0) hx hb dL_law_513 (by decide) ?_
  refine zk_ti (y := nI 0) (by decide) ?_
  refine lv_istore (lv' := [(7, .int (nI 0)), (5, .long (v_X10_digest S w.1 w.2.1 w.2.2 (zlast w 0))), (4, .int (nI off)), (3, .int (nI at_)), (2, .int (nI (zn S))), (1, .ref (zg S 7 0 0)), (0, .ref b)]) hx hb dL_law_514 hl (by decide) rfl (fun ls hl => ?_)
  exact y_cl hx hb hml hown hts hC hX hbl hL hn12 hZ hpos (by omega) kret (zn S) 0 (by omega) hW1 (set_INV (cl' := True) (fun h => h.elim) hI1 (fun _ _ _ _ _ _ => rfl) rfl (fun _ _ _ => trivial)) ((alf_eq _ hn12 hA.2.2.2.2.1).trans hal) (by rw [hR.2.2.1]; exact hst) (by rw [hA.1 6 0 4 (by omega)]; exact hbn) (by omega) (fun i _ h2 => hI1.opn h2) (fun i h _ => absurd h (Nat.not_lt_zero i)) (lv_sub hl [0, 2, 4, 5, 6] rfl)
