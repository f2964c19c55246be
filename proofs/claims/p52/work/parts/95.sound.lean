/-! ===== the law's check ===== -/
theorem dcmp_same {r : UInt64} (h : FP.Core.dIsNaN r = false) : FP.dcmp r r = some .eq := FP.Core.order_self (of_decide_eq_false h)
theorem mx0 {n : Nat} (h : n < 2 ^ 31) : (if (0 : Int32) < nI n then nI n else 0) = nI n := by
  by_cases h0 : n = 0
  · subst h0; rfl
  · have h2 : (0 : Int32) < nI n := nI_lt (a := 0) (by omega) h
    rw [if_pos h2]
set_option maxHeartbeats 4000000 in
set_option maxRecDepth 100000 in
theorem y_side01 {p : Program} {l : Launch} {e : Env} {s : State} {m : MethodId} {args : Array Value} {below : List Frame} {meth : Method} {c : Code} {D : va_G} {yc : Nat → ClassId} {e0 : Nat} {A : Nat → Prop} {S : TS} {Z : Nat × Nat} {F : TF} {G : TG} {q : TQ} {so : Nat → Nat} {k : Nat} (hx : p.tables.exec = Jvm.exec) (hb : c.code = cL_isSound) (hml : c.maxLocals = 10) (hr : meth.sig.returnType = some .boolean) (hlk : meth.locks = false) (hown : s.vm.findClass RL = some m.cls) (hts : ∀ w ∈ lw_all, w.before args s = true) (hW : WT D yc e0 A S Z F G q s.heap) (hS : va_S A s.heap s.heap []) (hA : ∀ a, s.heap.size ≤ a → A a) (hC : CX D yc e0 A s) (hk : k < zn S) (hGS : GS G) (hsn : SNk S so F G q k) {f3 f4 f5 f6 of : Int32} {L : Nat} (hL : L < 2 ^ 31) (hq : v_X10_queued0 S F G q k = nI L) (kk : ∀ ls, lv_has ls 10 [(8, .int 1), (3, .int (f3 + nI L)), (4, .int (f4 + 1)), (5, .int f5), (6, .int f6), (7, .int (nI k)), (0, .ref (zg S 7 0 0)), (1, .int (nI (zn S))), (2, .int of)] → W p l e { frames := 9, cells := 0, slots := 0, locals := 190 } s m args below meth c s.heap [] 0 0 (MQ below (zQ (some (.int 1))) args s 0 0 zno) (F0 m 23 ls [])) {ls : Array Slot} (hl : lv_has ls 10 [(8, .int 0), (3, .int f3), (4, .int f4), (5, .int f5), (6, .int f6), (7, .int (nI k)), (0, .ref (zg S 7 0 0)), (1, .int (nI (zn S))), (2, .int of)]) : W p l e { frames := 9, cells := 0, slots := 0, locals := 190 } s m args below meth c s.heap [] 0 0 (MQ below (zQ (some (.int 1))) args s 0 0 zno) (F0 m 23 ls []) := by
  have hK := hC.1
  have hN := hC.2.1
  refine lv_iload hx hb dL_isSound_23 (lv_at hl 0 rfl) ?_
  refine lv_iconst (v := 2) hx hb dL_isSound_25 (by decide) ?_
  refine lv_icmp_ge (tgt := 105) hx hb dL_isSound_26 (by decide) (fun h9 => absurd h9 (by decide)) (fun _ => ?_)
  refine lv_aload_n hx hb dL_isSound_29 rfl (lv_at hl 6 rfl) ?_
  refine lv_iload hx hb dL_isSound_30 (lv_at hl 5 rfl) ?_
  refine lv_iload hx hb dL_isSound_32 (lv_at hl 0 rfl) ?_
  refine lv_iconst (v := 1) hx hb dL_isSound_34 (by decide) ?_
  refine lv_icmp_ne (tgt := 42) hx hb dL_isSound_35 (by decide) (fun _ => ?_) (fun h9 => absurd h9 (by decide))
  refine lv_iconst (v := 0) hx hb dL_isSound_42 (by decide) ?_
  refine zr_i (va_runV (As := [.int (nI k), .int 0]) (rest := []) ⟨hx, hb, hml, hown, hts⟩ (k_X10_queued0 l D yc e0 A S Z F G q k hk) (cwV 2 hts (lw_V wq1187 wq760 wq761 wq1 wq762) rfl rfl rfl (by decide +kernel) ⟨(Nat.le_of_ble_eq_true rfl), (Nat.le_of_ble_eq_true rfl)⟩) (tp_V hC hW hS hA 7 0 0 dm7 rfl rfl) rfl rfl hl.1 rfl (lv_room (Nat.le_of_ble_eq_true rfl)) dL_isSound_43 ⟨(Nat.le_of_ble_eq_true rfl), (Nat.le_of_ble_eq_true rfl)⟩) ?_
  refine lv_istore (lv' := [(9, .int (v_X10_queued0 S F G q k)), (8, .int 0), (3, .int f3), (4, .int f4), (5, .int f5), (6, .int f6), (7, .int (nI k)), (0, .ref (zg S 7 0 0)), (1, .int (nI (zn S))), (2, .int of)]) hx hb dL_isSound_46 hl (by decide) rfl (fun ls hl => ?_)
  refine lv_iload_n hx hb dL_isSound_48 rfl (lv_at hl 2 rfl) ?_
  refine lv_iconst (v := 0) hx hb dL_isSound_49 (by decide) ?_
  refine lv_iload hx hb dL_isSound_50 (lv_at hl 0 rfl) ?_
  refine va_mmax hx hb (by rw [hml]; exact hl.1.symm) hown (hts _ wq1188) (hts _ wq375) (hts _ wq14) (hts _ wq376) (Nat.le_of_ble_eq_true rfl) (Nat.le_of_ble_eq_true rfl) (Nat.le_of_ble_eq_true rfl) (Nat.le_of_ble_eq_true rfl) dL_isSound_52 ?_
  refine zk_ti (y := nI L) (by rw [hq]; exact mx0 hL) ?_
  refine lv_iadd hx hb dL_isSound_55 ?_
  refine zk_ti (y := (f3 + nI L)) rfl ?_
  refine lv_istore_n (lv' := [(3, .int (f3 + nI L)), (9, .int (v_X10_queued0 S F G q k)), (8, .int 0), (4, .int f4), (5, .int f5), (6, .int f6), (7, .int (nI k)), (0, .ref (zg S 7 0 0)), (1, .int (nI (zn S))), (2, .int of)]) hx hb dL_isSound_56 rfl hl (by decide) rfl (fun ls hl => ?_)
  refine lv_iload hx hb dL_isSound_57 (lv_at hl 3 rfl) ?_
  refine lv_iload hx hb dL_isSound_59 (lv_at hl 1 rfl) ?_
  refine lv_if_lt (tgt := 68) hx hb dL_isSound_61 (by decide) (fun h9 => absurd h9 (by rw [hq]; exact nI_pos hL)) (fun _ => ?_)
  refine lv_iconst (v := 1) hx hb dL_isSound_64 (by decide) ?_
  refine lv_goto (tgt := 69) hx hb dL_isSound_65 (by decide) ?_
  refine lv_iadd hx hb dL_isSound_69 ?_
  refine zk_ti (y := (f4 + 1)) rfl ?_
  refine lv_istore (lv' := [(4, .int (f4 + 1)), (3, .int (f3 + nI L)), (9, .int (v_X10_queued0 S F G q k)), (8, .int 0), (5, .int f5), (6, .int f6), (7, .int (nI k)), (0, .ref (zg S 7 0 0)), (1, .int (nI (zn S))), (2, .int of)]) hx hb dL_isSound_70 hl (by decide) rfl (fun ls hl => ?_)
  refine lv_iload hx hb dL_isSound_72 (lv_at hl 2 rfl) ?_
  refine lv_if_ge (tgt := 99) hx hb dL_isSound_74 (by decide) (fun _ => ?_) (fun h9 => absurd (by rw [hq]; exact nI_pos' hL) h9)
  refine lv_iinc (v := 1) (lv' := [(8, .int 1), (4, .int (f4 + 1)), (3, .int (f3 + nI L)), (9, .int (v_X10_queued0 S F G q k)), (5, .int f5), (6, .int f6), (7, .int (nI k)), (0, .ref (zg S 7 0 0)), (1, .int (nI (zn S))), (2, .int of)]) hx hb dL_isSound_99 hl (k := 3) rfl (by decide) (by decide) rfl (fun ls hl => ?_)
  refine lv_goto (tgt := 23) hx hb dL_isSound_102 (by decide) ?_
  exact kk _ (lv_sub hl [0, 2, 1, 4, 5, 6, 7, 8, 9] rfl)
set_option maxHeartbeats 4000000 in
set_option maxRecDepth 100000 in
theorem y_side00 {p : Program} {l : Launch} {e : Env} {s : State} {m : MethodId} {args : Array Value} {below : List Frame} {meth : Method} {c : Code} {D : va_G} {yc : Nat → ClassId} {e0 : Nat} {A : Nat → Prop} {S : TS} {Z : Nat × Nat} {F : TF} {G : TG} {q : TQ} {so : Nat → Nat} {k : Nat} (hx : p.tables.exec = Jvm.exec) (hb : c.code = cL_isSound) (hml : c.maxLocals = 10) (hr : meth.sig.returnType = some .boolean) (hlk : meth.locks = false) (hown : s.vm.findClass RL = some m.cls) (hts : ∀ w ∈ lw_all, w.before args s = true) (hW : WT D yc e0 A S Z F G q s.heap) (hS : va_S A s.heap s.heap []) (hA : ∀ a, s.heap.size ≤ a → A a) (hC : CX D yc e0 A s) (hk : k < zn S) (hGS : GS G) (hsn : SNk S so F G q k) {f3 f4 f5 f6 of : Int32} (hq : v_X10_queued0 S F G q k = -1) (hbl : v_X10_isBlocked0 S F G q k = 0) (kk : ∀ ls, lv_has ls 10 [(8, .int 1), (3, .int (f3 + 0)), (4, .int (f4 + 0)), (5, .int f5), (6, .int f6), (7, .int (nI k)), (0, .ref (zg S 7 0 0)), (1, .int (nI (zn S))), (2, .int of)] → W p l e { frames := 9, cells := 0, slots := 0, locals := 190 } s m args below meth c s.heap [] 0 0 (MQ below (zQ (some (.int 1))) args s 0 0 zno) (F0 m 23 ls [])) {ls : Array Slot} (hl : lv_has ls 10 [(8, .int 0), (3, .int f3), (4, .int f4), (5, .int f5), (6, .int f6), (7, .int (nI k)), (0, .ref (zg S 7 0 0)), (1, .int (nI (zn S))), (2, .int of)]) : W p l e { frames := 9, cells := 0, slots := 0, locals := 190 } s m args below meth c s.heap [] 0 0 (MQ below (zQ (some (.int 1))) args s 0 0 zno) (F0 m 23 ls []) := by
  have hK := hC.1
  have hN := hC.2.1
  refine lv_iload hx hb dL_isSound_23 (lv_at hl 0 rfl) ?_
  refine lv_iconst (v := 2) hx hb dL_isSound_25 (by decide) ?_
  refine lv_icmp_ge (tgt := 105) hx hb dL_isSound_26 (by decide) (fun h9 => absurd h9 (by decide)) (fun _ => ?_)
  refine lv_aload_n hx hb dL_isSound_29 rfl (lv_at hl 6 rfl) ?_
  refine lv_iload hx hb dL_isSound_30 (lv_at hl 5 rfl) ?_
  refine lv_iload hx hb dL_isSound_32 (lv_at hl 0 rfl) ?_
  refine lv_iconst (v := 1) hx hb dL_isSound_34 (by decide) ?_
  refine lv_icmp_ne (tgt := 42) hx hb dL_isSound_35 (by decide) (fun _ => ?_) (fun h9 => absurd h9 (by decide))
  refine lv_iconst (v := 0) hx hb dL_isSound_42 (by decide) ?_
  refine zr_i (va_runV (As := [.int (nI k), .int 0]) (rest := []) ⟨hx, hb, hml, hown, hts⟩ (k_X10_queued0 l D yc e0 A S Z F G q k hk) (cwV 2 hts (lw_V wq1187 wq760 wq761 wq1 wq762) rfl rfl rfl (by decide +kernel) ⟨(Nat.le_of_ble_eq_true rfl), (Nat.le_of_ble_eq_true rfl)⟩) (tp_V hC hW hS hA 7 0 0 dm7 rfl rfl) rfl rfl hl.1 rfl (lv_room (Nat.le_of_ble_eq_true rfl)) dL_isSound_43 ⟨(Nat.le_of_ble_eq_true rfl), (Nat.le_of_ble_eq_true rfl)⟩) ?_
  refine lv_istore (lv' := [(9, .int (v_X10_queued0 S F G q k)), (8, .int 0), (3, .int f3), (4, .int f4), (5, .int f5), (6, .int f6), (7, .int (nI k)), (0, .ref (zg S 7 0 0)), (1, .int (nI (zn S))), (2, .int of)]) hx hb dL_isSound_46 hl (by decide) rfl (fun ls hl => ?_)
  refine lv_iload_n hx hb dL_isSound_48 rfl (lv_at hl 2 rfl) ?_
  refine lv_iconst (v := 0) hx hb dL_isSound_49 (by decide) ?_
  refine lv_iload hx hb dL_isSound_50 (lv_at hl 0 rfl) ?_
  refine va_mmax hx hb (by rw [hml]; exact hl.1.symm) hown (hts _ wq1188) (hts _ wq375) (hts _ wq14) (hts _ wq376) (Nat.le_of_ble_eq_true rfl) (Nat.le_of_ble_eq_true rfl) (Nat.le_of_ble_eq_true rfl) (Nat.le_of_ble_eq_true rfl) dL_isSound_52 ?_
  refine zk_ti (y := 0) (by rw [hq]; decide) ?_
  refine lv_iadd hx hb dL_isSound_55 ?_
  refine zk_ti (y := (f3 + 0)) rfl ?_
  refine lv_istore_n (lv' := [(3, .int (f3 + 0)), (9, .int (v_X10_queued0 S F G q k)), (8, .int 0), (4, .int f4), (5, .int f5), (6, .int f6), (7, .int (nI k)), (0, .ref (zg S 7 0 0)), (1, .int (nI (zn S))), (2, .int of)]) hx hb dL_isSound_56 rfl hl (by decide) rfl (fun ls hl => ?_)
  refine lv_iload hx hb dL_isSound_57 (lv_at hl 3 rfl) ?_
  refine lv_iload hx hb dL_isSound_59 (lv_at hl 1 rfl) ?_
  refine lv_if_lt (tgt := 68) hx hb dL_isSound_61 (by decide) (fun _ => ?_) (fun h9 => absurd (by rw [hq]; decide) h9)
  refine lv_iconst (v := 0) hx hb dL_isSound_68 (by decide) ?_
  refine lv_iadd hx hb dL_isSound_69 ?_
  refine zk_ti (y := (f4 + 0)) rfl ?_
  refine lv_istore (lv' := [(4, .int (f4 + 0)), (3, .int (f3 + 0)), (9, .int (v_X10_queued0 S F G q k)), (8, .int 0), (5, .int f5), (6, .int f6), (7, .int (nI k)), (0, .ref (zg S 7 0 0)), (1, .int (nI (zn S))), (2, .int of)]) hx hb dL_isSound_70 hl (by decide) rfl (fun ls hl => ?_)
  refine lv_iload hx hb dL_isSound_72 (lv_at hl 2 rfl) ?_
  refine lv_if_ge (tgt := 99) hx hb dL_isSound_74 (by decide) (fun h9 => absurd h9 (by rw [hq]; decide)) (fun _ => ?_)
  refine lv_aload_n hx hb dL_isSound_77 rfl (lv_at hl 7 rfl) ?_
  refine lv_iload hx hb dL_isSound_78 (lv_at hl 6 rfl) ?_
  refine lv_iload hx hb dL_isSound_80 (lv_at hl 3 rfl) ?_
  refine lv_iconst (v := 1) hx hb dL_isSound_82 (by decide) ?_
  refine lv_icmp_ne (tgt := 90) hx hb dL_isSound_83 (by decide) (fun _ => ?_) (fun h9 => absurd h9 (by decide))
  refine lv_iconst (v := 0) hx hb dL_isSound_90 (by decide) ?_
  refine zr_i (va_runV (As := [.int (nI k), .int 0]) (rest := []) ⟨hx, hb, hml, hown, hts⟩ (k_X10_isBlocked0 l D yc e0 A S Z F G q k hk) (cwV 2 hts (lw_V wq653 wq654 wq655 wq1 wq656) rfl rfl rfl (by decide +kernel) ⟨(Nat.le_of_ble_eq_true rfl), (Nat.le_of_ble_eq_true rfl)⟩) (tp_V hC hW hS hA 7 0 0 dm7 rfl rfl) rfl rfl hl.1 rfl (lv_room (Nat.le_of_ble_eq_true rfl)) dL_isSound_91 ⟨(Nat.le_of_ble_eq_true rfl), (Nat.le_of_ble_eq_true rfl)⟩) ?_
  refine lv_if_eq (tgt := 99) hx hb dL_isSound_94 (by decide) (fun _ => ?_) (fun h9 => absurd hbl h9)
  refine lv_iinc (v := 1) (lv' := [(8, .int 1), (4, .int (f4 + 0)), (3, .int (f3 + 0)), (9, .int (v_X10_queued0 S F G q k)), (5, .int f5), (6, .int f6), (7, .int (nI k)), (0, .ref (zg S 7 0 0)), (1, .int (nI (zn S))), (2, .int of)]) hx hb dL_isSound_99 hl (k := 3) rfl (by decide) (by decide) rfl (fun ls hl => ?_)
  refine lv_goto (tgt := 23) hx hb dL_isSound_102 (by decide) ?_
  exact kk _ (lv_sub hl [0, 2, 1, 4, 5, 6, 7, 8, 9] rfl)
set_option maxHeartbeats 4000000 in
set_option maxRecDepth 100000 in
theorem y_side11 {p : Program} {l : Launch} {e : Env} {s : State} {m : MethodId} {args : Array Value} {below : List Frame} {meth : Method} {c : Code} {D : va_G} {yc : Nat → ClassId} {e0 : Nat} {A : Nat → Prop} {S : TS} {Z : Nat × Nat} {F : TF} {G : TG} {q : TQ} {so : Nat → Nat} {k : Nat} (hx : p.tables.exec = Jvm.exec) (hb : c.code = cL_isSound) (hml : c.maxLocals = 10) (hr : meth.sig.returnType = some .boolean) (hlk : meth.locks = false) (hown : s.vm.findClass RL = some m.cls) (hts : ∀ w ∈ lw_all, w.before args s = true) (hW : WT D yc e0 A S Z F G q s.heap) (hS : va_S A s.heap s.heap []) (hA : ∀ a, s.heap.size ≤ a → A a) (hC : CX D yc e0 A s) (hk : k < zn S) (hGS : GS G) (hsn : SNk S so F G q k) {f3 f4 f5 f6 of : Int32} {L : Nat} (hL : L < 2 ^ 31) (hq : v_X10_queued1 S F G q k = nI L) (kk : ∀ ls, lv_has ls 10 [(8, .int 2), (3, .int (f3 + nI L)), (4, .int (f4 + 1)), (5, .int f5), (6, .int f6), (7, .int (nI k)), (0, .ref (zg S 7 0 0)), (1, .int (nI (zn S))), (2, .int of)] → W p l e { frames := 9, cells := 0, slots := 0, locals := 190 } s m args below meth c s.heap [] 0 0 (MQ below (zQ (some (.int 1))) args s 0 0 zno) (F0 m 23 ls [])) {ls : Array Slot} (hl : lv_has ls 10 [(8, .int 1), (3, .int f3), (4, .int f4), (5, .int f5), (6, .int f6), (7, .int (nI k)), (0, .ref (zg S 7 0 0)), (1, .int (nI (zn S))), (2, .int of)]) : W p l e { frames := 9, cells := 0, slots := 0, locals := 190 } s m args below meth c s.heap [] 0 0 (MQ below (zQ (some (.int 1))) args s 0 0 zno) (F0 m 23 ls []) := by
  have hK := hC.1
  have hN := hC.2.1
  refine lv_iload hx hb dL_isSound_23 (lv_at hl 0 rfl) ?_
  refine lv_iconst (v := 2) hx hb dL_isSound_25 (by decide) ?_
  refine lv_icmp_ge (tgt := 105) hx hb dL_isSound_26 (by decide) (fun h9 => absurd h9 (by decide)) (fun _ => ?_)
  refine lv_aload_n hx hb dL_isSound_29 rfl (lv_at hl 6 rfl) ?_
  refine lv_iload hx hb dL_isSound_30 (lv_at hl 5 rfl) ?_
  refine lv_iload hx hb dL_isSound_32 (lv_at hl 0 rfl) ?_
  refine lv_iconst (v := 1) hx hb dL_isSound_34 (by decide) ?_
  refine lv_icmp_ne (tgt := 42) hx hb dL_isSound_35 (by decide) (fun h9 => absurd rfl h9) (fun _ => ?_)
  refine lv_iconst (v := 1) hx hb dL_isSound_38 (by decide) ?_
  refine lv_goto (tgt := 43) hx hb dL_isSound_39 (by decide) ?_
  refine zr_i (va_runV (As := [.int (nI k), .int 1]) (rest := []) ⟨hx, hb, hml, hown, hts⟩ (k_X10_queued1 l D yc e0 A S Z F G q k hk) (cwV 2 hts (lw_V wq1187 wq760 wq761 wq1 wq762) rfl rfl rfl (by decide +kernel) ⟨(Nat.le_of_ble_eq_true rfl), (Nat.le_of_ble_eq_true rfl)⟩) (tp_V hC hW hS hA 7 0 0 dm7 rfl rfl) rfl rfl hl.1 rfl (lv_room (Nat.le_of_ble_eq_true rfl)) dL_isSound_43 ⟨(Nat.le_of_ble_eq_true rfl), (Nat.le_of_ble_eq_true rfl)⟩) ?_
  refine lv_istore (lv' := [(9, .int (v_X10_queued1 S F G q k)), (8, .int 1), (3, .int f3), (4, .int f4), (5, .int f5), (6, .int f6), (7, .int (nI k)), (0, .ref (zg S 7 0 0)), (1, .int (nI (zn S))), (2, .int of)]) hx hb dL_isSound_46 hl (by decide) rfl (fun ls hl => ?_)
  refine lv_iload_n hx hb dL_isSound_48 rfl (lv_at hl 2 rfl) ?_
  refine lv_iconst (v := 0) hx hb dL_isSound_49 (by decide) ?_
  refine lv_iload hx hb dL_isSound_50 (lv_at hl 0 rfl) ?_
  refine va_mmax hx hb (by rw [hml]; exact hl.1.symm) hown (hts _ wq1188) (hts _ wq375) (hts _ wq14) (hts _ wq376) (Nat.le_of_ble_eq_true rfl) (Nat.le_of_ble_eq_true rfl) (Nat.le_of_ble_eq_true rfl) (Nat.le_of_ble_eq_true rfl) dL_isSound_52 ?_
  refine zk_ti (y := nI L) (by rw [hq]; exact mx0 hL) ?_
  refine lv_iadd hx hb dL_isSound_55 ?_
  refine zk_ti (y := (f3 + nI L)) rfl ?_
  refine lv_istore_n (lv' := [(3, .int (f3 + nI L)), (9, .int (v_X10_queued1 S F G q k)), (8, .int 1), (4, .int f4), (5, .int f5), (6, .int f6), (7, .int (nI k)), (0, .ref (zg S 7 0 0)), (1, .int (nI (zn S))), (2, .int of)]) hx hb dL_isSound_56 rfl hl (by decide) rfl (fun ls hl => ?_)
  refine lv_iload hx hb dL_isSound_57 (lv_at hl 3 rfl) ?_
  refine lv_iload hx hb dL_isSound_59 (lv_at hl 1 rfl) ?_
  refine lv_if_lt (tgt := 68) hx hb dL_isSound_61 (by decide) (fun h9 => absurd h9 (by rw [hq]; exact nI_pos hL)) (fun _ => ?_)
  refine lv_iconst (v := 1) hx hb dL_isSound_64 (by decide) ?_
  refine lv_goto (tgt := 69) hx hb dL_isSound_65 (by decide) ?_
  refine lv_iadd hx hb dL_isSound_69 ?_
  refine zk_ti (y := (f4 + 1)) rfl ?_
  refine lv_istore (lv' := [(4, .int (f4 + 1)), (3, .int (f3 + nI L)), (9, .int (v_X10_queued1 S F G q k)), (8, .int 1), (5, .int f5), (6, .int f6), (7, .int (nI k)), (0, .ref (zg S 7 0 0)), (1, .int (nI (zn S))), (2, .int of)]) hx hb dL_isSound_70 hl (by decide) rfl (fun ls hl => ?_)
  refine lv_iload hx hb dL_isSound_72 (lv_at hl 2 rfl) ?_
  refine lv_if_ge (tgt := 99) hx hb dL_isSound_74 (by decide) (fun _ => ?_) (fun h9 => absurd (by rw [hq]; exact nI_pos' hL) h9)
  refine lv_iinc (v := 2) (lv' := [(8, .int 2), (4, .int (f4 + 1)), (3, .int (f3 + nI L)), (9, .int (v_X10_queued1 S F G q k)), (5, .int f5), (6, .int f6), (7, .int (nI k)), (0, .ref (zg S 7 0 0)), (1, .int (nI (zn S))), (2, .int of)]) hx hb dL_isSound_99 hl (k := 3) rfl (by decide) (by decide) rfl (fun ls hl => ?_)
  refine lv_goto (tgt := 23) hx hb dL_isSound_102 (by decide) ?_
  exact kk _ (lv_sub hl [0, 2, 1, 4, 5, 6, 7, 8, 9] rfl)
set_option maxHeartbeats 4000000 in
set_option maxRecDepth 100000 in
theorem y_side10 {p : Program} {l : Launch} {e : Env} {s : State} {m : MethodId} {args : Array Value} {below : List Frame} {meth : Method} {c : Code} {D : va_G} {yc : Nat → ClassId} {e0 : Nat} {A : Nat → Prop} {S : TS} {Z : Nat × Nat} {F : TF} {G : TG} {q : TQ} {so : Nat → Nat} {k : Nat} (hx : p.tables.exec = Jvm.exec) (hb : c.code = cL_isSound) (hml : c.maxLocals = 10) (hr : meth.sig.returnType = some .boolean) (hlk : meth.locks = false) (hown : s.vm.findClass RL = some m.cls) (hts : ∀ w ∈ lw_all, w.before args s = true) (hW : WT D yc e0 A S Z F G q s.heap) (hS : va_S A s.heap s.heap []) (hA : ∀ a, s.heap.size ≤ a → A a) (hC : CX D yc e0 A s) (hk : k < zn S) (hGS : GS G) (hsn : SNk S so F G q k) {f3 f4 f5 f6 of : Int32} (hq : v_X10_queued1 S F G q k = -1) (hbl : v_X10_isBlocked1 S F G q k = 0) (kk : ∀ ls, lv_has ls 10 [(8, .int 2), (3, .int (f3 + 0)), (4, .int (f4 + 0)), (5, .int f5), (6, .int f6), (7, .int (nI k)), (0, .ref (zg S 7 0 0)), (1, .int (nI (zn S))), (2, .int of)] → W p l e { frames := 9, cells := 0, slots := 0, locals := 190 } s m args below meth c s.heap [] 0 0 (MQ below (zQ (some (.int 1))) args s 0 0 zno) (F0 m 23 ls [])) {ls : Array Slot} (hl : lv_has ls 10 [(8, .int 1), (3, .int f3), (4, .int f4), (5, .int f5), (6, .int f6), (7, .int (nI k)), (0, .ref (zg S 7 0 0)), (1, .int (nI (zn S))), (2, .int of)]) : W p l e { frames := 9, cells := 0, slots := 0, locals := 190 } s m args below meth c s.heap [] 0 0 (MQ below (zQ (some (.int 1))) args s 0 0 zno) (F0 m 23 ls []) := by
  have hK := hC.1
  have hN := hC.2.1
  refine lv_iload hx hb dL_isSound_23 (lv_at hl 0 rfl) ?_
  refine lv_iconst (v := 2) hx hb dL_isSound_25 (by decide) ?_
  refine lv_icmp_ge (tgt := 105) hx hb dL_isSound_26 (by decide) (fun h9 => absurd h9 (by decide)) (fun _ => ?_)
  refine lv_aload_n hx hb dL_isSound_29 rfl (lv_at hl 6 rfl) ?_
  refine lv_iload hx hb dL_isSound_30 (lv_at hl 5 rfl) ?_
  refine lv_iload hx hb dL_isSound_32 (lv_at hl 0 rfl) ?_
  refine lv_iconst (v := 1) hx hb dL_isSound_34 (by decide) ?_
  refine lv_icmp_ne (tgt := 42) hx hb dL_isSound_35 (by decide) (fun h9 => absurd rfl h9) (fun _ => ?_)
  refine lv_iconst (v := 1) hx hb dL_isSound_38 (by decide) ?_
  refine lv_goto (tgt := 43) hx hb dL_isSound_39 (by decide) ?_
  refine zr_i (va_runV (As := [.int (nI k), .int 1]) (rest := []) ⟨hx, hb, hml, hown, hts⟩ (k_X10_queued1 l D yc e0 A S Z F G q k hk) (cwV 2 hts (lw_V wq1187 wq760 wq761 wq1 wq762) rfl rfl rfl (by decide +kernel) ⟨(Nat.le_of_ble_eq_true rfl), (Nat.le_of_ble_eq_true rfl)⟩) (tp_V hC hW hS hA 7 0 0 dm7 rfl rfl) rfl rfl hl.1 rfl (lv_room (Nat.le_of_ble_eq_true rfl)) dL_isSound_43 ⟨(Nat.le_of_ble_eq_true rfl), (Nat.le_of_ble_eq_true rfl)⟩) ?_
  refine lv_istore (lv' := [(9, .int (v_X10_queued1 S F G q k)), (8, .int 1), (3, .int f3), (4, .int f4), (5, .int f5), (6, .int f6), (7, .int (nI k)), (0, .ref (zg S 7 0 0)), (1, .int (nI (zn S))), (2, .int of)]) hx hb dL_isSound_46 hl (by decide) rfl (fun ls hl => ?_)
  refine lv_iload_n hx hb dL_isSound_48 rfl (lv_at hl 2 rfl) ?_
  refine lv_iconst (v := 0) hx hb dL_isSound_49 (by decide) ?_
  refine lv_iload hx hb dL_isSound_50 (lv_at hl 0 rfl) ?_
  refine va_mmax hx hb (by rw [hml]; exact hl.1.symm) hown (hts _ wq1188) (hts _ wq375) (hts _ wq14) (hts _ wq376) (Nat.le_of_ble_eq_true rfl) (Nat.le_of_ble_eq_true rfl) (Nat.le_of_ble_eq_true rfl) (Nat.le_of_ble_eq_true rfl) dL_isSound_52 ?_
  refine zk_ti (y := 0) (by rw [hq]; decide) ?_
  refine lv_iadd hx hb dL_isSound_55 ?_
  refine zk_ti (y := (f3 + 0)) rfl ?_
  refine lv_istore_n (lv' := [(3, .int (f3 + 0)), (9, .int (v_X10_queued1 S F G q k)), (8, .int 1), (4, .int f4), (5, .int f5), (6, .int f6), (7, .int (nI k)), (0, .ref (zg S 7 0 0)), (1, .int (nI (zn S))), (2, .int of)]) hx hb dL_isSound_56 rfl hl (by decide) rfl (fun ls hl => ?_)
  refine lv_iload hx hb dL_isSound_57 (lv_at hl 3 rfl) ?_
  refine lv_iload hx hb dL_isSound_59 (lv_at hl 1 rfl) ?_
  refine lv_if_lt (tgt := 68) hx hb dL_isSound_61 (by decide) (fun _ => ?_) (fun h9 => absurd (by rw [hq]; decide) h9)
  refine lv_iconst (v := 0) hx hb dL_isSound_68 (by decide) ?_
  refine lv_iadd hx hb dL_isSound_69 ?_
  refine zk_ti (y := (f4 + 0)) rfl ?_
  refine lv_istore (lv' := [(4, .int (f4 + 0)), (3, .int (f3 + 0)), (9, .int (v_X10_queued1 S F G q k)), (8, .int 1), (5, .int f5), (6, .int f6), (7, .int (nI k)), (0, .ref (zg S 7 0 0)), (1, .int (nI (zn S))), (2, .int of)]) hx hb dL_isSound_70 hl (by decide) rfl (fun ls hl => ?_)
  refine lv_iload hx hb dL_isSound_72 (lv_at hl 2 rfl) ?_
  refine lv_if_ge (tgt := 99) hx hb dL_isSound_74 (by decide) (fun h9 => absurd h9 (by rw [hq]; decide)) (fun _ => ?_)
  refine lv_aload_n hx hb dL_isSound_77 rfl (lv_at hl 7 rfl) ?_
  refine lv_iload hx hb dL_isSound_78 (lv_at hl 6 rfl) ?_
  refine lv_iload hx hb dL_isSound_80 (lv_at hl 3 rfl) ?_
  refine lv_iconst (v := 1) hx hb dL_isSound_82 (by decide) ?_
  refine lv_icmp_ne (tgt := 90) hx hb dL_isSound_83 (by decide) (fun h9 => absurd rfl h9) (fun _ => ?_)
  refine lv_iconst (v := 1) hx hb dL_isSound_86 (by decide) ?_
  refine lv_goto (tgt := 91) hx hb dL_isSound_87 (by decide) ?_
  refine zr_i (va_runV (As := [.int (nI k), .int 1]) (rest := []) ⟨hx, hb, hml, hown, hts⟩ (k_X10_isBlocked1 l D yc e0 A S Z F G q k hk) (cwV 2 hts (lw_V wq653 wq654 wq655 wq1 wq656) rfl rfl rfl (by decide +kernel) ⟨(Nat.le_of_ble_eq_true rfl), (Nat.le_of_ble_eq_true rfl)⟩) (tp_V hC hW hS hA 7 0 0 dm7 rfl rfl) rfl rfl hl.1 rfl (lv_room (Nat.le_of_ble_eq_true rfl)) dL_isSound_91 ⟨(Nat.le_of_ble_eq_true rfl), (Nat.le_of_ble_eq_true rfl)⟩) ?_
  refine lv_if_eq (tgt := 99) hx hb dL_isSound_94 (by decide) (fun _ => ?_) (fun h9 => absurd hbl h9)
  refine lv_iinc (v := 2) (lv' := [(8, .int 2), (4, .int (f4 + 0)), (3, .int (f3 + 0)), (9, .int (v_X10_queued1 S F G q k)), (5, .int f5), (6, .int f6), (7, .int (nI k)), (0, .ref (zg S 7 0 0)), (1, .int (nI (zn S))), (2, .int of)]) hx hb dL_isSound_99 hl (k := 3) rfl (by decide) (by decide) rfl (fun ls hl => ?_)
  refine lv_goto (tgt := 23) hx hb dL_isSound_102 (by decide) ?_
  exact kk _ (lv_sub hl [0, 2, 1, 4, 5, 6, 7, 8, 9] rfl)
