/-! ===== the law's check ===== -/
theorem dcmp_same {r : UInt64} (h : FP.Core.dIsNaN r = false) : FP.dcmp r r = some .eq := FP.Core.order_self (of_decide_eq_false h)
theorem mx0 {n : Nat} (h : n < 2 ^ 31) : (if (0 : Int32) < nI n then nI n else 0) = nI n := by
  by_cases h0 : n = 0
  · subst h0; rfl
  · have h2 : (0 : Int32) < nI n := nI_lt (a := 0) (by omega) h
    rw [if_pos h2]
set_option maxHeartbeats 4000000 in
set_option maxRecDepth 100000 in
theorem y_side01 {p : Program} {l : Launch} {e : Env} {s : State} {m : MethodId} {args : Array Value} {below : List Frame} {meth : Method} {c : Code} {D : va_G} {yc : Nat → ClassId} {e0 : Nat} {A : Nat → Prop} {S : TS} {Z : Nat × Nat} {F : TF} {G : TG} {q : TQ} {so : Nat → Nat} {k : Nat} (hx : p.tables.exec = Jvm.exec) (hb : c.code = cL_isSound) (hml : c.maxLocals = 10) (hr : meth.sig.returnType = some .boolean) (hlk : meth.locks = false) (hown : s.vm.findClass RL = some m.cls) (hts : ∀ w ∈ lw_all, w.before args s = true) (hW : WT D yc e0 A S Z F G q s.heap) (hS : va_S A s.heap s.heap []) (hA : ∀ a, s.heap.size ≤ a → A a) (hC : CX D yc e0 A s) (hk : k < zn S) (hGS : GS G) (hsn : SNk S so F G q k) {f3 f4 f5 f6 of : Int32} {L : Nat} (hL : L < 2 ^ 31) (hq : v_X10_queued0 S F G q k = nI L) (kk : ∀ ls, lv_has ls 10 [(8, .int 1), (3, .int (f3 + nI L)), (4, .int (f4 + 1)), (5, .int f5), (6, .int f6), (7, .int (nI k)), (0, .ref (zg S 7 0 0)), (1, .int (nI (zn S))), (2, .int of)] → W p l e { frames := 9, cells := 0, slots := 0, locals := 190 } s m args below meth c s.heap [] 0 0 (MQ below (zQ (some (.int 1))) args s 0 0 zno) (F0 m 23 ls [])) {ls : Array Slot} (hl : lv_has ls 10 [(8, .int 0), (3, .int f3), (4, .int f4), (5, .int f5), (6, .int f6), (7, .int (nI k)), (0, .ref (zg S 7 0 0)), (1, .int (nI (zn S))), (2, .int of)]) : W p l e { frames := 9, cells := 0, slots := 0, locals := 190 } s m args below meth c s.heap [] 0 0 (MQ below (zQ (some (.int 1))) args s 0 0 zno) (F0 m 23 ls []) := by
  have hK := hC.1
  have hN := hC.2.1
  refine lv_iload hx hb dL_isSound_23 (lv_at hl 0 rfl) ?_
  refine lv_iconst (v := 2) hx hb dL_isSound_25 (by decide) ?_
  refine lv_icmp_ge (tgt := 105) hx hb dL_isSound_26 (by decide) (fun h9 => absurd h9 (by decide)) (fun _ => ?_)
  refine lv_aload_n hx hb dL_isSound_29 rfl (lv_at hl 6 rfl) ?_
  refine lv_iload hx hb dL_isSound_30 (lv_at hl 5 rfl) ?_
  refine lv_iload hx hb dL_isSound_32 (lv_at hl 0 rfl) ?_
  refine lv_iconst (v := 1) hx hb dL_isSound_34 (by decide) ?_
  refine lv_icmp_ne (tgt := 42) hx hb dL_isSound_35 (by decide) (fun _ => ?_) (fun h9 => absurd h9 (by decide))
  refine lv_iconst (v := 0) hx hb dL_isSound_42 (by decide) ?_
  refine zr_i (va_runV (As := [.int (nI k), .int 0]) (rest := []) ⟨hx, hb, hml, hown, hts⟩ (k_X10_queued0 l D yc e0 A S Z F G q k hk) (cwV 2 hts (lw_V wq1187 wq760 wq761 wq1 wq762) rfl rfl rfl (by decide +kernel) ⟨(Nat.le_of_ble_eq_true rfl), (Nat.le_of_ble_eq_true rfl)⟩) (tp_V hC hW hS hA 7 0 0 dm7 rfl rfl) rfl rfl hl.1 rfl (lv_room (Nat.le_of_ble_eq_true rfl)) dL_isSound_43 ⟨(Nat.le_of_ble_eq_true rfl), (Nat.le_of_ble_eq_true rfl)⟩) ?_
  refine lv_istore (lv' := [(9, .int (v_X10_queued0 S F G q k)), (8, .int 0), (3, .int f3), (4, .int f4), (5, .int f5), (6, .int f6), (7, .int (nI k)), (0, .ref (zg S 7 0 0)), (1, .int (nI (zn S))), (2, .int of)]) hx hb dL_isSound_46 hl (by decide) rfl (fun ls hl => ?_)
  refine lv_iload_n hx hb dL_isSound_48 rfl (lv_at hl 2 rfl) ?_
  refine lv_iconst (v := 0) hx hb dL_isSound_49 (by decide) ?_
  refine lv_iload hx hb dL_isSound_50 (lv_at hl 0 rfl) ?_
  refine va_mmax hx hb (by rw [hml]; exact hl.1.symm) hown (hts _ wq1188) (hts _ wq375) (hts _ wq14) (hts _ wq376) (Nat.le_of_ble_eq_true rfl) (Nat.le_of_ble_eq_true rfl) (Nat.le_of_ble_eq_true rfl) (Nat.le_of_ble_eq_true rfl) dL_isSound_52 ?_
  refine zk_ti (y := nI L) (by rw [hq]; exact mx0 hL) ?_
  refine lv_iadd hx hb dL_isSound_55 ?_
  refine zk_ti (y := (f3 + nI L)) rfl ?_
  refine lv_istore_n (lv' := [(3, .int (f3 + nI L)), (9, .int (v_X10_queued0 S F G q k)), (8, .int 0), (4, .int f4), (5, .int f5), (6, .int f6), (7, .int (nI k)), (0, .ref (zg S 7 0 0)), (1, .int (nI (zn S))), (2, .int of)]) hx hb dL_isSound_56 rfl hl (by decide) rfl (fun ls hl => ?_)
  refine lv_iload hx hb dL_isSound_57 (lv_at hl 3 rfl) ?_
  refine lv_iload hx hb dL_isSound_59 (lv_at hl 1 rfl) ?_
  refine lv_if_lt (tgt := 68) hx hb dL_isSound_61 (by decide) (fun h9 => absurd h9 (by rw [hq]; exact nI_pos hL)) (fun _ => ?_)
  refine lv_iconst (v := 1) hx hb dL_isSound_64 (by decide) ?_
  refine lv_goto (tgt := 69) hx hb dL_isSound_65 (by decide) ?_
  refine lv_iadd hx hb dL_isSound_69 ?_
  refine zk_ti (y := (f4 + 1)) rfl ?_
  refine lv_istore (lv' := [(4, .int (f4 + 1)), (3, .int (f3 + nI L)), (9, .int (v_X10_queued0 S F G q k)), (8, .int 0), (5, .int f5), (6, .int f6), (7, .int (nI k)), (0, .ref (zg S 7 0 0)), (1, .int (nI (zn S))), (2, .int of)]) hx hb dL_isSound_70 hl (by decide) rfl (fun ls hl => ?_)
  refine lv_iload hx hb dL_isSound_72 (lv_at hl 2 rfl) ?_
  refine lv_if_ge (tgt := 99) hx hb dL_isSound_74 (by decide) (fun _ => ?_) (fun h9 => absurd (by rw [hq]; exact nI_pos' hL) h9)
  refine lv_iinc (v := 1) (lv' := [(8, .int 1), (4, .int (f4 + 1)), (3, .int (f3 + nI L)), (9, .int (v_X10_queued0 S F G q k)), (5, .int f5), (6, .int f6), (7, .int (nI k)), (0, .ref (zg S 7 0 0)), (1, .int (nI (zn S))), (2, .int of)]) hx hb dL_isSound_99 hl (k := 3) rfl (by decide) (by decide) rfl (fun ls hl => ?_)
  refine lv_goto (tgt := 23) hx hb dL_isSound_102 (by decide) ?_
  exact kk _ (lv_sub hl [0, 2, 1, 4, 5, 6, 7, 8, 9] rfl)
set_option maxHeartbeats 4000000 in
set_option maxRecDepth 100000 in
theorem y_side00 {p : Program} {l : Launch} {e : Env} {s : State} {m : MethodId} {args : Array Value} {below : List Frame} {meth : Method} {c : Code} {D : va_G} {yc : Nat → ClassId} {e0 : Nat} {A : Nat → Prop} {S : TS} {Z : Nat × Nat} {F : TF} {G : TG} {q : TQ} {so : Nat → Nat} {k : Nat} (hx : p.tables.exec = Jvm.exec) (hb : c.code = cL_isSound) (hml : c.maxLocals = 10) (hr : meth.sig.returnType = some .boolean) (hlk : meth.locks = false) (hown : s.vm.findClass RL = some m.cls) (hts : ∀ w ∈ lw_all, w.before args s = true) (hW : WT D yc e0 A S Z F G q s.heap) (hS : va_S A s.heap s.heap []) (hA : ∀ a, s.heap.size ≤ a → A a) (hC : CX D yc e0 A s) (hk : k < zn S) (hGS : GS G) (hsn : SNk S so F G q k) {f3 f4 f5 f6 of : Int32} (hq : v_X10_queued0 S F G q k = -1) (hbl : v_X10_isBlocked0 S F G q k = 0) (kk : ∀ ls, lv_has ls 10 [(8, .int 1), (3, .int (f3 + 0)), (4, .int (f4 + 0)), (5, .int f5), (6, .int f6), (7, .int (nI k)), (0, .ref (zg S 7 0 0)), (1, .int (nI (zn S))), (2, .int of)] → W p l e { frames := 9, cells := 0, slots := 0, locals := 190 } s m args below meth c s.heap [] 0 0 (MQ below (zQ (some (.int 1))) args s 0 0 zno) (F0 m 23 ls [])) {ls : Array Slot} (hl : lv_has ls 10 [(8, .int 0), (3, .int f3), (4, .int f4), (5, .int f5), (6, .int f6), (7, .int (nI k)), (0, .ref (zg S 7 0 0)), (1, .int (nI (zn S))), (2, .int of)]) : W p l e { frames := 9, cells := 0, slots := 0, locals := 190 } s m args below meth c s.heap [] 0 0 (MQ below (zQ (some (.int 1))) args s 0 0 zno) (F0 m 23 ls []) := by
  have hK := hC.1
  have hN := hC.2.1
  refine lv_iload hx hb dL_isSound_23 (lv_at hl 0 rfl) ?_
  refine lv_iconst (v := 2) hx hb dL_isSound_25 (by decide) ?_
  refine lv_icmp_ge (tgt := 105) hx hb dL_isSound_26 (by decide) (fun h9 => absurd h9 (by decide)) (fun _ => ?_)
  refine lv_aload_n hx hb dL_isSound_29 rfl (lv_at hl 6 rfl) ?_
  refine lv_iload hx hb dL_isSound_30 (lv_at hl 5 rfl) ?_
  refine lv_iload hx hb dL_isSound_32 (lv_at hl 0 rfl) ?_
  refine lv_iconst (v := 1) hx hb dL_isSound_34 (by decide) ?_
  refine lv_icmp_ne (tgt := 42) hx hb dL_isSound_35 (by decide) (fun _ => ?_) (fun h9 => absurd h9 (by decide))
  refine lv_iconst (v := 0) hx hb dL_isSound_42 (by decide) ?_
  refine zr_i (va_runV (As := [.int (nI k), .int 0]) (rest := []) ⟨hx, hb, hml, hown, hts⟩ (k_X10_queued0 l D yc e0 A S Z F G q k hk) (cwV 2 hts (lw_V wq1187 wq760 wq761 wq1 wq762) rfl rfl rfl (by decide +kernel) ⟨(Nat.le_of_ble_eq_true rfl), (Nat.le_of_ble_eq_true rfl)⟩) (tp_V hC hW hS hA 7 0 0 dm7 rfl rfl) rfl rfl hl.1 rfl (lv_room (Nat.le_of_ble_eq_true rfl)) dL_isSound_43 ⟨(Nat.le_of_ble_eq_true rfl), (Nat.le_of_ble_eq_true rfl)⟩) ?_
  refine lv_istore (lv' := [(9, .int (v_X10_queued0 S F G q k)), (8, .int 0), (3, .int f3), (4, .int f4), (5, .int f5), (6, .int f6), (7, .int (nI k)), (0, .ref (zg S 7 0 0)), (1, .int (nI (zn S))), (2, .int of)]) hx hb dL_isSound_46 hl (by decide) rfl (fun ls hl => ?_)
  refine lv_iload_n hx hb dL_isSound_48 rfl (lv_at hl 2 rfl) ?_
  refine lv_iconst (v := 0) hx hb dL_isSound_49 (by decide) ?_
  refine lv_iload hx hb dL_isSound_50 (lv_at hl 0 rfl) ?_
  refine va_mmax hx hb (by rw [hml]; exact hl.1.symm) hown (hts _ wq1188) (hts _ wq375) (hts _ wq14) (hts _ wq376) (Nat.le_of_ble_eq_true rfl) (Nat.le_of_ble_eq_true rfl) (Nat.le_of_ble_eq_true rfl) (Nat.le_of_ble_eq_true rfl) dL_isSound_52 ?_
  refine zk_ti (y := 0) (by rw [hq]; decide) ?_
  refine lv_iadd hx hb dL_isSound_55 ?_
  refine zk_ti (y := (f3 + 0)) rfl ?_
  refine lv_istore_n (lv' := [(3, .int (f3 + 0)), (9, .int (v_X10_queued0 S F G q k)), (8, .int 0), (4, .int f4), (5, .int f5), (6, .int f6), (7, .int (nI k)), (0, .ref (zg S 7 0 0)), (1, .int (nI (zn S))), (2, .int of)]) hx hb dL_isSound_56 rfl hl (by decide) rfl (fun ls hl => ?_)
  refine lv_iload hx hb dL_isSound_57 (lv_at hl 3 rfl) ?_
  refine lv_iload hx hb dL_isSound_59 (lv_at hl 1 rfl) ?_
  refine lv_if_lt (tgt := 68) hx hb dL_isSound_61 (by decide) (fun _ => ?_) (fun h9 => absurd (by rw [hq]; decide) h9)
  refine lv_iconst (v := 0) hx hb dL_isSound_68 (by decide) ?_
  refine lv_iadd hx hb dL_isSound_69 ?_
  refine zk_ti (y := (f4 + 0)) rfl ?_
  refine lv_istore (lv' := [(4, .int (f4 + 0)), (3, .int (f3 + 0)), (9, .int (v_X10_queued0 S F G q k)), (8, .int 0), (5, .int f5), (6, .int f6), (7, .int (nI k)), (0, .ref (zg S 7 0 0)), (1, .int (nI (zn S))), (2, .int of)]) hx hb dL_isSound_70 hl (by decide) rfl (fun ls hl => ?_)
  refine lv_iload hx hb dL_isSound_72 (lv_at hl 2 rfl) ?_
  refine lv_if_ge (tgt := 99) hx hb dL_isSound_74 (by decide) (fun h9 => absurd h9 (by rw [hq]; decide)) (fun _ => ?_)
  refine lv_aload_n hx hb dL_isSound_77 rfl (lv_at hl 7 rfl) ?_
  refine lv_iload hx hb dL_isSound_78 (lv_at hl 6 rfl) ?_
  refine lv_iload hx hb dL_isSound_80 (lv_at hl 3 rfl) ?_
  refine lv_iconst (v := 1) hx hb dL_isSound_82 (by decide) ?_
  refine lv_icmp_ne (tgt := 90) hx hb dL_isSound_83 (by decide) (fun _ => ?_) (fun h9 => absurd h9 (by decide))
  refine lv_iconst (v := 0) hx hb dL_isSound_90 (by decide) ?_
  refine zr_i (va_runV (As := [.int (nI k), .int 0]) (rest := []) ⟨hx, hb, hml, hown, hts⟩ (k_X10_isBlocked0 l D yc e0 A S Z F G q k hk) (cwV 2 hts (lw_V wq653 wq654 wq655 wq1 wq656) rfl rfl rfl (by decide +kernel) ⟨(Nat.le_of_ble_eq_true rfl), (Nat.le_of_ble_eq_true rfl)⟩) (tp_V hC hW hS hA 7 0 0 dm7 rfl rfl) rfl rfl hl.1 rfl (lv_room (Nat.le_of_ble_eq_true rfl)) dL_isSound_91 ⟨(Nat.le_of_ble_eq_true rfl), (Nat.le_of_ble_eq_true rfl)⟩) ?_
  refine lv_if_eq (tgt := 99) hx hb dL_isSound_94 (by decide) (fun _ => ?_) (fun h9 => absurd hbl h9)
  refine lv_iinc (v := 1) (lv' := [(8, .int 1), (4, .int (f4 + 0)), (3, .int (f3 + 0)), (9, .int (v_X10_queued0 S F G q k)), (5, .int f5), (6, .int f6), (7, .int (nI k)), (0, .ref (zg S 7 0 0)), (1, .int (nI (zn S))), (2, .int of)]) hx hb dL_isSound_99 hl (k := 3) rfl (by decide) (by decide) rfl (fun ls hl => ?_)
  refine lv_goto (tgt := 23) hx hb dL_isSound_102 (by decide) ?_
  exact kk _ (lv_sub hl [0, 2, 1, 4, 5, 6, 7, 8, 9] rfl)
set_option maxHeartbeats 4000000 in
set_option maxRecDepth 100000 in
theorem y_side11 {p : Program} {l : Launch} {e : Env} {s : State} {m : MethodId} {args : Array Value} {below : List Frame} {meth : Method} {c : Code} {D : va_G} {yc : Nat → ClassId} {e0 : Nat} {A : Nat → Prop} {S : TS} {Z : Nat × Nat} {F : TF} {G : TG} {q : TQ} {so : Nat → Nat} {k : Nat} (hx : p.tables.exec = Jvm.exec) (hb : c.code = cL_isSound) (hml : c.maxLocals = 10) (hr : meth.sig.returnType = some .boolean) (hlk : meth.locks = false) (hown : s.vm.findClass RL = some m.cls) (hts : ∀ w ∈ lw_all, w.before args s = true) (hW : WT D yc e0 A S Z F G q s.heap) (hS : va_S A s.heap s.heap []) (hA : ∀ a, s.heap.size ≤ a → A a) (hC : CX D yc e0 A s) (hk : k < zn S) (hGS : GS G) (hsn : SNk S so F G q k) {f3 f4 f5 f6 of : Int32} {L : Nat} (hL : L < 2 ^ 31) (hq : v_X10_queued1 S F G q k = nI L) (kk : ∀ ls, lv_has ls 10 [(8, .int 2), (3, .int (f3 + nI L)), (4, .int (f4 + 1)), (5, .int f5), (6, .int f6), (7, .int (nI k)), (0, .ref (zg S 7 0 0)), (1, .int (nI (zn S))), (2, .int of)] → W p l e { frames := 9, cells := 0, slots := 0, locals := 190 } s m args below meth c s.heap [] 0 0 (MQ below (zQ (some (.int 1))) args s 0 0 zno) (F0 m 23 ls [])) {ls : Array Slot} (hl : lv_has ls 10 [(8, .int 1), (3, .int f3), (4, .int f4), (5, .int f5), (6, .int f6), (7, .int (nI k)), (0, .ref (zg S 7 0 0)), (1, .int (nI (zn S))), (2, .int of)]) : W p l e { frames := 9, cells := 0, slots := 0, locals := 190 } s m args below meth c s.heap [] 0 0 (MQ below (zQ (some (.int 1))) args s 0 0 zno) (F0 m 23 ls []) := by
  have hK := hC.1
  have hN := hC.2.1
  refine lv_iload hx hb dL_isSound_23 (lv_at hl 0 rfl) ?_
  refine lv_iconst (v := 2) hx hb dL_isSound_25 (by decide) ?_
  refine lv_icmp_ge (tgt := 105) hx hb dL_isSound_26 (by decide) (fun h9 => absurd h9 (by decide)) (fun _ => ?_)
  refine lv_aload_n hx hb dL_isSound_29 rfl (lv_at hl 6 rfl) ?_
  refine lv_iload hx hb dL_isSound_30 (lv_at hl 5 rfl) ?_
  refine lv_iload hx hb dL_isSound_32 (lv_at hl 0 rfl) ?_
  refine lv_iconst (v := 1) hx hb dL_isSound_34 (by decide) ?_
  refine lv_icmp_ne (tgt := 42) hx hb dL_isSound_35 (by decide) (fun h9 => absurd rfl h9) (fun _ => ?_)
  refine lv_iconst (v := 1) hx hb dL_isSound_38 (by decide) ?_
  refine lv_goto (tgt := 43) hx hb dL_isSound_39 (by decide) ?_
  refine zr_i (va_runV (As := [.int (nI k), .int 1]) (rest := []) ⟨hx, hb, hml, hown, hts⟩ (k_X10_queued1 l D yc e0 A S Z F G q k hk) (cwV 2 hts (lw_V wq1187 wq760 wq761 wq1 wq762) rfl rfl rfl (by decide +kernel) ⟨(Nat.le_of_ble_eq_true rfl), (Nat.le_of_ble_eq_true rfl)⟩) (tp_V hC hW hS hA 7 0 0 dm7 rfl rfl) rfl rfl hl.1 rfl (lv_room (Nat.le_of_ble_eq_true rfl)) dL_isSound_43 ⟨(Nat.le_of_ble_eq_true rfl), (Nat.le_of_ble_eq_true rfl)⟩) ?_
  refine lv_istore (lv' := [(9, .int (v_X10_queued1 S F G q k)), (8, .int 1), (3, .int f3), (4, .int f4), (5, .int f5), (6, .int f6), (7, .int (nI k)), (0, .ref (zg S 7 0 0)), (1, .int (nI (zn S))), (2, .int of)]) hx hb dL_isSound_46 hl (by decide) rfl (fun ls hl => ?_)
  refine lv_iload_n hx hb dL_isSound_48 rfl (lv_at hl 2 rfl) ?_
  refine lv_iconst (v := 0) hx hb dL_isSound_49 (by decide) ?_
  refine lv_iload hx hb dL_isSound_50 (lv_at hl 0 rfl) ?_
  refine va_mmax hx hb (by rw [hml]; exact hl.1.symm) hown (hts _ wq1188) (hts _ wq375) (hts _ wq14) (hts _ wq376) (Nat.le_of_ble_eq_true rfl) (Nat.le_of_ble_eq_true rfl) (Nat.le_of_ble_eq_true rfl) (Nat.le_of_ble_eq_true rfl) dL_isSound_52 ?_
  refine zk_ti (y := nI L) (by rw [hq]; exact mx0 hL) ?_
  refine lv_iadd hx hb dL_isSound_55 ?_
  refine zk_ti (y := (f3 + nI L)) rfl ?_
  refine lv_istore_n (lv' := [(3, .int (f3 + nI L)), (9, .int (v_X10_queued1 S F G q k)), (8, .int 1), (4, .int f4), (5, .int f5), (6, .int f6), (7, .int (nI k)), (0, .ref (zg S 7 0 0)), (1, .int (nI (zn S))), (2, .int of)]) hx hb dL_isSound_56 rfl hl (by decide) rfl (fun ls hl => ?_)
  refine lv_iload hx hb dL_isSound_57 (lv_at hl 3 rfl) ?_
  refine lv_iload hx hb dL_isSound_59 (lv_at hl 1 rfl) ?_
  refine lv_if_lt (tgt := 68) hx hb dL_isSound_61 (by decide) (fun h9 => absurd h9 (by rw [hq]; exact nI_pos hL)) (fun _ => ?_)
  refine lv_iconst (v := 1) hx hb dL_isSound_64 (by decide) ?_
  refine lv_goto (tgt := 69) hx hb dL_isSound_65 (by decide) ?_
  refine lv_iadd hx hb dL_isSound_69 ?_
  refine zk_ti (y := (f4 + 1)) rfl ?_
  refine lv_istore (lv' := [(4, .int (f4 + 1)), (3, .int (f3 + nI L)), (9, .int (v_X10_queued1 S F G q k)), (8, .int 1), (5, .int f5), (6, .int f6), (7, .int (nI k)), (0, .ref (zg S 7 0 0)), (1, .int (nI (zn S))), (2, .int of)]) hx hb dL_isSound_70 hl (by decide) rfl (fun ls hl => ?_)
  refine lv_iload hx hb dL_isSound_72 (lv_at hl 2 rfl) ?_
  refine lv_if_ge (tgt := 99) hx hb dL_isSound_74 (by decide) (fun _ => ?_) (fun h9 => absurd (by rw [hq]; exact nI_pos' hL) h9)
  refine lv_iinc (v := 2) (lv' := [(8, .int 2), (4, .int (f4 + 1)), (3, .int (f3 + nI L)), (9, .int (v_X10_queued1 S F G q k)), (5, .int f5), (6, .int f6), (7, .int (nI k)), (0, .ref (zg S 7 0 0)), (1, .int (nI (zn S))), (2, .int of)]) hx hb dL_isSound_99 hl (k := 3) rfl (by decide) (by decide) rfl (fun ls hl => ?_)
  refine lv_goto (tgt := 23) hx hb dL_isSound_102 (by decide) ?_
  exact kk _ (lv_sub hl [0, 2, 1, 4, 5, 6, 7, 8, 9] rfl)
set_option maxHeartbeats 4000000 in
set_option maxRecDepth 100000 in
theorem y_side10 {p : Program} {l : Launch} {e : Env} {s : State} {m : MethodId} {args : Array Value} {below : List Frame} {meth : Method} {c : Code} {D : va_G} {yc : Nat → ClassId} {e0 : Nat} {A : Nat → Prop} {S : TS} {Z : Nat × Nat} {F : TF} {G : TG} {q : TQ} {so : Nat → Nat} {k : Nat} (hx : p.tables.exec = Jvm.exec) (hb : c.code = cL_isSound) (hml : c.maxLocals = 10) (hr : meth.sig.returnType = some .boolean) (hlk : meth.locks = false) (hown : s.vm.findClass RL = some m.cls) (hts : ∀ w ∈ lw_all, w.before args s = true) (hW : WT D yc e0 A S Z F G q s.heap) (hS : va_S A s.heap s.heap []) (hA : ∀ a, s.heap.size ≤ a → A a) (hC : CX D yc e0 A s) (hk : k < zn S) (hGS : GS G) (hsn : SNk S so F G q k) {f3 f4 f5 f6 of : Int32} (hq : v_X10_queued1 S F G q k = -1) (hbl : v_X10_isBlocked1 S F G q k = 0) (kk : ∀ ls, lv_has ls 10 [(8, .int 2), (3, .int (f3 + 0)), (4, .int (f4 + 0)), (5, .int f5), (6, .int f6), (7, .int (nI k)), (0, .ref (zg S 7 0 0)), (1, .int (nI (zn S))), (2, .int of)] → W p l e { frames := 9, cells := 0, slots := 0, locals := 190 } s m args below meth c s.heap [] 0 0 (MQ below (zQ (some (.int 1))) args s 0 0 zno) (F0 m 23 ls [])) {ls : Array Slot} (hl : lv_has ls 10 [(8, .int 1), (3, .int f3), (4, .int f4), (5, .int f5), (6, .int f6), (7, .int (nI k)), (0, .ref (zg S 7 0 0)), (1, .int (nI (zn S))), (2, .int of)]) : W p l e { frames := 9, cells := 0, slots := 0, locals := 190 } s m args below meth c s.heap [] 0 0 (MQ below (zQ (some (.int 1))) args s 0 0 zno) (F0 m 23 ls []) := by
  have hK := hC.1
  have hN := hC.2.1
  refine lv_iload hx hb dL_isSound_23 (lv_at hl 0 rfl) ?_
  refine lv_iconst (v := 2) hx hb dL_isSound_25 (by decide) ?_
  refine lv_icmp_ge (tgt := 105) hx hb dL_isSound_26 (by decide) (fun h9 => absurd h9 (by decide)) (fun _ => ?_)
  refine lv_aload_n hx hb dL_isSound_29 rfl (lv_at hl 6 rfl) ?_
  refine lv_iload hx hb dL_isSound_30 (lv_at hl 5 rfl) ?_
  refine lv_iload hx hb dL_isSound_32 (lv_at hl 0 rfl) ?_
  refine lv_iconst (v := 1) hx hb dL_isSound_34 (by decide) ?_
  refine lv_icmp_ne (tgt := 42) hx hb dL_isSound_35 (by decide) (fun h9 => absurd rfl h9) (fun _ => ?_)
  refine lv_iconst (v := 1) hx hb dL_isSound_38 (by decide) ?_
  refine lv_goto (tgt := 43) hx hb dL_isSound_39 (by decide) ?_
  refine zr_i (va_runV (As := [.int (nI k), .int 1]) (rest := []) ⟨hx, hb, hml, hown, hts⟩ (k_X10_queued1 l D yc e0 A S Z F G q k hk) (cwV 2 hts (lw_V wq1187 wq760 wq761 wq1 wq762) rfl rfl rfl (by decide +kernel) ⟨(Nat.le_of_ble_eq_true rfl), (Nat.le_of_ble_eq_true rfl)⟩) (tp_V hC hW hS hA 7 0 0 dm7 rfl rfl) rfl rfl hl.1 rfl (lv_room (Nat.le_of_ble_eq_true rfl)) dL_isSound_43 ⟨(Nat.le_of_ble_eq_true rfl), (Nat.le_of_ble_eq_true rfl)⟩) ?_
  refine lv_istore (lv' := [(9, .int (v_X10_queued1 S F G q k)), (8, .int 1), (3, .int f3), (4, .int f4), (5, .int f5), (6, .int f6), (7, .int (nI k)), (0, .ref (zg S 7 0 0)), (1, .int (nI (zn S))), (2, .int of)]) hx hb dL_isSound_46 hl (by decide) rfl (fun ls hl => ?_)
  refine lv_iload_n hx hb dL_isSound_48 rfl (lv_at hl 2 rfl) ?_
  refine lv_iconst (v := 0) hx hb dL_isSound_49 (by decide) ?_
  refine lv_iload hx hb dL_isSound_50 (lv_at hl 0 rfl) ?_
  refine va_mmax hx hb (by rw [hml]; exact hl.1.symm) hown (hts _ wq1188) (hts _ wq375) (hts _ wq14) (hts _ wq376) (Nat.le_of_ble_eq_true rfl) (Nat.le_of_ble_eq_true rfl) (Nat.le_of_ble_eq_true rfl) (Nat.le_of_ble_eq_true rfl) dL_isSound_52 ?_
  refine zk_ti (y := 0) (by rw [hq]; decide) ?_
  refine lv_iadd hx hb dL_isSound_55 ?_
  refine zk_ti (y := (f3 + 0)) rfl ?_
  refine lv_istore_n (lv' := [(3, .int (f3 + 0)), (9, .int (v_X10_queued1 S F G q k)), (8, .int 1), (4, .int f4), (5, .int f5), (6, .int f6), (7, .int (nI k)), (0, .ref (zg S 7 0 0)), (1, .int (nI (zn S))), (2, .int of)]) hx hb dL_isSound_56 rfl hl (by decide) rfl (fun ls hl => ?_)
  refine lv_iload hx hb dL_isSound_57 (lv_at hl 3 rfl) ?_
  refine lv_iload hx hb dL_isSound_59 (lv_at hl 1 rfl) ?_
  refine lv_if_lt (tgt := 68) hx hb dL_isSound_61 (by decide) (fun _ => ?_) (fun h9 => absurd (by rw [hq]; decide) h9)
  refine lv_iconst (v := 0) hx hb dL_isSound_68 (by decide) ?_
  refine lv_iadd hx hb dL_isSound_69 ?_
  refine zk_ti (y := (f4 + 0)) rfl ?_
  refine lv_istore (lv' := [(4, .int (f4 + 0)), (3, .int (f3 + 0)), (9, .int (v_X10_queued1 S F G q k)), (8, .int 1), (5, .int f5), (6, .int f6), (7, .int (nI k)), (0, .ref (zg S 7 0 0)), (1, .int (nI (zn S))), (2, .int of)]) hx hb dL_isSound_70 hl (by decide) rfl (fun ls hl => ?_)
  refine lv_iload hx hb dL_isSound_72 (lv_at hl 2 rfl) ?_
  refine lv_if_ge (tgt := 99) hx hb dL_isSound_74 (by decide) (fun h9 => absurd h9 (by rw [hq]; decide)) (fun _ => ?_)
  refine lv_aload_n hx hb dL_isSound_77 rfl (lv_at hl 7 rfl) ?_
  refine lv_iload hx hb dL_isSound_78 (lv_at hl 6 rfl) ?_
  refine lv_iload hx hb dL_isSound_80 (lv_at hl 3 rfl) ?_
  refine lv_iconst (v := 1) hx hb dL_isSound_82 (by decide) ?_
  refine lv_icmp_ne (tgt := 90) hx hb dL_isSound_83 (by decide) (fun h9 => absurd rfl h9) (fun _ => ?_)
  refine lv_iconst (v := 1) hx hb dL_isSound_86 (by decide) ?_
  refine lv_goto (tgt := 91) hx hb dL_isSound_87 (by decide) ?_
  refine zr_i (va_runV (As := [.int (nI k), .int 1]) (rest := []) ⟨hx, hb, hml, hown, hts⟩ (k_X10_isBlocked1 l D yc e0 A S Z F G q k hk) (cwV 2 hts (lw_V wq653 wq654 wq655 wq1 wq656) rfl rfl rfl (by decide +kernel) ⟨(Nat.le_of_ble_eq_true rfl), (Nat.le_of_ble_eq_true rfl)⟩) (tp_V hC hW hS hA 7 0 0 dm7 rfl rfl) rfl rfl hl.1 rfl (lv_room (Nat.le_of_ble_eq_true rfl)) dL_isSound_91 ⟨(Nat.le_of_ble_eq_true rfl), (Nat.le_of_ble_eq_true rfl)⟩) ?_
  refine lv_if_eq (tgt := 99) hx hb dL_isSound_94 (by decide) (fun _ => ?_) (fun h9 => absurd hbl h9)
  refine lv_iinc (v := 2) (lv' := [(8, .int 2), (4, .int (f4 + 0)), (3, .int (f3 + 0)), (9, .int (v_X10_queued1 S F G q k)), (5, .int f5), (6, .int f6), (7, .int (nI k)), (0, .ref (zg S 7 0 0)), (1, .int (nI (zn S))), (2, .int of)]) hx hb dL_isSound_99 hl (k := 3) rfl (by decide) (by decide) rfl (fun ls hl => ?_)
  refine lv_goto (tgt := 23) hx hb dL_isSound_102 (by decide) ?_
  exact kk _ (lv_sub hl [0, 2, 1, 4, 5, 6, 7, 8, 9] rfl)
set_option maxHeartbeats 4000000 in
set_option maxRecDepth 100000 in
theorem y_segB {p : Program} {l : Launch} {e : Env} {s : State} {m : MethodId} {args : Array Value} {below : List Frame} {meth : Method} {c : Code} {D : va_G} {yc : Nat → ClassId} {e0 : Nat} {A : Nat → Prop} {S : TS} {Z : Nat × Nat} {F : TF} {G : TG} {q : TQ} {so : Nat → Nat} {k : Nat} (hx : p.tables.exec = Jvm.exec) (hb : c.code = cL_isSound) (hml : c.maxLocals = 10) (hr : meth.sig.returnType = some .boolean) (hlk : meth.locks = false) (hown : s.vm.findClass RL = some m.cls) (hts : ∀ w ∈ lw_all, w.before args s = true) (hW : WT D yc e0 A S Z F G q s.heap) (hS : va_S A s.heap s.heap []) (hA : ∀ a, s.heap.size ≤ a → A a) (hC : CX D yc e0 A s) (hk : k < zn S) (hGS : GS G) (hsn : SNk S so F G q k) {f3 f4 f5 f6 of : Int32} (kk : ∀ ls, lv_has ls 10 [(8, .int 2), (3, .int f3), (4, .int f4), (5, .int f5), (6, .int (f6 ||| (v_X10_isReady S F G q k))), (7, .int (nI k)), (0, .ref (zg S 7 0 0)), (1, .int (nI (zn S))), (2, .int of)] → W p l e { frames := 9, cells := 0, slots := 0, locals := 190 } s m args below meth c s.heap [] 0 0 (MQ below (zQ (some (.int 1))) args s 0 0 zno) (F0 m 134 ls [])) {ls : Array Slot} (hl : lv_has ls 10 [(8, .int 2), (3, .int f3), (4, .int f4), (5, .int f5), (6, .int f6), (7, .int (nI k)), (0, .ref (zg S 7 0 0)), (1, .int (nI (zn S))), (2, .int of)]) : W p l e { frames := 9, cells := 0, slots := 0, locals := 190 } s m args below meth c s.heap [] 0 0 (MQ below (zQ (some (.int 1))) args s 0 0 zno) (F0 m 23 ls []) := by
  have hK := hC.1
  have hN := hC.2.1
  refine lv_iload hx hb dL_isSound_23 (lv_at hl 0 rfl) ?_
  refine lv_iconst (v := 2) hx hb dL_isSound_25 (by decide) ?_
  refine lv_icmp_ge (tgt := 105) hx hb dL_isSound_26 (by decide) (fun _ => ?_) (fun h9 => absurd (by decide) h9)
  refine lv_iload hx hb dL_isSound_105 (lv_at hl 4 rfl) ?_
  refine lv_aload_n hx hb dL_isSound_107 rfl (lv_at hl 6 rfl) ?_
  refine lv_iload hx hb dL_isSound_108 (lv_at hl 5 rfl) ?_
  refine zr_i (va_runV (As := [.int (nI k)]) (rest := [.int f6]) ⟨hx, hb, hml, hown, hts⟩ (k_X10_isReady l D yc e0 A S Z F G q k hk) (cwV 1 hts (lw_V wq649 wq650 wq651 wq1 wq652) rfl rfl rfl (by decide +kernel) ⟨(Nat.le_of_ble_eq_true rfl), (Nat.le_of_ble_eq_true rfl)⟩) (tp_V hC hW hS hA 7 0 0 dm7 rfl rfl) rfl rfl hl.1 rfl (lv_room (Nat.le_of_ble_eq_true rfl)) dL_isSound_110 ⟨(Nat.le_of_ble_eq_true rfl), (Nat.le_of_ble_eq_true rfl)⟩) ?_
  refine lv_ior hx hb dL_isSound_113 ?_
  refine lv_istore (lv' := [(6, .int (f6 ||| (v_X10_isReady S F G q k))), (8, .int 2), (3, .int f3), (4, .int f4), (5, .int f5), (7, .int (nI k)), (0, .ref (zg S 7 0 0)), (1, .int (nI (zn S))), (2, .int of)]) hx hb dL_isSound_114 hl (by decide) rfl (fun ls hl => ?_)
  refine lv_aload_n hx hb dL_isSound_116 rfl (lv_at hl 6 rfl) ?_
  refine lv_iload hx hb dL_isSound_117 (lv_at hl 5 rfl) ?_
  refine zr_i (va_runV (As := [.int (nI k)]) (rest := []) ⟨hx, hb, hml, hown, hts⟩ (k_X10_isReady l D yc e0 A S Z F G q k hk) (cwV 1 hts (lw_V wq649 wq650 wq651 wq1 wq652) rfl rfl rfl (by decide +kernel) ⟨(Nat.le_of_ble_eq_true rfl), (Nat.le_of_ble_eq_true rfl)⟩) (tp_V hC hW hS hA 7 0 0 dm7 rfl rfl) rfl rfl hl.1 rfl (lv_room (Nat.le_of_ble_eq_true rfl)) dL_isSound_119 ⟨(Nat.le_of_ble_eq_true rfl), (Nat.le_of_ble_eq_true rfl)⟩) ?_
  refine lv_if_eq (tgt := 134) hx hb dL_isSound_122 (by decide) (fun h1 => ?_) (fun h1 => ?_)
  · exact kk _ (lv_sub hl [1, 2, 3, 4, 0, 5, 6, 7, 8] rfl)
  · refine lv_aload_n hx hb dL_isSound_125 rfl (lv_at hl 6 rfl) ?_
    refine lv_iload hx hb dL_isSound_126 (lv_at hl 5 rfl) ?_
    refine zr_i (va_runV (As := [.int (nI k)]) (rest := []) ⟨hx, hb, hml, hown, hts⟩ (k_X10_hasRoom l D yc e0 A S Z F G q k hk) (cwV 1 hts (lw_V wq1189 wq755 wq756 wq1 wq757) rfl rfl rfl (by decide +kernel) ⟨(Nat.le_of_ble_eq_true rfl), (Nat.le_of_ble_eq_true rfl)⟩) (tp_V hC hW hS hA 7 0 0 dm7 rfl rfl) rfl rfl hl.1 rfl (lv_room (Nat.le_of_ble_eq_true rfl)) dL_isSound_128 ⟨(Nat.le_of_ble_eq_true rfl), (Nat.le_of_ble_eq_true rfl)⟩) ?_
    refine lv_if_eq (tgt := 195) hx hb dL_isSound_131 (by decide) (fun h9 => absurd h9 (hsn.2.2.1 h1)) (fun _ => ?_)
    exact kk _ (lv_sub hl [1, 2, 3, 4, 0, 5, 6, 7, 8] rfl)
set_option maxHeartbeats 4000000 in
set_option maxRecDepth 100000 in
theorem y_segC {p : Program} {l : Launch} {e : Env} {s : State} {m : MethodId} {args : Array Value} {below : List Frame} {meth : Method} {c : Code} {D : va_G} {yc : Nat → ClassId} {e0 : Nat} {A : Nat → Prop} {S : TS} {Z : Nat × Nat} {F : TF} {G : TG} {q : TQ} {so : Nat → Nat} {k : Nat} (hx : p.tables.exec = Jvm.exec) (hb : c.code = cL_isSound) (hml : c.maxLocals = 10) (hr : meth.sig.returnType = some .boolean) (hlk : meth.locks = false) (hown : s.vm.findClass RL = some m.cls) (hts : ∀ w ∈ lw_all, w.before args s = true) (hW : WT D yc e0 A S Z F G q s.heap) (hS : va_S A s.heap s.heap []) (hA : ∀ a, s.heap.size ≤ a → A a) (hC : CX D yc e0 A s) (hk : k < zn S) (hGS : GS G) (hsn : SNk S so F G q k) {f3 f4 f5 f6 of : Int32} (kk : ∀ ls, lv_has ls 10 [(8, .int 2), (3, .int f3), (4, .int f4), (5, .int f5), (6, .int f6), (7, .int (nI k)), (0, .ref (zg S 7 0 0)), (1, .int (nI (zn S))), (2, .int of)] → W p l e { frames := 9, cells := 0, slots := 0, locals := 190 } s m args below meth c s.heap [] 0 0 (MQ below (zQ (some (.int 1))) args s 0 0 zno) (F0 m 154 ls [])) {ls : Array Slot} (hl : lv_has ls 10 [(8, .int 2), (3, .int f3), (4, .int f4), (5, .int f5), (6, .int f6), (7, .int (nI k)), (0, .ref (zg S 7 0 0)), (1, .int (nI (zn S))), (2, .int of)]) : W p l e { frames := 9, cells := 0, slots := 0, locals := 190 } s m args below meth c s.heap [] 0 0 (MQ below (zQ (some (.int 1))) args s 0 0 zno) (F0 m 134 ls []) := by
  have hK := hC.1
  have hN := hC.2.1
  refine lv_aload_n hx hb dL_isSound_134 rfl (lv_at hl 6 rfl) ?_
  refine lv_iload hx hb dL_isSound_135 (lv_at hl 5 rfl) ?_
  refine lv_iconst (v := 0) hx hb dL_isSound_137 (by decide) ?_
  refine zr_i (va_runV (As := [.int (nI k), .int 0]) (rest := []) ⟨hx, hb, hml, hown, hts⟩ (k_X10_isBlocked0 l D yc e0 A S Z F G q k hk) (cwV 2 hts (lw_V wq653 wq654 wq655 wq1 wq656) rfl rfl rfl (by decide +kernel) ⟨(Nat.le_of_ble_eq_true rfl), (Nat.le_of_ble_eq_true rfl)⟩) (tp_V hC hW hS hA 7 0 0 dm7 rfl rfl) rfl rfl hl.1 rfl (lv_room (Nat.le_of_ble_eq_true rfl)) dL_isSound_138 ⟨(Nat.le_of_ble_eq_true rfl), (Nat.le_of_ble_eq_true rfl)⟩) ?_
  refine lv_if_eq (tgt := 154) hx hb dL_isSound_141 (by decide) (fun h1 => ?_) (fun h1 => ?_)
  · exact kk _ (lv_sub hl [0, 1, 2, 3, 4, 5, 6, 7, 8] rfl)
  · refine lv_aload_n hx hb dL_isSound_144 rfl (lv_at hl 6 rfl) ?_
    refine lv_iload hx hb dL_isSound_145 (lv_at hl 5 rfl) ?_
    refine lv_iconst (v := 1) hx hb dL_isSound_147 (by decide) ?_
    refine zr_i (va_runV (As := [.int (nI k), .int 1]) (rest := []) ⟨hx, hb, hml, hown, hts⟩ (k_X10_isBlocked1 l D yc e0 A S Z F G q k hk) (cwV 2 hts (lw_V wq653 wq654 wq655 wq1 wq656) rfl rfl rfl (by decide +kernel) ⟨(Nat.le_of_ble_eq_true rfl), (Nat.le_of_ble_eq_true rfl)⟩) (tp_V hC hW hS hA 7 0 0 dm7 rfl rfl) rfl rfl hl.1 rfl (lv_room (Nat.le_of_ble_eq_true rfl)) dL_isSound_148 ⟨(Nat.le_of_ble_eq_true rfl), (Nat.le_of_ble_eq_true rfl)⟩) ?_
    refine lv_if_ne (tgt := 195) hx hb dL_isSound_151 (by decide) (fun h9 => absurd (hsn.2.2.2.1 h1) h9) (fun _ => ?_)
    exact kk _ (lv_sub hl [0, 1, 2, 3, 4, 5, 6, 7, 8] rfl)
set_option maxHeartbeats 4000000 in
set_option maxRecDepth 100000 in
theorem y_segC2 {p : Program} {l : Launch} {e : Env} {s : State} {m : MethodId} {args : Array Value} {below : List Frame} {meth : Method} {c : Code} {D : va_G} {yc : Nat → ClassId} {e0 : Nat} {A : Nat → Prop} {S : TS} {Z : Nat × Nat} {F : TF} {G : TG} {q : TQ} {so : Nat → Nat} {k : Nat} (hx : p.tables.exec = Jvm.exec) (hb : c.code = cL_isSound) (hml : c.maxLocals = 10) (hr : meth.sig.returnType = some .boolean) (hlk : meth.locks = false) (hown : s.vm.findClass RL = some m.cls) (hts : ∀ w ∈ lw_all, w.before args s = true) (hW : WT D yc e0 A S Z F G q s.heap) (hS : va_S A s.heap s.heap []) (hA : ∀ a, s.heap.size ≤ a → A a) (hC : CX D yc e0 A s) (hk : k < zn S) (hGS : GS G) (hsn : SNk S so F G q k) {f3 f4 f5 f6 of : Int32} (kk : ∀ ls, lv_has ls 10 [(8, .int 2), (3, .int f3), (4, .int f4), (5, .int f5), (6, .int f6), (7, .int (nI k)), (0, .ref (zg S 7 0 0)), (1, .int (nI (zn S))), (2, .int of)] → W p l e { frames := 9, cells := 0, slots := 0, locals := 190 } s m args below meth c s.heap [] 0 0 (MQ below (zQ (some (.int 1))) args s 0 0 zno) (F0 m 197 ls [])) {ls : Array Slot} (hl : lv_has ls 10 [(8, .int 2), (3, .int f3), (4, .int f4), (5, .int f5), (6, .int f6), (7, .int (nI k)), (0, .ref (zg S 7 0 0)), (1, .int (nI (zn S))), (2, .int of)]) : W p l e { frames := 9, cells := 0, slots := 0, locals := 190 } s m args below meth c s.heap [] 0 0 (MQ below (zQ (some (.int 1))) args s 0 0 zno) (F0 m 154 ls []) := by
  have hK := hC.1
  have hN := hC.2.1
  refine lv_aload_n hx hb dL_isSound_154 rfl (lv_at hl 6 rfl) ?_
  refine lv_iload hx hb dL_isSound_155 (lv_at hl 5 rfl) ?_
  refine zr_i (va_runV (As := [.int (nI k)]) (rest := []) ⟨hx, hb, hml, hown, hts⟩ (k_X10_late l D yc e0 A S Z F G q k hk) (cwV 1 hts (lw_V wq1190 wq749 wq750 wq1 wq751) rfl rfl rfl (by decide +kernel) ⟨(Nat.le_of_ble_eq_true rfl), (Nat.le_of_ble_eq_true rfl)⟩) (tp_V hC hW hS hA 7 0 0 dm7 rfl rfl) rfl rfl hl.1 rfl (lv_room (Nat.le_of_ble_eq_true rfl)) dL_isSound_157 ⟨(Nat.le_of_ble_eq_true rfl), (Nat.le_of_ble_eq_true rfl)⟩) ?_
  refine zk_ti (y := F 0 0 (3 * k) 6) rfl ?_
  refine lv_aload_n hx hb dL_isSound_160 rfl (lv_at hl 6 rfl) ?_
  refine lv_iload hx hb dL_isSound_161 (lv_at hl 5 rfl) ?_
  refine zr_i (va_runV (As := [.int (nI k)]) (rest := [.int (F 0 0 (3 * k) 6)]) ⟨hx, hb, hml, hown, hts⟩ (k_X10_taken l D yc e0 A S Z F G q k hk) (cwV 1 hts (lw_V wq635 wq636 wq637 wq1 wq638) rfl rfl rfl (by decide +kernel) ⟨(Nat.le_of_ble_eq_true rfl), (Nat.le_of_ble_eq_true rfl)⟩) (tp_V hC hW hS hA 7 0 0 dm7 rfl rfl) rfl rfl hl.1 rfl (lv_room (Nat.le_of_ble_eq_true rfl)) dL_isSound_163 ⟨(Nat.le_of_ble_eq_true rfl), (Nat.le_of_ble_eq_true rfl)⟩) ?_
  refine zk_ti (y := F 0 0 (3 * k) 4) rfl ?_
  refine lv_icmp_gt (tgt := 195) hx hb dL_isSound_166 (by decide) (fun h9 => absurd h9 hsn.2.2.2.2.1.1) (fun _ => ?_)
  refine lv_aload_n hx hb dL_isSound_169 rfl (lv_at hl 6 rfl) ?_
  refine lv_iload hx hb dL_isSound_170 (lv_at hl 5 rfl) ?_
  refine zr_i (va_runV (As := [.int (nI k)]) (rest := []) ⟨hx, hb, hml, hown, hts⟩ (k_X10_late l D yc e0 A S Z F G q k hk) (cwV 1 hts (lw_V wq1190 wq749 wq750 wq1 wq751) rfl rfl rfl (by decide +kernel) ⟨(Nat.le_of_ble_eq_true rfl), (Nat.le_of_ble_eq_true rfl)⟩) (tp_V hC hW hS hA 7 0 0 dm7 rfl rfl) rfl rfl hl.1 rfl (lv_room (Nat.le_of_ble_eq_true rfl)) dL_isSound_172 ⟨(Nat.le_of_ble_eq_true rfl), (Nat.le_of_ble_eq_true rfl)⟩) ?_
  refine zk_ti (y := F 0 0 (3 * k) 6) rfl ?_
  refine lv_if_lt (tgt := 195) hx hb dL_isSound_175 (by decide) (fun h9 => absurd h9 hsn.2.2.2.2.1.2) (fun _ => ?_)
  refine lv_aload_n hx hb dL_isSound_178 rfl (lv_at hl 6 rfl) ?_
  refine lv_iload hx hb dL_isSound_179 (lv_at hl 5 rfl) ?_
  refine lv_iconst (v := 0) hx hb dL_isSound_181 (by decide) ?_
  refine zr_i (va_runV (As := [.int (nI k), .int 0]) (rest := []) ⟨hx, hb, hml, hown, hts⟩ (k_X10_isBlocked0 l D yc e0 A S Z F G q k hk) (cwV 2 hts (lw_V wq653 wq654 wq655 wq1 wq656) rfl rfl rfl (by decide +kernel) ⟨(Nat.le_of_ble_eq_true rfl), (Nat.le_of_ble_eq_true rfl)⟩) (tp_V hC hW hS hA 7 0 0 dm7 rfl rfl) rfl rfl hl.1 rfl (lv_room (Nat.le_of_ble_eq_true rfl)) dL_isSound_182 ⟨(Nat.le_of_ble_eq_true rfl), (Nat.le_of_ble_eq_true rfl)⟩) ?_
  refine lv_if_eq (tgt := 197) hx hb dL_isSound_185 (by decide) (fun h1 => ?_) (fun h1 => ?_)
  · exact kk _ (lv_sub hl [0, 1, 2, 3, 4, 5, 6, 7, 8] rfl)
  · refine lv_aload_n hx hb dL_isSound_188 rfl (lv_at hl 6 rfl) ?_
    refine zr_i (va_runV (As := []) (rest := []) ⟨hx, hb, hml, hown, hts⟩ (k_X10_begun l D yc e0 A S Z F G q) (cwV 0 hts (lw_V wq670 wq671 wq672 wq1 wq673) rfl rfl rfl (by decide +kernel) ⟨(Nat.le_of_ble_eq_true rfl), (Nat.le_of_ble_eq_true rfl)⟩) (tp_V hC hW hS hA 7 0 0 dm7 rfl rfl) rfl rfl hl.1 rfl (lv_room (Nat.le_of_ble_eq_true rfl)) dL_isSound_189 ⟨(Nat.le_of_ble_eq_true rfl), (Nat.le_of_ble_eq_true rfl)⟩) ?_
    refine zk_ti (y := F 6 0 0 5) rfl ?_
    refine lv_if_ne (tgt := 197) hx hb dL_isSound_192 (by decide) (fun _ => ?_) (fun h9 => absurd h9 (hsn.2.2.2.2.2.1 h1))
    exact kk _ (lv_sub hl [0, 1, 2, 3, 4, 5, 6, 7, 8] rfl)
set_option maxHeartbeats 4000000 in
set_option maxRecDepth 100000 in
theorem y_seg0 {p : Program} {l : Launch} {e : Env} {s : State} {m : MethodId} {args : Array Value} {below : List Frame} {meth : Method} {c : Code} {D : va_G} {yc : Nat → ClassId} {e0 : Nat} {A : Nat → Prop} {S : TS} {Z : Nat × Nat} {F : TF} {G : TG} {q : TQ} {so : Nat → Nat} {k : Nat} (hx : p.tables.exec = Jvm.exec) (hb : c.code = cL_isSound) (hml : c.maxLocals = 10) (hr : meth.sig.returnType = some .boolean) (hlk : meth.locks = false) (hown : s.vm.findClass RL = some m.cls) (hts : ∀ w ∈ lw_all, w.before args s = true) (hW : WT D yc e0 A S Z F G q s.heap) (hS : va_S A s.heap s.heap []) (hA : ∀ a, s.heap.size ≤ a → A a) (hC : CX D yc e0 A s) (hk : k < zn S) (hGS : GS G) (hsn : SNk S so F G q k) {f3 f4 f5 f6 of : Int32} (hso : so k = 0) (kk : ∀ ls, lv_has ls 10 [(3, .int f3), (4, .int f4), (5, .int (f5 + nI (q (rl k)).2.length)), (6, .int f6), (7, .int (nI (k + 1))), (0, .ref (zg S 7 0 0)), (1, .int (nI (zn S))), (2, .int of)] → W p l e { frames := 9, cells := 0, slots := 0, locals := 190 } s m args below meth c s.heap [] 0 0 (MQ below (zQ (some (.int 1))) args s 0 0 zno) (F0 m 14 ls [])) {ls : Array Slot} (hl : lv_has ls 10 [(8, .int 2), (3, .int f3), (4, .int f4), (5, .int f5), (6, .int f6), (7, .int (nI k)), (0, .ref (zg S 7 0 0)), (1, .int (nI (zn S))), (2, .int of)]) : W p l e { frames := 9, cells := 0, slots := 0, locals := 190 } s m args below meth c s.heap [] 0 0 (MQ below (zQ (some (.int 1))) args s 0 0 zno) (F0 m 197 ls []) := by
  have hK := hC.1
  have hN := hC.2.1
  refine lv_aload_n hx hb dL_isSound_197 rfl (lv_at hl 6 rfl) ?_
  refine lv_iload hx hb dL_isSound_198 (lv_at hl 5 rfl) ?_
  refine zr_i (va_runV (As := [.int (nI k)]) (rest := []) ⟨hx, hb, hml, hown, hts⟩ (k_X10_sortOf l D yc e0 A S Z F G q k hk) (cwV 1 hts (lw_V wq627 wq628 wq629 wq1 wq630) rfl rfl rfl (by decide +kernel) ⟨(Nat.le_of_ble_eq_true rfl), (Nat.le_of_ble_eq_true rfl)⟩) (tp_V hC hW hS hA 7 0 0 dm7 rfl rfl) rfl rfl hl.1 rfl (lv_room (Nat.le_of_ble_eq_true rfl)) dL_isSound_200 ⟨(Nat.le_of_ble_eq_true rfl), (Nat.le_of_ble_eq_true rfl)⟩) ?_
  refine zk_ti (y := F 8 0 k 0) rfl ?_
  refine zk_ti (y := 0) (by rw [hsn.1.1, hso]; rfl) ?_
  refine lv_istore (lv' := [(8, .int 0), (3, .int f3), (4, .int f4), (5, .int f5), (6, .int f6), (7, .int (nI k)), (0, .ref (zg S 7 0 0)), (1, .int (nI (zn S))), (2, .int of)]) hx hb dL_isSound_203 hl (by decide) rfl (fun ls hl => ?_)
  refine lv_iload hx hb dL_isSound_205 (lv_at hl 0 rfl) ?_
  refine lv_if_ne (tgt := 228) hx hb dL_isSound_207 (by decide) (fun h9 => absurd rfl h9) (fun _ => ?_)
  refine lv_iload hx hb dL_isSound_210 (lv_at hl 3 rfl) ?_
  refine lv_aload_n hx hb dL_isSound_212 rfl (lv_at hl 6 rfl) ?_
  refine lv_iload hx hb dL_isSound_213 (lv_at hl 5 rfl) ?_
  refine zr_i (va_runV (As := [.int (nI k)]) (rest := [.int f5]) ⟨hx, hb, hml, hown, hts⟩ (k_X10_taken l D yc e0 A S Z F G q k hk) (cwV 1 hts (lw_V wq635 wq636 wq637 wq1 wq638) rfl rfl rfl (by decide +kernel) ⟨(Nat.le_of_ble_eq_true rfl), (Nat.le_of_ble_eq_true rfl)⟩) (tp_V hC hW hS hA 7 0 0 dm7 rfl rfl) rfl rfl hl.1 rfl (lv_room (Nat.le_of_ble_eq_true rfl)) dL_isSound_215 ⟨(Nat.le_of_ble_eq_true rfl), (Nat.le_of_ble_eq_true rfl)⟩) ?_
  refine zk_ti (y := F 0 0 (3 * k) 4) rfl ?_
  refine lv_aload_n hx hb dL_isSound_218 rfl (lv_at hl 6 rfl) ?_
  refine lv_iload hx hb dL_isSound_219 (lv_at hl 5 rfl) ?_
  refine zr_i (va_runV (As := [.int (nI k)]) (rest := [.int (F 0 0 (3 * k) 4), .int f5]) ⟨hx, hb, hml, hown, hts⟩ (k_X10_kept l D yc e0 A S Z F G q k hk) (cwV 1 hts (lw_V wq639 wq640 wq641 wq1 wq642) rfl rfl rfl (by decide +kernel) ⟨(Nat.le_of_ble_eq_true rfl), (Nat.le_of_ble_eq_true rfl)⟩) (tp_V hC hW hS hA 7 0 0 dm7 rfl rfl) rfl rfl hl.1 rfl (lv_room (Nat.le_of_ble_eq_true rfl)) dL_isSound_221 ⟨(Nat.le_of_ble_eq_true rfl), (Nat.le_of_ble_eq_true rfl)⟩) ?_
  refine lv_iadd hx hb dL_isSound_224 ?_
  refine zk_ti (y := (nI (q (rl k)).2.length)) (hsn.2.2.2.2.2.2.1 hso).2.2 ?_
  refine lv_iadd hx hb dL_isSound_225 ?_
  refine zk_ti (y := (f5 + nI (q (rl k)).2.length)) rfl ?_
  refine lv_istore (lv' := [(5, .int (f5 + nI (q (rl k)).2.length)), (8, .int 0), (3, .int f3), (4, .int f4), (6, .int f6), (7, .int (nI k)), (0, .ref (zg S 7 0 0)), (1, .int (nI (zn S))), (2, .int of)]) hx hb dL_isSound_226 hl (by decide) rfl (fun ls hl => ?_)
  refine lv_iload hx hb dL_isSound_228 (lv_at hl 1 rfl) ?_
  refine lv_if_ne (tgt := 259) hx hb dL_isSound_230 (by decide) (fun h9 => absurd rfl h9) (fun _ => ?_)
  refine lv_aload_n hx hb dL_isSound_233 rfl (lv_at hl 6 rfl) ?_
  refine lv_iload hx hb dL_isSound_234 (lv_at hl 5 rfl) ?_
  refine zr_i (va_runV (As := [.int (nI k)]) (rest := []) ⟨hx, hb, hml, hown, hts⟩ (k_X10_emitted l D yc e0 A S Z F G q k hk) (cwV 1 hts (lw_V wq1191 wq745 wq746 wq1 wq747) rfl rfl rfl (by decide +kernel) ⟨(Nat.le_of_ble_eq_true rfl), (Nat.le_of_ble_eq_true rfl)⟩) (tp_V hC hW hS hA 7 0 0 dm7 rfl rfl) rfl rfl hl.1 rfl (lv_room (Nat.le_of_ble_eq_true rfl)) dL_isSound_236 ⟨(Nat.le_of_ble_eq_true rfl), (Nat.le_of_ble_eq_true rfl)⟩) ?_
  refine zk_ti (y := F 0 0 (3 * k) 5) rfl ?_
  refine lv_aload_n hx hb dL_isSound_239 rfl (lv_at hl 6 rfl) ?_
  refine lv_iload hx hb dL_isSound_240 (lv_at hl 5 rfl) ?_
  refine zr_i (va_runV (As := [.int (nI k)]) (rest := [.int (F 0 0 (3 * k) 5)]) ⟨hx, hb, hml, hown, hts⟩ (k_X10_taken l D yc e0 A S Z F G q k hk) (cwV 1 hts (lw_V wq635 wq636 wq637 wq1 wq638) rfl rfl rfl (by decide +kernel) ⟨(Nat.le_of_ble_eq_true rfl), (Nat.le_of_ble_eq_true rfl)⟩) (tp_V hC hW hS hA 7 0 0 dm7 rfl rfl) rfl rfl hl.1 rfl (lv_room (Nat.le_of_ble_eq_true rfl)) dL_isSound_242 ⟨(Nat.le_of_ble_eq_true rfl), (Nat.le_of_ble_eq_true rfl)⟩) ?_
  refine zk_ti (y := F 0 0 (3 * k) 4) rfl ?_
  refine lv_icmp_ne (tgt := 257) hx hb dL_isSound_245 (by decide) (fun h9 => absurd (hsn.2.2.2.2.2.2.1 hso).1 h9) (fun _ => ?_)
  refine lv_aload_n hx hb dL_isSound_248 rfl (lv_at hl 6 rfl) ?_
  refine lv_iload hx hb dL_isSound_249 (lv_at hl 5 rfl) ?_
  refine zr_i (va_runV (As := [.int (nI k)]) (rest := []) ⟨hx, hb, hml, hown, hts⟩ (k_X10_wouldReplay l D yc e0 A S Z F G q k hk (by rw [hsn.1.1, hso]; rfl) (by rcases hGS 0 k with h | h <;> omega)) (cwV 1 hts (lw_V wq1192 wq1193 wq1194 wq1 wq1195) rfl rfl rfl (by decide +kernel) ⟨(Nat.le_of_ble_eq_true rfl), (Nat.le_of_ble_eq_true rfl)⟩) (tp_V hC hW hS hA 7 0 0 dm7 rfl rfl) rfl rfl hl.1 rfl (lv_room (Nat.le_of_ble_eq_true rfl)) dL_isSound_251 ⟨(Nat.le_of_ble_eq_true rfl), (Nat.le_of_ble_eq_true rfl)⟩) ?_
  refine lv_if_ge (tgt := 259) hx hb dL_isSound_254 (by decide) (fun _ => ?_) (fun h9 => absurd (Int32.not_lt.mp (hsn.2.2.2.2.2.2.1 hso).2.1) h9)
  refine lv_iload hx hb dL_isSound_259 (lv_at hl 1 rfl) ?_
  refine lv_iconst (v := 2) hx hb dL_isSound_261 (by decide) ?_
  refine lv_icmp_eq (tgt := 272) hx hb dL_isSound_262 (by decide) (fun h9 => absurd h9 (by decide)) (fun _ => ?_)
  refine lv_iload hx hb dL_isSound_265 (lv_at hl 1 rfl) ?_
  refine lv_bipush (v := 6) hx hb dL_isSound_267 (by decide) ?_
  refine lv_icmp_ne (tgt := 287) hx hb dL_isSound_269 (by decide) (fun _ => ?_) (fun h9 => absurd h9 (by decide))
  refine lv_iload hx hb dL_isSound_287 (lv_at hl 1 rfl) ?_
  refine lv_iconst (v := 1) hx hb dL_isSound_289 (by decide) ?_
  refine lv_icmp_ne (tgt := 310) hx hb dL_isSound_290 (by decide) (fun _ => ?_) (fun h9 => absurd h9 (by decide))
  refine lv_iload hx hb dL_isSound_310 (lv_at hl 1 rfl) ?_
  refine lv_bipush (v := 7) hx hb dL_isSound_312 (by decide) ?_
  refine lv_icmp_ne (tgt := 380) hx hb dL_isSound_314 (by decide) (fun _ => ?_) (fun h9 => absurd h9 (by decide))
  refine lv_iload hx hb dL_isSound_380 (lv_at hl 1 rfl) ?_
  refine lv_iconst (v := 3) hx hb dL_isSound_382 (by decide) ?_
  refine lv_icmp_eq (tgt := 392) hx hb dL_isSound_383 (by decide) (fun h9 => absurd h9 (by decide)) (fun _ => ?_)
  refine lv_iload hx hb dL_isSound_386 (lv_at hl 1 rfl) ?_
  refine lv_iconst (v := 4) hx hb dL_isSound_388 (by decide) ?_
  refine lv_icmp_ne (tgt := 419) hx hb dL_isSound_389 (by decide) (fun _ => ?_) (fun h9 => absurd h9 (by decide))
  refine lv_iinc (v := (nI (k + 1))) (lv' := [(7, .int (nI (k + 1))), (5, .int (f5 + nI (q (rl k)).2.length)), (8, .int 0), (3, .int f3), (4, .int f4), (6, .int f6), (0, .ref (zg S 7 0 0)), (1, .int (nI (zn S))), (2, .int of)]) hx hb dL_isSound_419 hl (k := 5) rfl (nI_1 k) (by decide) rfl (fun ls hl => ?_)
  refine lv_goto (tgt := 14) hx hb dL_isSound_422 (by decide) ?_
  exact kk _ (lv_sub hl [3, 4, 1, 5, 0, 6, 7, 8] rfl)
set_option maxHeartbeats 4000000 in
set_option maxRecDepth 100000 in
theorem y_seg1 {p : Program} {l : Launch} {e : Env} {s : State} {m : MethodId} {args : Array Value} {below : List Frame} {meth : Method} {c : Code} {D : va_G} {yc : Nat → ClassId} {e0 : Nat} {A : Nat → Prop} {S : TS} {Z : Nat × Nat} {F : TF} {G : TG} {q : TQ} {so : Nat → Nat} {k : Nat} (hx : p.tables.exec = Jvm.exec) (hb : c.code = cL_isSound) (hml : c.maxLocals = 10) (hr : meth.sig.returnType = some .boolean) (hlk : meth.locks = false) (hown : s.vm.findClass RL = some m.cls) (hts : ∀ w ∈ lw_all, w.before args s = true) (hW : WT D yc e0 A S Z F G q s.heap) (hS : va_S A s.heap s.heap []) (hA : ∀ a, s.heap.size ≤ a → A a) (hC : CX D yc e0 A s) (hk : k < zn S) (hGS : GS G) (hsn : SNk S so F G q k) {f3 f4 f5 f6 of : Int32} (hso : so k = 1) (kk : ∀ ls, lv_has ls 10 [(3, .int f3), (4, .int f4), (5, .int f5), (6, .int f6), (7, .int (nI (k + 1))), (0, .ref (zg S 7 0 0)), (1, .int (nI (zn S))), (2, .int of)] → W p l e { frames := 9, cells := 0, slots := 0, locals := 190 } s m args below meth c s.heap [] 0 0 (MQ below (zQ (some (.int 1))) args s 0 0 zno) (F0 m 14 ls [])) {ls : Array Slot} (hl : lv_has ls 10 [(8, .int 2), (3, .int f3), (4, .int f4), (5, .int f5), (6, .int f6), (7, .int (nI k)), (0, .ref (zg S 7 0 0)), (1, .int (nI (zn S))), (2, .int of)]) : W p l e { frames := 9, cells := 0, slots := 0, locals := 190 } s m args below meth c s.heap [] 0 0 (MQ below (zQ (some (.int 1))) args s 0 0 zno) (F0 m 197 ls []) := by
  have hK := hC.1
  have hN := hC.2.1
  refine lv_aload_n hx hb dL_isSound_197 rfl (lv_at hl 6 rfl) ?_
  refine lv_iload hx hb dL_isSound_198 (lv_at hl 5 rfl) ?_
  refine zr_i (va_runV (As := [.int (nI k)]) (rest := []) ⟨hx, hb, hml, hown, hts⟩ (k_X10_sortOf l D yc e0 A S Z F G q k hk) (cwV 1 hts (lw_V wq627 wq628 wq629 wq1 wq630) rfl rfl rfl (by decide +kernel) ⟨(Nat.le_of_ble_eq_true rfl), (Nat.le_of_ble_eq_true rfl)⟩) (tp_V hC hW hS hA 7 0 0 dm7 rfl rfl) rfl rfl hl.1 rfl (lv_room (Nat.le_of_ble_eq_true rfl)) dL_isSound_200 ⟨(Nat.le_of_ble_eq_true rfl), (Nat.le_of_ble_eq_true rfl)⟩) ?_
  refine zk_ti (y := F 8 0 k 0) rfl ?_
  refine zk_ti (y := 1) (by rw [hsn.1.1, hso]; rfl) ?_
  refine lv_istore (lv' := [(8, .int 1), (3, .int f3), (4, .int f4), (5, .int f5), (6, .int f6), (7, .int (nI k)), (0, .ref (zg S 7 0 0)), (1, .int (nI (zn S))), (2, .int of)]) hx hb dL_isSound_203 hl (by decide) rfl (fun ls hl => ?_)
  refine lv_iload hx hb dL_isSound_205 (lv_at hl 0 rfl) ?_
  refine lv_if_ne (tgt := 228) hx hb dL_isSound_207 (by decide) (fun _ => ?_) (fun h9 => absurd h9 (by decide))
  refine lv_iload hx hb dL_isSound_228 (lv_at hl 0 rfl) ?_
  refine lv_if_ne (tgt := 259) hx hb dL_isSound_230 (by decide) (fun _ => ?_) (fun h9 => absurd h9 (by decide))
  refine lv_iload hx hb dL_isSound_259 (lv_at hl 0 rfl) ?_
  refine lv_iconst (v := 2) hx hb dL_isSound_261 (by decide) ?_
  refine lv_icmp_eq (tgt := 272) hx hb dL_isSound_262 (by decide) (fun h9 => absurd h9 (by decide)) (fun _ => ?_)
  refine lv_iload hx hb dL_isSound_265 (lv_at hl 0 rfl) ?_
  refine lv_bipush (v := 6) hx hb dL_isSound_267 (by decide) ?_
  refine lv_icmp_ne (tgt := 287) hx hb dL_isSound_269 (by decide) (fun _ => ?_) (fun h9 => absurd h9 (by decide))
  refine lv_iload hx hb dL_isSound_287 (lv_at hl 0 rfl) ?_
  refine lv_iconst (v := 1) hx hb dL_isSound_289 (by decide) ?_
  refine lv_icmp_ne (tgt := 310) hx hb dL_isSound_290 (by decide) (fun h9 => absurd rfl h9) (fun _ => ?_)
  refine lv_aload_n hx hb dL_isSound_293 rfl (lv_at hl 6 rfl) ?_
  refine lv_iload hx hb dL_isSound_294 (lv_at hl 5 rfl) ?_
  refine zr_i (va_runV (As := [.int (nI k)]) (rest := []) ⟨hx, hb, hml, hown, hts⟩ (k_X10_emitted l D yc e0 A S Z F G q k hk) (cwV 1 hts (lw_V wq1191 wq745 wq746 wq1 wq747) rfl rfl rfl (by decide +kernel) ⟨(Nat.le_of_ble_eq_true rfl), (Nat.le_of_ble_eq_true rfl)⟩) (tp_V hC hW hS hA 7 0 0 dm7 rfl rfl) rfl rfl hl.1 rfl (lv_room (Nat.le_of_ble_eq_true rfl)) dL_isSound_296 ⟨(Nat.le_of_ble_eq_true rfl), (Nat.le_of_ble_eq_true rfl)⟩) ?_
  refine zk_ti (y := F 0 0 (3 * k) 5) rfl ?_
  refine lv_aload_n hx hb dL_isSound_299 rfl (lv_at hl 6 rfl) ?_
  refine lv_iload hx hb dL_isSound_300 (lv_at hl 5 rfl) ?_
  refine zr_i (va_runV (As := [.int (nI k)]) (rest := [.int (F 0 0 (3 * k) 5)]) ⟨hx, hb, hml, hown, hts⟩ (k_X10_taken l D yc e0 A S Z F G q k hk) (cwV 1 hts (lw_V wq635 wq636 wq637 wq1 wq638) rfl rfl rfl (by decide +kernel) ⟨(Nat.le_of_ble_eq_true rfl), (Nat.le_of_ble_eq_true rfl)⟩) (tp_V hC hW hS hA 7 0 0 dm7 rfl rfl) rfl rfl hl.1 rfl (lv_room (Nat.le_of_ble_eq_true rfl)) dL_isSound_302 ⟨(Nat.le_of_ble_eq_true rfl), (Nat.le_of_ble_eq_true rfl)⟩) ?_
  refine zk_ti (y := F 0 0 (3 * k) 4) rfl ?_
  refine lv_icmp_le (tgt := 310) hx hb dL_isSound_305 (by decide) (fun _ => ?_) (fun h9 => absurd (Int32.not_lt.mp (hsn.2.2.2.2.2.2.2.2.1 hso)) h9)
  refine lv_iload hx hb dL_isSound_310 (lv_at hl 0 rfl) ?_
  refine lv_bipush (v := 7) hx hb dL_isSound_312 (by decide) ?_
  refine lv_icmp_ne (tgt := 380) hx hb dL_isSound_314 (by decide) (fun _ => ?_) (fun h9 => absurd h9 (by decide))
  refine lv_iload hx hb dL_isSound_380 (lv_at hl 0 rfl) ?_
  refine lv_iconst (v := 3) hx hb dL_isSound_382 (by decide) ?_
  refine lv_icmp_eq (tgt := 392) hx hb dL_isSound_383 (by decide) (fun h9 => absurd h9 (by decide)) (fun _ => ?_)
  refine lv_iload hx hb dL_isSound_386 (lv_at hl 0 rfl) ?_
  refine lv_iconst (v := 4) hx hb dL_isSound_388 (by decide) ?_
  refine lv_icmp_ne (tgt := 419) hx hb dL_isSound_389 (by decide) (fun _ => ?_) (fun h9 => absurd h9 (by decide))
  refine lv_iinc (v := (nI (k + 1))) (lv' := [(7, .int (nI (k + 1))), (8, .int 1), (3, .int f3), (4, .int f4), (5, .int f5), (6, .int f6), (0, .ref (zg S 7 0 0)), (1, .int (nI (zn S))), (2, .int of)]) hx hb dL_isSound_419 hl (k := 5) rfl (nI_1 k) (by decide) rfl (fun ls hl => ?_)
  refine lv_goto (tgt := 14) hx hb dL_isSound_422 (by decide) ?_
  exact kk _ (lv_sub hl [2, 3, 4, 5, 0, 6, 7, 8] rfl)
set_option maxHeartbeats 4000000 in
set_option maxRecDepth 100000 in
theorem y_seg2 {p : Program} {l : Launch} {e : Env} {s : State} {m : MethodId} {args : Array Value} {below : List Frame} {meth : Method} {c : Code} {D : va_G} {yc : Nat → ClassId} {e0 : Nat} {A : Nat → Prop} {S : TS} {Z : Nat × Nat} {F : TF} {G : TG} {q : TQ} {so : Nat → Nat} {k : Nat} (hx : p.tables.exec = Jvm.exec) (hb : c.code = cL_isSound) (hml : c.maxLocals = 10) (hr : meth.sig.returnType = some .boolean) (hlk : meth.locks = false) (hown : s.vm.findClass RL = some m.cls) (hts : ∀ w ∈ lw_all, w.before args s = true) (hW : WT D yc e0 A S Z F G q s.heap) (hS : va_S A s.heap s.heap []) (hA : ∀ a, s.heap.size ≤ a → A a) (hC : CX D yc e0 A s) (hk : k < zn S) (hGS : GS G) (hsn : SNk S so F G q k) {f3 f4 f5 f6 of : Int32} (hso : so k = 2) (kk : ∀ ls, lv_has ls 10 [(3, .int f3), (4, .int f4), (5, .int f5), (6, .int f6), (7, .int (nI (k + 1))), (0, .ref (zg S 7 0 0)), (1, .int (nI (zn S))), (2, .int of)] → W p l e { frames := 9, cells := 0, slots := 0, locals := 190 } s m args below meth c s.heap [] 0 0 (MQ below (zQ (some (.int 1))) args s 0 0 zno) (F0 m 14 ls [])) {ls : Array Slot} (hl : lv_has ls 10 [(8, .int 2), (3, .int f3), (4, .int f4), (5, .int f5), (6, .int f6), (7, .int (nI k)), (0, .ref (zg S 7 0 0)), (1, .int (nI (zn S))), (2, .int of)]) : W p l e { frames := 9, cells := 0, slots := 0, locals := 190 } s m args below meth c s.heap [] 0 0 (MQ below (zQ (some (.int 1))) args s 0 0 zno) (F0 m 197 ls []) := by
  have hK := hC.1
  have hN := hC.2.1
  refine lv_aload_n hx hb dL_isSound_197 rfl (lv_at hl 6 rfl) ?_
  refine lv_iload hx hb dL_isSound_198 (lv_at hl 5 rfl) ?_
  refine zr_i (va_runV (As := [.int (nI k)]) (rest := []) ⟨hx, hb, hml, hown, hts⟩ (k_X10_sortOf l D yc e0 A S Z F G q k hk) (cwV 1 hts (lw_V wq627 wq628 wq629 wq1 wq630) rfl rfl rfl (by decide +kernel) ⟨(Nat.le_of_ble_eq_true rfl), (Nat.le_of_ble_eq_true rfl)⟩) (tp_V hC hW hS hA 7 0 0 dm7 rfl rfl) rfl rfl hl.1 rfl (lv_room (Nat.le_of_ble_eq_true rfl)) dL_isSound_200 ⟨(Nat.le_of_ble_eq_true rfl), (Nat.le_of_ble_eq_true rfl)⟩) ?_
  refine zk_ti (y := F 8 0 k 0) rfl ?_
  refine zk_ti (y := 2) (by rw [hsn.1.1, hso]; rfl) ?_
  refine lv_istore (lv' := [(8, .int 2), (3, .int f3), (4, .int f4), (5, .int f5), (6, .int f6), (7, .int (nI k)), (0, .ref (zg S 7 0 0)), (1, .int (nI (zn S))), (2, .int of)]) hx hb dL_isSound_203 hl (by decide) rfl (fun ls hl => ?_)
  refine lv_iload hx hb dL_isSound_205 (lv_at hl 0 rfl) ?_
  refine lv_if_ne (tgt := 228) hx hb dL_isSound_207 (by decide) (fun _ => ?_) (fun h9 => absurd h9 (by decide))
  refine lv_iload hx hb dL_isSound_228 (lv_at hl 0 rfl) ?_
  refine lv_if_ne (tgt := 259) hx hb dL_isSound_230 (by decide) (fun _ => ?_) (fun h9 => absurd h9 (by decide))
  refine lv_iload hx hb dL_isSound_259 (lv_at hl 0 rfl) ?_
  refine lv_iconst (v := 2) hx hb dL_isSound_261 (by decide) ?_
  refine lv_icmp_eq (tgt := 272) hx hb dL_isSound_262 (by decide) (fun _ => ?_) (fun h9 => absurd rfl h9)
  refine lv_aload_n hx hb dL_isSound_272 rfl (lv_at hl 6 rfl) ?_
  refine lv_iload hx hb dL_isSound_273 (lv_at hl 5 rfl) ?_
  refine zr_i (va_runV (As := [.int (nI k)]) (rest := []) ⟨hx, hb, hml, hown, hts⟩ (k_X10_emitted l D yc e0 A S Z F G q k hk) (cwV 1 hts (lw_V wq1191 wq745 wq746 wq1 wq747) rfl rfl rfl (by decide +kernel) ⟨(Nat.le_of_ble_eq_true rfl), (Nat.le_of_ble_eq_true rfl)⟩) (tp_V hC hW hS hA 7 0 0 dm7 rfl rfl) rfl rfl hl.1 rfl (lv_room (Nat.le_of_ble_eq_true rfl)) dL_isSound_275 ⟨(Nat.le_of_ble_eq_true rfl), (Nat.le_of_ble_eq_true rfl)⟩) ?_
  refine zk_ti (y := F 0 0 (3 * k) 5) rfl ?_
  refine lv_aload_n hx hb dL_isSound_278 rfl (lv_at hl 6 rfl) ?_
  refine lv_iload hx hb dL_isSound_279 (lv_at hl 5 rfl) ?_
  refine zr_i (va_runV (As := [.int (nI k)]) (rest := [.int (F 0 0 (3 * k) 5)]) ⟨hx, hb, hml, hown, hts⟩ (k_X10_taken l D yc e0 A S Z F G q k hk) (cwV 1 hts (lw_V wq635 wq636 wq637 wq1 wq638) rfl rfl rfl (by decide +kernel) ⟨(Nat.le_of_ble_eq_true rfl), (Nat.le_of_ble_eq_true rfl)⟩) (tp_V hC hW hS hA 7 0 0 dm7 rfl rfl) rfl rfl hl.1 rfl (lv_room (Nat.le_of_ble_eq_true rfl)) dL_isSound_281 ⟨(Nat.le_of_ble_eq_true rfl), (Nat.le_of_ble_eq_true rfl)⟩) ?_
  refine zk_ti (y := F 0 0 (3 * k) 4) rfl ?_
  refine lv_icmp_ne (tgt := 308) hx hb dL_isSound_284 (by decide) (fun h9 => absurd (hsn.2.2.2.2.2.2.2.1 (Or.inl hso)) h9) (fun _ => ?_)
  refine lv_iload hx hb dL_isSound_287 (lv_at hl 0 rfl) ?_
  refine lv_iconst (v := 1) hx hb dL_isSound_289 (by decide) ?_
  refine lv_icmp_ne (tgt := 310) hx hb dL_isSound_290 (by decide) (fun _ => ?_) (fun h9 => absurd h9 (by decide))
  refine lv_iload hx hb dL_isSound_310 (lv_at hl 0 rfl) ?_
  refine lv_bipush (v := 7) hx hb dL_isSound_312 (by decide) ?_
  refine lv_icmp_ne (tgt := 380) hx hb dL_isSound_314 (by decide) (fun _ => ?_) (fun h9 => absurd h9 (by decide))
  refine lv_iload hx hb dL_isSound_380 (lv_at hl 0 rfl) ?_
  refine lv_iconst (v := 3) hx hb dL_isSound_382 (by decide) ?_
  refine lv_icmp_eq (tgt := 392) hx hb dL_isSound_383 (by decide) (fun h9 => absurd h9 (by decide)) (fun _ => ?_)
  refine lv_iload hx hb dL_isSound_386 (lv_at hl 0 rfl) ?_
  refine lv_iconst (v := 4) hx hb dL_isSound_388 (by decide) ?_
  refine lv_icmp_ne (tgt := 419) hx hb dL_isSound_389 (by decide) (fun _ => ?_) (fun h9 => absurd h9 (by decide))
  refine lv_iinc (v := (nI (k + 1))) (lv' := [(7, .int (nI (k + 1))), (8, .int 2), (3, .int f3), (4, .int f4), (5, .int f5), (6, .int f6), (0, .ref (zg S 7 0 0)), (1, .int (nI (zn S))), (2, .int of)]) hx hb dL_isSound_419 hl (k := 5) rfl (nI_1 k) (by decide) rfl (fun ls hl => ?_)
  refine lv_goto (tgt := 14) hx hb dL_isSound_422 (by decide) ?_
  exact kk _ (lv_sub hl [2, 3, 4, 5, 0, 6, 7, 8] rfl)
set_option maxHeartbeats 4000000 in
set_option maxRecDepth 100000 in
theorem y_seg3 {p : Program} {l : Launch} {e : Env} {s : State} {m : MethodId} {args : Array Value} {below : List Frame} {meth : Method} {c : Code} {D : va_G} {yc : Nat → ClassId} {e0 : Nat} {A : Nat → Prop} {S : TS} {Z : Nat × Nat} {F : TF} {G : TG} {q : TQ} {so : Nat → Nat} {k : Nat} (hx : p.tables.exec = Jvm.exec) (hb : c.code = cL_isSound) (hml : c.maxLocals = 10) (hr : meth.sig.returnType = some .boolean) (hlk : meth.locks = false) (hown : s.vm.findClass RL = some m.cls) (hts : ∀ w ∈ lw_all, w.before args s = true) (hW : WT D yc e0 A S Z F G q s.heap) (hS : va_S A s.heap s.heap []) (hA : ∀ a, s.heap.size ≤ a → A a) (hC : CX D yc e0 A s) (hk : k < zn S) (hGS : GS G) (hsn : SNk S so F G q k) {f3 f4 f5 f6 of : Int32} (hso : so k = 3) (kk : ∀ ls, lv_has ls 10 [(3, .int f3), (4, .int f4), (5, .int f5), (6, .int f6), (7, .int (nI (k + 1))), (0, .ref (zg S 7 0 0)), (1, .int (nI (zn S))), (2, .int of)] → W p l e { frames := 9, cells := 0, slots := 0, locals := 190 } s m args below meth c s.heap [] 0 0 (MQ below (zQ (some (.int 1))) args s 0 0 zno) (F0 m 14 ls [])) {ls : Array Slot} (hl : lv_has ls 10 [(8, .int 2), (3, .int f3), (4, .int f4), (5, .int f5), (6, .int f6), (7, .int (nI k)), (0, .ref (zg S 7 0 0)), (1, .int (nI (zn S))), (2, .int of)]) : W p l e { frames := 9, cells := 0, slots := 0, locals := 190 } s m args below meth c s.heap [] 0 0 (MQ below (zQ (some (.int 1))) args s 0 0 zno) (F0 m 197 ls []) := by
  have hK := hC.1
  have hN := hC.2.1
  refine lv_aload_n hx hb dL_isSound_197 rfl (lv_at hl 6 rfl) ?_
  refine lv_iload hx hb dL_isSound_198 (lv_at hl 5 rfl) ?_
  refine zr_i (va_runV (As := [.int (nI k)]) (rest := []) ⟨hx, hb, hml, hown, hts⟩ (k_X10_sortOf l D yc e0 A S Z F G q k hk) (cwV 1 hts (lw_V wq627 wq628 wq629 wq1 wq630) rfl rfl rfl (by decide +kernel) ⟨(Nat.le_of_ble_eq_true rfl), (Nat.le_of_ble_eq_true rfl)⟩) (tp_V hC hW hS hA 7 0 0 dm7 rfl rfl) rfl rfl hl.1 rfl (lv_room (Nat.le_of_ble_eq_true rfl)) dL_isSound_200 ⟨(Nat.le_of_ble_eq_true rfl), (Nat.le_of_ble_eq_true rfl)⟩) ?_
  refine zk_ti (y := F 8 0 k 0) rfl ?_
  refine zk_ti (y := 3) (by rw [hsn.1.1, hso]; rfl) ?_
  refine lv_istore (lv' := [(8, .int 3), (3, .int f3), (4, .int f4), (5, .int f5), (6, .int f6), (7, .int (nI k)), (0, .ref (zg S 7 0 0)), (1, .int (nI (zn S))), (2, .int of)]) hx hb dL_isSound_203 hl (by decide) rfl (fun ls hl => ?_)
  refine lv_iload hx hb dL_isSound_205 (lv_at hl 0 rfl) ?_
  refine lv_if_ne (tgt := 228) hx hb dL_isSound_207 (by decide) (fun _ => ?_) (fun h9 => absurd h9 (by decide))
  refine lv_iload hx hb dL_isSound_228 (lv_at hl 0 rfl) ?_
  refine lv_if_ne (tgt := 259) hx hb dL_isSound_230 (by decide) (fun _ => ?_) (fun h9 => absurd h9 (by decide))
  refine lv_iload hx hb dL_isSound_259 (lv_at hl 0 rfl) ?_
  refine lv_iconst (v := 2) hx hb dL_isSound_261 (by decide) ?_
  refine lv_icmp_eq (tgt := 272) hx hb dL_isSound_262 (by decide) (fun h9 => absurd h9 (by decide)) (fun _ => ?_)
  refine lv_iload hx hb dL_isSound_265 (lv_at hl 0 rfl) ?_
  refine lv_bipush (v := 6) hx hb dL_isSound_267 (by decide) ?_
  refine lv_icmp_ne (tgt := 287) hx hb dL_isSound_269 (by decide) (fun _ => ?_) (fun h9 => absurd h9 (by decide))
  refine lv_iload hx hb dL_isSound_287 (lv_at hl 0 rfl) ?_
  refine lv_iconst (v := 1) hx hb dL_isSound_289 (by decide) ?_
  refine lv_icmp_ne (tgt := 310) hx hb dL_isSound_290 (by decide) (fun _ => ?_) (fun h9 => absurd h9 (by decide))
  refine lv_iload hx hb dL_isSound_310 (lv_at hl 0 rfl) ?_
  refine lv_bipush (v := 7) hx hb dL_isSound_312 (by decide) ?_
  refine lv_icmp_ne (tgt := 380) hx hb dL_isSound_314 (by decide) (fun _ => ?_) (fun h9 => absurd h9 (by decide))
  refine lv_iload hx hb dL_isSound_380 (lv_at hl 0 rfl) ?_
  refine lv_iconst (v := 3) hx hb dL_isSound_382 (by decide) ?_
  refine lv_icmp_eq (tgt := 392) hx hb dL_isSound_383 (by decide) (fun _ => ?_) (fun h9 => absurd rfl h9)
  refine lv_aload_n hx hb dL_isSound_392 rfl (lv_at hl 6 rfl) ?_
  refine lv_iload hx hb dL_isSound_393 (lv_at hl 5 rfl) ?_
  refine zr_i (va_runV (As := [.int (nI k)]) (rest := []) ⟨hx, hb, hml, hown, hts⟩ (k_X10_nextEnd l D yc e0 A S Z F G q k hk (Or.inl (by rw [hsn.1.1, hso]; rfl))) (cwV 1 hts (lw_V wq1196 wq770 wq771 wq1 wq772) rfl rfl rfl (by decide +kernel) ⟨(Nat.le_of_ble_eq_true rfl), (Nat.le_of_ble_eq_true rfl)⟩) (tp_V hC hW hS hA 7 0 0 dm7 rfl rfl) rfl rfl hl.1 rfl (lv_room (Nat.le_of_ble_eq_true rfl)) dL_isSound_395 ⟨(Nat.le_of_ble_eq_true rfl), (Nat.le_of_ble_eq_true rfl)⟩) ?_
  refine lv_iconst (v := (-1)) hx hb dL_isSound_398 (by decide) ?_
  refine lv_icmp_eq (tgt := 419) hx hb dL_isSound_399 (by decide) (fun h1 => ?_) (fun h1 => ?_)
  · refine lv_iinc (v := (nI (k + 1))) (lv' := [(7, .int (nI (k + 1))), (8, .int 3), (3, .int f3), (4, .int f4), (5, .int f5), (6, .int f6), (0, .ref (zg S 7 0 0)), (1, .int (nI (zn S))), (2, .int of)]) hx hb dL_isSound_419 hl (k := 5) rfl (nI_1 k) (by decide) rfl (fun ls hl => ?_)
    refine lv_goto (tgt := 14) hx hb dL_isSound_422 (by decide) ?_
    exact kk _ (lv_sub hl [2, 3, 4, 5, 0, 6, 7, 8] rfl)
  · refine lv_aload_n hx hb dL_isSound_402 rfl (lv_at hl 6 rfl) ?_
    refine lv_iload hx hb dL_isSound_403 (lv_at hl 5 rfl) ?_
    refine zr_i (va_runV (As := [.int (nI k)]) (rest := []) ⟨hx, hb, hml, hown, hts⟩ (k_X10_nextEnd l D yc e0 A S Z F G q k hk (Or.inl (by rw [hsn.1.1, hso]; rfl))) (cwV 1 hts (lw_V wq1196 wq770 wq771 wq1 wq772) rfl rfl rfl (by decide +kernel) ⟨(Nat.le_of_ble_eq_true rfl), (Nat.le_of_ble_eq_true rfl)⟩) (tp_V hC hW hS hA 7 0 0 dm7 rfl rfl) rfl rfl hl.1 rfl (lv_room (Nat.le_of_ble_eq_true rfl)) dL_isSound_405 ⟨(Nat.le_of_ble_eq_true rfl), (Nat.le_of_ble_eq_true rfl)⟩) ?_
    refine lv_aload_n hx hb dL_isSound_408 rfl (lv_at hl 6 rfl) ?_
    refine lv_iload hx hb dL_isSound_409 (lv_at hl 5 rfl) ?_
    refine zr_i (va_runV (As := [.int (nI k)]) (rest := [.int (v_X10_nextEnd S F G q k)]) ⟨hx, hb, hml, hown, hts⟩ (k_X10_markOf l D yc e0 A S Z F G q k hk) (cwV 1 hts (lw_V wq631 wq632 wq633 wq1 wq634) rfl rfl rfl (by decide +kernel) ⟨(Nat.le_of_ble_eq_true rfl), (Nat.le_of_ble_eq_true rfl)⟩) (tp_V hC hW hS hA 7 0 0 dm7 rfl rfl) rfl rfl hl.1 rfl (lv_room (Nat.le_of_ble_eq_true rfl)) dL_isSound_411 ⟨(Nat.le_of_ble_eq_true rfl), (Nat.le_of_ble_eq_true rfl)⟩) ?_
    refine zk_ti (y := F 0 0 (3 * k) 0) rfl ?_
    refine lv_icmp_gt (tgt := 419) hx hb dL_isSound_414 (by decide) (fun _ => ?_) (fun h9 => absurd ((hsn.2.2.2.2.2.2.2.2.2.2 (Or.inl hso)).resolve_left h1) h9)
    refine lv_iinc (v := (nI (k + 1))) (lv' := [(7, .int (nI (k + 1))), (8, .int 3), (3, .int f3), (4, .int f4), (5, .int f5), (6, .int f6), (0, .ref (zg S 7 0 0)), (1, .int (nI (zn S))), (2, .int of)]) hx hb dL_isSound_419 hl (k := 5) rfl (nI_1 k) (by decide) rfl (fun ls hl => ?_)
    refine lv_goto (tgt := 14) hx hb dL_isSound_422 (by decide) ?_
    exact kk _ (lv_sub hl [2, 3, 4, 5, 0, 6, 7, 8] rfl)
set_option maxHeartbeats 4000000 in
set_option maxRecDepth 100000 in
theorem y_seg4 {p : Program} {l : Launch} {e : Env} {s : State} {m : MethodId} {args : Array Value} {below : List Frame} {meth : Method} {c : Code} {D : va_G} {yc : Nat → ClassId} {e0 : Nat} {A : Nat → Prop} {S : TS} {Z : Nat × Nat} {F : TF} {G : TG} {q : TQ} {so : Nat → Nat} {k : Nat} (hx : p.tables.exec = Jvm.exec) (hb : c.code = cL_isSound) (hml : c.maxLocals = 10) (hr : meth.sig.returnType = some .boolean) (hlk : meth.locks = false) (hown : s.vm.findClass RL = some m.cls) (hts : ∀ w ∈ lw_all, w.before args s = true) (hW : WT D yc e0 A S Z F G q s.heap) (hS : va_S A s.heap s.heap []) (hA : ∀ a, s.heap.size ≤ a → A a) (hC : CX D yc e0 A s) (hk : k < zn S) (hGS : GS G) (hsn : SNk S so F G q k) {f3 f4 f5 f6 of : Int32} (hso : so k = 4) (kk : ∀ ls, lv_has ls 10 [(3, .int f3), (4, .int f4), (5, .int f5), (6, .int f6), (7, .int (nI (k + 1))), (0, .ref (zg S 7 0 0)), (1, .int (nI (zn S))), (2, .int of)] → W p l e { frames := 9, cells := 0, slots := 0, locals := 190 } s m args below meth c s.heap [] 0 0 (MQ below (zQ (some (.int 1))) args s 0 0 zno) (F0 m 14 ls [])) {ls : Array Slot} (hl : lv_has ls 10 [(8, .int 2), (3, .int f3), (4, .int f4), (5, .int f5), (6, .int f6), (7, .int (nI k)), (0, .ref (zg S 7 0 0)), (1, .int (nI (zn S))), (2, .int of)]) : W p l e { frames := 9, cells := 0, slots := 0, locals := 190 } s m args below meth c s.heap [] 0 0 (MQ below (zQ (some (.int 1))) args s 0 0 zno) (F0 m 197 ls []) := by
  have hK := hC.1
  have hN := hC.2.1
  refine lv_aload_n hx hb dL_isSound_197 rfl (lv_at hl 6 rfl) ?_
  refine lv_iload hx hb dL_isSound_198 (lv_at hl 5 rfl) ?_
  refine zr_i (va_runV (As := [.int (nI k)]) (rest := []) ⟨hx, hb, hml, hown, hts⟩ (k_X10_sortOf l D yc e0 A S Z F G q k hk) (cwV 1 hts (lw_V wq627 wq628 wq629 wq1 wq630) rfl rfl rfl (by decide +kernel) ⟨(Nat.le_of_ble_eq_true rfl), (Nat.le_of_ble_eq_true rfl)⟩) (tp_V hC hW hS hA 7 0 0 dm7 rfl rfl) rfl rfl hl.1 rfl (lv_room (Nat.le_of_ble_eq_true rfl)) dL_isSound_200 ⟨(Nat.le_of_ble_eq_true rfl), (Nat.le_of_ble_eq_true rfl)⟩) ?_
  refine zk_ti (y := F 8 0 k 0) rfl ?_
  refine zk_ti (y := 4) (by rw [hsn.1.1, hso]; rfl) ?_
  refine lv_istore (lv' := [(8, .int 4), (3, .int f3), (4, .int f4), (5, .int f5), (6, .int f6), (7, .int (nI k)), (0, .ref (zg S 7 0 0)), (1, .int (nI (zn S))), (2, .int of)]) hx hb dL_isSound_203 hl (by decide) rfl (fun ls hl => ?_)
  refine lv_iload hx hb dL_isSound_205 (lv_at hl 0 rfl) ?_
  refine lv_if_ne (tgt := 228) hx hb dL_isSound_207 (by decide) (fun _ => ?_) (fun h9 => absurd h9 (by decide))
  refine lv_iload hx hb dL_isSound_228 (lv_at hl 0 rfl) ?_
  refine lv_if_ne (tgt := 259) hx hb dL_isSound_230 (by decide) (fun _ => ?_) (fun h9 => absurd h9 (by decide))
  refine lv_iload hx hb dL_isSound_259 (lv_at hl 0 rfl) ?_
  refine lv_iconst (v := 2) hx hb dL_isSound_261 (by decide) ?_
  refine lv_icmp_eq (tgt := 272) hx hb dL_isSound_262 (by decide) (fun h9 => absurd h9 (by decide)) (fun _ => ?_)
  refine lv_iload hx hb dL_isSound_265 (lv_at hl 0 rfl) ?_
  refine lv_bipush (v := 6) hx hb dL_isSound_267 (by decide) ?_
  refine lv_icmp_ne (tgt := 287) hx hb dL_isSound_269 (by decide) (fun _ => ?_) (fun h9 => absurd h9 (by decide))
  refine lv_iload hx hb dL_isSound_287 (lv_at hl 0 rfl) ?_
  refine lv_iconst (v := 1) hx hb dL_isSound_289 (by decide) ?_
  refine lv_icmp_ne (tgt := 310) hx hb dL_isSound_290 (by decide) (fun _ => ?_) (fun h9 => absurd h9 (by decide))
  refine lv_iload hx hb dL_isSound_310 (lv_at hl 0 rfl) ?_
  refine lv_bipush (v := 7) hx hb dL_isSound_312 (by decide) ?_
  refine lv_icmp_ne (tgt := 380) hx hb dL_isSound_314 (by decide) (fun _ => ?_) (fun h9 => absurd h9 (by decide))
  refine lv_iload hx hb dL_isSound_380 (lv_at hl 0 rfl) ?_
  refine lv_iconst (v := 3) hx hb dL_isSound_382 (by decide) ?_
  refine lv_icmp_eq (tgt := 392) hx hb dL_isSound_383 (by decide) (fun h9 => absurd h9 (by decide)) (fun _ => ?_)
  refine lv_iload hx hb dL_isSound_386 (lv_at hl 0 rfl) ?_
  refine lv_iconst (v := 4) hx hb dL_isSound_388 (by decide) ?_
  refine lv_icmp_ne (tgt := 419) hx hb dL_isSound_389 (by decide) (fun h9 => absurd rfl h9) (fun _ => ?_)
  refine lv_aload_n hx hb dL_isSound_392 rfl (lv_at hl 6 rfl) ?_
  refine lv_iload hx hb dL_isSound_393 (lv_at hl 5 rfl) ?_
  refine zr_i (va_runV (As := [.int (nI k)]) (rest := []) ⟨hx, hb, hml, hown, hts⟩ (k_X10_nextEnd l D yc e0 A S Z F G q k hk (Or.inr (by rw [hsn.1.1, hso]; rfl))) (cwV 1 hts (lw_V wq1196 wq770 wq771 wq1 wq772) rfl rfl rfl (by decide +kernel) ⟨(Nat.le_of_ble_eq_true rfl), (Nat.le_of_ble_eq_true rfl)⟩) (tp_V hC hW hS hA 7 0 0 dm7 rfl rfl) rfl rfl hl.1 rfl (lv_room (Nat.le_of_ble_eq_true rfl)) dL_isSound_395 ⟨(Nat.le_of_ble_eq_true rfl), (Nat.le_of_ble_eq_true rfl)⟩) ?_
  refine lv_iconst (v := (-1)) hx hb dL_isSound_398 (by decide) ?_
  refine lv_icmp_eq (tgt := 419) hx hb dL_isSound_399 (by decide) (fun h1 => ?_) (fun h1 => ?_)
  · refine lv_iinc (v := (nI (k + 1))) (lv' := [(7, .int (nI (k + 1))), (8, .int 4), (3, .int f3), (4, .int f4), (5, .int f5), (6, .int f6), (0, .ref (zg S 7 0 0)), (1, .int (nI (zn S))), (2, .int of)]) hx hb dL_isSound_419 hl (k := 5) rfl (nI_1 k) (by decide) rfl (fun ls hl => ?_)
    refine lv_goto (tgt := 14) hx hb dL_isSound_422 (by decide) ?_
    exact kk _ (lv_sub hl [2, 3, 4, 5, 0, 6, 7, 8] rfl)
  · refine lv_aload_n hx hb dL_isSound_402 rfl (lv_at hl 6 rfl) ?_
    refine lv_iload hx hb dL_isSound_403 (lv_at hl 5 rfl) ?_
    refine zr_i (va_runV (As := [.int (nI k)]) (rest := []) ⟨hx, hb, hml, hown, hts⟩ (k_X10_nextEnd l D yc e0 A S Z F G q k hk (Or.inr (by rw [hsn.1.1, hso]; rfl))) (cwV 1 hts (lw_V wq1196 wq770 wq771 wq1 wq772) rfl rfl rfl (by decide +kernel) ⟨(Nat.le_of_ble_eq_true rfl), (Nat.le_of_ble_eq_true rfl)⟩) (tp_V hC hW hS hA 7 0 0 dm7 rfl rfl) rfl rfl hl.1 rfl (lv_room (Nat.le_of_ble_eq_true rfl)) dL_isSound_405 ⟨(Nat.le_of_ble_eq_true rfl), (Nat.le_of_ble_eq_true rfl)⟩) ?_
    refine lv_aload_n hx hb dL_isSound_408 rfl (lv_at hl 6 rfl) ?_
    refine lv_iload hx hb dL_isSound_409 (lv_at hl 5 rfl) ?_
    refine zr_i (va_runV (As := [.int (nI k)]) (rest := [.int (v_X10_nextEnd S F G q k)]) ⟨hx, hb, hml, hown, hts⟩ (k_X10_markOf l D yc e0 A S Z F G q k hk) (cwV 1 hts (lw_V wq631 wq632 wq633 wq1 wq634) rfl rfl rfl (by decide +kernel) ⟨(Nat.le_of_ble_eq_true rfl), (Nat.le_of_ble_eq_true rfl)⟩) (tp_V hC hW hS hA 7 0 0 dm7 rfl rfl) rfl rfl hl.1 rfl (lv_room (Nat.le_of_ble_eq_true rfl)) dL_isSound_411 ⟨(Nat.le_of_ble_eq_true rfl), (Nat.le_of_ble_eq_true rfl)⟩) ?_
    refine zk_ti (y := F 0 0 (3 * k) 0) rfl ?_
    refine lv_icmp_gt (tgt := 419) hx hb dL_isSound_414 (by decide) (fun _ => ?_) (fun h9 => absurd ((hsn.2.2.2.2.2.2.2.2.2.2 (Or.inr hso)).resolve_left h1) h9)
    refine lv_iinc (v := (nI (k + 1))) (lv' := [(7, .int (nI (k + 1))), (8, .int 4), (3, .int f3), (4, .int f4), (5, .int f5), (6, .int f6), (0, .ref (zg S 7 0 0)), (1, .int (nI (zn S))), (2, .int of)]) hx hb dL_isSound_419 hl (k := 5) rfl (nI_1 k) (by decide) rfl (fun ls hl => ?_)
    refine lv_goto (tgt := 14) hx hb dL_isSound_422 (by decide) ?_
    exact kk _ (lv_sub hl [2, 3, 4, 5, 0, 6, 7, 8] rfl)
set_option maxHeartbeats 4000000 in
set_option maxRecDepth 100000 in
theorem y_seg5 {p : Program} {l : Launch} {e : Env} {s : State} {m : MethodId} {args : Array Value} {below : List Frame} {meth : Method} {c : Code} {D : va_G} {yc : Nat → ClassId} {e0 : Nat} {A : Nat → Prop} {S : TS} {Z : Nat × Nat} {F : TF} {G : TG} {q : TQ} {so : Nat → Nat} {k : Nat} (hx : p.tables.exec = Jvm.exec) (hb : c.code = cL_isSound) (hml : c.maxLocals = 10) (hr : meth.sig.returnType = some .boolean) (hlk : meth.locks = false) (hown : s.vm.findClass RL = some m.cls) (hts : ∀ w ∈ lw_all, w.before args s = true) (hW : WT D yc e0 A S Z F G q s.heap) (hS : va_S A s.heap s.heap []) (hA : ∀ a, s.heap.size ≤ a → A a) (hC : CX D yc e0 A s) (hk : k < zn S) (hGS : GS G) (hsn : SNk S so F G q k) {f3 f4 f5 f6 of : Int32} (hso : so k = 5) (kk : ∀ ls, lv_has ls 10 [(3, .int f3), (4, .int f4), (5, .int f5), (6, .int f6), (7, .int (nI (k + 1))), (0, .ref (zg S 7 0 0)), (1, .int (nI (zn S))), (2, .int of)] → W p l e { frames := 9, cells := 0, slots := 0, locals := 190 } s m args below meth c s.heap [] 0 0 (MQ below (zQ (some (.int 1))) args s 0 0 zno) (F0 m 14 ls [])) {ls : Array Slot} (hl : lv_has ls 10 [(8, .int 2), (3, .int f3), (4, .int f4), (5, .int f5), (6, .int f6), (7, .int (nI k)), (0, .ref (zg S 7 0 0)), (1, .int (nI (zn S))), (2, .int of)]) : W p l e { frames := 9, cells := 0, slots := 0, locals := 190 } s m args below meth c s.heap [] 0 0 (MQ below (zQ (some (.int 1))) args s 0 0 zno) (F0 m 197 ls []) := by
  have hK := hC.1
  have hN := hC.2.1
  refine lv_aload_n hx hb dL_isSound_197 rfl (lv_at hl 6 rfl) ?_
  refine lv_iload hx hb dL_isSound_198 (lv_at hl 5 rfl) ?_
  refine zr_i (va_runV (As := [.int (nI k)]) (rest := []) ⟨hx, hb, hml, hown, hts⟩ (k_X10_sortOf l D yc e0 A S Z F G q k hk) (cwV 1 hts (lw_V wq627 wq628 wq629 wq1 wq630) rfl rfl rfl (by decide +kernel) ⟨(Nat.le_of_ble_eq_true rfl), (Nat.le_of_ble_eq_true rfl)⟩) (tp_V hC hW hS hA 7 0 0 dm7 rfl rfl) rfl rfl hl.1 rfl (lv_room (Nat.le_of_ble_eq_true rfl)) dL_isSound_200 ⟨(Nat.le_of_ble_eq_true rfl), (Nat.le_of_ble_eq_true rfl)⟩) ?_
  refine zk_ti (y := F 8 0 k 0) rfl ?_
  refine zk_ti (y := 5) (by rw [hsn.1.1, hso]; rfl) ?_
  refine lv_istore (lv' := [(8, .int 5), (3, .int f3), (4, .int f4), (5, .int f5), (6, .int f6), (7, .int (nI k)), (0, .ref (zg S 7 0 0)), (1, .int (nI (zn S))), (2, .int of)]) hx hb dL_isSound_203 hl (by decide) rfl (fun ls hl => ?_)
  refine lv_iload hx hb dL_isSound_205 (lv_at hl 0 rfl) ?_
  refine lv_if_ne (tgt := 228) hx hb dL_isSound_207 (by decide) (fun _ => ?_) (fun h9 => absurd h9 (by decide))
  refine lv_iload hx hb dL_isSound_228 (lv_at hl 0 rfl) ?_
  refine lv_if_ne (tgt := 259) hx hb dL_isSound_230 (by decide) (fun _ => ?_) (fun h9 => absurd h9 (by decide))
  refine lv_iload hx hb dL_isSound_259 (lv_at hl 0 rfl) ?_
  refine lv_iconst (v := 2) hx hb dL_isSound_261 (by decide) ?_
  refine lv_icmp_eq (tgt := 272) hx hb dL_isSound_262 (by decide) (fun h9 => absurd h9 (by decide)) (fun _ => ?_)
  refine lv_iload hx hb dL_isSound_265 (lv_at hl 0 rfl) ?_
  refine lv_bipush (v := 6) hx hb dL_isSound_267 (by decide) ?_
  refine lv_icmp_ne (tgt := 287) hx hb dL_isSound_269 (by decide) (fun _ => ?_) (fun h9 => absurd h9 (by decide))
  refine lv_iload hx hb dL_isSound_287 (lv_at hl 0 rfl) ?_
  refine lv_iconst (v := 1) hx hb dL_isSound_289 (by decide) ?_
  refine lv_icmp_ne (tgt := 310) hx hb dL_isSound_290 (by decide) (fun _ => ?_) (fun h9 => absurd h9 (by decide))
  refine lv_iload hx hb dL_isSound_310 (lv_at hl 0 rfl) ?_
  refine lv_bipush (v := 7) hx hb dL_isSound_312 (by decide) ?_
  refine lv_icmp_ne (tgt := 380) hx hb dL_isSound_314 (by decide) (fun _ => ?_) (fun h9 => absurd h9 (by decide))
  refine lv_iload hx hb dL_isSound_380 (lv_at hl 0 rfl) ?_
  refine lv_iconst (v := 3) hx hb dL_isSound_382 (by decide) ?_
  refine lv_icmp_eq (tgt := 392) hx hb dL_isSound_383 (by decide) (fun h9 => absurd h9 (by decide)) (fun _ => ?_)
  refine lv_iload hx hb dL_isSound_386 (lv_at hl 0 rfl) ?_
  refine lv_iconst (v := 4) hx hb dL_isSound_388 (by decide) ?_
  refine lv_icmp_ne (tgt := 419) hx hb dL_isSound_389 (by decide) (fun _ => ?_) (fun h9 => absurd h9 (by decide))
  refine lv_iinc (v := (nI (k + 1))) (lv' := [(7, .int (nI (k + 1))), (8, .int 5), (3, .int f3), (4, .int f4), (5, .int f5), (6, .int f6), (0, .ref (zg S 7 0 0)), (1, .int (nI (zn S))), (2, .int of)]) hx hb dL_isSound_419 hl (k := 5) rfl (nI_1 k) (by decide) rfl (fun ls hl => ?_)
  refine lv_goto (tgt := 14) hx hb dL_isSound_422 (by decide) ?_
  exact kk _ (lv_sub hl [2, 3, 4, 5, 0, 6, 7, 8] rfl)
set_option maxHeartbeats 4000000 in
set_option maxRecDepth 100000 in
theorem y_seg6 {p : Program} {l : Launch} {e : Env} {s : State} {m : MethodId} {args : Array Value} {below : List Frame} {meth : Method} {c : Code} {D : va_G} {yc : Nat → ClassId} {e0 : Nat} {A : Nat → Prop} {S : TS} {Z : Nat × Nat} {F : TF} {G : TG} {q : TQ} {so : Nat → Nat} {k : Nat} (hx : p.tables.exec = Jvm.exec) (hb : c.code = cL_isSound) (hml : c.maxLocals = 10) (hr : meth.sig.returnType = some .boolean) (hlk : meth.locks = false) (hown : s.vm.findClass RL = some m.cls) (hts : ∀ w ∈ lw_all, w.before args s = true) (hW : WT D yc e0 A S Z F G q s.heap) (hS : va_S A s.heap s.heap []) (hA : ∀ a, s.heap.size ≤ a → A a) (hC : CX D yc e0 A s) (hk : k < zn S) (hGS : GS G) (hsn : SNk S so F G q k) {f3 f4 f5 f6 of : Int32} (hso : so k = 6) (kk : ∀ ls, lv_has ls 10 [(3, .int f3), (4, .int f4), (5, .int f5), (6, .int f6), (7, .int (nI (k + 1))), (0, .ref (zg S 7 0 0)), (1, .int (nI (zn S))), (2, .int of)] → W p l e { frames := 9, cells := 0, slots := 0, locals := 190 } s m args below meth c s.heap [] 0 0 (MQ below (zQ (some (.int 1))) args s 0 0 zno) (F0 m 14 ls [])) {ls : Array Slot} (hl : lv_has ls 10 [(8, .int 2), (3, .int f3), (4, .int f4), (5, .int f5), (6, .int f6), (7, .int (nI k)), (0, .ref (zg S 7 0 0)), (1, .int (nI (zn S))), (2, .int of)]) : W p l e { frames := 9, cells := 0, slots := 0, locals := 190 } s m args below meth c s.heap [] 0 0 (MQ below (zQ (some (.int 1))) args s 0 0 zno) (F0 m 197 ls []) := by
  have hK := hC.1
  have hN := hC.2.1
  refine lv_aload_n hx hb dL_isSound_197 rfl (lv_at hl 6 rfl) ?_
  refine lv_iload hx hb dL_isSound_198 (lv_at hl 5 rfl) ?_
  refine zr_i (va_runV (As := [.int (nI k)]) (rest := []) ⟨hx, hb, hml, hown, hts⟩ (k_X10_sortOf l D yc e0 A S Z F G q k hk) (cwV 1 hts (lw_V wq627 wq628 wq629 wq1 wq630) rfl rfl rfl (by decide +kernel) ⟨(Nat.le_of_ble_eq_true rfl), (Nat.le_of_ble_eq_true rfl)⟩) (tp_V hC hW hS hA 7 0 0 dm7 rfl rfl) rfl rfl hl.1 rfl (lv_room (Nat.le_of_ble_eq_true rfl)) dL_isSound_200 ⟨(Nat.le_of_ble_eq_true rfl), (Nat.le_of_ble_eq_true rfl)⟩) ?_
  refine zk_ti (y := F 8 0 k 0) rfl ?_
  refine zk_ti (y := 6) (by rw [hsn.1.1, hso]; rfl) ?_
  refine lv_istore (lv' := [(8, .int 6), (3, .int f3), (4, .int f4), (5, .int f5), (6, .int f6), (7, .int (nI k)), (0, .ref (zg S 7 0 0)), (1, .int (nI (zn S))), (2, .int of)]) hx hb dL_isSound_203 hl (by decide) rfl (fun ls hl => ?_)
  refine lv_iload hx hb dL_isSound_205 (lv_at hl 0 rfl) ?_
  refine lv_if_ne (tgt := 228) hx hb dL_isSound_207 (by decide) (fun _ => ?_) (fun h9 => absurd h9 (by decide))
  refine lv_iload hx hb dL_isSound_228 (lv_at hl 0 rfl) ?_
  refine lv_if_ne (tgt := 259) hx hb dL_isSound_230 (by decide) (fun _ => ?_) (fun h9 => absurd h9 (by decide))
  refine lv_iload hx hb dL_isSound_259 (lv_at hl 0 rfl) ?_
  refine lv_iconst (v := 2) hx hb dL_isSound_261 (by decide) ?_
  refine lv_icmp_eq (tgt := 272) hx hb dL_isSound_262 (by decide) (fun h9 => absurd h9 (by decide)) (fun _ => ?_)
  refine lv_iload hx hb dL_isSound_265 (lv_at hl 0 rfl) ?_
  refine lv_bipush (v := 6) hx hb dL_isSound_267 (by decide) ?_
  refine lv_icmp_ne (tgt := 287) hx hb dL_isSound_269 (by decide) (fun h9 => absurd rfl h9) (fun _ => ?_)
  refine lv_aload_n hx hb dL_isSound_272 rfl (lv_at hl 6 rfl) ?_
  refine lv_iload hx hb dL_isSound_273 (lv_at hl 5 rfl) ?_
  refine zr_i (va_runV (As := [.int (nI k)]) (rest := []) ⟨hx, hb, hml, hown, hts⟩ (k_X10_emitted l D yc e0 A S Z F G q k hk) (cwV 1 hts (lw_V wq1191 wq745 wq746 wq1 wq747) rfl rfl rfl (by decide +kernel) ⟨(Nat.le_of_ble_eq_true rfl), (Nat.le_of_ble_eq_true rfl)⟩) (tp_V hC hW hS hA 7 0 0 dm7 rfl rfl) rfl rfl hl.1 rfl (lv_room (Nat.le_of_ble_eq_true rfl)) dL_isSound_275 ⟨(Nat.le_of_ble_eq_true rfl), (Nat.le_of_ble_eq_true rfl)⟩) ?_
  refine zk_ti (y := F 0 0 (3 * k) 5) rfl ?_
  refine lv_aload_n hx hb dL_isSound_278 rfl (lv_at hl 6 rfl) ?_
  refine lv_iload hx hb dL_isSound_279 (lv_at hl 5 rfl) ?_
  refine zr_i (va_runV (As := [.int (nI k)]) (rest := [.int (F 0 0 (3 * k) 5)]) ⟨hx, hb, hml, hown, hts⟩ (k_X10_taken l D yc e0 A S Z F G q k hk) (cwV 1 hts (lw_V wq635 wq636 wq637 wq1 wq638) rfl rfl rfl (by decide +kernel) ⟨(Nat.le_of_ble_eq_true rfl), (Nat.le_of_ble_eq_true rfl)⟩) (tp_V hC hW hS hA 7 0 0 dm7 rfl rfl) rfl rfl hl.1 rfl (lv_room (Nat.le_of_ble_eq_true rfl)) dL_isSound_281 ⟨(Nat.le_of_ble_eq_true rfl), (Nat.le_of_ble_eq_true rfl)⟩) ?_
  refine zk_ti (y := F 0 0 (3 * k) 4) rfl ?_
  refine lv_icmp_ne (tgt := 308) hx hb dL_isSound_284 (by decide) (fun h9 => absurd (hsn.2.2.2.2.2.2.2.1 (Or.inr hso)) h9) (fun _ => ?_)
  refine lv_iload hx hb dL_isSound_287 (lv_at hl 0 rfl) ?_
  refine lv_iconst (v := 1) hx hb dL_isSound_289 (by decide) ?_
  refine lv_icmp_ne (tgt := 310) hx hb dL_isSound_290 (by decide) (fun _ => ?_) (fun h9 => absurd h9 (by decide))
  refine lv_iload hx hb dL_isSound_310 (lv_at hl 0 rfl) ?_
  refine lv_bipush (v := 7) hx hb dL_isSound_312 (by decide) ?_
  refine lv_icmp_ne (tgt := 380) hx hb dL_isSound_314 (by decide) (fun _ => ?_) (fun h9 => absurd h9 (by decide))
  refine lv_iload hx hb dL_isSound_380 (lv_at hl 0 rfl) ?_
  refine lv_iconst (v := 3) hx hb dL_isSound_382 (by decide) ?_
  refine lv_icmp_eq (tgt := 392) hx hb dL_isSound_383 (by decide) (fun h9 => absurd h9 (by decide)) (fun _ => ?_)
  refine lv_iload hx hb dL_isSound_386 (lv_at hl 0 rfl) ?_
  refine lv_iconst (v := 4) hx hb dL_isSound_388 (by decide) ?_
  refine lv_icmp_ne (tgt := 419) hx hb dL_isSound_389 (by decide) (fun _ => ?_) (fun h9 => absurd h9 (by decide))
  refine lv_iinc (v := (nI (k + 1))) (lv' := [(7, .int (nI (k + 1))), (8, .int 6), (3, .int f3), (4, .int f4), (5, .int f5), (6, .int f6), (0, .ref (zg S 7 0 0)), (1, .int (nI (zn S))), (2, .int of)]) hx hb dL_isSound_419 hl (k := 5) rfl (nI_1 k) (by decide) rfl (fun ls hl => ?_)
  refine lv_goto (tgt := 14) hx hb dL_isSound_422 (by decide) ?_
  exact kk _ (lv_sub hl [2, 3, 4, 5, 0, 6, 7, 8] rfl)
set_option maxHeartbeats 4000000 in
set_option maxRecDepth 100000 in
theorem y_seg7 {p : Program} {l : Launch} {e : Env} {s : State} {m : MethodId} {args : Array Value} {below : List Frame} {meth : Method} {c : Code} {D : va_G} {yc : Nat → ClassId} {e0 : Nat} {A : Nat → Prop} {S : TS} {Z : Nat × Nat} {F : TF} {G : TG} {q : TQ} {so : Nat → Nat} {k : Nat} (hx : p.tables.exec = Jvm.exec) (hb : c.code = cL_isSound) (hml : c.maxLocals = 10) (hr : meth.sig.returnType = some .boolean) (hlk : meth.locks = false) (hown : s.vm.findClass RL = some m.cls) (hts : ∀ w ∈ lw_all, w.before args s = true) (hW : WT D yc e0 A S Z F G q s.heap) (hS : va_S A s.heap s.heap []) (hA : ∀ a, s.heap.size ≤ a → A a) (hC : CX D yc e0 A s) (hk : k < zn S) (hGS : GS G) (hsn : SNk S so F G q k) {f3 f4 f5 f6 of : Int32} (hso : so k = 7) (kk : ∀ ls, lv_has ls 10 [(3, .int f3), (4, .int f4), (5, .int f5), (6, .int f6), (7, .int (nI (k + 1))), (0, .ref (zg S 7 0 0)), (1, .int (nI (zn S))), (2, .int of)] → W p l e { frames := 9, cells := 0, slots := 0, locals := 190 } s m args below meth c s.heap [] 0 0 (MQ below (zQ (some (.int 1))) args s 0 0 zno) (F0 m 14 ls [])) {ls : Array Slot} (hl : lv_has ls 10 [(8, .int 2), (3, .int f3), (4, .int f4), (5, .int f5), (6, .int f6), (7, .int (nI k)), (0, .ref (zg S 7 0 0)), (1, .int (nI (zn S))), (2, .int of)]) : W p l e { frames := 9, cells := 0, slots := 0, locals := 190 } s m args below meth c s.heap [] 0 0 (MQ below (zQ (some (.int 1))) args s 0 0 zno) (F0 m 197 ls []) := by
  have hK := hC.1
  have hN := hC.2.1
  refine lv_aload_n hx hb dL_isSound_197 rfl (lv_at hl 6 rfl) ?_
  refine lv_iload hx hb dL_isSound_198 (lv_at hl 5 rfl) ?_
  refine zr_i (va_runV (As := [.int (nI k)]) (rest := []) ⟨hx, hb, hml, hown, hts⟩ (k_X10_sortOf l D yc e0 A S Z F G q k hk) (cwV 1 hts (lw_V wq627 wq628 wq629 wq1 wq630) rfl rfl rfl (by decide +kernel) ⟨(Nat.le_of_ble_eq_true rfl), (Nat.le_of_ble_eq_true rfl)⟩) (tp_V hC hW hS hA 7 0 0 dm7 rfl rfl) rfl rfl hl.1 rfl (lv_room (Nat.le_of_ble_eq_true rfl)) dL_isSound_200 ⟨(Nat.le_of_ble_eq_true rfl), (Nat.le_of_ble_eq_true rfl)⟩) ?_
  refine zk_ti (y := F 8 0 k 0) rfl ?_
  refine zk_ti (y := 7) (by rw [hsn.1.1, hso]; rfl) ?_
  refine lv_istore (lv' := [(8, .int 7), (3, .int f3), (4, .int f4), (5, .int f5), (6, .int f6), (7, .int (nI k)), (0, .ref (zg S 7 0 0)), (1, .int (nI (zn S))), (2, .int of)]) hx hb dL_isSound_203 hl (by decide) rfl (fun ls hl => ?_)
  refine lv_iload hx hb dL_isSound_205 (lv_at hl 0 rfl) ?_
  refine lv_if_ne (tgt := 228) hx hb dL_isSound_207 (by decide) (fun _ => ?_) (fun h9 => absurd h9 (by decide))
  refine lv_iload hx hb dL_isSound_228 (lv_at hl 0 rfl) ?_
  refine lv_if_ne (tgt := 259) hx hb dL_isSound_230 (by decide) (fun _ => ?_) (fun h9 => absurd h9 (by decide))
  refine lv_iload hx hb dL_isSound_259 (lv_at hl 0 rfl) ?_
  refine lv_iconst (v := 2) hx hb dL_isSound_261 (by decide) ?_
  refine lv_icmp_eq (tgt := 272) hx hb dL_isSound_262 (by decide) (fun h9 => absurd h9 (by decide)) (fun _ => ?_)
  refine lv_iload hx hb dL_isSound_265 (lv_at hl 0 rfl) ?_
  refine lv_bipush (v := 6) hx hb dL_isSound_267 (by decide) ?_
  refine lv_icmp_ne (tgt := 287) hx hb dL_isSound_269 (by decide) (fun _ => ?_) (fun h9 => absurd h9 (by decide))
  refine lv_iload hx hb dL_isSound_287 (lv_at hl 0 rfl) ?_
  refine lv_iconst (v := 1) hx hb dL_isSound_289 (by decide) ?_
  refine lv_icmp_ne (tgt := 310) hx hb dL_isSound_290 (by decide) (fun _ => ?_) (fun h9 => absurd h9 (by decide))
  refine lv_iload hx hb dL_isSound_310 (lv_at hl 0 rfl) ?_
  refine lv_bipush (v := 7) hx hb dL_isSound_312 (by decide) ?_
  refine lv_icmp_ne (tgt := 380) hx hb dL_isSound_314 (by decide) (fun h9 => absurd rfl h9) (fun _ => ?_)
  refine lv_aload_n hx hb dL_isSound_317 rfl (lv_at hl 6 rfl) ?_
  refine lv_iload hx hb dL_isSound_318 (lv_at hl 5 rfl) ?_
  refine zr_i (va_runV (As := [.int (nI k)]) (rest := []) ⟨hx, hb, hml, hown, hts⟩ (k_X10_outputs l D yc e0 A S Z F G q k hk (by rw [hsn.1.1, hso]; rfl)) (cwV 1 hts (lw_V wq658 wq659 wq660 wq1 wq661) rfl rfl rfl (by decide +kernel) ⟨(Nat.le_of_ble_eq_true rfl), (Nat.le_of_ble_eq_true rfl)⟩) (tp_V hC hW hS hA 7 0 0 dm7 rfl rfl) rfl rfl hl.1 rfl (lv_room (Nat.le_of_ble_eq_true rfl)) dL_isSound_320 ⟨(Nat.le_of_ble_eq_true rfl), (Nat.le_of_ble_eq_true rfl)⟩) ?_
  refine zk_ti (y := F 0 0 (3 * k) 7) rfl ?_
  refine lv_aload_n hx hb dL_isSound_323 rfl (lv_at hl 6 rfl) ?_
  refine lv_iload hx hb dL_isSound_324 (lv_at hl 5 rfl) ?_
  refine zr_i (va_runV (As := [.int (nI k)]) (rest := [.int (F 0 0 (3 * k) 7)]) ⟨hx, hb, hml, hown, hts⟩ (k_X10_taken l D yc e0 A S Z F G q k hk) (cwV 1 hts (lw_V wq635 wq636 wq637 wq1 wq638) rfl rfl rfl (by decide +kernel) ⟨(Nat.le_of_ble_eq_true rfl), (Nat.le_of_ble_eq_true rfl)⟩) (tp_V hC hW hS hA 7 0 0 dm7 rfl rfl) rfl rfl hl.1 rfl (lv_room (Nat.le_of_ble_eq_true rfl)) dL_isSound_326 ⟨(Nat.le_of_ble_eq_true rfl), (Nat.le_of_ble_eq_true rfl)⟩) ?_
  refine zk_ti (y := F 0 0 (3 * k) 4) rfl ?_
  refine lv_icmp_ne (tgt := 378) hx hb dL_isSound_329 (by decide) (fun h9 => absurd (hsn.2.2.2.2.2.2.2.2.2.1 hso).1 h9) (fun _ => ?_)
  refine lv_aload_n hx hb dL_isSound_332 rfl (lv_at hl 6 rfl) ?_
  refine lv_iload hx hb dL_isSound_333 (lv_at hl 5 rfl) ?_
  refine zr_i (va_runV (As := [.int (nI k)]) (rest := []) ⟨hx, hb, hml, hown, hts⟩ (k_X10_committed l D yc e0 A S Z F G q k hk (by rw [hsn.1.1, hso]; rfl) (by rcases hGS 0 k with h | h <;> omega)) (cwV 1 hts (lw_V wq666 wq667 wq668 wq1 wq669) rfl rfl rfl (by decide +kernel) ⟨(Nat.le_of_ble_eq_true rfl), (Nat.le_of_ble_eq_true rfl)⟩) (tp_V hC hW hS hA 7 0 0 dm7 rfl rfl) rfl rfl hl.1 rfl (lv_room (Nat.le_of_ble_eq_true rfl)) dL_isSound_335 ⟨(Nat.le_of_ble_eq_true rfl), (Nat.le_of_ble_eq_true rfl)⟩) ?_
  refine zk_ti (y := F 0 0 (3 * k + (G 0 k).1) 7) rfl ?_
  refine lv_aload_n hx hb dL_isSound_338 rfl (lv_at hl 6 rfl) ?_
  refine lv_iload hx hb dL_isSound_339 (lv_at hl 5 rfl) ?_
  refine zr_i (va_runV (As := [.int (nI k)]) (rest := [.int (F 0 0 (3 * k + (G 0 k).1) 7)]) ⟨hx, hb, hml, hown, hts⟩ (k_X10_outputs l D yc e0 A S Z F G q k hk (by rw [hsn.1.1, hso]; rfl)) (cwV 1 hts (lw_V wq658 wq659 wq660 wq1 wq661) rfl rfl rfl (by decide +kernel) ⟨(Nat.le_of_ble_eq_true rfl), (Nat.le_of_ble_eq_true rfl)⟩) (tp_V hC hW hS hA 7 0 0 dm7 rfl rfl) rfl rfl hl.1 rfl (lv_room (Nat.le_of_ble_eq_true rfl)) dL_isSound_341 ⟨(Nat.le_of_ble_eq_true rfl), (Nat.le_of_ble_eq_true rfl)⟩) ?_
  refine zk_ti (y := F 0 0 (3 * k) 7) rfl ?_
  refine lv_icmp_gt (tgt := 378) hx hb dL_isSound_344 (by decide) (fun h9 => absurd h9 (hsn.2.2.2.2.2.2.2.2.2.1 hso).2.1) (fun _ => ?_)
  refine lv_aload_n hx hb dL_isSound_347 rfl (lv_at hl 6 rfl) ?_
  refine lv_iload hx hb dL_isSound_348 (lv_at hl 5 rfl) ?_
  refine zr_i (va_runV (As := [.int (nI k)]) (rest := []) ⟨hx, hb, hml, hown, hts⟩ (k_X10_emitted l D yc e0 A S Z F G q k hk) (cwV 1 hts (lw_V wq1191 wq745 wq746 wq1 wq747) rfl rfl rfl (by decide +kernel) ⟨(Nat.le_of_ble_eq_true rfl), (Nat.le_of_ble_eq_true rfl)⟩) (tp_V hC hW hS hA 7 0 0 dm7 rfl rfl) rfl rfl hl.1 rfl (lv_room (Nat.le_of_ble_eq_true rfl)) dL_isSound_350 ⟨(Nat.le_of_ble_eq_true rfl), (Nat.le_of_ble_eq_true rfl)⟩) ?_
  refine zk_ti (y := F 0 0 (3 * k) 5) rfl ?_
  refine lv_if_ne (tgt := 378) hx hb dL_isSound_353 (by decide) (fun h9 => absurd (hsn.2.2.2.2.2.2.2.2.2.1 hso).2.2.1 h9) (fun _ => ?_)
  refine lv_aload_n hx hb dL_isSound_356 rfl (lv_at hl 6 rfl) ?_
  refine lv_iload hx hb dL_isSound_357 (lv_at hl 5 rfl) ?_
  refine zr_i (va_runV (As := [.int (nI k)]) (rest := []) ⟨hx, hb, hml, hown, hts⟩ (k_X10_wouldLose l D yc e0 A S Z F G q k hk (by rw [hsn.1.1, hso]; rfl) (by rcases hGS 0 k with h | h <;> omega)) (cwV 1 hts (lw_V wq704 wq705 wq706 wq1 wq707) rfl rfl rfl (by decide +kernel) ⟨(Nat.le_of_ble_eq_true rfl), (Nat.le_of_ble_eq_true rfl)⟩) (tp_V hC hW hS hA 7 0 0 dm7 rfl rfl) rfl rfl hl.1 rfl (lv_room (Nat.le_of_ble_eq_true rfl)) dL_isSound_359 ⟨(Nat.le_of_ble_eq_true rfl), (Nat.le_of_ble_eq_true rfl)⟩) ?_
  refine lv_aload_n hx hb dL_isSound_362 rfl (lv_at hl 6 rfl) ?_
  refine lv_iload hx hb dL_isSound_363 (lv_at hl 5 rfl) ?_
  refine zr_i (va_runV (As := [.int (nI k)]) (rest := [.int (v_X10_wouldLose S F G q k)]) ⟨hx, hb, hml, hown, hts⟩ (k_X10_outputs l D yc e0 A S Z F G q k hk (by rw [hsn.1.1, hso]; rfl)) (cwV 1 hts (lw_V wq658 wq659 wq660 wq1 wq661) rfl rfl rfl (by decide +kernel) ⟨(Nat.le_of_ble_eq_true rfl), (Nat.le_of_ble_eq_true rfl)⟩) (tp_V hC hW hS hA 7 0 0 dm7 rfl rfl) rfl rfl hl.1 rfl (lv_room (Nat.le_of_ble_eq_true rfl)) dL_isSound_365 ⟨(Nat.le_of_ble_eq_true rfl), (Nat.le_of_ble_eq_true rfl)⟩) ?_
  refine zk_ti (y := F 0 0 (3 * k) 7) rfl ?_
  refine lv_aload_n hx hb dL_isSound_368 rfl (lv_at hl 6 rfl) ?_
  refine lv_iload hx hb dL_isSound_369 (lv_at hl 5 rfl) ?_
  refine zr_i (va_runV (As := [.int (nI k)]) (rest := [.int (F 0 0 (3 * k) 7), .int (v_X10_wouldLose S F G q k)]) ⟨hx, hb, hml, hown, hts⟩ (k_X10_committed l D yc e0 A S Z F G q k hk (by rw [hsn.1.1, hso]; rfl) (by rcases hGS 0 k with h | h <;> omega)) (cwV 1 hts (lw_V wq666 wq667 wq668 wq1 wq669) rfl rfl rfl (by decide +kernel) ⟨(Nat.le_of_ble_eq_true rfl), (Nat.le_of_ble_eq_true rfl)⟩) (tp_V hC hW hS hA 7 0 0 dm7 rfl rfl) rfl rfl hl.1 rfl (lv_room (Nat.le_of_ble_eq_true rfl)) dL_isSound_371 ⟨(Nat.le_of_ble_eq_true rfl), (Nat.le_of_ble_eq_true rfl)⟩) ?_
  refine zk_ti (y := F 0 0 (3 * k + (G 0 k).1) 7) rfl ?_
  refine lv_isub hx hb dL_isSound_374 ?_
  refine lv_icmp_eq (tgt := 380) hx hb dL_isSound_375 (by decide) (fun _ => ?_) (fun h9 => absurd (hsn.2.2.2.2.2.2.2.2.2.1 hso).2.2.2 h9)
  refine lv_iload hx hb dL_isSound_380 (lv_at hl 0 rfl) ?_
  refine lv_iconst (v := 3) hx hb dL_isSound_382 (by decide) ?_
  refine lv_icmp_eq (tgt := 392) hx hb dL_isSound_383 (by decide) (fun h9 => absurd h9 (by decide)) (fun _ => ?_)
  refine lv_iload hx hb dL_isSound_386 (lv_at hl 0 rfl) ?_
  refine lv_iconst (v := 4) hx hb dL_isSound_388 (by decide) ?_
  refine lv_icmp_ne (tgt := 419) hx hb dL_isSound_389 (by decide) (fun _ => ?_) (fun h9 => absurd h9 (by decide))
  refine lv_iinc (v := (nI (k + 1))) (lv' := [(7, .int (nI (k + 1))), (8, .int 7), (3, .int f3), (4, .int f4), (5, .int f5), (6, .int f6), (0, .ref (zg S 7 0 0)), (1, .int (nI (zn S))), (2, .int of)]) hx hb dL_isSound_419 hl (k := 5) rfl (nI_1 k) (by decide) rfl (fun ls hl => ?_)
  refine lv_goto (tgt := 14) hx hb dL_isSound_422 (by decide) ?_
  exact kk _ (lv_sub hl [2, 3, 4, 5, 0, 6, 7, 8] rfl)
set_option maxHeartbeats 4000000 in
set_option maxRecDepth 100000 in
theorem y_both0 {p : Program} {l : Launch} {e : Env} {s : State} {m : MethodId} {args : Array Value} {below : List Frame} {meth : Method} {c : Code} {D : va_G} {yc : Nat → ClassId} {e0 : Nat} {A : Nat → Prop} {S : TS} {Z : Nat × Nat} {F : TF} {G : TG} {q : TQ} {so : Nat → Nat} {k : Nat} (hx : p.tables.exec = Jvm.exec) (hb : c.code = cL_isSound) (hml : c.maxLocals = 10) (hr : meth.sig.returnType = some .boolean) (hlk : meth.locks = false) (hown : s.vm.findClass RL = some m.cls) (hts : ∀ w ∈ lw_all, w.before args s = true) (hW : WT D yc e0 A S Z F G q s.heap) (hS : va_S A s.heap s.heap []) (hA : ∀ a, s.heap.size ≤ a → A a) (hC : CX D yc e0 A s) (hk : k < zn S) (hGS : GS G) (hsn : SNk S so F G q k) {of : Int32} (kk : ∀ ls, lv_has ls 10 [(8, .int 1), (3, .int (fly S F G q k + TT S F G q 0 k)), (4, .int (nI (zsm (cin S) k + (if (zp S 0 k).isSome = true then 1 else 0)))), (5, .int (nI (alf so q k))), (6, .int (rdy S F G q k)), (7, .int (nI k)), (0, .ref (zg S 7 0 0)), (1, .int (nI (zn S))), (2, .int of)] → W p l e { frames := 9, cells := 0, slots := 0, locals := 190 } s m args below meth c s.heap [] 0 0 (MQ below (zQ (some (.int 1))) args s 0 0 zno) (F0 m 23 ls [])) {ls : Array Slot} (hl : lv_has ls 10 [(8, .int 0), (3, .int (fly S F G q k)), (4, .int (nI (zsm (cin S) k))), (5, .int (nI (alf so q k))), (6, .int (rdy S F G q k)), (7, .int (nI k)), (0, .ref (zg S 7 0 0)), (1, .int (nI (zn S))), (2, .int of)]) : W p l e { frames := 9, cells := 0, slots := 0, locals := 190 } s m args below meth c s.heap [] 0 0 (MQ below (zQ (some (.int 1))) args s 0 0 zno) (F0 m 23 ls []) := by
  by_cases h : (zp S 0 k).isSome = true
  · obtain ⟨L, hL, e⟩ := hsn.2.1 0 (by decide) h
    have e3 : TT S F G q 0 k = nI L := by unfold TT; rw [if_pos h]; exact e
    have e5 : nI ((zsm (cin S) k) + (if (zp S 0 k).isSome = true then 1 else 0)) = nI (zsm (cin S) k) + 1 := by rw [if_pos h]; exact (nI_1 _).symm
    exact y_side01 hx hb hml hr hlk hown hts hW hS hA hC hk hGS hsn hL (by unfold v_X10_queued0; rw [if_pos h]; exact e) (fun ls hl => kk ls (by rw [e3, e5]; exact hl)) hl
  · have e3 : TT S F G q 0 k = 0 := by unfold TT; rw [if_neg h]
    have e5 : nI ((zsm (cin S) k) + (if (zp S 0 k).isSome = true then 1 else 0)) = nI (zsm (cin S) k) + 0 := by rw [if_neg h, Nat.add_zero, Int32.add_zero]
    exact y_side00 hx hb hml hr hlk hown hts hW hS hA hC hk hGS hsn (by unfold v_X10_queued0; rw [if_neg h]) (Classical.byContradiction fun h9 => h (bl0.mp h9).1) (fun ls hl => kk ls (by rw [e3, e5]; exact hl)) hl
set_option maxHeartbeats 4000000 in
set_option maxRecDepth 100000 in
theorem y_both1 {p : Program} {l : Launch} {e : Env} {s : State} {m : MethodId} {args : Array Value} {below : List Frame} {meth : Method} {c : Code} {D : va_G} {yc : Nat → ClassId} {e0 : Nat} {A : Nat → Prop} {S : TS} {Z : Nat × Nat} {F : TF} {G : TG} {q : TQ} {so : Nat → Nat} {k : Nat} (hx : p.tables.exec = Jvm.exec) (hb : c.code = cL_isSound) (hml : c.maxLocals = 10) (hr : meth.sig.returnType = some .boolean) (hlk : meth.locks = false) (hown : s.vm.findClass RL = some m.cls) (hts : ∀ w ∈ lw_all, w.before args s = true) (hW : WT D yc e0 A S Z F G q s.heap) (hS : va_S A s.heap s.heap []) (hA : ∀ a, s.heap.size ≤ a → A a) (hC : CX D yc e0 A s) (hk : k < zn S) (hGS : GS G) (hsn : SNk S so F G q k) {of : Int32} (kk : ∀ ls, lv_has ls 10 [(8, .int 2), (3, .int (fly S F G q k + TT S F G q 0 k + TT S F G q 1 k)), (4, .int (nI (zsm (cin S) k + (if (zp S 0 k).isSome = true then 1 else 0) + (if (zp S 1 k).isSome = true then 1 else 0)))), (5, .int (nI (alf so q k))), (6, .int (rdy S F G q k)), (7, .int (nI k)), (0, .ref (zg S 7 0 0)), (1, .int (nI (zn S))), (2, .int of)] → W p l e { frames := 9, cells := 0, slots := 0, locals := 190 } s m args below meth c s.heap [] 0 0 (MQ below (zQ (some (.int 1))) args s 0 0 zno) (F0 m 23 ls [])) {ls : Array Slot} (hl : lv_has ls 10 [(8, .int 1), (3, .int (fly S F G q k + TT S F G q 0 k)), (4, .int (nI (zsm (cin S) k + (if (zp S 0 k).isSome = true then 1 else 0)))), (5, .int (nI (alf so q k))), (6, .int (rdy S F G q k)), (7, .int (nI k)), (0, .ref (zg S 7 0 0)), (1, .int (nI (zn S))), (2, .int of)]) : W p l e { frames := 9, cells := 0, slots := 0, locals := 190 } s m args below meth c s.heap [] 0 0 (MQ below (zQ (some (.int 1))) args s 0 0 zno) (F0 m 23 ls []) := by
  by_cases h : (zp S 1 k).isSome = true
  · obtain ⟨L, hL, e⟩ := hsn.2.1 1 (by decide) h
    have e3 : TT S F G q 1 k = nI L := by unfold TT; rw [if_pos h]; exact e
    have e5 : nI ((zsm (cin S) k + (if (zp S 0 k).isSome = true then 1 else 0)) + (if (zp S 1 k).isSome = true then 1 else 0)) = nI (zsm (cin S) k + (if (zp S 0 k).isSome = true then 1 else 0)) + 1 := by rw [if_pos h]; exact (nI_1 _).symm
    exact y_side11 hx hb hml hr hlk hown hts hW hS hA hC hk hGS hsn hL (by unfold v_X10_queued1; rw [if_pos h]; exact e) (fun ls hl => kk ls (by rw [e3, e5]; exact hl)) hl
  · have e3 : TT S F G q 1 k = 0 := by unfold TT; rw [if_neg h]
    have e5 : nI ((zsm (cin S) k + (if (zp S 0 k).isSome = true then 1 else 0)) + (if (zp S 1 k).isSome = true then 1 else 0)) = nI (zsm (cin S) k + (if (zp S 0 k).isSome = true then 1 else 0)) + 0 := by rw [if_neg h, Nat.add_zero, Int32.add_zero]
    exact y_side10 hx hb hml hr hlk hown hts hW hS hA hC hk hGS hsn (by unfold v_X10_queued1; rw [if_neg h]) (Classical.byContradiction fun h9 => h (bl1.mp h9).1) (fun ls hl => kk ls (by rw [e3, e5]; exact hl)) hl
set_option maxHeartbeats 4000000 in
set_option maxRecDepth 100000 in
theorem y_stg {p : Program} {l : Launch} {e : Env} {s : State} {m : MethodId} {args : Array Value} {below : List Frame} {meth : Method} {c : Code} {D : va_G} {yc : Nat → ClassId} {e0 : Nat} {A : Nat → Prop} {S : TS} {Z : Nat × Nat} {F : TF} {G : TG} {q : TQ} {so : Nat → Nat} {k : Nat} (hx : p.tables.exec = Jvm.exec) (hb : c.code = cL_isSound) (hml : c.maxLocals = 10) (hr : meth.sig.returnType = some .boolean) (hlk : meth.locks = false) (hown : s.vm.findClass RL = some m.cls) (hts : ∀ w ∈ lw_all, w.before args s = true) (hW : WT D yc e0 A S Z F G q s.heap) (hS : va_S A s.heap s.heap []) (hA : ∀ a, s.heap.size ≤ a → A a) (hC : CX D yc e0 A s) (hk : k < zn S) (hGS : GS G) (hsn : SNk S so F G q k) {of : Int32} (kk : ∀ ls, lv_has ls 10 [(3, .int (fly S F G q (k + 1))), (4, .int (nI (zsm (cin S) (k + 1)))), (5, .int (nI (alf so q (k + 1)))), (6, .int (rdy S F G q (k + 1))), (7, .int (nI (k + 1))), (0, .ref (zg S 7 0 0)), (1, .int (nI (zn S))), (2, .int of)] → W p l e { frames := 9, cells := 0, slots := 0, locals := 190 } s m args below meth c s.heap [] 0 0 (MQ below (zQ (some (.int 1))) args s 0 0 zno) (F0 m 14 ls [])) {ls : Array Slot} (hl : lv_has ls 10 [(3, .int (fly S F G q k)), (4, .int (nI (zsm (cin S) k))), (5, .int (nI (alf so q k))), (6, .int (rdy S F G q k)), (7, .int (nI k)), (0, .ref (zg S 7 0 0)), (1, .int (nI (zn S))), (2, .int of)]) : W p l e { frames := 9, cells := 0, slots := 0, locals := 190 } s m args below meth c s.heap [] 0 0 (MQ below (zQ (some (.int 1))) args s 0 0 zno) (F0 m 20 ls []) := by
  refine lv_iconst (v := 0) hx hb dL_isSound_20 (by decide) ?_
  refine lv_istore (lv' := [(8, .int 0), (3, .int (fly S F G q k)), (4, .int (nI (zsm (cin S) k))), (5, .int (nI (alf so q k))), (6, .int (rdy S F G q k)), (7, .int (nI k)), (0, .ref (zg S 7 0 0)), (1, .int (nI (zn S))), (2, .int of)]) hx hb dL_isSound_21 hl (by decide) rfl (fun ls hl => ?_)
  refine y_both0 hx hb hml hr hlk hown hts hW hS hA hC hk hGS hsn (fun ls hl => ?_) hl
  refine y_both1 hx hb hml hr hlk hown hts hW hS hA hC hk hGS hsn (fun ls hl => ?_) hl
  refine y_segB hx hb hml hr hlk hown hts hW hS hA hC hk hGS hsn (fun ls hl => ?_) hl
  refine y_segC hx hb hml hr hlk hown hts hW hS hA hC hk hGS hsn (fun ls hl => ?_) hl
  refine y_segC2 hx hb hml hr hlk hown hts hW hS hA hC hk hGS hsn (fun ls hl => ?_) hl
  have ec : zsm (cin S) k + (if (zp S 0 k).isSome = true then 1 else 0) + (if (zp S 1 k).isSome = true then 1 else 0) = zsm (cin S) (k + 1) := Nat.add_assoc _ _ _
  rw [ec] at hl
  have h8 := hsn.1.2
  have el : ∀ x, (if so k = 0 then (q (rl k)).2.length else 0) = x → alf so q (k + 1) = alf so q k + x := fun x h => by rw [← h]; rfl
  rcases (show so k = 0 ∨ so k = 1 ∨ so k = 2 ∨ so k = 3 ∨ so k = 4 ∨ so k = 5 ∨ so k = 6 ∨ so k = 7 by omega) with h | h | h | h | h | h | h | h
  · exact y_seg0 hx hb hml hr hlk hown hts hW hS hA hC hk hGS hsn h (fun ls hl => kk ls (by rw [el _ (if_pos h), ← nI_add]; exact hl)) hl
  · exact y_seg1 hx hb hml hr hlk hown hts hW hS hA hC hk hGS hsn h (fun ls hl => kk ls (by rw [el 0 (if_neg (by omega)), Nat.add_zero]; exact hl)) hl
  · exact y_seg2 hx hb hml hr hlk hown hts hW hS hA hC hk hGS hsn h (fun ls hl => kk ls (by rw [el 0 (if_neg (by omega)), Nat.add_zero]; exact hl)) hl
  · exact y_seg3 hx hb hml hr hlk hown hts hW hS hA hC hk hGS hsn h (fun ls hl => kk ls (by rw [el 0 (if_neg (by omega)), Nat.add_zero]; exact hl)) hl
  · exact y_seg4 hx hb hml hr hlk hown hts hW hS hA hC hk hGS hsn h (fun ls hl => kk ls (by rw [el 0 (if_neg (by omega)), Nat.add_zero]; exact hl)) hl
  · exact y_seg5 hx hb hml hr hlk hown hts hW hS hA hC hk hGS hsn h (fun ls hl => kk ls (by rw [el 0 (if_neg (by omega)), Nat.add_zero]; exact hl)) hl
  · exact y_seg6 hx hb hml hr hlk hown hts hW hS hA hC hk hGS hsn h (fun ls hl => kk ls (by rw [el 0 (if_neg (by omega)), Nat.add_zero]; exact hl)) hl
  · exact y_seg7 hx hb hml hr hlk hown hts hW hS hA hC hk hGS hsn h (fun ls hl => kk ls (by rw [el 0 (if_neg (by omega)), Nat.add_zero]; exact hl)) hl
set_option maxHeartbeats 4000000 in
set_option maxRecDepth 100000 in
theorem y_sloop {p : Program} {l : Launch} {e : Env} {s : State} {m : MethodId} {args : Array Value} {below : List Frame} {meth : Method} {c : Code} {D : va_G} {yc : Nat → ClassId} {e0 : Nat} {A : Nat → Prop} {S : TS} {Z : Nat × Nat} {F : TF} {G : TG} {q : TQ} {so : Nat → Nat} (hx : p.tables.exec = Jvm.exec) (hb : c.code = cL_isSound) (hml : c.maxLocals = 10) (hr : meth.sig.returnType = some .boolean) (hlk : meth.locks = false) (hown : s.vm.findClass RL = some m.cls) (hts : ∀ w ∈ lw_all, w.before args s = true) (hW : WT D yc e0 A S Z F G q s.heap) (hS : va_S A s.heap s.heap []) (hA : ∀ a, s.heap.size ≤ a → A a) (hC : CX D yc e0 A s) (hGS : GS G) {of : Int32} (hn12 : zn S < 2 ^ 31) (hall : ∀ k, k < zn S → SNk S so F G q k) (kk : ∀ ls, lv_has ls 10 [(3, .int (fly S F G q (zn S))), (4, .int (nI (zsm (cin S) (zn S)))), (5, .int (nI (alf so q (zn S)))), (6, .int (rdy S F G q (zn S))), (7, .int (nI (zn S))), (0, .ref (zg S 7 0 0)), (1, .int (nI (zn S))), (2, .int of)] → W p l e { frames := 9, cells := 0, slots := 0, locals := 190 } s m args below meth c s.heap [] 0 0 (MQ below (zQ (some (.int 1))) args s 0 0 zno) (F0 m 425 ls [])) : ∀ (j k : Nat), k + j = zn S → ∀ {ls : Array Slot}, lv_has ls 10 [(3, .int (fly S F G q k)), (4, .int (nI (zsm (cin S) k))), (5, .int (nI (alf so q k))), (6, .int (rdy S F G q k)), (7, .int (nI k)), (0, .ref (zg S 7 0 0)), (1, .int (nI (zn S))), (2, .int of)] → W p l e { frames := 9, cells := 0, slots := 0, locals := 190 } s m args below meth c s.heap [] 0 0 (MQ below (zQ (some (.int 1))) args s 0 0 zno) (F0 m 14 ls [])
  | 0, k, hj, ls, hl => by
    have hj : k = zn S := hj
    subst hj
    refine lv_iload hx hb dL_isSound_14 (lv_at hl 4 rfl) ?_
    refine lv_iload_n hx hb dL_isSound_16 rfl (lv_at hl 6 rfl) ?_
    refine lv_icmp_ge (tgt := 425) hx hb dL_isSound_17 (by decide) (fun _ => kk _ hl) (fun h9 => absurd (nI_le (Nat.le_refl _) hn12) h9)
  | j + 1, k, hj, ls, hl => by
    have hk : k < zn S := by omega
    refine lv_iload hx hb dL_isSound_14 (lv_at hl 4 rfl) ?_
    refine lv_iload_n hx hb dL_isSound_16 rfl (lv_at hl 6 rfl) ?_
    refine lv_icmp_ge (tgt := 425) hx hb dL_isSound_17 (by decide) (fun h9 => absurd h9 (nI_ge hk hn12)) (fun _ => ?_)
    have hsn := hall k hk
    exact y_stg hx hb hml hr hlk hown hts hW hS hA hC hk hGS hsn (fun ls hl => y_sloop hx hb hml hr hlk hown hts hW hS hA hC hGS hn12 hall kk j (k + 1) (by omega) hl) hl
set_option maxHeartbeats 4000000 in
set_option maxRecDepth 100000 in
theorem y_mean {p : Program} {l : Launch} {e : Env} {s : State} {m : MethodId} {args : Array Value} {below : List Frame} {meth : Method} {c : Code} {D : va_G} {yc : Nat → ClassId} {e0 : Nat} {A : Nat → Prop} {S : TS} {Z : Nat × Nat} {F : TF} {G : TG} {q : TQ} {so : Nat → Nat} (hx : p.tables.exec = Jvm.exec) (hb : c.code = cL_isSound) (hml : c.maxLocals = 10) (hr : meth.sig.returnType = some .boolean) (hlk : meth.locks = false) (hown : s.vm.findClass RL = some m.cls) (hts : ∀ w ∈ lw_all, w.before args s = true) (hW : WT D yc e0 A S Z F G q s.heap) (hS : va_S A s.heap s.heap []) (hA : ∀ a, s.heap.size ≤ a → A a) (hC : CX D yc e0 A s) (hGS : GS G) {of : Int32} (hfl : v_X10_inFlight S F G q = fly S F G q (zn S)) (hch : v_X2_channels S F G q 0 = nI (zsm (cin S) (zn S))) {ls : Array Slot} (hl : lv_has ls 10 [(3, .int (fly S F G q (zn S))), (4, .int (nI (zsm (cin S) (zn S)))), (5, .int (nI (alf so q (zn S)))), (6, .int (rdy S F G q (zn S))), (7, .int (nI (zn S))), (0, .ref (zg S 7 0 0)), (1, .int (nI (zn S))), (2, .int of)]) : W p l e { frames := 9, cells := 0, slots := 0, locals := 190 } s m args below meth c s.heap [] 0 0 (MQ below (zQ (some (.int 1))) args s 0 0 zno) (F0 m 474 ls []) := by
  refine lv_aload_n hx hb dL_isSound_474 rfl (lv_at hl 5 rfl) ?_
  refine zr_d (va_runV (As := []) (rest := []) ⟨hx, hb, hml, hown, hts⟩ (k_X10_meanQueue l D yc e0 A S Z F G q) (cwV 0 hts (lw_V wq1197 wq1198 wq1199 wq1 wq1200) rfl rfl rfl (by decide +kernel) ⟨(Nat.le_of_ble_eq_true rfl), (Nat.le_of_ble_eq_true rfl)⟩) (tp_V hC hW hS hA 7 0 0 dm7 rfl rfl) rfl rfl hl.1 rfl (lv_room (Nat.le_of_ble_eq_true rfl)) dL_isSound_475 ⟨(Nat.le_of_ble_eq_true rfl), (Nat.le_of_ble_eq_true rfl)⟩) ?_
  refine lv_iload hx hb dL_isSound_478 (lv_at hl 1 rfl) ?_
  refine lv_if_ne (tgt := 487) hx hb dL_isSound_480 (by decide) (fun h9 => ?_) (fun h9 => ?_)
  · have hv : v_X10_meanQueue S F G q = FP.ddiv (FP.i2d (fly S F G q (zn S))) (FP.i2d (nI (zsm (cin S) (zn S)))) := by
      unfold v_X10_meanQueue
      rw [hch, if_neg h9, ← hfl]
      rfl
    refine lv_iload_n hx hb dL_isSound_487 rfl (lv_at hl 0 rfl) ?_
    refine lv_i2d hx hb dL_isSound_488 ?_
    refine lv_iload hx hb dL_isSound_489 (lv_at hl 1 rfl) ?_
    refine lv_i2d hx hb dL_isSound_491 ?_
    refine lv_ddiv hx hb dL_isSound_492 (zfp_n64 (zfp_div h9)) ?_
    refine lv_dcmp hx hb dL_isSound_493 ?_
    refine zk_ti (y := 0) (by rw [hv]; rw [dcmp_same (zfp_div h9)]; rfl) ?_
    refine lv_if_ne (tgt := 501) hx hb dL_isSound_494 (by decide) (fun h9 => absurd rfl h9) (fun _ => ?_)
    refine lv_iconst (v := 1) hx hb dL_isSound_497 (by decide) ?_
    refine lv_goto (tgt := 502) hx hb dL_isSound_498 (by decide) ?_
    exact ze_i hx hb hr hlk rfl rfl dL_isSound_502
  · have hv : v_X10_meanQueue S F G q = FP.dconst0 := by
      unfold v_X10_meanQueue
      rw [hch, if_pos h9]
    refine lv_dconst0 hx hb dL_isSound_483 ?_
    refine lv_goto (tgt := 493) hx hb dL_isSound_484 (by decide) ?_
    refine lv_dcmp hx hb dL_isSound_493 ?_
    refine zk_ti (y := 0) (by rw [hv]; rw [dcmp_same (by decide)]; rfl) ?_
    refine lv_if_ne (tgt := 501) hx hb dL_isSound_494 (by decide) (fun h9 => absurd rfl h9) (fun _ => ?_)
    refine lv_iconst (v := 1) hx hb dL_isSound_497 (by decide) ?_
    refine lv_goto (tgt := 502) hx hb dL_isSound_498 (by decide) ?_
    exact ze_i hx hb hr hlk rfl rfl dL_isSound_502
set_option maxHeartbeats 4000000 in
set_option maxRecDepth 100000 in
theorem y_fin {p : Program} {l : Launch} {e : Env} {s : State} {m : MethodId} {args : Array Value} {below : List Frame} {meth : Method} {c : Code} {D : va_G} {yc : Nat → ClassId} {e0 : Nat} {A : Nat → Prop} {S : TS} {Z : Nat × Nat} {F : TF} {G : TG} {q : TQ} {so : Nat → Nat} (hx : p.tables.exec = Jvm.exec) (hb : c.code = cL_isSound) (hml : c.maxLocals = 10) (hr : meth.sig.returnType = some .boolean) (hlk : meth.locks = false) (hown : s.vm.findClass RL = some m.cls) (hts : ∀ w ∈ lw_all, w.before args s = true) (hW : WT D yc e0 A S Z F G q s.heap) (hS : va_S A s.heap s.heap []) (hA : ∀ a, s.heap.size ≤ a → A a) (hC : CX D yc e0 A s) (hGS : GS G) {z off : Nat} (hsd : SND S so F G q z off) {ls : Array Slot} (hl : lv_has ls 10 [(3, .int (fly S F G q (zn S))), (4, .int (nI (zsm (cin S) (zn S)))), (5, .int (nI (alf so q (zn S)))), (6, .int (rdy S F G q (zn S))), (7, .int (nI (zn S))), (0, .ref (zg S 7 0 0)), (1, .int (nI (zn S))), (2, .int (nI off))]) : W p l e { frames := 9, cells := 0, slots := 0, locals := 190 } s m args below meth c s.heap [] 0 0 (MQ below (zQ (some (.int 1))) args s 0 0 zno) (F0 m 425 ls []) := by
  obtain ⟨hall, hfl, hch, hal, hz, hnr⟩ := hsd
  refine lv_aload_n hx hb dL_isSound_425 rfl (lv_at hl 5 rfl) ?_
  refine zr_i (va_runV (As := []) (rest := []) ⟨hx, hb, hml, hown, hts⟩ (k_X10_inFlight l D yc e0 A S Z F G q) (cwV 0 hts (lw_V wq674 wq675 wq676 wq1 wq677) rfl rfl rfl (by decide +kernel) ⟨(Nat.le_of_ble_eq_true rfl), (Nat.le_of_ble_eq_true rfl)⟩) (tp_V hC hW hS hA 7 0 0 dm7 rfl rfl) rfl rfl hl.1 rfl (lv_room (Nat.le_of_ble_eq_true rfl)) dL_isSound_426 ⟨(Nat.le_of_ble_eq_true rfl), (Nat.le_of_ble_eq_true rfl)⟩) ?_
  refine lv_iload_n hx hb dL_isSound_429 rfl (lv_at hl 0 rfl) ?_
  refine lv_icmp_ne (tgt := 501) hx hb dL_isSound_430 (by decide) (fun h9 => absurd hfl h9) (fun _ => ?_)
  refine lv_iload hx hb dL_isSound_433 (lv_at hl 2 rfl) ?_
  refine lv_iload_n hx hb dL_isSound_435 rfl (lv_at hl 7 rfl) ?_
  refine lv_icmp_ne (tgt := 501) hx hb dL_isSound_436 (by decide) (fun h9 => absurd (congrArg nI hal) h9) (fun _ => ?_)
  refine lv_aload_n hx hb dL_isSound_439 rfl (lv_at hl 5 rfl) ?_
  rcases hnr with ⟨hnx, hrd⟩ | ⟨j, hj, hnx, hrd, hjr⟩
  · refine zr_i (va_runV (As := []) (rest := []) ⟨hx, hb, hml, hown, hts⟩ (k_X10_next l D yc e0 A S Z F G q z hz.1 hz.2) (cwV 0 hts (lw_V wq683 wq684 wq685 wq1 wq686) rfl rfl rfl (by decide +kernel) ⟨(Nat.le_of_ble_eq_true rfl), (Nat.le_of_ble_eq_true rfl)⟩) (tp_V hC hW hS hA 7 0 0 dm7 rfl rfl) rfl rfl hl.1 rfl (lv_room (Nat.le_of_ble_eq_true rfl)) dL_isSound_440 ⟨(Nat.le_of_ble_eq_true rfl), (Nat.le_of_ble_eq_true rfl)⟩) ?_
    refine zk_ti (y := -1) hnx ?_
    refine lv_if_lt (tgt := 450) hx hb dL_isSound_443 (by decide) (fun _ => ?_) (fun h9 => absurd (by decide) h9)
    refine lv_iconst (v := 0) hx hb dL_isSound_450 (by decide) ?_
    refine lv_iload hx hb dL_isSound_451 (lv_at hl 3 rfl) ?_
    refine lv_icmp_ne (tgt := 501) hx hb dL_isSound_453 (by decide) (fun h9 => absurd hrd.symm h9) (fun _ => ?_)
    refine lv_aload_n hx hb dL_isSound_456 rfl (lv_at hl 5 rfl) ?_
    refine zr_i (va_runV (As := []) (rest := []) ⟨hx, hb, hml, hown, hts⟩ (k_X10_next l D yc e0 A S Z F G q z hz.1 hz.2) (cwV 0 hts (lw_V wq683 wq684 wq685 wq1 wq686) rfl rfl rfl (by decide +kernel) ⟨(Nat.le_of_ble_eq_true rfl), (Nat.le_of_ble_eq_true rfl)⟩) (tp_V hC hW hS hA 7 0 0 dm7 rfl rfl) rfl rfl hl.1 rfl (lv_room (Nat.le_of_ble_eq_true rfl)) dL_isSound_457 ⟨(Nat.le_of_ble_eq_true rfl), (Nat.le_of_ble_eq_true rfl)⟩) ?_
    refine zk_ti (y := -1) hnx ?_
    refine lv_if_lt (tgt := 474) hx hb dL_isSound_460 (by decide) (fun _ => ?_) (fun h9 => absurd (by decide) h9)
    exact y_mean hx hb hml hr hlk hown hts hW hS hA hC hGS hfl hch hl
  · have hn12 := hW.n12
    refine zr_i (va_runV (As := []) (rest := []) ⟨hx, hb, hml, hown, hts⟩ (k_X10_next l D yc e0 A S Z F G q z hz.1 hz.2) (cwV 0 hts (lw_V wq683 wq684 wq685 wq1 wq686) rfl rfl rfl (by decide +kernel) ⟨(Nat.le_of_ble_eq_true rfl), (Nat.le_of_ble_eq_true rfl)⟩) (tp_V hC hW hS hA 7 0 0 dm7 rfl rfl) rfl rfl hl.1 rfl (lv_room (Nat.le_of_ble_eq_true rfl)) dL_isSound_440 ⟨(Nat.le_of_ble_eq_true rfl), (Nat.le_of_ble_eq_true rfl)⟩) ?_
    refine zk_ti (y := (nI j)) hnx ?_
    refine lv_if_lt (tgt := 450) hx hb dL_isSound_443 (by decide) (fun h9 => absurd h9 (nI_pos (by omega))) (fun _ => ?_)
    refine lv_iconst (v := 1) hx hb dL_isSound_446 (by decide) ?_
    refine lv_goto (tgt := 451) hx hb dL_isSound_447 (by decide) ?_
    refine lv_iload hx hb dL_isSound_451 (lv_at hl 3 rfl) ?_
    refine lv_icmp_ne (tgt := 501) hx hb dL_isSound_453 (by decide) (fun h9 => absurd hrd.symm h9) (fun _ => ?_)
    refine lv_aload_n hx hb dL_isSound_456 rfl (lv_at hl 5 rfl) ?_
    refine zr_i (va_runV (As := []) (rest := []) ⟨hx, hb, hml, hown, hts⟩ (k_X10_next l D yc e0 A S Z F G q z hz.1 hz.2) (cwV 0 hts (lw_V wq683 wq684 wq685 wq1 wq686) rfl rfl rfl (by decide +kernel) ⟨(Nat.le_of_ble_eq_true rfl), (Nat.le_of_ble_eq_true rfl)⟩) (tp_V hC hW hS hA 7 0 0 dm7 rfl rfl) rfl rfl hl.1 rfl (lv_room (Nat.le_of_ble_eq_true rfl)) dL_isSound_457 ⟨(Nat.le_of_ble_eq_true rfl), (Nat.le_of_ble_eq_true rfl)⟩) ?_
    refine zk_ti (y := (nI j)) hnx ?_
    refine lv_if_lt (tgt := 474) hx hb dL_isSound_460 (by decide) (fun h9 => absurd h9 (nI_pos (by omega))) (fun _ => ?_)
    refine lv_aload_n hx hb dL_isSound_463 rfl (lv_at hl 5 rfl) ?_
    refine lv_aload_n hx hb dL_isSound_464 rfl (lv_at hl 5 rfl) ?_
    refine zr_i (va_runV (As := []) (rest := [.ref (zg S 7 0 0)]) ⟨hx, hb, hml, hown, hts⟩ (k_X10_next l D yc e0 A S Z F G q z hz.1 hz.2) (cwV 0 hts (lw_V wq683 wq684 wq685 wq1 wq686) rfl rfl rfl (by decide +kernel) ⟨(Nat.le_of_ble_eq_true rfl), (Nat.le_of_ble_eq_true rfl)⟩) (tp_V hC hW hS hA 7 0 0 dm7 rfl rfl) rfl rfl hl.1 rfl (lv_room (Nat.le_of_ble_eq_true rfl)) dL_isSound_465 ⟨(Nat.le_of_ble_eq_true rfl), (Nat.le_of_ble_eq_true rfl)⟩) ?_
    refine zk_ti (y := (nI j)) hnx ?_
    refine zr_i (va_runV (As := [.int (nI j)]) (rest := []) ⟨hx, hb, hml, hown, hts⟩ (k_X10_isReady l D yc e0 A S Z F G q j hj) (cwV 1 hts (lw_V wq649 wq650 wq651 wq1 wq652) rfl rfl rfl (by decide +kernel) ⟨(Nat.le_of_ble_eq_true rfl), (Nat.le_of_ble_eq_true rfl)⟩) (tp_V hC hW hS hA 7 0 0 dm7 rfl rfl) rfl rfl hl.1 rfl (lv_room (Nat.le_of_ble_eq_true rfl)) dL_isSound_468 ⟨(Nat.le_of_ble_eq_true rfl), (Nat.le_of_ble_eq_true rfl)⟩) ?_
    refine lv_if_eq (tgt := 501) hx hb dL_isSound_471 (by decide) (fun h9 => absurd h9 hjr) (fun _ => ?_)
    exact y_mean hx hb hml hr hlk hown hts hW hS hA hC hGS hfl hch hl
set_option maxHeartbeats 4000000 in
set_option maxRecDepth 100000 in
theorem y_isSound (l : Launch) {D : va_G} {yc : Nat → ClassId} {e0 : Nat} {A : Nat → Prop} {S : TS} {Z : Nat × Nat} {F : TF} {G : TG} {q : TQ} {so : Nat → Nat} {z off : Nat} (hsd : SND S so F G q z off) (hGS : GS G) : Met l yL_isSound (ws_ yL_isSound cL_isSound 10 (some .boolean)) { frames := 9, cells := 0, slots := 0, locals := 190 } (PT D yc e0 A S Z F G q [.ref (zg S 7 0 0), .int (nI (zn S)), .int (nI off)]) (zQ (some (.int 1))) 0 0 zno := by
  refine tk_M (by decide) (Nat.le_of_ble_eq_true rfl) ?_
  intro p e s m args below meth c ls hx hb hml hr hlk hown hts hW hS hA hC hl
  have hn12 := hW.n12
  have hl : lv_has ls 10 [(0, .ref (zg S 7 0 0)), (1, .int (nI (zn S))), (2, .int (nI off))] := hl
  refine lv_iconst (v := 0) hx hb dL_isSound_0 (by decide) ?_
  refine zk_ti (y := fly S F G q 0) rfl ?_
  refine lv_istore_n (lv' := [(3, .int (fly S F G q 0)), (0, .ref (zg S 7 0 0)), (1, .int (nI (zn S))), (2, .int (nI off))]) hx hb dL_isSound_1 rfl hl (by decide) rfl (fun ls hl => ?_)
  refine lv_iconst (v := 0) hx hb dL_isSound_2 (by decide) ?_
  refine zk_ti (y := nI (zsm (cin S) 0)) rfl ?_
  refine lv_istore (lv' := [(4, .int (nI (zsm (cin S) 0))), (3, .int (fly S F G q 0)), (0, .ref (zg S 7 0 0)), (1, .int (nI (zn S))), (2, .int (nI off))]) hx hb dL_isSound_3 hl (by decide) rfl (fun ls hl => ?_)
  refine lv_iconst (v := 0) hx hb dL_isSound_5 (by decide) ?_
  refine zk_ti (y := nI (alf so q 0)) rfl ?_
  refine lv_istore (lv' := [(5, .int (nI (alf so q 0))), (4, .int (nI (zsm (cin S) 0))), (3, .int (fly S F G q 0)), (0, .ref (zg S 7 0 0)), (1, .int (nI (zn S))), (2, .int (nI off))]) hx hb dL_isSound_6 hl (by decide) rfl (fun ls hl => ?_)
  refine lv_iconst (v := 0) hx hb dL_isSound_8 (by decide) ?_
  refine zk_ti (y := rdy S F G q 0) rfl ?_
  refine lv_istore (lv' := [(6, .int (rdy S F G q 0)), (5, .int (nI (alf so q 0))), (4, .int (nI (zsm (cin S) 0))), (3, .int (fly S F G q 0)), (0, .ref (zg S 7 0 0)), (1, .int (nI (zn S))), (2, .int (nI off))]) hx hb dL_isSound_9 hl (by decide) rfl (fun ls hl => ?_)
  refine lv_iconst (v := 0) hx hb dL_isSound_11 (by decide) ?_
  refine zk_ti (y := nI 0) rfl ?_
  refine lv_istore (lv' := [(7, .int (nI 0)), (6, .int (rdy S F G q 0)), (5, .int (nI (alf so q 0))), (4, .int (nI (zsm (cin S) 0))), (3, .int (fly S F G q 0)), (0, .ref (zg S 7 0 0)), (1, .int (nI (zn S))), (2, .int (nI off))]) hx hb dL_isSound_12 hl (by decide) rfl (fun ls hl => ?_)
  exact y_sloop hx hb hml hr hlk hown hts hW hS hA hC hGS (by omega) hsd.1 (fun ls hl => y_fin hx hb hml hr hlk hown hts hW hS hA hC hGS hsd hl) (zn S) 0 (by omega) (lv_sub hl [4, 3, 2, 1, 0, 5, 6, 7] rfl)
