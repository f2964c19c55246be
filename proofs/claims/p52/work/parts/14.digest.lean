def r_X10_digestOfOutput (S : TS) (F : TF) (G : TG) (q : TQ) (l1 : Int64) (k : Nat) : Nat → Nat → Int64 → Int64
  | 0, _, d => d
  | n + 1, i, d => r_X10_digestOfOutput S F G q l1 k n (i + 1) (((((d * 31) + (v_X3_key (v_X10_outputAt S F G q k (nI i))).toInt64) * 31) + (v_X3_value (v_X10_outputAt S F G q k (nI i))).toInt64) * 31 + (v_X3_time (v_X10_outputAt S F G q k (nI i))).toInt64)
set_option maxHeartbeats 4000000 in
set_option maxRecDepth 100000 in
theorem lp_X10_digestOfOutput {p : Program} {l : Launch} {e : Env} {s : State} {m : MethodId} {args : Array Value} {below : List Frame} {meth : Method} {c : Code} {D : va_G} {yc : Nat → ClassId} {e0 : Nat} {A : Nat → Prop} {S : TS} {Z : Nat × Nat} {F : TF} {G : TG} {q : TQ} (l1 : Int64) (k : Nat) (hk : k < zn S) (hs : F 8 0 k 0 = 7) (hG : (G 0 k).1 < 3) (hO : ¬ F 0 0 (3 * k) 7 < 0) (hx : p.tables.exec = Jvm.exec) (hb : c.code = cX10_digestOfOutput) (hml : c.maxLocals = 10) (hr : meth.sig.returnType = (some .long)) (hlk : meth.locks = false) (hown : s.vm.findClass yX10_digestOfOutput.cls = some m.cls) (hts : ∀ w ∈ lw_all, w.before args s = true) (hW : WT D yc e0 A S Z F G q s.heap) (hS : va_S A s.heap s.heap []) (hA : ∀ a, s.heap.size ≤ a → A a) (hC : CX D yc e0 A s) : ∀ (n : Nat) (i : Nat) (d : Int64) (ls : Array Slot), i + n = (F 0 0 (3 * k) 7).toNatClampNeg → lv_has ls 10 [(7, .int (nI i)), (4, .long d), (6, .int (nI (F 0 0 (3 * k) 7).toNatClampNeg)), (0, .ref (zg S 7 0 0)), (1, .long l1), (3, .int (nI k))] → W p l e ({ frames := 7, cells := 0, slots := 0, locals := 152 }) s m args below meth c s.heap [] 0 0 (MQ below (zQ (some (.long (r_X10_digestOfOutput S F G q l1 k n i d)))) args s 0 0 zno) (F0 m 40 ls []) := by
  have hK := hC.1
  have hN := hC.2.1
  have hn12 := hW.n12
  have hzl := znl (F 0 0 (3 * k) 7)
  intro n
  induction n with
  | zero =>
    intro i d ls hinv hl
    refine lv_iload hx hb dX10_digestOfOutput_40 (lv_at hl 0 rfl) ?_
    refine lv_iload hx hb dX10_digestOfOutput_42 (lv_at hl 2 rfl) ?_
    refine lv_icmp_ge (tgt := 107) hx hb dX10_digestOfOutput_44 (by decide) (fun _ => ?_) (fun h9 => absurd (nI_le (by omega) (by omega)) h9)
    refine lv_lload hx hb dX10_digestOfOutput_107 (lv_at hl 1 rfl) ?_
    exact ze_l hx hb hr hlk (by rfl) dX10_digestOfOutput_109
  | succ n ih =>
    intro i d ls hinv hl
    refine lv_iload hx hb dX10_digestOfOutput_40 (lv_at hl 0 rfl) ?_
    refine lv_iload hx hb dX10_digestOfOutput_42 (lv_at hl 2 rfl) ?_
    refine lv_icmp_ge (tgt := 107) hx hb dX10_digestOfOutput_44 (by decide) (fun h9 => absurd h9 (nI_ge (by omega) (by omega))) (fun _ => ?_)
    refine lv_aload_n hx hb dX10_digestOfOutput_47 rfl (lv_at hl 3 rfl) ?_
    refine lv_iload_n hx hb dX10_digestOfOutput_48 rfl (lv_at hl 5 rfl) ?_
    refine lv_iload hx hb dX10_digestOfOutput_49 (lv_at hl 0 rfl) ?_
    refine zr_l (va_runV (As := [.int (nI k), .int (nI i)]) (rest := []) ⟨hx, hb, hml, hown, hts⟩ (k_X10_outputAt l D yc e0 A S Z F G q k (nI i) (by first | assumption | omega | decide) (by first | assumption | omega | decide) (nI_pos (by omega)) (by rw [znn hO]; exact nI_ge (by omega) (by omega))) (cwV 2 hts (lw_V wq786 wq788 ws24 wq1 wq789) rfl rfl rfl (by decide +kernel) ⟨(Nat.le_of_ble_eq_true rfl), (Nat.le_of_ble_eq_true rfl)⟩) (tp_V hC hW hS hA 7 0 0 dm7 rfl rfl) rfl rfl hl.1 rfl (lv_room (Nat.le_of_ble_eq_true rfl)) dX10_digestOfOutput_51 ⟨(Nat.le_of_ble_eq_true rfl), (Nat.le_of_ble_eq_true rfl)⟩) ?_
    refine lv_lstore (lv' := [(8, .long (v_X10_outputAt S F G q k (nI i))), (7, .int (nI i)), (4, .long d), (6, .int (nI (F 0 0 (3 * k) 7).toNatClampNeg)), (0, .ref (zg S 7 0 0)), (1, .long l1), (3, .int (nI k))]) hx hb dX10_digestOfOutput_54 hl (by decide) rfl (fun ls hl => ?_)
    refine lv_lload hx hb dX10_digestOfOutput_56 (lv_at hl 2 rfl) ?_
    refine lv_ldc2 hx hb hown (hts _ wq713) dX10_digestOfOutput_58 ?_
    refine lv_lmul hx hb dX10_digestOfOutput_61 ?_
    refine lv_lload hx hb dX10_digestOfOutput_62 (lv_at hl 0 rfl) ?_
    refine zr_i (va_runS (As := [.long (v_X10_outputAt S F G q k (nI i))]) (rest := [.long (d * 31)]) ⟨hx, hb, hml, hown, hts⟩ (k_X3_key l (v_X10_outputAt S F G q k (nI i))) (va_cwS 1 hts (lw_S wq791 wq488 wq25 wq489) rfl rfl rfl (by decide +kernel) ⟨(Nat.le_of_ble_eq_true rfl), (Nat.le_of_ble_eq_true rfl)⟩) tp_N rfl rfl hl.1 rfl (lv_room (Nat.le_of_ble_eq_true rfl)) dX10_digestOfOutput_64 ⟨(Nat.le_of_ble_eq_true rfl), (Nat.le_of_ble_eq_true rfl)⟩) ?_
    refine lv_i2l (v := (v_X3_key (v_X10_outputAt S F G q k (nI i))).toInt64) hx hb dX10_digestOfOutput_67 rfl ?_
    refine lv_ladd hx hb dX10_digestOfOutput_68 ?_
    refine lv_lstore (lv' := [(4, .long ((d * 31) + ((v_X3_key (v_X10_outputAt S F G q k (nI i))).toInt64))), (8, .long (v_X10_outputAt S F G q k (nI i))), (7, .int (nI i)), (6, .int (nI (F 0 0 (3 * k) 7).toNatClampNeg)), (0, .ref (zg S 7 0 0)), (1, .long l1), (3, .int (nI k))]) hx hb dX10_digestOfOutput_69 hl (by decide) rfl (fun ls hl => ?_)
    refine lv_lload hx hb dX10_digestOfOutput_71 (lv_at hl 0 rfl) ?_
    refine lv_ldc2 hx hb hown (hts _ wq713) dX10_digestOfOutput_73 ?_
    refine lv_lmul hx hb dX10_digestOfOutput_76 ?_
    refine lv_lload hx hb dX10_digestOfOutput_77 (lv_at hl 1 rfl) ?_
    refine zr_i (va_runS (As := [.long (v_X10_outputAt S F G q k (nI i))]) (rest := [.long (((d * 31) + ((v_X3_key (v_X10_outputAt S F G q k (nI i))).toInt64)) * 31)]) ⟨hx, hb, hml, hown, hts⟩ (k_X3_value l (v_X10_outputAt S F G q k (nI i))) (va_cwS 1 hts (lw_S wq792 wq485 wq25 wq486) rfl rfl rfl (by decide +kernel) ⟨(Nat.le_of_ble_eq_true rfl), (Nat.le_of_ble_eq_true rfl)⟩) tp_N rfl rfl hl.1 rfl (lv_room (Nat.le_of_ble_eq_true rfl)) dX10_digestOfOutput_79 ⟨(Nat.le_of_ble_eq_true rfl), (Nat.le_of_ble_eq_true rfl)⟩) ?_
    refine lv_i2l (v := (v_X3_value (v_X10_outputAt S F G q k (nI i))).toInt64) hx hb dX10_digestOfOutput_82 rfl ?_
    refine lv_ladd hx hb dX10_digestOfOutput_83 ?_
    refine lv_lstore (lv' := [(4, .long ((((d * 31) + ((v_X3_key (v_X10_outputAt S F G q k (nI i))).toInt64)) * 31) + ((v_X3_value (v_X10_outputAt S F G q k (nI i))).toInt64))), (8, .long (v_X10_outputAt S F G q k (nI i))), (7, .int (nI i)), (6, .int (nI (F 0 0 (3 * k) 7).toNatClampNeg)), (0, .ref (zg S 7 0 0)), (1, .long l1), (3, .int (nI k))]) hx hb dX10_digestOfOutput_84 hl (by decide) rfl (fun ls hl => ?_)
    refine lv_lload hx hb dX10_digestOfOutput_86 (lv_at hl 0 rfl) ?_
    refine lv_ldc2 hx hb hown (hts _ wq713) dX10_digestOfOutput_88 ?_
    refine lv_lmul hx hb dX10_digestOfOutput_91 ?_
    refine lv_lload hx hb dX10_digestOfOutput_92 (lv_at hl 1 rfl) ?_
    refine zr_i (va_runS (As := [.long (v_X10_outputAt S F G q k (nI i))]) (rest := [.long (((((d * 31) + ((v_X3_key (v_X10_outputAt S F G q k (nI i))).toInt64)) * 31) + ((v_X3_value (v_X10_outputAt S F G q k (nI i))).toInt64)) * 31)]) ⟨hx, hb, hml, hown, hts⟩ (k_X3_time l (v_X10_outputAt S F G q k (nI i))) (va_cwS 1 hts (lw_S wq793 wq396 wq25 wq397) rfl rfl rfl (by decide +kernel) ⟨(Nat.le_of_ble_eq_true rfl), (Nat.le_of_ble_eq_true rfl)⟩) tp_N rfl rfl hl.1 rfl (lv_room (Nat.le_of_ble_eq_true rfl)) dX10_digestOfOutput_94 ⟨(Nat.le_of_ble_eq_true rfl), (Nat.le_of_ble_eq_true rfl)⟩) ?_
    refine lv_i2l (v := (v_X3_time (v_X10_outputAt S F G q k (nI i))).toInt64) hx hb dX10_digestOfOutput_97 rfl ?_
    refine lv_ladd hx hb dX10_digestOfOutput_98 ?_
    refine lv_lstore (lv' := [(4, .long ((((((d * 31) + ((v_X3_key (v_X10_outputAt S F G q k (nI i))).toInt64)) * 31) + ((v_X3_value (v_X10_outputAt S F G q k (nI i))).toInt64)) * 31) + ((v_X3_time (v_X10_outputAt S F G q k (nI i))).toInt64))), (8, .long (v_X10_outputAt S F G q k (nI i))), (7, .int (nI i)), (6, .int (nI (F 0 0 (3 * k) 7).toNatClampNeg)), (0, .ref (zg S 7 0 0)), (1, .long l1), (3, .int (nI k))]) hx hb dX10_digestOfOutput_99 hl (by decide) rfl (fun ls hl => ?_)
    refine lv_iinc (v := nI (i + 1)) (lv' := [(7, .int (nI (i + 1))), (4, .long ((((((d * 31) + ((v_X3_key (v_X10_outputAt S F G q k (nI i))).toInt64)) * 31) + ((v_X3_value (v_X10_outputAt S F G q k (nI i))).toInt64)) * 31) + ((v_X3_time (v_X10_outputAt S F G q k (nI i))).toInt64))), (8, .long (v_X10_outputAt S F G q k (nI i))), (6, .int (nI (F 0 0 (3 * k) 7).toNatClampNeg)), (0, .ref (zg S 7 0 0)), (1, .long l1), (3, .int (nI k))]) hx hb dX10_digestOfOutput_101 hl (k := 2) rfl (nI_1 _) (by decide) rfl (fun ls hl => ?_)
    refine lv_goto (tgt := 40) hx hb dX10_digestOfOutput_104 (by decide) ?_
    exact ih (i + 1) ((((((d * 31) + ((v_X3_key (v_X10_outputAt S F G q k (nI i))).toInt64)) * 31) + ((v_X3_value (v_X10_outputAt S F G q k (nI i))).toInt64)) * 31) + ((v_X3_time (v_X10_outputAt S F G q k (nI i))).toInt64)) _ (by omega) (lv_sub hl [0, 1, 3, 4, 5, 6] rfl)
def v_X10_digestOfOutput (S : TS) (F : TF) (G : TG) (q : TQ) (l1 : Int64) (k : Nat) : Int64 := r_X10_digestOfOutput S F G q l1 k ((F 0 0 (3 * k) 7).toNatClampNeg) 0 ((((l1 * 31) + ((nI (F 0 0 (3 * k) 7).toNatClampNeg).toInt64)) * 31) + ((F 0 0 (3 * k + (G 0 k).1) 7).toInt64))
set_option maxHeartbeats 4000000 in
set_option maxRecDepth 100000 in
theorem k_X10_digestOfOutput (l : Launch) (D : va_G) (yc : Nat → ClassId) (e0 : Nat) (A : Nat → Prop) (S : TS) (Z : Nat × Nat) (F : TF) (G : TG) (q : TQ) (l1 : Int64) (k : Nat) (hk : k < zn S) (hs : F 8 0 k 0 = 7) (hG : (G 0 k).1 < 3) (hO : ¬ F 0 0 (3 * k) 7 < 0) : Met l yX10_digestOfOutput (ws_ yX10_digestOfOutput cX10_digestOfOutput 10 (some .long)) ({ frames := 7, cells := 0, slots := 0, locals := 152 }) (PT D yc e0 A S Z F G q [.ref (zg S 7 0 0), .long l1, .int (nI k)]) (zQ (some (.long (v_X10_digestOfOutput S F G q l1 k)))) 0 0 zno := by
  refine tk_M (by decide) (Nat.le_of_ble_eq_true rfl) ?_
  intro p e s m args below meth c ls hx hb hml hr hlk hown hts hW hS hA hC hl
  have hK := hC.1
  have hN := hC.2.1
  have hn12 := hW.n12
  have hl : lv_has ls 10 [(0, .ref (zg S 7 0 0)), (1, .long l1), (3, .int (nI k))] := hl
  have hzl := znl (F 0 0 (3 * k) 7)
  refine lv_lload_n hx hb dX10_digestOfOutput_0 rfl (lv_at hl 1 rfl) ?_
  refine lv_lstore (lv' := [(4, .long l1), (0, .ref (zg S 7 0 0)), (1, .long l1), (3, .int (nI k))]) hx hb dX10_digestOfOutput_1 hl (by decide) rfl (fun ls hl => ?_)
  refine lv_aload_n hx hb dX10_digestOfOutput_3 rfl (lv_at hl 1 rfl) ?_
  refine lv_iload_n hx hb dX10_digestOfOutput_4 rfl (lv_at hl 3 rfl) ?_
  refine zr_i (va_runV (As := [.int (nI k)]) (rest := []) ⟨hx, hb, hml, hown, hts⟩ (k_X10_outputs l D yc e0 A S Z F G q k (by first | assumption | omega | decide) (by first | assumption | omega | decide)) (cwV 1 hts (lw_V wq784 wq659 wq660 wq1 wq661) rfl rfl rfl (by decide +kernel) ⟨(Nat.le_of_ble_eq_true rfl), (Nat.le_of_ble_eq_true rfl)⟩) (tp_V hC hW hS hA 7 0 0 dm7 rfl rfl) rfl rfl hl.1 rfl (lv_room (Nat.le_of_ble_eq_true rfl)) dX10_digestOfOutput_5 ⟨(Nat.le_of_ble_eq_true rfl), (Nat.le_of_ble_eq_true rfl)⟩) ?_
  refine zk_ti (y := F 0 0 (3 * k) 7) rfl ?_
  refine zk_ti (y := nI (F 0 0 (3 * k) 7).toNatClampNeg) (znn hO) ?_
  refine lv_istore (lv' := [(6, .int (nI (F 0 0 (3 * k) 7).toNatClampNeg)), (4, .long l1), (0, .ref (zg S 7 0 0)), (1, .long l1), (3, .int (nI k))]) hx hb dX10_digestOfOutput_8 hl (by decide) rfl (fun ls hl => ?_)
  refine lv_lload hx hb dX10_digestOfOutput_10 (lv_at hl 1 rfl) ?_
  refine lv_ldc2 hx hb hown (hts _ wq713) dX10_digestOfOutput_12 ?_
  refine lv_lmul hx hb dX10_digestOfOutput_15 ?_
  refine lv_iload hx hb dX10_digestOfOutput_16 (lv_at hl 0 rfl) ?_
  refine lv_i2l (v := (nI (F 0 0 (3 * k) 7).toNatClampNeg).toInt64) hx hb dX10_digestOfOutput_18 rfl ?_
  refine lv_ladd hx hb dX10_digestOfOutput_19 ?_
  refine lv_lstore (lv' := [(4, .long ((l1 * 31) + ((nI (F 0 0 (3 * k) 7).toNatClampNeg).toInt64))), (6, .int (nI (F 0 0 (3 * k) 7).toNatClampNeg)), (0, .ref (zg S 7 0 0)), (1, .long l1), (3, .int (nI k))]) hx hb dX10_digestOfOutput_20 hl (by decide) rfl (fun ls hl => ?_)
  refine lv_lload hx hb dX10_digestOfOutput_22 (lv_at hl 0 rfl) ?_
  refine lv_ldc2 hx hb hown (hts _ wq713) dX10_digestOfOutput_24 ?_
  refine lv_lmul hx hb dX10_digestOfOutput_27 ?_
  refine lv_aload_n hx hb dX10_digestOfOutput_28 rfl (lv_at hl 2 rfl) ?_
  refine lv_iload_n hx hb dX10_digestOfOutput_29 rfl (lv_at hl 4 rfl) ?_
  refine zr_i (va_runV (As := [.int (nI k)]) (rest := [.long (((l1 * 31) + ((nI (F 0 0 (3 * k) 7).toNatClampNeg).toInt64)) * 31)]) ⟨hx, hb, hml, hown, hts⟩ (k_X10_committed l D yc e0 A S Z F G q k (by first | assumption | omega | decide) (by first | assumption | omega | decide) (by first | assumption | omega | decide)) (cwV 1 hts (lw_V wq785 wq667 wq668 wq1 wq669) rfl rfl rfl (by decide +kernel) ⟨(Nat.le_of_ble_eq_true rfl), (Nat.le_of_ble_eq_true rfl)⟩) (tp_V hC hW hS hA 7 0 0 dm7 rfl rfl) rfl rfl hl.1 rfl (lv_room (Nat.le_of_ble_eq_true rfl)) dX10_digestOfOutput_30 ⟨(Nat.le_of_ble_eq_true rfl), (Nat.le_of_ble_eq_true rfl)⟩) ?_
  refine zk_ti (y := F 0 0 (3 * k + (G 0 k).1) 7) rfl ?_
  refine lv_i2l (v := (F 0 0 (3 * k + (G 0 k).1) 7).toInt64) hx hb dX10_digestOfOutput_33 rfl ?_
  refine lv_ladd hx hb dX10_digestOfOutput_34 ?_
  refine lv_lstore (lv' := [(4, .long ((((l1 * 31) + ((nI (F 0 0 (3 * k) 7).toNatClampNeg).toInt64)) * 31) + ((F 0 0 (3 * k + (G 0 k).1) 7).toInt64))), (6, .int (nI (F 0 0 (3 * k) 7).toNatClampNeg)), (0, .ref (zg S 7 0 0)), (1, .long l1), (3, .int (nI k))]) hx hb dX10_digestOfOutput_35 hl (by decide) rfl (fun ls hl => ?_)
  refine lv_iconst (v := 0) hx hb dX10_digestOfOutput_37 (by decide) ?_
  refine lv_istore (lv' := [(7, .int 0), (4, .long ((((l1 * 31) + ((nI (F 0 0 (3 * k) 7).toNatClampNeg).toInt64)) * 31) + ((F 0 0 (3 * k + (G 0 k).1) 7).toInt64))), (6, .int (nI (F 0 0 (3 * k) 7).toNatClampNeg)), (0, .ref (zg S 7 0 0)), (1, .long l1), (3, .int (nI k))]) hx hb dX10_digestOfOutput_38 hl (by decide) rfl (fun ls hl => ?_)
  exact lp_X10_digestOfOutput l1 k hk hs hG hO hx hb hml hr hlk hown hts hW hS hA hC ((F 0 0 (3 * k) 7).toNatClampNeg) 0 ((((l1 * 31) + ((nI (F 0 0 (3 * k) 7).toNatClampNeg).toInt64)) * 31) + ((F 0 0 (3 * k + (G 0 k).1) 7).toInt64)) _ (by omega) (lv_sub hl [0, 1, 2, 3, 4, 5] rfl)
def v_X10_digestOfStage (S : TS) (F : TF) (G : TG) (q : TQ) (l1 : Int64) (k : Nat) : Int64 := if (F 8 0 k 0) = 3 then if (F 8 0 k 0) = 7 then v_X10_digestOfOutput S F G q ((((((((((((((((((((((((((((l1 * 31) + ((F 8 0 k 0).toInt64)) * 31) + ((F 0 0 (3 * k) 0).toInt64)) * 31) + ((F 0 0 (3 * k) 4).toInt64)) * 31) + ((F 0 0 (3 * k) 5).toInt64)) * 31) + ((F 0 0 (3 * k) 6).toInt64)) * 31) + ((v_X10_kept S F G q k).toInt64)) * 31) + ((v_X10_bit (v_X10_isReady S F G q k)).toInt64)) * 31) + ((v_X10_bit (v_X10_hasRoom S F G q k)).toInt64)) * 31) + ((v_X10_queued0 S F G q k).toInt64)) * 31) + ((v_X10_bit (v_X10_isBlocked0 S F G q k)).toInt64)) * 31) + ((v_X10_queued1 S F G q k).toInt64)) * 31) + ((v_X10_bit (v_X10_isBlocked1 S F G q k)).toInt64)) * 31) + ((F 8 0 k 13).toInt64)) * 31) + ((v_X10_nextEnd S F G q k).toInt64)) k else (((((((((((((((((((((((((((l1 * 31) + ((F 8 0 k 0).toInt64)) * 31) + ((F 0 0 (3 * k) 0).toInt64)) * 31) + ((F 0 0 (3 * k) 4).toInt64)) * 31) + ((F 0 0 (3 * k) 5).toInt64)) * 31) + ((F 0 0 (3 * k) 6).toInt64)) * 31) + ((v_X10_kept S F G q k).toInt64)) * 31) + ((v_X10_bit (v_X10_isReady S F G q k)).toInt64)) * 31) + ((v_X10_bit (v_X10_hasRoom S F G q k)).toInt64)) * 31) + ((v_X10_queued0 S F G q k).toInt64)) * 31) + ((v_X10_bit (v_X10_isBlocked0 S F G q k)).toInt64)) * 31) + ((v_X10_queued1 S F G q k).toInt64)) * 31) + ((v_X10_bit (v_X10_isBlocked1 S F G q k)).toInt64)) * 31) + ((F 8 0 k 13).toInt64)) * 31) + ((v_X10_nextEnd S F G q k).toInt64) else if (F 8 0 k 0) = 4 then if (F 8 0 k 0) = 7 then v_X10_digestOfOutput S F G q ((((((((((((((((((((((((((((l1 * 31) + ((F 8 0 k 0).toInt64)) * 31) + ((F 0 0 (3 * k) 0).toInt64)) * 31) + ((F 0 0 (3 * k) 4).toInt64)) * 31) + ((F 0 0 (3 * k) 5).toInt64)) * 31) + ((F 0 0 (3 * k) 6).toInt64)) * 31) + ((v_X10_kept S F G q k).toInt64)) * 31) + ((v_X10_bit (v_X10_isReady S F G q k)).toInt64)) * 31) + ((v_X10_bit (v_X10_hasRoom S F G q k)).toInt64)) * 31) + ((v_X10_queued0 S F G q k).toInt64)) * 31) + ((v_X10_bit (v_X10_isBlocked0 S F G q k)).toInt64)) * 31) + ((v_X10_queued1 S F G q k).toInt64)) * 31) + ((v_X10_bit (v_X10_isBlocked1 S F G q k)).toInt64)) * 31) + ((F 8 0 k 13).toInt64)) * 31) + ((v_X10_nextEnd S F G q k).toInt64)) k else (((((((((((((((((((((((((((l1 * 31) + ((F 8 0 k 0).toInt64)) * 31) + ((F 0 0 (3 * k) 0).toInt64)) * 31) + ((F 0 0 (3 * k) 4).toInt64)) * 31) + ((F 0 0 (3 * k) 5).toInt64)) * 31) + ((F 0 0 (3 * k) 6).toInt64)) * 31) + ((v_X10_kept S F G q k).toInt64)) * 31) + ((v_X10_bit (v_X10_isReady S F G q k)).toInt64)) * 31) + ((v_X10_bit (v_X10_hasRoom S F G q k)).toInt64)) * 31) + ((v_X10_queued0 S F G q k).toInt64)) * 31) + ((v_X10_bit (v_X10_isBlocked0 S F G q k)).toInt64)) * 31) + ((v_X10_queued1 S F G q k).toInt64)) * 31) + ((v_X10_bit (v_X10_isBlocked1 S F G q k)).toInt64)) * 31) + ((F 8 0 k 13).toInt64)) * 31) + ((v_X10_nextEnd S F G q k).toInt64) else if (F 8 0 k 0) = 7 then v_X10_digestOfOutput S F G q ((((((((((((((((((((((((((l1 * 31) + ((F 8 0 k 0).toInt64)) * 31) + ((F 0 0 (3 * k) 0).toInt64)) * 31) + ((F 0 0 (3 * k) 4).toInt64)) * 31) + ((F 0 0 (3 * k) 5).toInt64)) * 31) + ((F 0 0 (3 * k) 6).toInt64)) * 31) + ((v_X10_kept S F G q k).toInt64)) * 31) + ((v_X10_bit (v_X10_isReady S F G q k)).toInt64)) * 31) + ((v_X10_bit (v_X10_hasRoom S F G q k)).toInt64)) * 31) + ((v_X10_queued0 S F G q k).toInt64)) * 31) + ((v_X10_bit (v_X10_isBlocked0 S F G q k)).toInt64)) * 31) + ((v_X10_queued1 S F G q k).toInt64)) * 31) + ((v_X10_bit (v_X10_isBlocked1 S F G q k)).toInt64)) * 31) + ((F 8 0 k 13).toInt64)) k else (((((((((((((((((((((((((l1 * 31) + ((F 8 0 k 0).toInt64)) * 31) + ((F 0 0 (3 * k) 0).toInt64)) * 31) + ((F 0 0 (3 * k) 4).toInt64)) * 31) + ((F 0 0 (3 * k) 5).toInt64)) * 31) + ((F 0 0 (3 * k) 6).toInt64)) * 31) + ((v_X10_kept S F G q k).toInt64)) * 31) + ((v_X10_bit (v_X10_isReady S F G q k)).toInt64)) * 31) + ((v_X10_bit (v_X10_hasRoom S F G q k)).toInt64)) * 31) + ((v_X10_queued0 S F G q k).toInt64)) * 31) + ((v_X10_bit (v_X10_isBlocked0 S F G q k)).toInt64)) * 31) + ((v_X10_queued1 S F G q k).toInt64)) * 31) + ((v_X10_bit (v_X10_isBlocked1 S F G q k)).toInt64)) * 31) + ((F 8 0 k 13).toInt64)
set_option maxHeartbeats 4000000 in
set_option maxRecDepth 100000 in
theorem k_X10_digestOfStage (l : Launch) (D : va_G) (yc : Nat → ClassId) (e0 : Nat) (A : Nat → Prop) (S : TS) (Z : Nat × Nat) (F : TF) (G : TG) (q : TQ) (l1 : Int64) (k : Nat) (hk : k < zn S) (hG : (G 0 k).1 < 3) (hO : F 8 0 k 0 = 7 → ¬ F 0 0 (3 * k) 7 < 0) : Met l yX10_digestOfStage (ws_ yX10_digestOfStage cX10_digestOfStage 7 (some .long)) ({ frames := 8, cells := 0, slots := 0, locals := 181 }) (PT D yc e0 A S Z F G q [.ref (zg S 7 0 0), .long l1, .int (nI k)]) (zQ (some (.long (v_X10_digestOfStage S F G q l1 k)))) 0 0 zno := by
  refine tk_M (by decide) (Nat.le_of_ble_eq_true rfl) ?_
  intro p e s m args below meth c ls hx hb hml hr hlk hown hts hW hS hA hC hl
  have hK := hC.1
  have hN := hC.2.1
  have hn12 := hW.n12
  have hl : lv_has ls 7 [(0, .ref (zg S 7 0 0)), (1, .long l1), (3, .int (nI k))] := hl
  refine lv_lload_n hx hb dX10_digestOfStage_0 rfl (lv_at hl 1 rfl) ?_
  refine lv_lstore (lv' := [(4, .long l1), (0, .ref (zg S 7 0 0)), (1, .long l1), (3, .int (nI k))]) hx hb dX10_digestOfStage_1 hl (by decide) rfl (fun ls hl => ?_)
  refine lv_lload hx hb dX10_digestOfStage_3 (lv_at hl 0 rfl) ?_
  refine lv_ldc2 hx hb hown (hts _ wq713) dX10_digestOfStage_5 ?_
  refine lv_lmul hx hb dX10_digestOfStage_8 ?_
  refine lv_aload_n hx hb dX10_digestOfStage_9 rfl (lv_at hl 1 rfl) ?_
  refine lv_iload_n hx hb dX10_digestOfStage_10 rfl (lv_at hl 3 rfl) ?_
  refine zr_i (va_runV (As := [.int (nI k)]) (rest := [.long (l1 * 31)]) ⟨hx, hb, hml, hown, hts⟩ (k_X10_sortOf l D yc e0 A S Z F G q k (by first | assumption | omega | decide)) (cwV 1 hts (lw_V wq741 wq628 wq629 wq1 wq630) rfl rfl rfl (by decide +kernel) ⟨(Nat.le_of_ble_eq_true rfl), (Nat.le_of_ble_eq_true rfl)⟩) (tp_V hC hW hS hA 7 0 0 dm7 rfl rfl) rfl rfl hl.1 rfl (lv_room (Nat.le_of_ble_eq_true rfl)) dX10_digestOfStage_11 ⟨(Nat.le_of_ble_eq_true rfl), (Nat.le_of_ble_eq_true rfl)⟩) ?_
  refine zk_ti (y := F 8 0 k 0) rfl ?_
  refine lv_i2l (v := (F 8 0 k 0).toInt64) hx hb dX10_digestOfStage_14 rfl ?_
  refine lv_ladd hx hb dX10_digestOfStage_15 ?_
  refine lv_lstore (lv' := [(4, .long ((l1 * 31) + ((F 8 0 k 0).toInt64))), (0, .ref (zg S 7 0 0)), (1, .long l1), (3, .int (nI k))]) hx hb dX10_digestOfStage_16 hl (by decide) rfl (fun ls hl => ?_)
  refine lv_lload hx hb dX10_digestOfStage_18 (lv_at hl 0 rfl) ?_
  refine lv_ldc2 hx hb hown (hts _ wq713) dX10_digestOfStage_20 ?_
  refine lv_lmul hx hb dX10_digestOfStage_23 ?_
  refine lv_aload_n hx hb dX10_digestOfStage_24 rfl (lv_at hl 1 rfl) ?_
  refine lv_iload_n hx hb dX10_digestOfStage_25 rfl (lv_at hl 3 rfl) ?_
  refine zr_i (va_runV (As := [.int (nI k)]) (rest := [.long (((l1 * 31) + ((F 8 0 k 0).toInt64)) * 31)]) ⟨hx, hb, hml, hown, hts⟩ (k_X10_markOf l D yc e0 A S Z F G q k (by first | assumption | omega | decide)) (cwV 1 hts (lw_V wq742 wq632 wq633 wq1 wq634) rfl rfl rfl (by decide +kernel) ⟨(Nat.le_of_ble_eq_true rfl), (Nat.le_of_ble_eq_true rfl)⟩) (tp_V hC hW hS hA 7 0 0 dm7 rfl rfl) rfl rfl hl.1 rfl (lv_room (Nat.le_of_ble_eq_true rfl)) dX10_digestOfStage_26 ⟨(Nat.le_of_ble_eq_true rfl), (Nat.le_of_ble_eq_true rfl)⟩) ?_
  refine zk_ti (y := F 0 0 (3 * k) 0) rfl ?_
  refine lv_i2l (v := (F 0 0 (3 * k) 0).toInt64) hx hb dX10_digestOfStage_29 rfl ?_
  refine lv_ladd hx hb dX10_digestOfStage_30 ?_
  refine lv_lstore (lv' := [(4, .long ((((l1 * 31) + ((F 8 0 k 0).toInt64)) * 31) + ((F 0 0 (3 * k) 0).toInt64))), (0, .ref (zg S 7 0 0)), (1, .long l1), (3, .int (nI k))]) hx hb dX10_digestOfStage_31 hl (by decide) rfl (fun ls hl => ?_)
  refine lv_lload hx hb dX10_digestOfStage_33 (lv_at hl 0 rfl) ?_
  refine lv_ldc2 hx hb hown (hts _ wq713) dX10_digestOfStage_35 ?_
  refine lv_lmul hx hb dX10_digestOfStage_38 ?_
  refine lv_aload_n hx hb dX10_digestOfStage_39 rfl (lv_at hl 1 rfl) ?_
  refine lv_iload_n hx hb dX10_digestOfStage_40 rfl (lv_at hl 3 rfl) ?_
  refine zr_i (va_runV (As := [.int (nI k)]) (rest := [.long (((((l1 * 31) + ((F 8 0 k 0).toInt64)) * 31) + ((F 0 0 (3 * k) 0).toInt64)) * 31)]) ⟨hx, hb, hml, hown, hts⟩ (k_X10_taken l D yc e0 A S Z F G q k (by first | assumption | omega | decide)) (cwV 1 hts (lw_V wq743 wq636 wq637 wq1 wq638) rfl rfl rfl (by decide +kernel) ⟨(Nat.le_of_ble_eq_true rfl), (Nat.le_of_ble_eq_true rfl)⟩) (tp_V hC hW hS hA 7 0 0 dm7 rfl rfl) rfl rfl hl.1 rfl (lv_room (Nat.le_of_ble_eq_true rfl)) dX10_digestOfStage_41 ⟨(Nat.le_of_ble_eq_true rfl), (Nat.le_of_ble_eq_true rfl)⟩) ?_
  refine zk_ti (y := F 0 0 (3 * k) 4) rfl ?_
  refine lv_i2l (v := (F 0 0 (3 * k) 4).toInt64) hx hb dX10_digestOfStage_44 rfl ?_
  refine lv_ladd hx hb dX10_digestOfStage_45 ?_
  refine lv_lstore (lv' := [(4, .long ((((((l1 * 31) + ((F 8 0 k 0).toInt64)) * 31) + ((F 0 0 (3 * k) 0).toInt64)) * 31) + ((F 0 0 (3 * k) 4).toInt64))), (0, .ref (zg S 7 0 0)), (1, .long l1), (3, .int (nI k))]) hx hb dX10_digestOfStage_46 hl (by decide) rfl (fun ls hl => ?_)
  refine lv_lload hx hb dX10_digestOfStage_48 (lv_at hl 0 rfl) ?_
  refine lv_ldc2 hx hb hown (hts _ wq713) dX10_digestOfStage_50 ?_
  refine lv_lmul hx hb dX10_digestOfStage_53 ?_
  refine lv_aload_n hx hb dX10_digestOfStage_54 rfl (lv_at hl 1 rfl) ?_
  refine lv_iload_n hx hb dX10_digestOfStage_55 rfl (lv_at hl 3 rfl) ?_
  refine zr_i (va_runV (As := [.int (nI k)]) (rest := [.long (((((((l1 * 31) + ((F 8 0 k 0).toInt64)) * 31) + ((F 0 0 (3 * k) 0).toInt64)) * 31) + ((F 0 0 (3 * k) 4).toInt64)) * 31)]) ⟨hx, hb, hml, hown, hts⟩ (k_X10_emitted l D yc e0 A S Z F G q k (by first | assumption | omega | decide)) (cwV 1 hts (lw_V wq744 wq745 wq746 wq1 wq747) rfl rfl rfl (by decide +kernel) ⟨(Nat.le_of_ble_eq_true rfl), (Nat.le_of_ble_eq_true rfl)⟩) (tp_V hC hW hS hA 7 0 0 dm7 rfl rfl) rfl rfl hl.1 rfl (lv_room (Nat.le_of_ble_eq_true rfl)) dX10_digestOfStage_56 ⟨(Nat.le_of_ble_eq_true rfl), (Nat.le_of_ble_eq_true rfl)⟩) ?_
  refine zk_ti (y := F 0 0 (3 * k) 5) rfl ?_
  refine lv_i2l (v := (F 0 0 (3 * k) 5).toInt64) hx hb dX10_digestOfStage_59 rfl ?_
  refine lv_ladd hx hb dX10_digestOfStage_60 ?_
  refine lv_lstore (lv' := [(4, .long ((((((((l1 * 31) + ((F 8 0 k 0).toInt64)) * 31) + ((F 0 0 (3 * k) 0).toInt64)) * 31) + ((F 0 0 (3 * k) 4).toInt64)) * 31) + ((F 0 0 (3 * k) 5).toInt64))), (0, .ref (zg S 7 0 0)), (1, .long l1), (3, .int (nI k))]) hx hb dX10_digestOfStage_61 hl (by decide) rfl (fun ls hl => ?_)
  refine lv_lload hx hb dX10_digestOfStage_63 (lv_at hl 0 rfl) ?_
  refine lv_ldc2 hx hb hown (hts _ wq713) dX10_digestOfStage_65 ?_
  refine lv_lmul hx hb dX10_digestOfStage_68 ?_
  refine lv_aload_n hx hb dX10_digestOfStage_69 rfl (lv_at hl 1 rfl) ?_
  refine lv_iload_n hx hb dX10_digestOfStage_70 rfl (lv_at hl 3 rfl) ?_
  refine zr_i (va_runV (As := [.int (nI k)]) (rest := [.long (((((((((l1 * 31) + ((F 8 0 k 0).toInt64)) * 31) + ((F 0 0 (3 * k) 0).toInt64)) * 31) + ((F 0 0 (3 * k) 4).toInt64)) * 31) + ((F 0 0 (3 * k) 5).toInt64)) * 31)]) ⟨hx, hb, hml, hown, hts⟩ (k_X10_late l D yc e0 A S Z F G q k (by first | assumption | omega | decide)) (cwV 1 hts (lw_V wq748 wq749 wq750 wq1 wq751) rfl rfl rfl (by decide +kernel) ⟨(Nat.le_of_ble_eq_true rfl), (Nat.le_of_ble_eq_true rfl)⟩) (tp_V hC hW hS hA 7 0 0 dm7 rfl rfl) rfl rfl hl.1 rfl (lv_room (Nat.le_of_ble_eq_true rfl)) dX10_digestOfStage_71 ⟨(Nat.le_of_ble_eq_true rfl), (Nat.le_of_ble_eq_true rfl)⟩) ?_
  refine zk_ti (y := F 0 0 (3 * k) 6) rfl ?_
  refine lv_i2l (v := (F 0 0 (3 * k) 6).toInt64) hx hb dX10_digestOfStage_74 rfl ?_
  refine lv_ladd hx hb dX10_digestOfStage_75 ?_
  refine lv_lstore (lv' := [(4, .long ((((((((((l1 * 31) + ((F 8 0 k 0).toInt64)) * 31) + ((F 0 0 (3 * k) 0).toInt64)) * 31) + ((F 0 0 (3 * k) 4).toInt64)) * 31) + ((F 0 0 (3 * k) 5).toInt64)) * 31) + ((F 0 0 (3 * k) 6).toInt64))), (0, .ref (zg S 7 0 0)), (1, .long l1), (3, .int (nI k))]) hx hb dX10_digestOfStage_76 hl (by decide) rfl (fun ls hl => ?_)
  refine lv_lload hx hb dX10_digestOfStage_78 (lv_at hl 0 rfl) ?_
  refine lv_ldc2 hx hb hown (hts _ wq713) dX10_digestOfStage_80 ?_
  refine lv_lmul hx hb dX10_digestOfStage_83 ?_
  refine lv_aload_n hx hb dX10_digestOfStage_84 rfl (lv_at hl 1 rfl) ?_
  refine lv_iload_n hx hb dX10_digestOfStage_85 rfl (lv_at hl 3 rfl) ?_
  refine zr_i (va_runV (As := [.int (nI k)]) (rest := [.long (((((((((((l1 * 31) + ((F 8 0 k 0).toInt64)) * 31) + ((F 0 0 (3 * k) 0).toInt64)) * 31) + ((F 0 0 (3 * k) 4).toInt64)) * 31) + ((F 0 0 (3 * k) 5).toInt64)) * 31) + ((F 0 0 (3 * k) 6).toInt64)) * 31)]) ⟨hx, hb, hml, hown, hts⟩ (k_X10_kept l D yc e0 A S Z F G q k (by first | assumption | omega | decide)) (cwV 1 hts (lw_V wq752 wq640 wq641 wq1 wq642) rfl rfl rfl (by decide +kernel) ⟨(Nat.le_of_ble_eq_true rfl), (Nat.le_of_ble_eq_true rfl)⟩) (tp_V hC hW hS hA 7 0 0 dm7 rfl rfl) rfl rfl hl.1 rfl (lv_room (Nat.le_of_ble_eq_true rfl)) dX10_digestOfStage_86 ⟨(Nat.le_of_ble_eq_true rfl), (Nat.le_of_ble_eq_true rfl)⟩) ?_
  refine lv_i2l (v := (v_X10_kept S F G q k).toInt64) hx hb dX10_digestOfStage_89 rfl ?_
  refine lv_ladd hx hb dX10_digestOfStage_90 ?_
  refine lv_lstore (lv' := [(4, .long ((((((((((((l1 * 31) + ((F 8 0 k 0).toInt64)) * 31) + ((F 0 0 (3 * k) 0).toInt64)) * 31) + ((F 0 0 (3 * k) 4).toInt64)) * 31) + ((F 0 0 (3 * k) 5).toInt64)) * 31) + ((F 0 0 (3 * k) 6).toInt64)) * 31) + ((v_X10_kept S F G q k).toInt64))), (0, .ref (zg S 7 0 0)), (1, .long l1), (3, .int (nI k))]) hx hb dX10_digestOfStage_91 hl (by decide) rfl (fun ls hl => ?_)
  refine lv_lload hx hb dX10_digestOfStage_93 (lv_at hl 0 rfl) ?_
  refine lv_ldc2 hx hb hown (hts _ wq713) dX10_digestOfStage_95 ?_
  refine lv_lmul hx hb dX10_digestOfStage_98 ?_
  refine lv_aload_n hx hb dX10_digestOfStage_99 rfl (lv_at hl 1 rfl) ?_
  refine lv_iload_n hx hb dX10_digestOfStage_100 rfl (lv_at hl 3 rfl) ?_
  refine zr_i (va_runV (As := [.int (nI k)]) (rest := [.long (((((((((((((l1 * 31) + ((F 8 0 k 0).toInt64)) * 31) + ((F 0 0 (3 * k) 0).toInt64)) * 31) + ((F 0 0 (3 * k) 4).toInt64)) * 31) + ((F 0 0 (3 * k) 5).toInt64)) * 31) + ((F 0 0 (3 * k) 6).toInt64)) * 31) + ((v_X10_kept S F G q k).toInt64)) * 31)]) ⟨hx, hb, hml, hown, hts⟩ (k_X10_isReady l D yc e0 A S Z F G q k (by first | assumption | omega | decide)) (cwV 1 hts (lw_V wq753 wq650 wq651 wq1 wq652) rfl rfl rfl (by decide +kernel) ⟨(Nat.le_of_ble_eq_true rfl), (Nat.le_of_ble_eq_true rfl)⟩) (tp_V hC hW hS hA 7 0 0 dm7 rfl rfl) rfl rfl hl.1 rfl (lv_room (Nat.le_of_ble_eq_true rfl)) dX10_digestOfStage_101 ⟨(Nat.le_of_ble_eq_true rfl), (Nat.le_of_ble_eq_true rfl)⟩) ?_
  refine zr_i (va_runS (As := [.int (v_X10_isReady S F G q k)]) (rest := [.long (((((((((((((l1 * 31) + ((F 8 0 k 0).toInt64)) * 31) + ((F 0 0 (3 * k) 0).toInt64)) * 31) + ((F 0 0 (3 * k) 4).toInt64)) * 31) + ((F 0 0 (3 * k) 5).toInt64)) * 31) + ((F 0 0 (3 * k) 6).toInt64)) * 31) + ((v_X10_kept S F G q k).toInt64)) * 31)]) ⟨hx, hb, hml, hown, hts⟩ (k_X10_bit l (v_X10_isReady S F G q k)) (va_cwS 1 hts (lw_S wq719 wq720 wq1 wq721) rfl rfl rfl (by decide +kernel) ⟨(Nat.le_of_ble_eq_true rfl), (Nat.le_of_ble_eq_true rfl)⟩) tp_N rfl rfl hl.1 rfl (lv_room (Nat.le_of_ble_eq_true rfl)) dX10_digestOfStage_104 ⟨(Nat.le_of_ble_eq_true rfl), (Nat.le_of_ble_eq_true rfl)⟩) ?_
  refine lv_i2l (v := (v_X10_bit (v_X10_isReady S F G q k)).toInt64) hx hb dX10_digestOfStage_107 rfl ?_
  refine lv_ladd hx hb dX10_digestOfStage_108 ?_
  refine lv_lstore (lv' := [(4, .long ((((((((((((((l1 * 31) + ((F 8 0 k 0).toInt64)) * 31) + ((F 0 0 (3 * k) 0).toInt64)) * 31) + ((F 0 0 (3 * k) 4).toInt64)) * 31) + ((F 0 0 (3 * k) 5).toInt64)) * 31) + ((F 0 0 (3 * k) 6).toInt64)) * 31) + ((v_X10_kept S F G q k).toInt64)) * 31) + ((v_X10_bit (v_X10_isReady S F G q k)).toInt64))), (0, .ref (zg S 7 0 0)), (1, .long l1), (3, .int (nI k))]) hx hb dX10_digestOfStage_109 hl (by decide) rfl (fun ls hl => ?_)
  refine lv_lload hx hb dX10_digestOfStage_111 (lv_at hl 0 rfl) ?_
  refine lv_ldc2 hx hb hown (hts _ wq713) dX10_digestOfStage_113 ?_
  refine lv_lmul hx hb dX10_digestOfStage_116 ?_
  refine lv_aload_n hx hb dX10_digestOfStage_117 rfl (lv_at hl 1 rfl) ?_
  refine lv_iload_n hx hb dX10_digestOfStage_118 rfl (lv_at hl 3 rfl) ?_
  refine zr_i (va_runV (As := [.int (nI k)]) (rest := [.long (((((((((((((((l1 * 31) + ((F 8 0 k 0).toInt64)) * 31) + ((F 0 0 (3 * k) 0).toInt64)) * 31) + ((F 0 0 (3 * k) 4).toInt64)) * 31) + ((F 0 0 (3 * k) 5).toInt64)) * 31) + ((F 0 0 (3 * k) 6).toInt64)) * 31) + ((v_X10_kept S F G q k).toInt64)) * 31) + ((v_X10_bit (v_X10_isReady S F G q k)).toInt64)) * 31)]) ⟨hx, hb, hml, hown, hts⟩ (k_X10_hasRoom l D yc e0 A S Z F G q k (by first | assumption | omega | decide)) (cwV 1 hts (lw_V wq754 wq755 wq756 wq1 wq757) rfl rfl rfl (by decide +kernel) ⟨(Nat.le_of_ble_eq_true rfl), (Nat.le_of_ble_eq_true rfl)⟩) (tp_V hC hW hS hA 7 0 0 dm7 rfl rfl) rfl rfl hl.1 rfl (lv_room (Nat.le_of_ble_eq_true rfl)) dX10_digestOfStage_119 ⟨(Nat.le_of_ble_eq_true rfl), (Nat.le_of_ble_eq_true rfl)⟩) ?_
  refine zr_i (va_runS (As := [.int (v_X10_hasRoom S F G q k)]) (rest := [.long (((((((((((((((l1 * 31) + ((F 8 0 k 0).toInt64)) * 31) + ((F 0 0 (3 * k) 0).toInt64)) * 31) + ((F 0 0 (3 * k) 4).toInt64)) * 31) + ((F 0 0 (3 * k) 5).toInt64)) * 31) + ((F 0 0 (3 * k) 6).toInt64)) * 31) + ((v_X10_kept S F G q k).toInt64)) * 31) + ((v_X10_bit (v_X10_isReady S F G q k)).toInt64)) * 31)]) ⟨hx, hb, hml, hown, hts⟩ (k_X10_bit l (v_X10_hasRoom S F G q k)) (va_cwS 1 hts (lw_S wq719 wq720 wq1 wq721) rfl rfl rfl (by decide +kernel) ⟨(Nat.le_of_ble_eq_true rfl), (Nat.le_of_ble_eq_true rfl)⟩) tp_N rfl rfl hl.1 rfl (lv_room (Nat.le_of_ble_eq_true rfl)) dX10_digestOfStage_122 ⟨(Nat.le_of_ble_eq_true rfl), (Nat.le_of_ble_eq_true rfl)⟩) ?_
  refine lv_i2l (v := (v_X10_bit (v_X10_hasRoom S F G q k)).toInt64) hx hb dX10_digestOfStage_125 rfl ?_
  refine lv_ladd hx hb dX10_digestOfStage_126 ?_
  refine lv_lstore (lv' := [(4, .long ((((((((((((((((l1 * 31) + ((F 8 0 k 0).toInt64)) * 31) + ((F 0 0 (3 * k) 0).toInt64)) * 31) + ((F 0 0 (3 * k) 4).toInt64)) * 31) + ((F 0 0 (3 * k) 5).toInt64)) * 31) + ((F 0 0 (3 * k) 6).toInt64)) * 31) + ((v_X10_kept S F G q k).toInt64)) * 31) + ((v_X10_bit (v_X10_isReady S F G q k)).toInt64)) * 31) + ((v_X10_bit (v_X10_hasRoom S F G q k)).toInt64))), (0, .ref (zg S 7 0 0)), (1, .long l1), (3, .int (nI k))]) hx hb dX10_digestOfStage_127 hl (by decide) rfl (fun ls hl => ?_)
  refine lv_lload hx hb dX10_digestOfStage_129 (lv_at hl 0 rfl) ?_
  refine lv_ldc2 hx hb hown (hts _ wq713) dX10_digestOfStage_131 ?_
  refine lv_lmul hx hb dX10_digestOfStage_134 ?_
  refine lv_aload_n hx hb dX10_digestOfStage_135 rfl (lv_at hl 1 rfl) ?_
  refine lv_iload_n hx hb dX10_digestOfStage_136 rfl (lv_at hl 3 rfl) ?_
  refine lv_iconst (v := 0) hx hb dX10_digestOfStage_137 (by decide) ?_
  refine zr_i (va_runV (As := [.int (nI k), .int 0]) (rest := [.long (((((((((((((((((l1 * 31) + ((F 8 0 k 0).toInt64)) * 31) + ((F 0 0 (3 * k) 0).toInt64)) * 31) + ((F 0 0 (3 * k) 4).toInt64)) * 31) + ((F 0 0 (3 * k) 5).toInt64)) * 31) + ((F 0 0 (3 * k) 6).toInt64)) * 31) + ((v_X10_kept S F G q k).toInt64)) * 31) + ((v_X10_bit (v_X10_isReady S F G q k)).toInt64)) * 31) + ((v_X10_bit (v_X10_hasRoom S F G q k)).toInt64)) * 31)]) ⟨hx, hb, hml, hown, hts⟩ (k_X10_queued0 l D yc e0 A S Z F G q k (by first | assumption | omega | decide)) (cwV 2 hts (lw_V wq759 wq760 wq761 wq1 wq762) rfl rfl rfl (by decide +kernel) ⟨(Nat.le_of_ble_eq_true rfl), (Nat.le_of_ble_eq_true rfl)⟩) (tp_V hC hW hS hA 7 0 0 dm7 rfl rfl) rfl rfl hl.1 rfl (lv_room (Nat.le_of_ble_eq_true rfl)) dX10_digestOfStage_138 ⟨(Nat.le_of_ble_eq_true rfl), (Nat.le_of_ble_eq_true rfl)⟩) ?_
  refine lv_i2l (v := (v_X10_queued0 S F G q k).toInt64) hx hb dX10_digestOfStage_141 rfl ?_
  refine lv_ladd hx hb dX10_digestOfStage_142 ?_
  refine lv_lstore (lv' := [(4, .long ((((((((((((((((((l1 * 31) + ((F 8 0 k 0).toInt64)) * 31) + ((F 0 0 (3 * k) 0).toInt64)) * 31) + ((F 0 0 (3 * k) 4).toInt64)) * 31) + ((F 0 0 (3 * k) 5).toInt64)) * 31) + ((F 0 0 (3 * k) 6).toInt64)) * 31) + ((v_X10_kept S F G q k).toInt64)) * 31) + ((v_X10_bit (v_X10_isReady S F G q k)).toInt64)) * 31) + ((v_X10_bit (v_X10_hasRoom S F G q k)).toInt64)) * 31) + ((v_X10_queued0 S F G q k).toInt64))), (0, .ref (zg S 7 0 0)), (1, .long l1), (3, .int (nI k))]) hx hb dX10_digestOfStage_143 hl (by decide) rfl (fun ls hl => ?_)
  refine lv_lload hx hb dX10_digestOfStage_145 (lv_at hl 0 rfl) ?_
  refine lv_ldc2 hx hb hown (hts _ wq713) dX10_digestOfStage_147 ?_
  refine lv_lmul hx hb dX10_digestOfStage_150 ?_
  refine lv_aload_n hx hb dX10_digestOfStage_151 rfl (lv_at hl 1 rfl) ?_
  refine lv_iload_n hx hb dX10_digestOfStage_152 rfl (lv_at hl 3 rfl) ?_
  refine lv_iconst (v := 0) hx hb dX10_digestOfStage_153 (by decide) ?_
  refine zr_i (va_runV (As := [.int (nI k), .int 0]) (rest := [.long (((((((((((((((((((l1 * 31) + ((F 8 0 k 0).toInt64)) * 31) + ((F 0 0 (3 * k) 0).toInt64)) * 31) + ((F 0 0 (3 * k) 4).toInt64)) * 31) + ((F 0 0 (3 * k) 5).toInt64)) * 31) + ((F 0 0 (3 * k) 6).toInt64)) * 31) + ((v_X10_kept S F G q k).toInt64)) * 31) + ((v_X10_bit (v_X10_isReady S F G q k)).toInt64)) * 31) + ((v_X10_bit (v_X10_hasRoom S F G q k)).toInt64)) * 31) + ((v_X10_queued0 S F G q k).toInt64)) * 31)]) ⟨hx, hb, hml, hown, hts⟩ (k_X10_isBlocked0 l D yc e0 A S Z F G q k (by first | assumption | omega | decide)) (cwV 2 hts (lw_V wq764 wq654 wq655 wq1 wq656) rfl rfl rfl (by decide +kernel) ⟨(Nat.le_of_ble_eq_true rfl), (Nat.le_of_ble_eq_true rfl)⟩) (tp_V hC hW hS hA 7 0 0 dm7 rfl rfl) rfl rfl hl.1 rfl (lv_room (Nat.le_of_ble_eq_true rfl)) dX10_digestOfStage_154 ⟨(Nat.le_of_ble_eq_true rfl), (Nat.le_of_ble_eq_true rfl)⟩) ?_
  refine zr_i (va_runS (As := [.int (v_X10_isBlocked0 S F G q k)]) (rest := [.long (((((((((((((((((((l1 * 31) + ((F 8 0 k 0).toInt64)) * 31) + ((F 0 0 (3 * k) 0).toInt64)) * 31) + ((F 0 0 (3 * k) 4).toInt64)) * 31) + ((F 0 0 (3 * k) 5).toInt64)) * 31) + ((F 0 0 (3 * k) 6).toInt64)) * 31) + ((v_X10_kept S F G q k).toInt64)) * 31) + ((v_X10_bit (v_X10_isReady S F G q k)).toInt64)) * 31) + ((v_X10_bit (v_X10_hasRoom S F G q k)).toInt64)) * 31) + ((v_X10_queued0 S F G q k).toInt64)) * 31)]) ⟨hx, hb, hml, hown, hts⟩ (k_X10_bit l (v_X10_isBlocked0 S F G q k)) (va_cwS 1 hts (lw_S wq719 wq720 wq1 wq721) rfl rfl rfl (by decide +kernel) ⟨(Nat.le_of_ble_eq_true rfl), (Nat.le_of_ble_eq_true rfl)⟩) tp_N rfl rfl hl.1 rfl (lv_room (Nat.le_of_ble_eq_true rfl)) dX10_digestOfStage_157 ⟨(Nat.le_of_ble_eq_true rfl), (Nat.le_of_ble_eq_true rfl)⟩) ?_
  refine lv_i2l (v := (v_X10_bit (v_X10_isBlocked0 S F G q k)).toInt64) hx hb dX10_digestOfStage_160 rfl ?_
  refine lv_ladd hx hb dX10_digestOfStage_161 ?_
  refine lv_lstore (lv' := [(4, .long ((((((((((((((((((((l1 * 31) + ((F 8 0 k 0).toInt64)) * 31) + ((F 0 0 (3 * k) 0).toInt64)) * 31) + ((F 0 0 (3 * k) 4).toInt64)) * 31) + ((F 0 0 (3 * k) 5).toInt64)) * 31) + ((F 0 0 (3 * k) 6).toInt64)) * 31) + ((v_X10_kept S F G q k).toInt64)) * 31) + ((v_X10_bit (v_X10_isReady S F G q k)).toInt64)) * 31) + ((v_X10_bit (v_X10_hasRoom S F G q k)).toInt64)) * 31) + ((v_X10_queued0 S F G q k).toInt64)) * 31) + ((v_X10_bit (v_X10_isBlocked0 S F G q k)).toInt64))), (0, .ref (zg S 7 0 0)), (1, .long l1), (3, .int (nI k))]) hx hb dX10_digestOfStage_162 hl (by decide) rfl (fun ls hl => ?_)
  refine lv_lload hx hb dX10_digestOfStage_164 (lv_at hl 0 rfl) ?_
  refine lv_ldc2 hx hb hown (hts _ wq713) dX10_digestOfStage_166 ?_
  refine lv_lmul hx hb dX10_digestOfStage_169 ?_
  refine lv_aload_n hx hb dX10_digestOfStage_170 rfl (lv_at hl 1 rfl) ?_
  refine lv_iload_n hx hb dX10_digestOfStage_171 rfl (lv_at hl 3 rfl) ?_
  refine lv_iconst (v := 1) hx hb dX10_digestOfStage_172 (by decide) ?_
  refine zr_i (va_runV (As := [.int (nI k), .int 1]) (rest := [.long (((((((((((((((((((((l1 * 31) + ((F 8 0 k 0).toInt64)) * 31) + ((F 0 0 (3 * k) 0).toInt64)) * 31) + ((F 0 0 (3 * k) 4).toInt64)) * 31) + ((F 0 0 (3 * k) 5).toInt64)) * 31) + ((F 0 0 (3 * k) 6).toInt64)) * 31) + ((v_X10_kept S F G q k).toInt64)) * 31) + ((v_X10_bit (v_X10_isReady S F G q k)).toInt64)) * 31) + ((v_X10_bit (v_X10_hasRoom S F G q k)).toInt64)) * 31) + ((v_X10_queued0 S F G q k).toInt64)) * 31) + ((v_X10_bit (v_X10_isBlocked0 S F G q k)).toInt64)) * 31)]) ⟨hx, hb, hml, hown, hts⟩ (k_X10_queued1 l D yc e0 A S Z F G q k (by first | assumption | omega | decide)) (cwV 2 hts (lw_V wq759 wq760 wq761 wq1 wq762) rfl rfl rfl (by decide +kernel) ⟨(Nat.le_of_ble_eq_true rfl), (Nat.le_of_ble_eq_true rfl)⟩) (tp_V hC hW hS hA 7 0 0 dm7 rfl rfl) rfl rfl hl.1 rfl (lv_room (Nat.le_of_ble_eq_true rfl)) dX10_digestOfStage_173 ⟨(Nat.le_of_ble_eq_true rfl), (Nat.le_of_ble_eq_true rfl)⟩) ?_
  refine lv_i2l (v := (v_X10_queued1 S F G q k).toInt64) hx hb dX10_digestOfStage_176 rfl ?_
  refine lv_ladd hx hb dX10_digestOfStage_177 ?_
  refine lv_lstore (lv' := [(4, .long ((((((((((((((((((((((l1 * 31) + ((F 8 0 k 0).toInt64)) * 31) + ((F 0 0 (3 * k) 0).toInt64)) * 31) + ((F 0 0 (3 * k) 4).toInt64)) * 31) + ((F 0 0 (3 * k) 5).toInt64)) * 31) + ((F 0 0 (3 * k) 6).toInt64)) * 31) + ((v_X10_kept S F G q k).toInt64)) * 31) + ((v_X10_bit (v_X10_isReady S F G q k)).toInt64)) * 31) + ((v_X10_bit (v_X10_hasRoom S F G q k)).toInt64)) * 31) + ((v_X10_queued0 S F G q k).toInt64)) * 31) + ((v_X10_bit (v_X10_isBlocked0 S F G q k)).toInt64)) * 31) + ((v_X10_queued1 S F G q k).toInt64))), (0, .ref (zg S 7 0 0)), (1, .long l1), (3, .int (nI k))]) hx hb dX10_digestOfStage_178 hl (by decide) rfl (fun ls hl => ?_)
  refine lv_lload hx hb dX10_digestOfStage_180 (lv_at hl 0 rfl) ?_
  refine lv_ldc2 hx hb hown (hts _ wq713) dX10_digestOfStage_182 ?_
  refine lv_lmul hx hb dX10_digestOfStage_185 ?_
  refine lv_aload_n hx hb dX10_digestOfStage_186 rfl (lv_at hl 1 rfl) ?_
  refine lv_iload_n hx hb dX10_digestOfStage_187 rfl (lv_at hl 3 rfl) ?_
  refine lv_iconst (v := 1) hx hb dX10_digestOfStage_188 (by decide) ?_
  refine zr_i (va_runV (As := [.int (nI k), .int 1]) (rest := [.long (((((((((((((((((((((((l1 * 31) + ((F 8 0 k 0).toInt64)) * 31) + ((F 0 0 (3 * k) 0).toInt64)) * 31) + ((F 0 0 (3 * k) 4).toInt64)) * 31) + ((F 0 0 (3 * k) 5).toInt64)) * 31) + ((F 0 0 (3 * k) 6).toInt64)) * 31) + ((v_X10_kept S F G q k).toInt64)) * 31) + ((v_X10_bit (v_X10_isReady S F G q k)).toInt64)) * 31) + ((v_X10_bit (v_X10_hasRoom S F G q k)).toInt64)) * 31) + ((v_X10_queued0 S F G q k).toInt64)) * 31) + ((v_X10_bit (v_X10_isBlocked0 S F G q k)).toInt64)) * 31) + ((v_X10_queued1 S F G q k).toInt64)) * 31)]) ⟨hx, hb, hml, hown, hts⟩ (k_X10_isBlocked1 l D yc e0 A S Z F G q k (by first | assumption | omega | decide)) (cwV 2 hts (lw_V wq764 wq654 wq655 wq1 wq656) rfl rfl rfl (by decide +kernel) ⟨(Nat.le_of_ble_eq_true rfl), (Nat.le_of_ble_eq_true rfl)⟩) (tp_V hC hW hS hA 7 0 0 dm7 rfl rfl) rfl rfl hl.1 rfl (lv_room (Nat.le_of_ble_eq_true rfl)) dX10_digestOfStage_189 ⟨(Nat.le_of_ble_eq_true rfl), (Nat.le_of_ble_eq_true rfl)⟩) ?_
  refine zr_i (va_runS (As := [.int (v_X10_isBlocked1 S F G q k)]) (rest := [.long (((((((((((((((((((((((l1 * 31) + ((F 8 0 k 0).toInt64)) * 31) + ((F 0 0 (3 * k) 0).toInt64)) * 31) + ((F 0 0 (3 * k) 4).toInt64)) * 31) + ((F 0 0 (3 * k) 5).toInt64)) * 31) + ((F 0 0 (3 * k) 6).toInt64)) * 31) + ((v_X10_kept S F G q k).toInt64)) * 31) + ((v_X10_bit (v_X10_isReady S F G q k)).toInt64)) * 31) + ((v_X10_bit (v_X10_hasRoom S F G q k)).toInt64)) * 31) + ((v_X10_queued0 S F G q k).toInt64)) * 31) + ((v_X10_bit (v_X10_isBlocked0 S F G q k)).toInt64)) * 31) + ((v_X10_queued1 S F G q k).toInt64)) * 31)]) ⟨hx, hb, hml, hown, hts⟩ (k_X10_bit l (v_X10_isBlocked1 S F G q k)) (va_cwS 1 hts (lw_S wq719 wq720 wq1 wq721) rfl rfl rfl (by decide +kernel) ⟨(Nat.le_of_ble_eq_true rfl), (Nat.le_of_ble_eq_true rfl)⟩) tp_N rfl rfl hl.1 rfl (lv_room (Nat.le_of_ble_eq_true rfl)) dX10_digestOfStage_192 ⟨(Nat.le_of_ble_eq_true rfl), (Nat.le_of_ble_eq_true rfl)⟩) ?_
  refine lv_i2l (v := (v_X10_bit (v_X10_isBlocked1 S F G q k)).toInt64) hx hb dX10_digestOfStage_195 rfl ?_
  refine lv_ladd hx hb dX10_digestOfStage_196 ?_
  refine lv_lstore (lv' := [(4, .long ((((((((((((((((((((((((l1 * 31) + ((F 8 0 k 0).toInt64)) * 31) + ((F 0 0 (3 * k) 0).toInt64)) * 31) + ((F 0 0 (3 * k) 4).toInt64)) * 31) + ((F 0 0 (3 * k) 5).toInt64)) * 31) + ((F 0 0 (3 * k) 6).toInt64)) * 31) + ((v_X10_kept S F G q k).toInt64)) * 31) + ((v_X10_bit (v_X10_isReady S F G q k)).toInt64)) * 31) + ((v_X10_bit (v_X10_hasRoom S F G q k)).toInt64)) * 31) + ((v_X10_queued0 S F G q k).toInt64)) * 31) + ((v_X10_bit (v_X10_isBlocked0 S F G q k)).toInt64)) * 31) + ((v_X10_queued1 S F G q k).toInt64)) * 31) + ((v_X10_bit (v_X10_isBlocked1 S F G q k)).toInt64))), (0, .ref (zg S 7 0 0)), (1, .long l1), (3, .int (nI k))]) hx hb dX10_digestOfStage_197 hl (by decide) rfl (fun ls hl => ?_)
  refine lv_lload hx hb dX10_digestOfStage_199 (lv_at hl 0 rfl) ?_
  refine lv_ldc2 hx hb hown (hts _ wq713) dX10_digestOfStage_201 ?_
  refine lv_lmul hx hb dX10_digestOfStage_204 ?_
  refine lv_aload_n hx hb dX10_digestOfStage_205 rfl (lv_at hl 1 rfl) ?_
  refine lv_iload_n hx hb dX10_digestOfStage_206 rfl (lv_at hl 3 rfl) ?_
  refine zr_i (va_runV (As := [.int (nI k)]) (rest := [.long (((((((((((((((((((((((((l1 * 31) + ((F 8 0 k 0).toInt64)) * 31) + ((F 0 0 (3 * k) 0).toInt64)) * 31) + ((F 0 0 (3 * k) 4).toInt64)) * 31) + ((F 0 0 (3 * k) 5).toInt64)) * 31) + ((F 0 0 (3 * k) 6).toInt64)) * 31) + ((v_X10_kept S F G q k).toInt64)) * 31) + ((v_X10_bit (v_X10_isReady S F G q k)).toInt64)) * 31) + ((v_X10_bit (v_X10_hasRoom S F G q k)).toInt64)) * 31) + ((v_X10_queued0 S F G q k).toInt64)) * 31) + ((v_X10_bit (v_X10_isBlocked0 S F G q k)).toInt64)) * 31) + ((v_X10_queued1 S F G q k).toInt64)) * 31) + ((v_X10_bit (v_X10_isBlocked1 S F G q k)).toInt64)) * 31)]) ⟨hx, hb, hml, hown, hts⟩ (k_X10_depthOf l D yc e0 A S Z F G q k (by first | assumption | omega | decide)) (cwV 1 hts (lw_V wq765 wq766 wq767 wq1 wq768) rfl rfl rfl (by decide +kernel) ⟨(Nat.le_of_ble_eq_true rfl), (Nat.le_of_ble_eq_true rfl)⟩) (tp_V hC hW hS hA 7 0 0 dm7 rfl rfl) rfl rfl hl.1 rfl (lv_room (Nat.le_of_ble_eq_true rfl)) dX10_digestOfStage_207 ⟨(Nat.le_of_ble_eq_true rfl), (Nat.le_of_ble_eq_true rfl)⟩) ?_
  refine zk_ti (y := F 8 0 k 13) rfl ?_
  refine lv_i2l (v := (F 8 0 k 13).toInt64) hx hb dX10_digestOfStage_210 rfl ?_
  refine lv_ladd hx hb dX10_digestOfStage_211 ?_
  refine lv_lstore (lv' := [(4, .long ((((((((((((((((((((((((((l1 * 31) + ((F 8 0 k 0).toInt64)) * 31) + ((F 0 0 (3 * k) 0).toInt64)) * 31) + ((F 0 0 (3 * k) 4).toInt64)) * 31) + ((F 0 0 (3 * k) 5).toInt64)) * 31) + ((F 0 0 (3 * k) 6).toInt64)) * 31) + ((v_X10_kept S F G q k).toInt64)) * 31) + ((v_X10_bit (v_X10_isReady S F G q k)).toInt64)) * 31) + ((v_X10_bit (v_X10_hasRoom S F G q k)).toInt64)) * 31) + ((v_X10_queued0 S F G q k).toInt64)) * 31) + ((v_X10_bit (v_X10_isBlocked0 S F G q k)).toInt64)) * 31) + ((v_X10_queued1 S F G q k).toInt64)) * 31) + ((v_X10_bit (v_X10_isBlocked1 S F G q k)).toInt64)) * 31) + ((F 8 0 k 13).toInt64))), (0, .ref (zg S 7 0 0)), (1, .long l1), (3, .int (nI k))]) hx hb dX10_digestOfStage_212 hl (by decide) rfl (fun ls hl => ?_)
  refine lv_aload_n hx hb dX10_digestOfStage_214 rfl (lv_at hl 1 rfl) ?_
  refine lv_iload_n hx hb dX10_digestOfStage_215 rfl (lv_at hl 3 rfl) ?_
  refine zr_i (va_runV (As := [.int (nI k)]) (rest := []) ⟨hx, hb, hml, hown, hts⟩ (k_X10_sortOf l D yc e0 A S Z F G q k (by first | assumption | omega | decide)) (cwV 1 hts (lw_V wq741 wq628 wq629 wq1 wq630) rfl rfl rfl (by decide +kernel) ⟨(Nat.le_of_ble_eq_true rfl), (Nat.le_of_ble_eq_true rfl)⟩) (tp_V hC hW hS hA 7 0 0 dm7 rfl rfl) rfl rfl hl.1 rfl (lv_room (Nat.le_of_ble_eq_true rfl)) dX10_digestOfStage_216 ⟨(Nat.le_of_ble_eq_true rfl), (Nat.le_of_ble_eq_true rfl)⟩) ?_
  refine zk_ti (y := F 8 0 k 0) rfl ?_
  refine lv_istore (lv' := [(6, .int (F 8 0 k 0)), (4, .long ((((((((((((((((((((((((((l1 * 31) + ((F 8 0 k 0).toInt64)) * 31) + ((F 0 0 (3 * k) 0).toInt64)) * 31) + ((F 0 0 (3 * k) 4).toInt64)) * 31) + ((F 0 0 (3 * k) 5).toInt64)) * 31) + ((F 0 0 (3 * k) 6).toInt64)) * 31) + ((v_X10_kept S F G q k).toInt64)) * 31) + ((v_X10_bit (v_X10_isReady S F G q k)).toInt64)) * 31) + ((v_X10_bit (v_X10_hasRoom S F G q k)).toInt64)) * 31) + ((v_X10_queued0 S F G q k).toInt64)) * 31) + ((v_X10_bit (v_X10_isBlocked0 S F G q k)).toInt64)) * 31) + ((v_X10_queued1 S F G q k).toInt64)) * 31) + ((v_X10_bit (v_X10_isBlocked1 S F G q k)).toInt64)) * 31) + ((F 8 0 k 13).toInt64))), (0, .ref (zg S 7 0 0)), (1, .long l1), (3, .int (nI k))]) hx hb dX10_digestOfStage_219 hl (by decide) rfl (fun ls hl => ?_)
  refine lv_iload hx hb dX10_digestOfStage_221 (lv_at hl 0 rfl) ?_
  refine lv_iconst (v := 3) hx hb dX10_digestOfStage_223 (by decide) ?_
  refine lv_icmp_eq (tgt := 233) hx hb dX10_digestOfStage_224 (by decide) (fun hb1 => ?_) (fun hb1 => ?_)
  · refine lv_lload hx hb dX10_digestOfStage_233 (lv_at hl 1 rfl) ?_
    refine lv_ldc2 hx hb hown (hts _ wq713) dX10_digestOfStage_235 ?_
    refine lv_lmul hx hb dX10_digestOfStage_238 ?_
    refine lv_aload_n hx hb dX10_digestOfStage_239 rfl (lv_at hl 2 rfl) ?_
    refine lv_iload_n hx hb dX10_digestOfStage_240 rfl (lv_at hl 4 rfl) ?_
    refine zr_i (va_runV (As := [.int (nI k)]) (rest := [.long (((((((((((((((((((((((((((l1 * 31) + ((F 8 0 k 0).toInt64)) * 31) + ((F 0 0 (3 * k) 0).toInt64)) * 31) + ((F 0 0 (3 * k) 4).toInt64)) * 31) + ((F 0 0 (3 * k) 5).toInt64)) * 31) + ((F 0 0 (3 * k) 6).toInt64)) * 31) + ((v_X10_kept S F G q k).toInt64)) * 31) + ((v_X10_bit (v_X10_isReady S F G q k)).toInt64)) * 31) + ((v_X10_bit (v_X10_hasRoom S F G q k)).toInt64)) * 31) + ((v_X10_queued0 S F G q k).toInt64)) * 31) + ((v_X10_bit (v_X10_isBlocked0 S F G q k)).toInt64)) * 31) + ((v_X10_queued1 S F G q k).toInt64)) * 31) + ((v_X10_bit (v_X10_isBlocked1 S F G q k)).toInt64)) * 31) + ((F 8 0 k 13).toInt64)) * 31)]) ⟨hx, hb, hml, hown, hts⟩ (k_X10_nextEnd l D yc e0 A S Z F G q k (by first | assumption | omega | decide) (by first | exact Or.inl (by assumption) | exact Or.inr (by assumption))) (cwV 1 hts (lw_V wq769 wq770 wq771 wq1 wq772) rfl rfl rfl (by decide +kernel) ⟨(Nat.le_of_ble_eq_true rfl), (Nat.le_of_ble_eq_true rfl)⟩) (tp_V hC hW hS hA 7 0 0 dm7 rfl rfl) rfl rfl hl.1 rfl (lv_room (Nat.le_of_ble_eq_true rfl)) dX10_digestOfStage_241 ⟨(Nat.le_of_ble_eq_true rfl), (Nat.le_of_ble_eq_true rfl)⟩) ?_
    refine lv_i2l (v := (v_X10_nextEnd S F G q k).toInt64) hx hb dX10_digestOfStage_244 rfl ?_
    refine lv_ladd hx hb dX10_digestOfStage_245 ?_
    refine lv_lstore (lv' := [(4, .long ((((((((((((((((((((((((((((l1 * 31) + ((F 8 0 k 0).toInt64)) * 31) + ((F 0 0 (3 * k) 0).toInt64)) * 31) + ((F 0 0 (3 * k) 4).toInt64)) * 31) + ((F 0 0 (3 * k) 5).toInt64)) * 31) + ((F 0 0 (3 * k) 6).toInt64)) * 31) + ((v_X10_kept S F G q k).toInt64)) * 31) + ((v_X10_bit (v_X10_isReady S F G q k)).toInt64)) * 31) + ((v_X10_bit (v_X10_hasRoom S F G q k)).toInt64)) * 31) + ((v_X10_queued0 S F G q k).toInt64)) * 31) + ((v_X10_bit (v_X10_isBlocked0 S F G q k)).toInt64)) * 31) + ((v_X10_queued1 S F G q k).toInt64)) * 31) + ((v_X10_bit (v_X10_isBlocked1 S F G q k)).toInt64)) * 31) + ((F 8 0 k 13).toInt64)) * 31) + ((v_X10_nextEnd S F G q k).toInt64))), (6, .int (F 8 0 k 0)), (0, .ref (zg S 7 0 0)), (1, .long l1), (3, .int (nI k))]) hx hb dX10_digestOfStage_246 hl (by decide) rfl (fun ls hl => ?_)
    refine lv_iload hx hb dX10_digestOfStage_248 (lv_at hl 1 rfl) ?_
    refine lv_bipush (v := 7) hx hb dX10_digestOfStage_250 (by decide) ?_
    refine lv_icmp_ne (tgt := 265) hx hb dX10_digestOfStage_252 (by decide) (fun hb2 => ?_) (fun hb2 => ?_)
    · refine lv_lload hx hb dX10_digestOfStage_265 (lv_at hl 0 rfl) ?_
      exact ze_l hx hb hr hlk (by unfold v_X10_digestOfStage; rw [if_pos hb1, if_neg hb2]) dX10_digestOfStage_267
    · refine lv_aload_n hx hb dX10_digestOfStage_255 rfl (lv_at hl 2 rfl) ?_
      refine lv_lload hx hb dX10_digestOfStage_256 (lv_at hl 0 rfl) ?_
      refine lv_iload_n hx hb dX10_digestOfStage_258 rfl (lv_at hl 4 rfl) ?_
      refine zr_l (va_runV (As := [.long ((((((((((((((((((((((((((((l1 * 31) + ((F 8 0 k 0).toInt64)) * 31) + ((F 0 0 (3 * k) 0).toInt64)) * 31) + ((F 0 0 (3 * k) 4).toInt64)) * 31) + ((F 0 0 (3 * k) 5).toInt64)) * 31) + ((F 0 0 (3 * k) 6).toInt64)) * 31) + ((v_X10_kept S F G q k).toInt64)) * 31) + ((v_X10_bit (v_X10_isReady S F G q k)).toInt64)) * 31) + ((v_X10_bit (v_X10_hasRoom S F G q k)).toInt64)) * 31) + ((v_X10_queued0 S F G q k).toInt64)) * 31) + ((v_X10_bit (v_X10_isBlocked0 S F G q k)).toInt64)) * 31) + ((v_X10_queued1 S F G q k).toInt64)) * 31) + ((v_X10_bit (v_X10_isBlocked1 S F G q k)).toInt64)) * 31) + ((F 8 0 k 13).toInt64)) * 31) + ((v_X10_nextEnd S F G q k).toInt64)), .int (nI k)]) (rest := []) ⟨hx, hb, hml, hown, hts⟩ (k_X10_digestOfOutput l D yc e0 A S Z F G q ((((((((((((((((((((((((((((l1 * 31) + ((F 8 0 k 0).toInt64)) * 31) + ((F 0 0 (3 * k) 0).toInt64)) * 31) + ((F 0 0 (3 * k) 4).toInt64)) * 31) + ((F 0 0 (3 * k) 5).toInt64)) * 31) + ((F 0 0 (3 * k) 6).toInt64)) * 31) + ((v_X10_kept S F G q k).toInt64)) * 31) + ((v_X10_bit (v_X10_isReady S F G q k)).toInt64)) * 31) + ((v_X10_bit (v_X10_hasRoom S F G q k)).toInt64)) * 31) + ((v_X10_queued0 S F G q k).toInt64)) * 31) + ((v_X10_bit (v_X10_isBlocked0 S F G q k)).toInt64)) * 31) + ((v_X10_queued1 S F G q k).toInt64)) * 31) + ((v_X10_bit (v_X10_isBlocked1 S F G q k)).toInt64)) * 31) + ((F 8 0 k 13).toInt64)) * 31) + ((v_X10_nextEnd S F G q k).toInt64)) k (by first | assumption | omega | decide) (by first | assumption | omega | decide) (by first | assumption | omega | decide) (hO (by assumption))) (cwV 2 hts (lw_V wq780 wq782 ws23 wq1 wq783) rfl rfl rfl (by decide +kernel) ⟨(Nat.le_of_ble_eq_true rfl), (Nat.le_of_ble_eq_true rfl)⟩) (tp_V hC hW hS hA 7 0 0 dm7 rfl rfl) rfl rfl hl.1 rfl (lv_room (Nat.le_of_ble_eq_true rfl)) dX10_digestOfStage_259 ⟨(Nat.le_of_ble_eq_true rfl), (Nat.le_of_ble_eq_true rfl)⟩) ?_
      refine lv_goto (tgt := 267) hx hb dX10_digestOfStage_262 (by decide) ?_
      exact ze_l hx hb hr hlk (by unfold v_X10_digestOfStage; rw [if_pos hb1, if_pos hb2]) dX10_digestOfStage_267
  · refine lv_iload hx hb dX10_digestOfStage_227 (lv_at hl 0 rfl) ?_
    refine lv_iconst (v := 4) hx hb dX10_digestOfStage_229 (by decide) ?_
    refine lv_icmp_ne (tgt := 248) hx hb dX10_digestOfStage_230 (by decide) (fun hb3 => ?_) (fun hb3 => ?_)
    · refine lv_iload hx hb dX10_digestOfStage_248 (lv_at hl 0 rfl) ?_
      refine lv_bipush (v := 7) hx hb dX10_digestOfStage_250 (by decide) ?_
      refine lv_icmp_ne (tgt := 265) hx hb dX10_digestOfStage_252 (by decide) (fun hb5 => ?_) (fun hb5 => ?_)
      · refine lv_lload hx hb dX10_digestOfStage_265 (lv_at hl 1 rfl) ?_
        exact ze_l hx hb hr hlk (by unfold v_X10_digestOfStage; rw [if_neg hb1, if_neg hb3, if_neg hb5]) dX10_digestOfStage_267
      · refine lv_aload_n hx hb dX10_digestOfStage_255 rfl (lv_at hl 2 rfl) ?_
        refine lv_lload hx hb dX10_digestOfStage_256 (lv_at hl 1 rfl) ?_
        refine lv_iload_n hx hb dX10_digestOfStage_258 rfl (lv_at hl 4 rfl) ?_
        refine zr_l (va_runV (As := [.long ((((((((((((((((((((((((((l1 * 31) + ((F 8 0 k 0).toInt64)) * 31) + ((F 0 0 (3 * k) 0).toInt64)) * 31) + ((F 0 0 (3 * k) 4).toInt64)) * 31) + ((F 0 0 (3 * k) 5).toInt64)) * 31) + ((F 0 0 (3 * k) 6).toInt64)) * 31) + ((v_X10_kept S F G q k).toInt64)) * 31) + ((v_X10_bit (v_X10_isReady S F G q k)).toInt64)) * 31) + ((v_X10_bit (v_X10_hasRoom S F G q k)).toInt64)) * 31) + ((v_X10_queued0 S F G q k).toInt64)) * 31) + ((v_X10_bit (v_X10_isBlocked0 S F G q k)).toInt64)) * 31) + ((v_X10_queued1 S F G q k).toInt64)) * 31) + ((v_X10_bit (v_X10_isBlocked1 S F G q k)).toInt64)) * 31) + ((F 8 0 k 13).toInt64)), .int (nI k)]) (rest := []) ⟨hx, hb, hml, hown, hts⟩ (k_X10_digestOfOutput l D yc e0 A S Z F G q ((((((((((((((((((((((((((l1 * 31) + ((F 8 0 k 0).toInt64)) * 31) + ((F 0 0 (3 * k) 0).toInt64)) * 31) + ((F 0 0 (3 * k) 4).toInt64)) * 31) + ((F 0 0 (3 * k) 5).toInt64)) * 31) + ((F 0 0 (3 * k) 6).toInt64)) * 31) + ((v_X10_kept S F G q k).toInt64)) * 31) + ((v_X10_bit (v_X10_isReady S F G q k)).toInt64)) * 31) + ((v_X10_bit (v_X10_hasRoom S F G q k)).toInt64)) * 31) + ((v_X10_queued0 S F G q k).toInt64)) * 31) + ((v_X10_bit (v_X10_isBlocked0 S F G q k)).toInt64)) * 31) + ((v_X10_queued1 S F G q k).toInt64)) * 31) + ((v_X10_bit (v_X10_isBlocked1 S F G q k)).toInt64)) * 31) + ((F 8 0 k 13).toInt64)) k (by first | assumption | omega | decide) (by first | assumption | omega | decide) (by first | assumption | omega | decide) (hO (by assumption))) (cwV 2 hts (lw_V wq780 wq782 ws23 wq1 wq783) rfl rfl rfl (by decide +kernel) ⟨(Nat.le_of_ble_eq_true rfl), (Nat.le_of_ble_eq_true rfl)⟩) (tp_V hC hW hS hA 7 0 0 dm7 rfl rfl) rfl rfl hl.1 rfl (lv_room (Nat.le_of_ble_eq_true rfl)) dX10_digestOfStage_259 ⟨(Nat.le_of_ble_eq_true rfl), (Nat.le_of_ble_eq_true rfl)⟩) ?_
        refine lv_goto (tgt := 267) hx hb dX10_digestOfStage_262 (by decide) ?_
        exact ze_l hx hb hr hlk (by unfold v_X10_digestOfStage; rw [if_neg hb1, if_neg hb3, if_pos hb5]) dX10_digestOfStage_267
    · refine lv_lload hx hb dX10_digestOfStage_233 (lv_at hl 1 rfl) ?_
      refine lv_ldc2 hx hb hown (hts _ wq713) dX10_digestOfStage_235 ?_
      refine lv_lmul hx hb dX10_digestOfStage_238 ?_
      refine lv_aload_n hx hb dX10_digestOfStage_239 rfl (lv_at hl 2 rfl) ?_
      refine lv_iload_n hx hb dX10_digestOfStage_240 rfl (lv_at hl 4 rfl) ?_
      refine zr_i (va_runV (As := [.int (nI k)]) (rest := [.long (((((((((((((((((((((((((((l1 * 31) + ((F 8 0 k 0).toInt64)) * 31) + ((F 0 0 (3 * k) 0).toInt64)) * 31) + ((F 0 0 (3 * k) 4).toInt64)) * 31) + ((F 0 0 (3 * k) 5).toInt64)) * 31) + ((F 0 0 (3 * k) 6).toInt64)) * 31) + ((v_X10_kept S F G q k).toInt64)) * 31) + ((v_X10_bit (v_X10_isReady S F G q k)).toInt64)) * 31) + ((v_X10_bit (v_X10_hasRoom S F G q k)).toInt64)) * 31) + ((v_X10_queued0 S F G q k).toInt64)) * 31) + ((v_X10_bit (v_X10_isBlocked0 S F G q k)).toInt64)) * 31) + ((v_X10_queued1 S F G q k).toInt64)) * 31) + ((v_X10_bit (v_X10_isBlocked1 S F G q k)).toInt64)) * 31) + ((F 8 0 k 13).toInt64)) * 31)]) ⟨hx, hb, hml, hown, hts⟩ (k_X10_nextEnd l D yc e0 A S Z F G q k (by first | assumption | omega | decide) (by first | exact Or.inl (by assumption) | exact Or.inr (by assumption))) (cwV 1 hts (lw_V wq769 wq770 wq771 wq1 wq772) rfl rfl rfl (by decide +kernel) ⟨(Nat.le_of_ble_eq_true rfl), (Nat.le_of_ble_eq_true rfl)⟩) (tp_V hC hW hS hA 7 0 0 dm7 rfl rfl) rfl rfl hl.1 rfl (lv_room (Nat.le_of_ble_eq_true rfl)) dX10_digestOfStage_241 ⟨(Nat.le_of_ble_eq_true rfl), (Nat.le_of_ble_eq_true rfl)⟩) ?_
      refine lv_i2l (v := (v_X10_nextEnd S F G q k).toInt64) hx hb dX10_digestOfStage_244 rfl ?_
      refine lv_ladd hx hb dX10_digestOfStage_245 ?_
      refine lv_lstore (lv' := [(4, .long ((((((((((((((((((((((((((((l1 * 31) + ((F 8 0 k 0).toInt64)) * 31) + ((F 0 0 (3 * k) 0).toInt64)) * 31) + ((F 0 0 (3 * k) 4).toInt64)) * 31) + ((F 0 0 (3 * k) 5).toInt64)) * 31) + ((F 0 0 (3 * k) 6).toInt64)) * 31) + ((v_X10_kept S F G q k).toInt64)) * 31) + ((v_X10_bit (v_X10_isReady S F G q k)).toInt64)) * 31) + ((v_X10_bit (v_X10_hasRoom S F G q k)).toInt64)) * 31) + ((v_X10_queued0 S F G q k).toInt64)) * 31) + ((v_X10_bit (v_X10_isBlocked0 S F G q k)).toInt64)) * 31) + ((v_X10_queued1 S F G q k).toInt64)) * 31) + ((v_X10_bit (v_X10_isBlocked1 S F G q k)).toInt64)) * 31) + ((F 8 0 k 13).toInt64)) * 31) + ((v_X10_nextEnd S F G q k).toInt64))), (6, .int (F 8 0 k 0)), (0, .ref (zg S 7 0 0)), (1, .long l1), (3, .int (nI k))]) hx hb dX10_digestOfStage_246 hl (by decide) rfl (fun ls hl => ?_)
      refine lv_iload hx hb dX10_digestOfStage_248 (lv_at hl 1 rfl) ?_
      refine lv_bipush (v := 7) hx hb dX10_digestOfStage_250 (by decide) ?_
      refine lv_icmp_ne (tgt := 265) hx hb dX10_digestOfStage_252 (by decide) (fun hb4 => ?_) (fun hb4 => ?_)
      · refine lv_lload hx hb dX10_digestOfStage_265 (lv_at hl 0 rfl) ?_
        exact ze_l hx hb hr hlk (by unfold v_X10_digestOfStage; rw [if_neg hb1, if_pos hb3, if_neg hb4]) dX10_digestOfStage_267
      · refine lv_aload_n hx hb dX10_digestOfStage_255 rfl (lv_at hl 2 rfl) ?_
        refine lv_lload hx hb dX10_digestOfStage_256 (lv_at hl 0 rfl) ?_
        refine lv_iload_n hx hb dX10_digestOfStage_258 rfl (lv_at hl 4 rfl) ?_
        refine zr_l (va_runV (As := [.long ((((((((((((((((((((((((((((l1 * 31) + ((F 8 0 k 0).toInt64)) * 31) + ((F 0 0 (3 * k) 0).toInt64)) * 31) + ((F 0 0 (3 * k) 4).toInt64)) * 31) + ((F 0 0 (3 * k) 5).toInt64)) * 31) + ((F 0 0 (3 * k) 6).toInt64)) * 31) + ((v_X10_kept S F G q k).toInt64)) * 31) + ((v_X10_bit (v_X10_isReady S F G q k)).toInt64)) * 31) + ((v_X10_bit (v_X10_hasRoom S F G q k)).toInt64)) * 31) + ((v_X10_queued0 S F G q k).toInt64)) * 31) + ((v_X10_bit (v_X10_isBlocked0 S F G q k)).toInt64)) * 31) + ((v_X10_queued1 S F G q k).toInt64)) * 31) + ((v_X10_bit (v_X10_isBlocked1 S F G q k)).toInt64)) * 31) + ((F 8 0 k 13).toInt64)) * 31) + ((v_X10_nextEnd S F G q k).toInt64)), .int (nI k)]) (rest := []) ⟨hx, hb, hml, hown, hts⟩ (k_X10_digestOfOutput l D yc e0 A S Z F G q ((((((((((((((((((((((((((((l1 * 31) + ((F 8 0 k 0).toInt64)) * 31) + ((F 0 0 (3 * k) 0).toInt64)) * 31) + ((F 0 0 (3 * k) 4).toInt64)) * 31) + ((F 0 0 (3 * k) 5).toInt64)) * 31) + ((F 0 0 (3 * k) 6).toInt64)) * 31) + ((v_X10_kept S F G q k).toInt64)) * 31) + ((v_X10_bit (v_X10_isReady S F G q k)).toInt64)) * 31) + ((v_X10_bit (v_X10_hasRoom S F G q k)).toInt64)) * 31) + ((v_X10_queued0 S F G q k).toInt64)) * 31) + ((v_X10_bit (v_X10_isBlocked0 S F G q k)).toInt64)) * 31) + ((v_X10_queued1 S F G q k).toInt64)) * 31) + ((v_X10_bit (v_X10_isBlocked1 S F G q k)).toInt64)) * 31) + ((F 8 0 k 13).toInt64)) * 31) + ((v_X10_nextEnd S F G q k).toInt64)) k (by first | assumption | omega | decide) (by first | assumption | omega | decide) (by first | assumption | omega | decide) (hO (by assumption))) (cwV 2 hts (lw_V wq780 wq782 ws23 wq1 wq783) rfl rfl rfl (by decide +kernel) ⟨(Nat.le_of_ble_eq_true rfl), (Nat.le_of_ble_eq_true rfl)⟩) (tp_V hC hW hS hA 7 0 0 dm7 rfl rfl) rfl rfl hl.1 rfl (lv_room (Nat.le_of_ble_eq_true rfl)) dX10_digestOfStage_259 ⟨(Nat.le_of_ble_eq_true rfl), (Nat.le_of_ble_eq_true rfl)⟩) ?_
        refine lv_goto (tgt := 267) hx hb dX10_digestOfStage_262 (by decide) ?_
        exact ze_l hx hb hr hlk (by unfold v_X10_digestOfStage; rw [if_neg hb1, if_pos hb3, if_pos hb4]) dX10_digestOfStage_267
def r_X10_digest (S : TS) (F : TF) (G : TG) (q : TQ) (w : Nat) : Nat → Nat → Int64 → Int64
  | 0, _, d => d
  | n + 1, i, d => r_X10_digest S F G q w n (i + 1) (v_X10_digestOfStage S F G q d i)
set_option maxHeartbeats 4000000 in
set_option maxRecDepth 100000 in
theorem lp_X10_digest {p : Program} {l : Launch} {e : Env} {s : State} {m : MethodId} {args : Array Value} {below : List Frame} {meth : Method} {c : Code} {D : va_G} {yc : Nat → ClassId} {e0 : Nat} {A : Nat → Prop} {S : TS} {Z : Nat × Nat} {F : TF} {G : TG} {q : TQ} (w : Nat) (hw : F 6 0 0 3 = nI w - 1) (hwn : w ≤ zn S) (hOs : ∀ k, k < zn S → F 8 0 k 0 = 7 → ¬ F 0 0 (3 * k) 7 < 0) (hGs : ∀ k, k < zn S → (G 0 k).1 < 3) (hx : p.tables.exec = Jvm.exec) (hb : c.code = cX10_digest) (hml : c.maxLocals = 4) (hr : meth.sig.returnType = (some .long)) (hlk : meth.locks = false) (hown : s.vm.findClass yX10_digest.cls = some m.cls) (hts : ∀ w ∈ lw_all, w.before args s = true) (hW : WT D yc e0 A S Z F G q s.heap) (hS : va_S A s.heap s.heap []) (hA : ∀ a, s.heap.size ≤ a → A a) (hC : CX D yc e0 A s) : ∀ (n : Nat) (i : Nat) (d : Int64) (ls : Array Slot), i + n = zn S → lv_has ls 4 [(3, .int (nI i)), (1, .long d), (0, .ref (zg S 7 0 0))] → W p l e ({ frames := 9, cells := 0, slots := 0, locals := 207 }) s m args below meth c s.heap [] 0 0 (MQ below (zQ (some (.long (r_X10_digest S F G q w n i d)))) args s 0 0 zno) (F0 m 105 ls []) := by
  have hK := hC.1
  have hN := hC.2.1
  have hn12 := hW.n12
  intro n
  induction n with
  | zero =>
    intro i d ls hinv hl
    refine lv_iload_n hx hb dX10_digest_105 rfl (lv_at hl 0 rfl) ?_
    refine lv_aload_n hx hb dX10_digest_106 rfl (lv_at hl 2 rfl) ?_
    refine t_get (D := D) (ci := 9) (v := .ref (zg S 6 0 0)) (C := RX10) (T := TX10) (N := 5) hx hb hts iX10 hown hK hW 7 0 0 dm7 rfl rfl 0 (by decide) (hts _ wq95) (fun _ h9 => h9) rfl dX10_digest_107 ?_
    refine zr_i (va_runV (As := []) (rest := [.int (nI i)]) ⟨hx, hb, hml, hown, hts⟩ (k_X2_size l D yc e0 A S Z F G q 0 (by first | assumption | omega | decide)) (cwV 0 hts (lw_V wq115 wq116 wq117 wq2 wq118) rfl rfl rfl (by decide +kernel) ⟨(Nat.le_of_ble_eq_true rfl), (Nat.le_of_ble_eq_true rfl)⟩) (tp_V hC hW hS hA 6 0 0 (dm6 (by omega)) rfl rfl) rfl rfl hl.1 rfl (lv_room (Nat.le_of_ble_eq_true rfl)) dX10_digest_110 ⟨(Nat.le_of_ble_eq_true rfl), (Nat.le_of_ble_eq_true rfl)⟩) ?_
    refine zk_ti (y := nI (zn S)) rfl ?_
    refine lv_icmp_ge (tgt := 129) hx hb dX10_digest_113 (by decide) (fun _ => ?_) (fun h9 => absurd (nI_le (by omega) (by omega)) h9)
    refine lv_lload_n hx hb dX10_digest_129 rfl (lv_at hl 1 rfl) ?_
    exact ze_l hx hb hr hlk (by rfl) dX10_digest_130
  | succ n ih =>
    intro i d ls hinv hl
    refine lv_iload_n hx hb dX10_digest_105 rfl (lv_at hl 0 rfl) ?_
    refine lv_aload_n hx hb dX10_digest_106 rfl (lv_at hl 2 rfl) ?_
    refine t_get (D := D) (ci := 9) (v := .ref (zg S 6 0 0)) (C := RX10) (T := TX10) (N := 5) hx hb hts iX10 hown hK hW 7 0 0 dm7 rfl rfl 0 (by decide) (hts _ wq95) (fun _ h9 => h9) rfl dX10_digest_107 ?_
    refine zr_i (va_runV (As := []) (rest := [.int (nI i)]) ⟨hx, hb, hml, hown, hts⟩ (k_X2_size l D yc e0 A S Z F G q 0 (by first | assumption | omega | decide)) (cwV 0 hts (lw_V wq115 wq116 wq117 wq2 wq118) rfl rfl rfl (by decide +kernel) ⟨(Nat.le_of_ble_eq_true rfl), (Nat.le_of_ble_eq_true rfl)⟩) (tp_V hC hW hS hA 6 0 0 (dm6 (by omega)) rfl rfl) rfl rfl hl.1 rfl (lv_room (Nat.le_of_ble_eq_true rfl)) dX10_digest_110 ⟨(Nat.le_of_ble_eq_true rfl), (Nat.le_of_ble_eq_true rfl)⟩) ?_
    refine zk_ti (y := nI (zn S)) rfl ?_
    refine lv_icmp_ge (tgt := 129) hx hb dX10_digest_113 (by decide) (fun h9 => absurd h9 (nI_ge (by omega) (by omega))) (fun _ => ?_)
    refine lv_aload_n hx hb dX10_digest_116 rfl (lv_at hl 2 rfl) ?_
    refine lv_lload_n hx hb dX10_digest_117 rfl (lv_at hl 1 rfl) ?_
    refine lv_iload_n hx hb dX10_digest_118 rfl (lv_at hl 0 rfl) ?_
    refine zr_l (va_runV (As := [.long d, .int (nI i)]) (rest := []) ⟨hx, hb, hml, hown, hts⟩ (k_X10_digestOfStage l D yc e0 A S Z F G q d i (by first | assumption | omega | decide) (hGs _ (by omega)) (hOs _ (by omega))) (cwV 2 hts (lw_V wq737 wq739 ws21 wq1 wq740) rfl rfl rfl (by decide +kernel) ⟨(Nat.le_of_ble_eq_true rfl), (Nat.le_of_ble_eq_true rfl)⟩) (tp_V hC hW hS hA 7 0 0 dm7 rfl rfl) rfl rfl hl.1 rfl (lv_room (Nat.le_of_ble_eq_true rfl)) dX10_digest_119 ⟨(Nat.le_of_ble_eq_true rfl), (Nat.le_of_ble_eq_true rfl)⟩) ?_
    refine lv_lstore_n (lv' := [(1, .long (v_X10_digestOfStage S F G q d i)), (3, .int (nI i)), (0, .ref (zg S 7 0 0))]) hx hb dX10_digest_122 rfl hl (by decide) rfl (fun ls hl => ?_)
    refine lv_iinc (v := nI (i + 1)) (lv' := [(3, .int (nI (i + 1))), (1, .long (v_X10_digestOfStage S F G q d i)), (0, .ref (zg S 7 0 0))]) hx hb dX10_digest_123 hl (k := 1) rfl (nI_1 _) (by decide) rfl (fun ls hl => ?_)
    refine lv_goto (tgt := 105) hx hb dX10_digest_126 (by decide) ?_
    exact ih (i + 1) (v_X10_digestOfStage S F G q d i) _ (by omega) (lv_sub hl [0, 1, 2] rfl)
def v_X10_digest (S : TS) (F : TF) (G : TG) (q : TQ) (w : Nat) : Int64 := r_X10_digest S F G q w (zn S) 0 ((((((((((((((((58014 * 31) + ((nI (zn S)).toInt64)) * 31) + ((v_X10_bit (F 7 0 0 2)).toInt64)) * 31) + ((F 6 0 0 6).toInt64)) * 31) + ((F 6 0 0 5).toInt64)) * 31) + ((F 7 0 0 3).toInt64)) * 31) + ((F 7 0 0 4).toInt64)) * 31) + ((v_X10_inFlight S F G q).toInt64)) * 31) + ((v_X10_next S F G q w).toInt64))
set_option maxHeartbeats 4000000 in
set_option maxRecDepth 100000 in
theorem k_X10_digest (l : Launch) (D : va_G) (yc : Nat → ClassId) (e0 : Nat) (A : Nat → Prop) (S : TS) (Z : Nat × Nat) (F : TF) (G : TG) (q : TQ) (w : Nat) (hw : F 6 0 0 3 = nI w - 1) (hwn : w ≤ zn S) (hOs : ∀ k, k < zn S → F 8 0 k 0 = 7 → ¬ F 0 0 (3 * k) 7 < 0) (hGs : ∀ k, k < zn S → (G 0 k).1 < 3) : Met l yX10_digest (ws_ yX10_digest cX10_digest 4 (some .long)) ({ frames := 9, cells := 0, slots := 0, locals := 207 }) (PT D yc e0 A S Z F G q [.ref (zg S 7 0 0)]) (zQ (some (.long (v_X10_digest S F G q w)))) 0 0 zno := by
  refine tk_M (by decide) (Nat.le_of_ble_eq_true rfl) ?_
  intro p e s m args below meth c ls hx hb hml hr hlk hown hts hW hS hA hC hl
  have hK := hC.1
  have hN := hC.2.1
  have hn12 := hW.n12
  have hl : lv_has ls 4 [(0, .ref (zg S 7 0 0))] := hl
  refine lv_ldc2 hx hb hown (hts _ wq712) dX10_digest_0 ?_
  refine lv_lstore_n (lv' := [(1, .long 58014), (0, .ref (zg S 7 0 0))]) hx hb dX10_digest_3 rfl hl (by decide) rfl (fun ls hl => ?_)
  refine lv_lload_n hx hb dX10_digest_4 rfl (lv_at hl 0 rfl) ?_
  refine lv_ldc2 hx hb hown (hts _ wq713) dX10_digest_5 ?_
  refine lv_lmul hx hb dX10_digest_8 ?_
  refine lv_aload_n hx hb dX10_digest_9 rfl (lv_at hl 1 rfl) ?_
  refine zr_i (va_runV (As := []) (rest := [.long (58014 * 31)]) ⟨hx, hb, hml, hown, hts⟩ (k_X10_stages l D yc e0 A S Z F G q) (cwV 0 hts (lw_V wq714 wq624 wq625 wq1 wq626) rfl rfl rfl (by decide +kernel) ⟨(Nat.le_of_ble_eq_true rfl), (Nat.le_of_ble_eq_true rfl)⟩) (tp_V hC hW hS hA 7 0 0 dm7 rfl rfl) rfl rfl hl.1 rfl (lv_room (Nat.le_of_ble_eq_true rfl)) dX10_digest_10 ⟨(Nat.le_of_ble_eq_true rfl), (Nat.le_of_ble_eq_true rfl)⟩) ?_
  refine zk_ti (y := nI (zn S)) rfl ?_
  refine lv_i2l (v := (nI (zn S)).toInt64) hx hb dX10_digest_13 rfl ?_
  refine lv_ladd hx hb dX10_digest_14 ?_
  refine lv_lstore_n (lv' := [(1, .long ((58014 * 31) + ((nI (zn S)).toInt64))), (0, .ref (zg S 7 0 0))]) hx hb dX10_digest_15 rfl hl (by decide) rfl (fun ls hl => ?_)
  refine lv_lload_n hx hb dX10_digest_16 rfl (lv_at hl 0 rfl) ?_
  refine lv_ldc2 hx hb hown (hts _ wq713) dX10_digest_17 ?_
  refine lv_lmul hx hb dX10_digest_20 ?_
  refine lv_aload_n hx hb dX10_digest_21 rfl (lv_at hl 1 rfl) ?_
  refine zr_i (va_runV (As := []) (rest := [.long (((58014 * 31) + ((nI (zn S)).toInt64)) * 31)]) ⟨hx, hb, hml, hown, hts⟩ (k_X10_isStarted l D yc e0 A S Z F G q) (cwV 0 hts (lw_V wq715 wq716 wq717 wq1 wq718) rfl rfl rfl (by decide +kernel) ⟨(Nat.le_of_ble_eq_true rfl), (Nat.le_of_ble_eq_true rfl)⟩) (tp_V hC hW hS hA 7 0 0 dm7 rfl rfl) rfl rfl hl.1 rfl (lv_room (Nat.le_of_ble_eq_true rfl)) dX10_digest_22 ⟨(Nat.le_of_ble_eq_true rfl), (Nat.le_of_ble_eq_true rfl)⟩) ?_
  refine zk_ti (y := F 7 0 0 2) rfl ?_
  refine zr_i (va_runS (As := [.int (F 7 0 0 2)]) (rest := [.long (((58014 * 31) + ((nI (zn S)).toInt64)) * 31)]) ⟨hx, hb, hml, hown, hts⟩ (k_X10_bit l (F 7 0 0 2)) (va_cwS 1 hts (lw_S wq719 wq720 wq1 wq721) rfl rfl rfl (by decide +kernel) ⟨(Nat.le_of_ble_eq_true rfl), (Nat.le_of_ble_eq_true rfl)⟩) tp_N rfl rfl hl.1 rfl (lv_room (Nat.le_of_ble_eq_true rfl)) dX10_digest_25 ⟨(Nat.le_of_ble_eq_true rfl), (Nat.le_of_ble_eq_true rfl)⟩) ?_
  refine lv_i2l (v := (v_X10_bit (F 7 0 0 2)).toInt64) hx hb dX10_digest_28 rfl ?_
  refine lv_ladd hx hb dX10_digest_29 ?_
  refine lv_lstore_n (lv' := [(1, .long ((((58014 * 31) + ((nI (zn S)).toInt64)) * 31) + ((v_X10_bit (F 7 0 0 2)).toInt64))), (0, .ref (zg S 7 0 0))]) hx hb dX10_digest_30 rfl hl (by decide) rfl (fun ls hl => ?_)
  refine lv_lload_n hx hb dX10_digest_31 rfl (lv_at hl 0 rfl) ?_
  refine lv_ldc2 hx hb hown (hts _ wq713) dX10_digest_32 ?_
  refine lv_lmul hx hb dX10_digest_35 ?_
  refine lv_aload_n hx hb dX10_digest_36 rfl (lv_at hl 1 rfl) ?_
  refine zr_i (va_runV (As := []) (rest := [.long (((((58014 * 31) + ((nI (zn S)).toInt64)) * 31) + ((v_X10_bit (F 7 0 0 2)).toInt64)) * 31)]) ⟨hx, hb, hml, hown, hts⟩ (k_X10_complete l D yc e0 A S Z F G q) (cwV 0 hts (lw_V wq722 wq723 wq724 wq1 wq725) rfl rfl rfl (by decide +kernel) ⟨(Nat.le_of_ble_eq_true rfl), (Nat.le_of_ble_eq_true rfl)⟩) (tp_V hC hW hS hA 7 0 0 dm7 rfl rfl) rfl rfl hl.1 rfl (lv_room (Nat.le_of_ble_eq_true rfl)) dX10_digest_37 ⟨(Nat.le_of_ble_eq_true rfl), (Nat.le_of_ble_eq_true rfl)⟩) ?_
  refine zk_ti (y := F 6 0 0 6) rfl ?_
  refine lv_i2l (v := (F 6 0 0 6).toInt64) hx hb dX10_digest_40 rfl ?_
  refine lv_ladd hx hb dX10_digest_41 ?_
  refine lv_lstore_n (lv' := [(1, .long ((((((58014 * 31) + ((nI (zn S)).toInt64)) * 31) + ((v_X10_bit (F 7 0 0 2)).toInt64)) * 31) + ((F 6 0 0 6).toInt64))), (0, .ref (zg S 7 0 0))]) hx hb dX10_digest_42 rfl hl (by decide) rfl (fun ls hl => ?_)
  refine lv_lload_n hx hb dX10_digest_43 rfl (lv_at hl 0 rfl) ?_
  refine lv_ldc2 hx hb hown (hts _ wq713) dX10_digest_44 ?_
  refine lv_lmul hx hb dX10_digest_47 ?_
  refine lv_aload_n hx hb dX10_digest_48 rfl (lv_at hl 1 rfl) ?_
  refine zr_i (va_runV (As := []) (rest := [.long (((((((58014 * 31) + ((nI (zn S)).toInt64)) * 31) + ((v_X10_bit (F 7 0 0 2)).toInt64)) * 31) + ((F 6 0 0 6).toInt64)) * 31)]) ⟨hx, hb, hml, hown, hts⟩ (k_X10_begun l D yc e0 A S Z F G q) (cwV 0 hts (lw_V wq726 wq671 wq672 wq1 wq673) rfl rfl rfl (by decide +kernel) ⟨(Nat.le_of_ble_eq_true rfl), (Nat.le_of_ble_eq_true rfl)⟩) (tp_V hC hW hS hA 7 0 0 dm7 rfl rfl) rfl rfl hl.1 rfl (lv_room (Nat.le_of_ble_eq_true rfl)) dX10_digest_49 ⟨(Nat.le_of_ble_eq_true rfl), (Nat.le_of_ble_eq_true rfl)⟩) ?_
  refine zk_ti (y := F 6 0 0 5) rfl ?_
  refine lv_i2l (v := (F 6 0 0 5).toInt64) hx hb dX10_digest_52 rfl ?_
  refine lv_ladd hx hb dX10_digest_53 ?_
  refine lv_lstore_n (lv' := [(1, .long ((((((((58014 * 31) + ((nI (zn S)).toInt64)) * 31) + ((v_X10_bit (F 7 0 0 2)).toInt64)) * 31) + ((F 6 0 0 6).toInt64)) * 31) + ((F 6 0 0 5).toInt64))), (0, .ref (zg S 7 0 0))]) hx hb dX10_digest_54 rfl hl (by decide) rfl (fun ls hl => ?_)
  refine lv_lload_n hx hb dX10_digest_55 rfl (lv_at hl 0 rfl) ?_
  refine lv_ldc2 hx hb hown (hts _ wq713) dX10_digest_56 ?_
  refine lv_lmul hx hb dX10_digest_59 ?_
  refine lv_aload_n hx hb dX10_digest_60 rfl (lv_at hl 1 rfl) ?_
  refine zr_i (va_runV (As := []) (rest := [.long (((((((((58014 * 31) + ((nI (zn S)).toInt64)) * 31) + ((v_X10_bit (F 7 0 0 2)).toInt64)) * 31) + ((F 6 0 0 6).toInt64)) * 31) + ((F 6 0 0 5).toInt64)) * 31)]) ⟨hx, hb, hml, hown, hts⟩ (k_X10_crashes l D yc e0 A S Z F G q) (cwV 0 hts (lw_V wq727 wq728 wq729 wq1 wq730) rfl rfl rfl (by decide +kernel) ⟨(Nat.le_of_ble_eq_true rfl), (Nat.le_of_ble_eq_true rfl)⟩) (tp_V hC hW hS hA 7 0 0 dm7 rfl rfl) rfl rfl hl.1 rfl (lv_room (Nat.le_of_ble_eq_true rfl)) dX10_digest_61 ⟨(Nat.le_of_ble_eq_true rfl), (Nat.le_of_ble_eq_true rfl)⟩) ?_
  refine zk_ti (y := F 7 0 0 3) rfl ?_
  refine lv_i2l (v := (F 7 0 0 3).toInt64) hx hb dX10_digest_64 rfl ?_
  refine lv_ladd hx hb dX10_digest_65 ?_
  refine lv_lstore_n (lv' := [(1, .long ((((((((((58014 * 31) + ((nI (zn S)).toInt64)) * 31) + ((v_X10_bit (F 7 0 0 2)).toInt64)) * 31) + ((F 6 0 0 6).toInt64)) * 31) + ((F 6 0 0 5).toInt64)) * 31) + ((F 7 0 0 3).toInt64))), (0, .ref (zg S 7 0 0))]) hx hb dX10_digest_66 rfl hl (by decide) rfl (fun ls hl => ?_)
  refine lv_lload_n hx hb dX10_digest_67 rfl (lv_at hl 0 rfl) ?_
  refine lv_ldc2 hx hb hown (hts _ wq713) dX10_digest_68 ?_
  refine lv_lmul hx hb dX10_digest_71 ?_
  refine lv_aload_n hx hb dX10_digest_72 rfl (lv_at hl 1 rfl) ?_
  refine zr_i (va_runV (As := []) (rest := [.long (((((((((((58014 * 31) + ((nI (zn S)).toInt64)) * 31) + ((v_X10_bit (F 7 0 0 2)).toInt64)) * 31) + ((F 6 0 0 6).toInt64)) * 31) + ((F 6 0 0 5).toInt64)) * 31) + ((F 7 0 0 3).toInt64)) * 31)]) ⟨hx, hb, hml, hown, hts⟩ (k_X10_worked l D yc e0 A S Z F G q) (cwV 0 hts (lw_V wq731 wq732 wq733 wq1 wq734) rfl rfl rfl (by decide +kernel) ⟨(Nat.le_of_ble_eq_true rfl), (Nat.le_of_ble_eq_true rfl)⟩) (tp_V hC hW hS hA 7 0 0 dm7 rfl rfl) rfl rfl hl.1 rfl (lv_room (Nat.le_of_ble_eq_true rfl)) dX10_digest_73 ⟨(Nat.le_of_ble_eq_true rfl), (Nat.le_of_ble_eq_true rfl)⟩) ?_
  refine zk_ti (y := F 7 0 0 4) rfl ?_
  refine lv_i2l (v := (F 7 0 0 4).toInt64) hx hb dX10_digest_76 rfl ?_
  refine lv_ladd hx hb dX10_digest_77 ?_
  refine lv_lstore_n (lv' := [(1, .long ((((((((((((58014 * 31) + ((nI (zn S)).toInt64)) * 31) + ((v_X10_bit (F 7 0 0 2)).toInt64)) * 31) + ((F 6 0 0 6).toInt64)) * 31) + ((F 6 0 0 5).toInt64)) * 31) + ((F 7 0 0 3).toInt64)) * 31) + ((F 7 0 0 4).toInt64))), (0, .ref (zg S 7 0 0))]) hx hb dX10_digest_78 rfl hl (by decide) rfl (fun ls hl => ?_)
  refine lv_lload_n hx hb dX10_digest_79 rfl (lv_at hl 0 rfl) ?_
  refine lv_ldc2 hx hb hown (hts _ wq713) dX10_digest_80 ?_
  refine lv_lmul hx hb dX10_digest_83 ?_
  refine lv_aload_n hx hb dX10_digest_84 rfl (lv_at hl 1 rfl) ?_
  refine zr_i (va_runV (As := []) (rest := [.long (((((((((((((58014 * 31) + ((nI (zn S)).toInt64)) * 31) + ((v_X10_bit (F 7 0 0 2)).toInt64)) * 31) + ((F 6 0 0 6).toInt64)) * 31) + ((F 6 0 0 5).toInt64)) * 31) + ((F 7 0 0 3).toInt64)) * 31) + ((F 7 0 0 4).toInt64)) * 31)]) ⟨hx, hb, hml, hown, hts⟩ (k_X10_inFlight l D yc e0 A S Z F G q) (cwV 0 hts (lw_V wq735 wq675 wq676 wq1 wq677) rfl rfl rfl (by decide +kernel) ⟨(Nat.le_of_ble_eq_true rfl), (Nat.le_of_ble_eq_true rfl)⟩) (tp_V hC hW hS hA 7 0 0 dm7 rfl rfl) rfl rfl hl.1 rfl (lv_room (Nat.le_of_ble_eq_true rfl)) dX10_digest_85 ⟨(Nat.le_of_ble_eq_true rfl), (Nat.le_of_ble_eq_true rfl)⟩) ?_
  refine lv_i2l (v := (v_X10_inFlight S F G q).toInt64) hx hb dX10_digest_88 rfl ?_
  refine lv_ladd hx hb dX10_digest_89 ?_
  refine lv_lstore_n (lv' := [(1, .long ((((((((((((((58014 * 31) + ((nI (zn S)).toInt64)) * 31) + ((v_X10_bit (F 7 0 0 2)).toInt64)) * 31) + ((F 6 0 0 6).toInt64)) * 31) + ((F 6 0 0 5).toInt64)) * 31) + ((F 7 0 0 3).toInt64)) * 31) + ((F 7 0 0 4).toInt64)) * 31) + ((v_X10_inFlight S F G q).toInt64))), (0, .ref (zg S 7 0 0))]) hx hb dX10_digest_90 rfl hl (by decide) rfl (fun ls hl => ?_)
  refine lv_lload_n hx hb dX10_digest_91 rfl (lv_at hl 0 rfl) ?_
  refine lv_ldc2 hx hb hown (hts _ wq713) dX10_digest_92 ?_
  refine lv_lmul hx hb dX10_digest_95 ?_
  refine lv_aload_n hx hb dX10_digest_96 rfl (lv_at hl 1 rfl) ?_
  refine zr_i (va_runV (As := []) (rest := [.long (((((((((((((((58014 * 31) + ((nI (zn S)).toInt64)) * 31) + ((v_X10_bit (F 7 0 0 2)).toInt64)) * 31) + ((F 6 0 0 6).toInt64)) * 31) + ((F 6 0 0 5).toInt64)) * 31) + ((F 7 0 0 3).toInt64)) * 31) + ((F 7 0 0 4).toInt64)) * 31) + ((v_X10_inFlight S F G q).toInt64)) * 31)]) ⟨hx, hb, hml, hown, hts⟩ (k_X10_next l D yc e0 A S Z F G q w (by first | assumption | omega | decide) (by first | assumption | omega | decide)) (cwV 0 hts (lw_V wq736 wq684 wq685 wq1 wq686) rfl rfl rfl (by decide +kernel) ⟨(Nat.le_of_ble_eq_true rfl), (Nat.le_of_ble_eq_true rfl)⟩) (tp_V hC hW hS hA 7 0 0 dm7 rfl rfl) rfl rfl hl.1 rfl (lv_room (Nat.le_of_ble_eq_true rfl)) dX10_digest_97 ⟨(Nat.le_of_ble_eq_true rfl), (Nat.le_of_ble_eq_true rfl)⟩) ?_
  refine lv_i2l (v := (v_X10_next S F G q w).toInt64) hx hb dX10_digest_100 rfl ?_
  refine lv_ladd hx hb dX10_digest_101 ?_
  refine lv_lstore_n (lv' := [(1, .long ((((((((((((((((58014 * 31) + ((nI (zn S)).toInt64)) * 31) + ((v_X10_bit (F 7 0 0 2)).toInt64)) * 31) + ((F 6 0 0 6).toInt64)) * 31) + ((F 6 0 0 5).toInt64)) * 31) + ((F 7 0 0 3).toInt64)) * 31) + ((F 7 0 0 4).toInt64)) * 31) + ((v_X10_inFlight S F G q).toInt64)) * 31) + ((v_X10_next S F G q w).toInt64))), (0, .ref (zg S 7 0 0))]) hx hb dX10_digest_102 rfl hl (by decide) rfl (fun ls hl => ?_)
  refine lv_iconst (v := 0) hx hb dX10_digest_103 (by decide) ?_
  refine lv_istore_n (lv' := [(3, .int 0), (1, .long ((((((((((((((((58014 * 31) + ((nI (zn S)).toInt64)) * 31) + ((v_X10_bit (F 7 0 0 2)).toInt64)) * 31) + ((F 6 0 0 6).toInt64)) * 31) + ((F 6 0 0 5).toInt64)) * 31) + ((F 7 0 0 3).toInt64)) * 31) + ((F 7 0 0 4).toInt64)) * 31) + ((v_X10_inFlight S F G q).toInt64)) * 31) + ((v_X10_next S F G q w).toInt64))), (0, .ref (zg S 7 0 0))]) hx hb dX10_digest_104 rfl hl (by decide) rfl (fun ls hl => ?_)
  exact lp_X10_digest w hw hwn hOs hGs hx hb hml hr hlk hown hts hW hS hA hC (zn S) 0 ((((((((((((((((58014 * 31) + ((nI (zn S)).toInt64)) * 31) + ((v_X10_bit (F 7 0 0 2)).toInt64)) * 31) + ((F 6 0 0 6).toInt64)) * 31) + ((F 6 0 0 5).toInt64)) * 31) + ((F 7 0 0 3).toInt64)) * 31) + ((F 7 0 0 4).toInt64)) * 31) + ((v_X10_inFlight S F G q).toInt64)) * 31) + ((v_X10_next S F G q w).toInt64)) _ (by omega) (lv_sub hl [0, 1, 2] rfl)
