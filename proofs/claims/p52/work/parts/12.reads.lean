def r_X2_waiting (S : TS) (F : TF) (G : TG) (q : TQ) (fl : Nat) : Nat → Nat → Int32 → Int32
  | 0, _, v => v
  | n + 1, i, v => r_X2_waiting S F G q fl n (i + 1) ((v + (if (zp S 0 i).isSome = true then v_X1_length S F G q 4 fl i else 0)) + (if (zp S 1 i).isSome = true then v_X1_length S F G q 5 fl i else 0))
set_option maxHeartbeats 4000000 in
set_option maxRecDepth 100000 in
theorem lp_X2_waiting {p : Program} {l : Launch} {e : Env} {s : State} {m : MethodId} {args : Array Value} {below : List Frame} {meth : Method} {c : Code} {D : va_G} {yc : Nat → ClassId} {e0 : Nat} {A : Nat → Prop} {S : TS} {Z : Nat × Nat} {F : TF} {G : TG} {q : TQ} (fl : Nat) (hf : fl < 2) (hx : p.tables.exec = Jvm.exec) (hb : c.code = cX2_waiting) (hml : c.maxLocals = 4) (hr : meth.sig.returnType = (some .int)) (hlk : meth.locks = false) (hown : s.vm.findClass yX2_waiting.cls = some m.cls) (hts : ∀ w ∈ lw_all, w.before args s = true) (hW : WT D yc e0 A S Z F G q s.heap) (hS : va_S A s.heap s.heap []) (hA : ∀ a, s.heap.size ≤ a → A a) (hC : CX D yc e0 A s) : ∀ (n : Nat) (i : Nat) (v : Int32) (ls : Array Slot), i + n = zn S → lv_has ls 4 [(2, .int (nI i)), (1, .int v), (0, .ref (zg S 6 fl 0))] → W p l e ({ frames := 3, cells := 0, slots := 0, locals := 64 }) s m args below meth c s.heap [] 0 0 (MQ below (zQ (some (.int (r_X2_waiting S F G q fl n i v)))) args s 0 0 zno) (F0 m 4 ls []) := by
  have hK := hC.1
  have hN := hC.2.1
  have hn12 := hW.n12
  intro n
  induction n with
  | zero =>
    intro i v ls hinv hl
    refine lv_iload_n hx hb dX2_waiting_4 rfl (lv_at hl 0 rfl) ?_
    refine lv_aload_n hx hb dX2_waiting_5 rfl (lv_at hl 2 rfl) ?_
    refine t_get (D := D) (ci := 2) (v := .ref (zl S 0 fl 0)) (C := RX2) (T := TX2) (N := 8) hx hb hts iX2 hown hK hW 6 fl 0 (dm6 (by omega)) rfl rfl 1 (by decide) (hts _ wq68) (fun _ h9 => h9) rfl dX2_waiting_6 ?_
    refine zr_i (va_runV (As := []) (rest := [.int (nI i)]) ⟨hx, hb, hml, hown, hts⟩ (k_AL_size l D yc e0 A S Z F G q 0 fl 0 (dl0 (by omega))) (cwV 0 hts (lw_V wq119 wq120 wq121 wq5 wq122) rfl rfl rfl (by decide +kernel) ⟨(Nat.le_of_ble_eq_true rfl), (Nat.le_of_ble_eq_true rfl)⟩) (tp_L hC hW hS hA 0 fl 0 (dl0 (by omega))) rfl rfl hl.1 rfl (lv_room (Nat.le_of_ble_eq_true rfl)) dX2_waiting_9 ⟨(Nat.le_of_ble_eq_true rfl), (Nat.le_of_ble_eq_true rfl)⟩) ?_
    refine zk_ti (y := nI (zn S)) rfl ?_
    refine lv_icmp_ge (tgt := 75) hx hb dX2_waiting_12 (by decide) (fun _ => ?_) (fun h9 => absurd (nI_le (by omega) (by omega)) h9)
    refine lv_iload_n hx hb dX2_waiting_75 rfl (lv_at hl 1 rfl) ?_
    exact ze_i hx hb hr hlk rfl (by rfl) dX2_waiting_76
  | succ n ih =>
    intro i v ls hinv hl
    refine lv_iload_n hx hb dX2_waiting_4 rfl (lv_at hl 0 rfl) ?_
    refine lv_aload_n hx hb dX2_waiting_5 rfl (lv_at hl 2 rfl) ?_
    refine t_get (D := D) (ci := 2) (v := .ref (zl S 0 fl 0)) (C := RX2) (T := TX2) (N := 8) hx hb hts iX2 hown hK hW 6 fl 0 (dm6 (by omega)) rfl rfl 1 (by decide) (hts _ wq68) (fun _ h9 => h9) rfl dX2_waiting_6 ?_
    refine zr_i (va_runV (As := []) (rest := [.int (nI i)]) ⟨hx, hb, hml, hown, hts⟩ (k_AL_size l D yc e0 A S Z F G q 0 fl 0 (dl0 (by omega))) (cwV 0 hts (lw_V wq119 wq120 wq121 wq5 wq122) rfl rfl rfl (by decide +kernel) ⟨(Nat.le_of_ble_eq_true rfl), (Nat.le_of_ble_eq_true rfl)⟩) (tp_L hC hW hS hA 0 fl 0 (dl0 (by omega))) rfl rfl hl.1 rfl (lv_room (Nat.le_of_ble_eq_true rfl)) dX2_waiting_9 ⟨(Nat.le_of_ble_eq_true rfl), (Nat.le_of_ble_eq_true rfl)⟩) ?_
    refine zk_ti (y := nI (zn S)) rfl ?_
    refine lv_icmp_ge (tgt := 75) hx hb dX2_waiting_12 (by decide) (fun h9 => absurd h9 (nI_ge (by omega) (by omega))) (fun _ => ?_)
    refine lv_aload_n hx hb dX2_waiting_15 rfl (lv_at hl 2 rfl) ?_
    refine t_get (D := D) (ci := 2) (v := .ref (zl S 0 fl 0)) (C := RX2) (T := TX2) (N := 8) hx hb hts iX2 hown hK hW 6 fl 0 (dm6 (by omega)) rfl rfl 1 (by decide) (hts _ wq68) (fun _ h9 => h9) rfl dX2_waiting_16 ?_
    refine lv_iload_n hx hb dX2_waiting_19 rfl (lv_at hl 0 rfl) ?_
    refine zr_q (va_runV (As := [.int (nI i)]) (rest := []) ⟨hx, hb, hml, hown, hts⟩ (k_AL_get l D yc e0 A S Z F G q 0 fl 0 i (dl0 (by omega)) (show i < zn S by omega)) (cwV 1 hts (lw_V wq227 wq228 wq229 wq5 wq230) rfl rfl rfl (by decide +kernel) ⟨(Nat.le_of_ble_eq_true rfl), (Nat.le_of_ble_eq_true rfl)⟩) (tp_L hC hW hS hA 0 fl 0 (dl0 (by omega))) rfl rfl hl.1 rfl (lv_room (Nat.le_of_ble_eq_true rfl)) dX2_waiting_20 ⟨(Nat.le_of_ble_eq_true rfl), (Nat.le_of_ble_eq_true rfl)⟩) ?_
    refine zk_tv (y := .ref (zg S 2 fl i)) rfl ?_
    refine va_castS hx hb hown (hts _ wq241) (hK.1 7 _ rfl).2 (t_cell hK hW 2 fl i (dm2 (by omega) (by omega)) rfl rfl) dX2_waiting_23 ?_
    refine lv_astore_n (lv' := [(3, .ref (zg S 2 fl i)), (2, .int (nI i)), (1, .int v), (0, .ref (zg S 6 fl 0))]) hx hb dX2_waiting_26 rfl hl (by decide) rfl (fun ls hl => ?_)
    refine lv_iload_n hx hb dX2_waiting_27 rfl (lv_at hl 2 rfl) ?_
    refine lv_aload_n hx hb dX2_waiting_28 rfl (lv_at hl 0 rfl) ?_
    refine t_getN (D := D) (ci := 7) (v := zch S 0 fl i) (C := RX8) (T := TX8) (N := 12) hx hb hts iX8 hown hK hW 2 fl i (dm2 (by omega) (by omega)) rfl rfl 2 (by decide) (zk_tab rfl (hN _ wr1109 rfl)) (fun _ h9 => h9) rfl dX2_waiting_29 ?_
    by_cases ho1 : (zp S 0 i).isSome = true
    · refine zk_tv (y := .ref (zg S 4 fl i)) (by show zch S 0 fl i = _; unfold zch; rw [if_pos ho1]) ?_
      refine lv_ifnonnull (tgt := 39) hx hb dX2_waiting_32 (by decide) ?_
      refine lv_aload_n hx hb dX2_waiting_39 rfl (lv_at hl 0 rfl) ?_
      refine t_getN (D := D) (ci := 7) (v := zch S 0 fl i) (C := RX8) (T := TX8) (N := 12) hx hb hts iX8 hown hK hW 2 fl i (dm2 (by omega) (by omega)) rfl rfl 2 (by decide) (zk_tab rfl (hN _ wr1109 rfl)) (fun _ h9 => h9) rfl dX2_waiting_40 ?_
      refine zk_tv (y := .ref (zg S 4 fl i)) (by show zch S 0 fl i = _; unfold zch; rw [if_pos ho1]) ?_
      refine zr_i (va_runV (As := []) (rest := [.int v]) ⟨hx, hb, hml, hown, hts⟩ (k_X1_length l D yc e0 A S Z F G q 4 fl i (Or.inl rfl) (dm4 (by omega) (by omega) (by assumption))) (cwV 0 hts (lw_V wq682 wq309 wq310 wq17 wq311) rfl rfl rfl (by decide +kernel) ⟨(Nat.le_of_ble_eq_true rfl), (Nat.le_of_ble_eq_true rfl)⟩) (tp_V hC hW hS hA 4 fl i (dm4 (by omega) (by omega) (by assumption)) (cel_ch (Or.inl rfl)) rfl) rfl rfl hl.1 rfl (lv_room (Nat.le_of_ble_eq_true rfl)) dX2_waiting_43 ⟨(Nat.le_of_ble_eq_true rfl), (Nat.le_of_ble_eq_true rfl)⟩) ?_
      refine lv_iadd hx hb dX2_waiting_46 ?_
      refine lv_istore_n (lv' := [(1, .int (v + (v_X1_length S F G q 4 fl i))), (3, .ref (zg S 2 fl i)), (2, .int (nI i)), (0, .ref (zg S 6 fl 0))]) hx hb dX2_waiting_47 rfl hl (by decide) rfl (fun ls hl => ?_)
      refine lv_iload_n hx hb dX2_waiting_48 rfl (lv_at hl 0 rfl) ?_
      refine lv_aload_n hx hb dX2_waiting_49 rfl (lv_at hl 1 rfl) ?_
      refine t_getN (D := D) (ci := 7) (v := zch S 1 fl i) (C := RX8) (T := TX8) (N := 12) hx hb hts iX8 hown hK hW 2 fl i (dm2 (by omega) (by omega)) rfl rfl 3 (by decide) (zk_tab rfl (hN _ wr1111 rfl)) (fun _ h9 => h9) rfl dX2_waiting_50 ?_
      by_cases ho2 : (zp S 1 i).isSome = true
      · refine zk_tv (y := .ref (zg S 5 fl i)) (by show zch S 1 fl i = _; unfold zch; rw [if_pos ho2]) ?_
        refine lv_ifnonnull (tgt := 60) hx hb dX2_waiting_53 (by decide) ?_
        refine lv_aload_n hx hb dX2_waiting_60 rfl (lv_at hl 1 rfl) ?_
        refine t_getN (D := D) (ci := 7) (v := zch S 1 fl i) (C := RX8) (T := TX8) (N := 12) hx hb hts iX8 hown hK hW 2 fl i (dm2 (by omega) (by omega)) rfl rfl 3 (by decide) (zk_tab rfl (hN _ wr1111 rfl)) (fun _ h9 => h9) rfl dX2_waiting_61 ?_
        refine zk_tv (y := .ref (zg S 5 fl i)) (by show zch S 1 fl i = _; unfold zch; rw [if_pos ho2]) ?_
        refine zr_i (va_runV (As := []) (rest := [.int (v + (v_X1_length S F G q 4 fl i))]) ⟨hx, hb, hml, hown, hts⟩ (k_X1_length l D yc e0 A S Z F G q 5 fl i (Or.inr rfl) (dm5 (by omega) (by omega) (by assumption))) (cwV 0 hts (lw_V wq682 wq309 wq310 wq17 wq311) rfl rfl rfl (by decide +kernel) ⟨(Nat.le_of_ble_eq_true rfl), (Nat.le_of_ble_eq_true rfl)⟩) (tp_V hC hW hS hA 5 fl i (dm5 (by omega) (by omega) (by assumption)) (cel_ch (Or.inr rfl)) rfl) rfl rfl hl.1 rfl (lv_room (Nat.le_of_ble_eq_true rfl)) dX2_waiting_64 ⟨(Nat.le_of_ble_eq_true rfl), (Nat.le_of_ble_eq_true rfl)⟩) ?_
        refine lv_iadd hx hb dX2_waiting_67 ?_
        refine lv_istore_n (lv' := [(1, .int ((v + (v_X1_length S F G q 4 fl i)) + (v_X1_length S F G q 5 fl i))), (3, .ref (zg S 2 fl i)), (2, .int (nI i)), (0, .ref (zg S 6 fl 0))]) hx hb dX2_waiting_68 rfl hl (by decide) rfl (fun ls hl => ?_)
        refine lv_iinc (v := nI (i + 1)) (lv' := [(2, .int (nI (i + 1))), (1, .int ((v + (v_X1_length S F G q 4 fl i)) + (v_X1_length S F G q 5 fl i))), (3, .ref (zg S 2 fl i)), (0, .ref (zg S 6 fl 0))]) hx hb dX2_waiting_69 hl (k := 2) rfl (nI_1 _) (by decide) rfl (fun ls hl => ?_)
        refine lv_goto (tgt := 4) hx hb dX2_waiting_72 (by decide) ?_
        have e9 : r_X2_waiting S F G q fl (n + 1) i v = r_X2_waiting S F G q fl n (i + 1) ((v + (v_X1_length S F G q 4 fl i)) + (v_X1_length S F G q 5 fl i)) := by simp only [r_X2_waiting]; rw [if_pos ho1, if_pos ho2]
        rw [e9]
        exact ih (i + 1) ((v + (v_X1_length S F G q 4 fl i)) + (v_X1_length S F G q 5 fl i)) _ (by omega) (lv_sub hl [0, 1, 3] rfl)
      · refine zk_tv (y := .null) (by show zch S 1 fl i = _; unfold zch; rw [if_neg ho2]) ?_
        refine lv_ifnonnullN hx hb dX2_waiting_53 ?_
        refine lv_iconst (v := 0) hx hb dX2_waiting_56 (by decide) ?_
        refine lv_goto (tgt := 67) hx hb dX2_waiting_57 (by decide) ?_
        refine lv_iadd hx hb dX2_waiting_67 ?_
        refine lv_istore_n (lv' := [(1, .int ((v + (v_X1_length S F G q 4 fl i)) + 0)), (3, .ref (zg S 2 fl i)), (2, .int (nI i)), (0, .ref (zg S 6 fl 0))]) hx hb dX2_waiting_68 rfl hl (by decide) rfl (fun ls hl => ?_)
        refine lv_iinc (v := nI (i + 1)) (lv' := [(2, .int (nI (i + 1))), (1, .int ((v + (v_X1_length S F G q 4 fl i)) + 0)), (3, .ref (zg S 2 fl i)), (0, .ref (zg S 6 fl 0))]) hx hb dX2_waiting_69 hl (k := 2) rfl (nI_1 _) (by decide) rfl (fun ls hl => ?_)
        refine lv_goto (tgt := 4) hx hb dX2_waiting_72 (by decide) ?_
        have e9 : r_X2_waiting S F G q fl (n + 1) i v = r_X2_waiting S F G q fl n (i + 1) ((v + (v_X1_length S F G q 4 fl i)) + 0) := by simp only [r_X2_waiting]; rw [if_pos ho1, if_neg ho2]
        rw [e9]
        exact ih (i + 1) ((v + (v_X1_length S F G q 4 fl i)) + 0) _ (by omega) (lv_sub hl [0, 1, 3] rfl)
    · refine zk_tv (y := .null) (by show zch S 0 fl i = _; unfold zch; rw [if_neg ho1]) ?_
      refine lv_ifnonnullN hx hb dX2_waiting_32 ?_
      refine lv_iconst (v := 0) hx hb dX2_waiting_35 (by decide) ?_
      refine lv_goto (tgt := 46) hx hb dX2_waiting_36 (by decide) ?_
      refine lv_iadd hx hb dX2_waiting_46 ?_
      refine lv_istore_n (lv' := [(1, .int (v + 0)), (3, .ref (zg S 2 fl i)), (2, .int (nI i)), (0, .ref (zg S 6 fl 0))]) hx hb dX2_waiting_47 rfl hl (by decide) rfl (fun ls hl => ?_)
      refine lv_iload_n hx hb dX2_waiting_48 rfl (lv_at hl 0 rfl) ?_
      refine lv_aload_n hx hb dX2_waiting_49 rfl (lv_at hl 1 rfl) ?_
      refine t_getN (D := D) (ci := 7) (v := zch S 1 fl i) (C := RX8) (T := TX8) (N := 12) hx hb hts iX8 hown hK hW 2 fl i (dm2 (by omega) (by omega)) rfl rfl 3 (by decide) (zk_tab rfl (hN _ wr1111 rfl)) (fun _ h9 => h9) rfl dX2_waiting_50 ?_
      by_cases ho3 : (zp S 1 i).isSome = true
      · refine zk_tv (y := .ref (zg S 5 fl i)) (by show zch S 1 fl i = _; unfold zch; rw [if_pos ho3]) ?_
        refine lv_ifnonnull (tgt := 60) hx hb dX2_waiting_53 (by decide) ?_
        refine lv_aload_n hx hb dX2_waiting_60 rfl (lv_at hl 1 rfl) ?_
        refine t_getN (D := D) (ci := 7) (v := zch S 1 fl i) (C := RX8) (T := TX8) (N := 12) hx hb hts iX8 hown hK hW 2 fl i (dm2 (by omega) (by omega)) rfl rfl 3 (by decide) (zk_tab rfl (hN _ wr1111 rfl)) (fun _ h9 => h9) rfl dX2_waiting_61 ?_
        refine zk_tv (y := .ref (zg S 5 fl i)) (by show zch S 1 fl i = _; unfold zch; rw [if_pos ho3]) ?_
        refine zr_i (va_runV (As := []) (rest := [.int (v + 0)]) ⟨hx, hb, hml, hown, hts⟩ (k_X1_length l D yc e0 A S Z F G q 5 fl i (Or.inr rfl) (dm5 (by omega) (by omega) (by assumption))) (cwV 0 hts (lw_V wq682 wq309 wq310 wq17 wq311) rfl rfl rfl (by decide +kernel) ⟨(Nat.le_of_ble_eq_true rfl), (Nat.le_of_ble_eq_true rfl)⟩) (tp_V hC hW hS hA 5 fl i (dm5 (by omega) (by omega) (by assumption)) (cel_ch (Or.inr rfl)) rfl) rfl rfl hl.1 rfl (lv_room (Nat.le_of_ble_eq_true rfl)) dX2_waiting_64 ⟨(Nat.le_of_ble_eq_true rfl), (Nat.le_of_ble_eq_true rfl)⟩) ?_
        refine lv_iadd hx hb dX2_waiting_67 ?_
        refine lv_istore_n (lv' := [(1, .int ((v + 0) + (v_X1_length S F G q 5 fl i))), (3, .ref (zg S 2 fl i)), (2, .int (nI i)), (0, .ref (zg S 6 fl 0))]) hx hb dX2_waiting_68 rfl hl (by decide) rfl (fun ls hl => ?_)
        refine lv_iinc (v := nI (i + 1)) (lv' := [(2, .int (nI (i + 1))), (1, .int ((v + 0) + (v_X1_length S F G q 5 fl i))), (3, .ref (zg S 2 fl i)), (0, .ref (zg S 6 fl 0))]) hx hb dX2_waiting_69 hl (k := 2) rfl (nI_1 _) (by decide) rfl (fun ls hl => ?_)
        refine lv_goto (tgt := 4) hx hb dX2_waiting_72 (by decide) ?_
        have e9 : r_X2_waiting S F G q fl (n + 1) i v = r_X2_waiting S F G q fl n (i + 1) ((v + 0) + (v_X1_length S F G q 5 fl i)) := by simp only [r_X2_waiting]; rw [if_neg ho1, if_pos ho3]
        rw [e9]
        exact ih (i + 1) ((v + 0) + (v_X1_length S F G q 5 fl i)) _ (by omega) (lv_sub hl [0, 1, 3] rfl)
      · refine zk_tv (y := .null) (by show zch S 1 fl i = _; unfold zch; rw [if_neg ho3]) ?_
        refine lv_ifnonnullN hx hb dX2_waiting_53 ?_
        refine lv_iconst (v := 0) hx hb dX2_waiting_56 (by decide) ?_
        refine lv_goto (tgt := 67) hx hb dX2_waiting_57 (by decide) ?_
        refine lv_iadd hx hb dX2_waiting_67 ?_
        refine lv_istore_n (lv' := [(1, .int ((v + 0) + 0)), (3, .ref (zg S 2 fl i)), (2, .int (nI i)), (0, .ref (zg S 6 fl 0))]) hx hb dX2_waiting_68 rfl hl (by decide) rfl (fun ls hl => ?_)
        refine lv_iinc (v := nI (i + 1)) (lv' := [(2, .int (nI (i + 1))), (1, .int ((v + 0) + 0)), (3, .ref (zg S 2 fl i)), (0, .ref (zg S 6 fl 0))]) hx hb dX2_waiting_69 hl (k := 2) rfl (nI_1 _) (by decide) rfl (fun ls hl => ?_)
        refine lv_goto (tgt := 4) hx hb dX2_waiting_72 (by decide) ?_
        have e9 : r_X2_waiting S F G q fl (n + 1) i v = r_X2_waiting S F G q fl n (i + 1) ((v + 0) + 0) := by simp only [r_X2_waiting]; rw [if_neg ho1, if_neg ho3]
        rw [e9]
        exact ih (i + 1) ((v + 0) + 0) _ (by omega) (lv_sub hl [0, 1, 3] rfl)
def v_X2_waiting (S : TS) (F : TF) (G : TG) (q : TQ) (fl : Nat) : Int32 := r_X2_waiting S F G q fl (zn S) 0 0
set_option maxHeartbeats 4000000 in
set_option maxRecDepth 100000 in
theorem k_X2_waiting (l : Launch) (D : va_G) (yc : Nat → ClassId) (e0 : Nat) (A : Nat → Prop) (S : TS) (Z : Nat × Nat) (F : TF) (G : TG) (q : TQ) (fl : Nat) (hf : fl < 2) : Met l yX2_waiting (ws_ yX2_waiting cX2_waiting 4 (some .int)) ({ frames := 3, cells := 0, slots := 0, locals := 64 }) (PT D yc e0 A S Z F G q [.ref (zg S 6 fl 0)]) (zQ (some (.int (v_X2_waiting S F G q fl)))) 0 0 zno := by
  refine tk_M (by decide) (Nat.le_of_ble_eq_true rfl) ?_
  intro p e s m args below meth c ls hx hb hml hr hlk hown hts hW hS hA hC hl
  have hK := hC.1
  have hN := hC.2.1
  have hn12 := hW.n12
  have hl : lv_has ls 4 [(0, .ref (zg S 6 fl 0))] := hl
  refine lv_iconst (v := 0) hx hb dX2_waiting_0 (by decide) ?_
  refine lv_istore_n (lv' := [(1, .int 0), (0, .ref (zg S 6 fl 0))]) hx hb dX2_waiting_1 rfl hl (by decide) rfl (fun ls hl => ?_)
  refine lv_iconst (v := 0) hx hb dX2_waiting_2 (by decide) ?_
  refine lv_istore_n (lv' := [(2, .int 0), (1, .int 0), (0, .ref (zg S 6 fl 0))]) hx hb dX2_waiting_3 rfl hl (by decide) rfl (fun ls hl => ?_)
  exact lp_X2_waiting fl hf hx hb hml hr hlk hown hts hW hS hA hC (zn S) 0 0 _ (by omega) (lv_sub hl [0, 1, 2] rfl)
def r_X2_nextToWork (S : TS) (F : TF) (G : TG) (q : TQ) (fl : Nat) (w : Nat) : Nat → Nat → Int32
  | 0, _ => -1
  | n + 1, j => if (nI (zn S)) ≤ (nI (w + j)) then (if v_X8_canWork S F G q fl (w + j - zn S) (F 6 fl 0 2) = 0 then r_X2_nextToWork S F G q fl w n (j + 1) else nI (w + j - zn S)) else if v_X8_canWork S F G q fl (w + j) (F 6 fl 0 2) = 0 then r_X2_nextToWork S F G q fl w n (j + 1) else nI (w + j)
set_option maxHeartbeats 4000000 in
set_option maxRecDepth 100000 in
theorem lp_X2_nextToWork {p : Program} {l : Launch} {e : Env} {s : State} {m : MethodId} {args : Array Value} {below : List Frame} {meth : Method} {c : Code} {D : va_G} {yc : Nat → ClassId} {e0 : Nat} {A : Nat → Prop} {S : TS} {Z : Nat × Nat} {F : TF} {G : TG} {q : TQ} (fl : Nat) (w : Nat) (hf : fl < 2) (hw : F 6 fl 0 3 = nI w - 1) (hwn : w ≤ zn S) (hx : p.tables.exec = Jvm.exec) (hb : c.code = cX2_nextToWork) (hml : c.maxLocals = 5) (hr : meth.sig.returnType = (some .int)) (hlk : meth.locks = false) (hown : s.vm.findClass yX2_nextToWork.cls = some m.cls) (hts : ∀ w ∈ lw_all, w.before args s = true) (hW : WT D yc e0 A S Z F G q s.heap) (hS : va_S A s.heap s.heap []) (hA : ∀ a, s.heap.size ≤ a → A a) (hC : CX D yc e0 A s) : ∀ (n : Nat) (j : Nat) (ls : Array Slot), j + n = zn S → lv_has ls 5 [(2, .int (nI (j + 1))), (1, .int (nI (zn S))), (0, .ref (zg S 6 fl 0))] → W p l e ({ frames := 6, cells := 0, slots := 0, locals := 128 }) s m args below meth c s.heap [] 0 0 (MQ below (zQ (some (.int (r_X2_nextToWork S F G q fl w n j)))) args s 0 0 zno) (F0 m 10 ls []) := by
  have hK := hC.1
  have hN := hC.2.1
  have hn12 := hW.n12
  intro n
  induction n with
  | zero =>
    intro j ls hinv hl
    refine lv_iload_n hx hb dX2_nextToWork_10 rfl (lv_at hl 0 rfl) ?_
    refine lv_iload_n hx hb dX2_nextToWork_11 rfl (lv_at hl 1 rfl) ?_
    refine lv_icmp_gt (tgt := 76) hx hb dX2_nextToWork_12 (by decide) (fun _ => ?_) (fun h9 => absurd (nI_lt (by omega) (by omega)) h9)
    refine lv_iconst (v := (-1)) hx hb dX2_nextToWork_76 (by decide) ?_
    exact ze_i hx hb hr hlk rfl (by rfl) dX2_nextToWork_77
  | succ n ih =>
    intro j ls hinv hl
    refine lv_iload_n hx hb dX2_nextToWork_10 rfl (lv_at hl 0 rfl) ?_
    refine lv_iload_n hx hb dX2_nextToWork_11 rfl (lv_at hl 1 rfl) ?_
    refine lv_icmp_gt (tgt := 76) hx hb dX2_nextToWork_12 (by decide) (fun h9 => absurd h9 (nI_nlt (by omega) (by omega))) (fun _ => ?_)
    refine lv_aload_n hx hb dX2_nextToWork_15 rfl (lv_at hl 2 rfl) ?_
    refine t_get (D := D) (ci := 2) (v := .int (F 6 fl 0 3)) (C := RX2) (T := TX2) (N := 8) hx hb hts iX2 hown hK hW 6 fl 0 (dm6 (by omega)) rfl rfl 3 (by decide) (hts _ wq71) (fun _ h9 => h9) rfl dX2_nextToWork_16 ?_
    refine lv_iload_n hx hb dX2_nextToWork_19 rfl (lv_at hl 0 rfl) ?_
    refine lv_iadd hx hb dX2_nextToWork_20 ?_
    refine zk_ti (y := nI (w + j)) (by rw [hw]; exact zadd1 w j) ?_
    refine lv_istore_n (lv' := [(3, .int (nI (w + j))), (2, .int (nI (j + 1))), (1, .int (nI (zn S))), (0, .ref (zg S 6 fl 0))]) hx hb dX2_nextToWork_21 rfl hl (by decide) rfl (fun ls hl => ?_)
    refine lv_aload_n hx hb dX2_nextToWork_22 rfl (lv_at hl 3 rfl) ?_
    refine lv_iload_n hx hb dX2_nextToWork_23 rfl (lv_at hl 0 rfl) ?_
    refine lv_iload_n hx hb dX2_nextToWork_24 rfl (lv_at hl 2 rfl) ?_
    refine lv_icmp_ge (tgt := 32) hx hb dX2_nextToWork_25 (by decide) (fun hb1 => ?_) (fun hb1 => ?_)
    · have hb1n : (zn S) ≤ (w + j) := (nI_leI (by omega) (by omega)).mp hb1
      refine lv_iload_n hx hb dX2_nextToWork_32 rfl (lv_at hl 0 rfl) ?_
      refine lv_iload_n hx hb dX2_nextToWork_33 rfl (lv_at hl 2 rfl) ?_
      refine lv_isub hx hb dX2_nextToWork_34 ?_
      refine zk_ti (y := nI (w + j - zn S)) (pk_sub (by omega)) ?_
      refine zr_q (va_runV (As := [.int (nI (w + j - zn S))]) (rest := []) ⟨hx, hb, hml, hown, hts⟩ (k_X2_at l D yc e0 A S Z F G q fl (w + j - zn S) (by first | assumption | omega | decide) (by first | assumption | omega | decide)) (cwV 1 hts (lw_V wq281 wq224 wq225 wq2 wq226) rfl rfl rfl (by decide +kernel) ⟨(Nat.le_of_ble_eq_true rfl), (Nat.le_of_ble_eq_true rfl)⟩) (tp_V hC hW hS hA 6 fl 0 (dm6 (by omega)) rfl rfl) rfl rfl hl.1 rfl (lv_room (Nat.le_of_ble_eq_true rfl)) dX2_nextToWork_35 ⟨(Nat.le_of_ble_eq_true rfl), (Nat.le_of_ble_eq_true rfl)⟩) ?_
      refine lv_astore (lv' := [(4, .ref (zg S 2 fl (w + j - zn S))), (3, .int (nI (w + j))), (2, .int (nI (j + 1))), (1, .int (nI (zn S))), (0, .ref (zg S 6 fl 0))]) hx hb dX2_nextToWork_38 hl (by decide) rfl (fun ls hl => ?_)
      refine lv_aload hx hb dX2_nextToWork_40 (lv_at hl 0 rfl) ?_
      refine lv_ifnull hx hb dX2_nextToWork_42 ?_
      refine lv_aload hx hb dX2_nextToWork_45 (lv_at hl 0 rfl) ?_
      refine lv_aload_n hx hb dX2_nextToWork_47 rfl (lv_at hl 4 rfl) ?_
      refine t_get (D := D) (ci := 2) (v := .int (F 6 fl 0 2)) (C := RX2) (T := TX2) (N := 8) hx hb hts iX2 hown hK hW 6 fl 0 (dm6 (by omega)) rfl rfl 2 (by decide) (hts _ wq69) (fun _ h9 => h9) rfl dX2_nextToWork_48 ?_
      refine zr_i (va_runV (As := [.int (F 6 fl 0 2)]) (rest := []) ⟨hx, hb, hml, hown, hts⟩ (k_X8_canWork l D yc e0 A S Z F G q fl (w + j - zn S) (F 6 fl 0 2) (by first | assumption | omega | decide) (by first | assumption | omega | decide)) (cwV 1 hts (lw_V wq282 wq283 wq284 wq16 wq285) rfl rfl rfl (by decide +kernel) ⟨(Nat.le_of_ble_eq_true rfl), (Nat.le_of_ble_eq_true rfl)⟩) (tp_V hC hW hS hA 2 fl (w + j - zn S) (dm2 (by omega) (by omega)) rfl rfl) rfl rfl hl.1 rfl (lv_room (Nat.le_of_ble_eq_true rfl)) dX2_nextToWork_51 ⟨(Nat.le_of_ble_eq_true rfl), (Nat.le_of_ble_eq_true rfl)⟩) ?_
      refine lv_if_eq (tgt := 70) hx hb dX2_nextToWork_54 (by decide) (fun hb2 => ?_) (fun hb2 => ?_)
      · refine lv_iinc (v := nI ((j + 1) + 1)) (lv' := [(2, .int (nI ((j + 1) + 1))), (4, .ref (zg S 2 fl (w + j - zn S))), (3, .int (nI (w + j))), (1, .int (nI (zn S))), (0, .ref (zg S 6 fl 0))]) hx hb dX2_nextToWork_70 hl (k := 2) rfl (nI_1 _) (by decide) rfl (fun ls hl => ?_)
        refine lv_goto (tgt := 10) hx hb dX2_nextToWork_73 (by decide) ?_
        have e9 : r_X2_nextToWork S F G q fl w (n + 1) j = r_X2_nextToWork S F G q fl w n (j + 1) := by simp only [r_X2_nextToWork]; rw [if_pos hb1, if_pos hb2]
        rw [e9]
        exact ih (j + 1) _ (by omega) (lv_sub hl [0, 3, 4] rfl)
      · refine lv_iload_n hx hb dX2_nextToWork_57 rfl (lv_at hl 1 rfl) ?_
        refine lv_iload_n hx hb dX2_nextToWork_58 rfl (lv_at hl 3 rfl) ?_
        refine lv_icmp_ge (tgt := 66) hx hb dX2_nextToWork_59 (by decide) (fun _ => ?_) (fun h9 => absurd hb1 h9)
        refine lv_iload_n hx hb dX2_nextToWork_66 rfl (lv_at hl 1 rfl) ?_
        refine lv_iload_n hx hb dX2_nextToWork_67 rfl (lv_at hl 3 rfl) ?_
        refine lv_isub hx hb dX2_nextToWork_68 ?_
        refine zk_ti (y := nI (w + j - zn S)) (pk_sub (by omega)) ?_
        exact ze_i hx hb hr hlk rfl (by simp only [r_X2_nextToWork]; rw [if_pos hb1, if_neg hb2]) dX2_nextToWork_69
    · have hb1n : ¬ ((zn S) ≤ (w + j)) := fun h9 => hb1 ((nI_leI (by omega) (by omega)).mpr h9)
      refine lv_iload_n hx hb dX2_nextToWork_28 rfl (lv_at hl 0 rfl) ?_
      refine lv_goto (tgt := 35) hx hb dX2_nextToWork_29 (by decide) ?_
      refine zr_q (va_runV (As := [.int (nI (w + j))]) (rest := []) ⟨hx, hb, hml, hown, hts⟩ (k_X2_at l D yc e0 A S Z F G q fl (w + j) (by first | assumption | omega | decide) (by first | assumption | omega | decide)) (cwV 1 hts (lw_V wq281 wq224 wq225 wq2 wq226) rfl rfl rfl (by decide +kernel) ⟨(Nat.le_of_ble_eq_true rfl), (Nat.le_of_ble_eq_true rfl)⟩) (tp_V hC hW hS hA 6 fl 0 (dm6 (by omega)) rfl rfl) rfl rfl hl.1 rfl (lv_room (Nat.le_of_ble_eq_true rfl)) dX2_nextToWork_35 ⟨(Nat.le_of_ble_eq_true rfl), (Nat.le_of_ble_eq_true rfl)⟩) ?_
      refine lv_astore (lv' := [(4, .ref (zg S 2 fl (w + j))), (3, .int (nI (w + j))), (2, .int (nI (j + 1))), (1, .int (nI (zn S))), (0, .ref (zg S 6 fl 0))]) hx hb dX2_nextToWork_38 hl (by decide) rfl (fun ls hl => ?_)
      refine lv_aload hx hb dX2_nextToWork_40 (lv_at hl 0 rfl) ?_
      refine lv_ifnull hx hb dX2_nextToWork_42 ?_
      refine lv_aload hx hb dX2_nextToWork_45 (lv_at hl 0 rfl) ?_
      refine lv_aload_n hx hb dX2_nextToWork_47 rfl (lv_at hl 4 rfl) ?_
      refine t_get (D := D) (ci := 2) (v := .int (F 6 fl 0 2)) (C := RX2) (T := TX2) (N := 8) hx hb hts iX2 hown hK hW 6 fl 0 (dm6 (by omega)) rfl rfl 2 (by decide) (hts _ wq69) (fun _ h9 => h9) rfl dX2_nextToWork_48 ?_
      refine zr_i (va_runV (As := [.int (F 6 fl 0 2)]) (rest := []) ⟨hx, hb, hml, hown, hts⟩ (k_X8_canWork l D yc e0 A S Z F G q fl (w + j) (F 6 fl 0 2) (by first | assumption | omega | decide) (by first | assumption | omega | decide)) (cwV 1 hts (lw_V wq282 wq283 wq284 wq16 wq285) rfl rfl rfl (by decide +kernel) ⟨(Nat.le_of_ble_eq_true rfl), (Nat.le_of_ble_eq_true rfl)⟩) (tp_V hC hW hS hA 2 fl (w + j) (dm2 (by omega) (by omega)) rfl rfl) rfl rfl hl.1 rfl (lv_room (Nat.le_of_ble_eq_true rfl)) dX2_nextToWork_51 ⟨(Nat.le_of_ble_eq_true rfl), (Nat.le_of_ble_eq_true rfl)⟩) ?_
      refine lv_if_eq (tgt := 70) hx hb dX2_nextToWork_54 (by decide) (fun hb3 => ?_) (fun hb3 => ?_)
      · refine lv_iinc (v := nI ((j + 1) + 1)) (lv' := [(2, .int (nI ((j + 1) + 1))), (4, .ref (zg S 2 fl (w + j))), (3, .int (nI (w + j))), (1, .int (nI (zn S))), (0, .ref (zg S 6 fl 0))]) hx hb dX2_nextToWork_70 hl (k := 2) rfl (nI_1 _) (by decide) rfl (fun ls hl => ?_)
        refine lv_goto (tgt := 10) hx hb dX2_nextToWork_73 (by decide) ?_
        have e9 : r_X2_nextToWork S F G q fl w (n + 1) j = r_X2_nextToWork S F G q fl w n (j + 1) := by simp only [r_X2_nextToWork]; rw [if_neg hb1, if_pos hb3]
        rw [e9]
        exact ih (j + 1) _ (by omega) (lv_sub hl [0, 3, 4] rfl)
      · refine lv_iload_n hx hb dX2_nextToWork_57 rfl (lv_at hl 1 rfl) ?_
        refine lv_iload_n hx hb dX2_nextToWork_58 rfl (lv_at hl 3 rfl) ?_
        refine lv_icmp_ge (tgt := 66) hx hb dX2_nextToWork_59 (by decide) (fun h9 => absurd h9 hb1) (fun _ => ?_)
        refine lv_iload_n hx hb dX2_nextToWork_62 rfl (lv_at hl 1 rfl) ?_
        refine lv_goto (tgt := 69) hx hb dX2_nextToWork_63 (by decide) ?_
        exact ze_i hx hb hr hlk rfl (by simp only [r_X2_nextToWork]; rw [if_neg hb1, if_neg hb3]) dX2_nextToWork_69
def v_X2_nextToWork (S : TS) (F : TF) (G : TG) (q : TQ) (fl : Nat) (w : Nat) : Int32 := r_X2_nextToWork S F G q fl w (zn S) 0
set_option maxHeartbeats 4000000 in
set_option maxRecDepth 100000 in
theorem k_X2_nextToWork (l : Launch) (D : va_G) (yc : Nat → ClassId) (e0 : Nat) (A : Nat → Prop) (S : TS) (Z : Nat × Nat) (F : TF) (G : TG) (q : TQ) (fl : Nat) (w : Nat) (hf : fl < 2) (hw : F 6 fl 0 3 = nI w - 1) (hwn : w ≤ zn S) : Met l yX2_nextToWork (ws_ yX2_nextToWork cX2_nextToWork 5 (some .int)) ({ frames := 6, cells := 0, slots := 0, locals := 128 }) (PT D yc e0 A S Z F G q [.ref (zg S 6 fl 0)]) (zQ (some (.int (v_X2_nextToWork S F G q fl w)))) 0 0 zno := by
  refine tk_M (by decide) (Nat.le_of_ble_eq_true rfl) ?_
  intro p e s m args below meth c ls hx hb hml hr hlk hown hts hW hS hA hC hl
  have hK := hC.1
  have hN := hC.2.1
  have hn12 := hW.n12
  have hl : lv_has ls 5 [(0, .ref (zg S 6 fl 0))] := hl
  refine lv_aload_n hx hb dX2_nextToWork_0 rfl (lv_at hl 0 rfl) ?_
  refine t_get (D := D) (ci := 2) (v := .ref (zl S 0 fl 0)) (C := RX2) (T := TX2) (N := 8) hx hb hts iX2 hown hK hW 6 fl 0 (dm6 (by omega)) rfl rfl 1 (by decide) (hts _ wq68) (fun _ h9 => h9) rfl dX2_nextToWork_1 ?_
  refine zr_i (va_runV (As := []) (rest := []) ⟨hx, hb, hml, hown, hts⟩ (k_AL_size l D yc e0 A S Z F G q 0 fl 0 (dl0 (by omega))) (cwV 0 hts (lw_V wq119 wq120 wq121 wq5 wq122) rfl rfl rfl (by decide +kernel) ⟨(Nat.le_of_ble_eq_true rfl), (Nat.le_of_ble_eq_true rfl)⟩) (tp_L hC hW hS hA 0 fl 0 (dl0 (by omega))) rfl rfl hl.1 rfl (lv_room (Nat.le_of_ble_eq_true rfl)) dX2_nextToWork_4 ⟨(Nat.le_of_ble_eq_true rfl), (Nat.le_of_ble_eq_true rfl)⟩) ?_
  refine zk_ti (y := nI (zn S)) rfl ?_
  refine lv_istore_n (lv' := [(1, .int (nI (zn S))), (0, .ref (zg S 6 fl 0))]) hx hb dX2_nextToWork_7 rfl hl (by decide) rfl (fun ls hl => ?_)
  refine lv_iconst (v := 1) hx hb dX2_nextToWork_8 (by decide) ?_
  refine lv_istore_n (lv' := [(2, .int 1), (1, .int (nI (zn S))), (0, .ref (zg S 6 fl 0))]) hx hb dX2_nextToWork_9 rfl hl (by decide) rfl (fun ls hl => ?_)
  exact lp_X2_nextToWork fl w hf hw hwn hx hb hml hr hlk hown hts hW hS hA hC (zn S) 0 _ (by omega) (lv_sub hl [0, 1, 2] rfl)
def v_X10_stageOf (S : TS) (F : TF) (G : TG) (q : TQ) (k : Nat) : Value := (.ref (zg S 2 0 k))
set_option maxHeartbeats 4000000 in
set_option maxRecDepth 100000 in
theorem k_X10_stageOf (l : Launch) (D : va_G) (yc : Nat → ClassId) (e0 : Nat) (A : Nat → Prop) (S : TS) (Z : Nat × Nat) (F : TF) (G : TG) (q : TQ) (k : Nat) (hk : k < zn S) : Met l yX10_stageOf (ws_ yX10_stageOf cX10_stageOf 3 (some (.object "WeirStream$Stage"))) ({ frames := 4, cells := 0, slots := 0, locals := 85 }) (PT D yc e0 A S Z F G q [.ref (zg S 7 0 0), .int (nI k)]) (zQ (some ((v_X10_stageOf S F G q k)))) 0 0 zno := by
  refine tk_M (by decide) (Nat.le_of_ble_eq_true rfl) ?_
  intro p e s m args below meth c ls hx hb hml hr hlk hown hts hW hS hA hC hl
  have hK := hC.1
  have hN := hC.2.1
  have hn12 := hW.n12
  have hl : lv_has ls 3 [(0, .ref (zg S 7 0 0)), (1, .int (nI k))] := hl
  refine lv_aload_n hx hb dX10_stageOf_0 rfl (lv_at hl 0 rfl) ?_
  refine t_get (D := D) (ci := 9) (v := .ref (zg S 6 0 0)) (C := RX10) (T := TX10) (N := 5) hx hb hts iX10 hown hK hW 7 0 0 dm7 rfl rfl 0 (by decide) (hts _ wq95) (fun _ h9 => h9) rfl dX10_stageOf_1 ?_
  refine lv_iload_n hx hb dX10_stageOf_4 rfl (lv_at hl 1 rfl) ?_
  refine zr_q (va_runV (As := [.int (nI k)]) (rest := []) ⟨hx, hb, hml, hown, hts⟩ (k_X2_at l D yc e0 A S Z F G q 0 k (by first | assumption | omega | decide) (by first | assumption | omega | decide)) (cwV 1 hts (lw_V wq223 wq224 wq225 wq2 wq226) rfl rfl rfl (by decide +kernel) ⟨(Nat.le_of_ble_eq_true rfl), (Nat.le_of_ble_eq_true rfl)⟩) (tp_V hC hW hS hA 6 0 0 (dm6 (by omega)) rfl rfl) rfl rfl hl.1 rfl (lv_room (Nat.le_of_ble_eq_true rfl)) dX10_stageOf_5 ⟨(Nat.le_of_ble_eq_true rfl), (Nat.le_of_ble_eq_true rfl)⟩) ?_
  refine lv_astore_n (lv' := [(2, .ref (zg S 2 0 k)), (0, .ref (zg S 7 0 0)), (1, .int (nI k))]) hx hb dX10_stageOf_8 rfl hl (by decide) rfl (fun ls hl => ?_)
  refine lv_aload_n hx hb dX10_stageOf_9 rfl (lv_at hl 0 rfl) ?_
  refine lv_ifnonnull (tgt := 21) hx hb dX10_stageOf_10 (by decide) ?_
  refine lv_aload_n hx hb dX10_stageOf_21 rfl (lv_at hl 0 rfl) ?_
  exact ze_q hx hb hr (by first | exact Or.inl ⟨_, rfl⟩ | exact Or.inr ⟨_, rfl⟩) hlk (by first | exact Or.inl rfl | exact Or.inr ⟨_, rfl⟩ | exact zch_or _ _ _ _) (by rfl) dX10_stageOf_22
def v_X10_sourceOf (S : TS) (F : TF) (G : TG) (q : TQ) (k : Nat) : Value := (.ref (zg S 2 0 k))
set_option maxHeartbeats 4000000 in
set_option maxRecDepth 100000 in
theorem k_X10_sourceOf (l : Launch) (D : va_G) (yc : Nat → ClassId) (e0 : Nat) (A : Nat → Prop) (S : TS) (Z : Nat × Nat) (F : TF) (G : TG) (q : TQ) (k : Nat) (hk : k < zn S) (hs : F 8 0 k 0 = 0) : Met l yX10_sourceOf (ws_ yX10_sourceOf cX10_sourceOf 3 (some (.object "WeirStream$Stage"))) ({ frames := 5, cells := 0, slots := 0, locals := 107 }) (PT D yc e0 A S Z F G q [.ref (zg S 7 0 0), .int (nI k)]) (zQ (some ((v_X10_sourceOf S F G q k)))) 0 0 zno := by
  refine tk_M (by decide) (Nat.le_of_ble_eq_true rfl) ?_
  intro p e s m args below meth c ls hx hb hml hr hlk hown hts hW hS hA hC hl
  have hK := hC.1
  have hN := hC.2.1
  have hn12 := hW.n12
  have hl : lv_has ls 3 [(0, .ref (zg S 7 0 0)), (1, .int (nI k))] := hl
  refine lv_aload_n hx hb dX10_sourceOf_0 rfl (lv_at hl 0 rfl) ?_
  refine lv_iload_n hx hb dX10_sourceOf_1 rfl (lv_at hl 1 rfl) ?_
  refine zr_q (va_runV (As := [.int (nI k)]) (rest := []) ⟨hx, hb, hml, hown, hts⟩ (k_X10_stageOf l D yc e0 A S Z F G q k (by first | assumption | omega | decide)) (cwV 1 hts (lw_V wq219 wq221 ws2 wq1 wq222) rfl rfl rfl (by decide +kernel) ⟨(Nat.le_of_ble_eq_true rfl), (Nat.le_of_ble_eq_true rfl)⟩) (tp_V hC hW hS hA 7 0 0 dm7 rfl rfl) rfl rfl hl.1 rfl (lv_room (Nat.le_of_ble_eq_true rfl)) dX10_sourceOf_2 ⟨(Nat.le_of_ble_eq_true rfl), (Nat.le_of_ble_eq_true rfl)⟩) ?_
  refine lv_astore_n (lv' := [(2, .ref (zg S 2 0 k)), (0, .ref (zg S 7 0 0)), (1, .int (nI k))]) hx hb dX10_sourceOf_5 rfl hl (by decide) rfl (fun ls hl => ?_)
  refine lv_aload_n hx hb dX10_sourceOf_6 rfl (lv_at hl 0 rfl) ?_
  refine t_getN (D := D) (ci := 7) (v := .ref (zg S 8 0 k)) (C := RX8) (T := TX8) (N := 12) hx hb hts iX8 hown hK hW 2 0 k (dm2 (by omega) (by omega)) rfl rfl 0 (by decide) (zk_tab rfl (hN _ wr1104 rfl)) (fun _ h9 => h9) rfl dX10_sourceOf_7 ?_
  refine t_getN (D := D) (ci := 4) (v := .int (F 8 0 k 0)) (C := RX5) (T := TX5) (N := 15) hx hb hts iX5 hown hK hW 8 0 k (dm8 (by omega)) rfl rfl 0 (by decide) (zk_tab rfl (hN _ wr831 rfl)) (fun _ h9 => h9) rfl dX10_sourceOf_10 ?_
  refine lv_if_ne (tgt := 20) hx hb dX10_sourceOf_13 (by decide) (fun h9 => absurd hs h9) (fun _ => ?_)
  refine lv_iconst (v := 1) hx hb dX10_sourceOf_16 (by decide) ?_
  refine lv_goto (tgt := 21) hx hb dX10_sourceOf_17 (by decide) ?_
  refine zr_v (va_runS (As := [.int 1]) (rest := []) ⟨hx, hb, hml, hown, hts⟩ (k_X10_refuseUnless l 1 (by first | assumption | omega | decide)) (va_cwS 1 hts (lw_S wq193 wq194 wq1 wq195) rfl rfl rfl (by decide +kernel) ⟨(Nat.le_of_ble_eq_true rfl), (Nat.le_of_ble_eq_true rfl)⟩) tp_N rfl rfl hl.1 rfl (lv_room (Nat.le_of_ble_eq_true rfl)) dX10_sourceOf_21 ⟨(Nat.le_of_ble_eq_true rfl), (Nat.le_of_ble_eq_true rfl)⟩) ?_
  refine lv_aload_n hx hb dX10_sourceOf_24 rfl (lv_at hl 0 rfl) ?_
  exact ze_q hx hb hr (by first | exact Or.inl ⟨_, rfl⟩ | exact Or.inr ⟨_, rfl⟩) hlk (by first | exact Or.inl rfl | exact Or.inr ⟨_, rfl⟩ | exact zch_or _ _ _ _) (by rfl) dX10_sourceOf_25
def v_X10_sinkOf (S : TS) (F : TF) (G : TG) (q : TQ) (k : Nat) : Value := (.ref (zg S 2 0 k))
set_option maxHeartbeats 4000000 in
set_option maxRecDepth 100000 in
theorem k_X10_sinkOf (l : Launch) (D : va_G) (yc : Nat → ClassId) (e0 : Nat) (A : Nat → Prop) (S : TS) (Z : Nat × Nat) (F : TF) (G : TG) (q : TQ) (k : Nat) (hk : k < zn S) (hs : F 8 0 k 0 = 7) : Met l yX10_sinkOf (ws_ yX10_sinkOf cX10_sinkOf 3 (some (.object "WeirStream$Stage"))) ({ frames := 5, cells := 0, slots := 0, locals := 107 }) (PT D yc e0 A S Z F G q [.ref (zg S 7 0 0), .int (nI k)]) (zQ (some ((v_X10_sinkOf S F G q k)))) 0 0 zno := by
  refine tk_M (by decide) (Nat.le_of_ble_eq_true rfl) ?_
  intro p e s m args below meth c ls hx hb hml hr hlk hown hts hW hS hA hC hl
  have hK := hC.1
  have hN := hC.2.1
  have hn12 := hW.n12
  have hl : lv_has ls 3 [(0, .ref (zg S 7 0 0)), (1, .int (nI k))] := hl
  refine lv_aload_n hx hb dX10_sinkOf_0 rfl (lv_at hl 0 rfl) ?_
  refine lv_iload_n hx hb dX10_sinkOf_1 rfl (lv_at hl 1 rfl) ?_
  refine zr_q (va_runV (As := [.int (nI k)]) (rest := []) ⟨hx, hb, hml, hown, hts⟩ (k_X10_stageOf l D yc e0 A S Z F G q k (by first | assumption | omega | decide)) (cwV 1 hts (lw_V wq219 wq221 ws2 wq1 wq222) rfl rfl rfl (by decide +kernel) ⟨(Nat.le_of_ble_eq_true rfl), (Nat.le_of_ble_eq_true rfl)⟩) (tp_V hC hW hS hA 7 0 0 dm7 rfl rfl) rfl rfl hl.1 rfl (lv_room (Nat.le_of_ble_eq_true rfl)) dX10_sinkOf_2 ⟨(Nat.le_of_ble_eq_true rfl), (Nat.le_of_ble_eq_true rfl)⟩) ?_
  refine lv_astore_n (lv' := [(2, .ref (zg S 2 0 k)), (0, .ref (zg S 7 0 0)), (1, .int (nI k))]) hx hb dX10_sinkOf_5 rfl hl (by decide) rfl (fun ls hl => ?_)
  refine lv_aload_n hx hb dX10_sinkOf_6 rfl (lv_at hl 0 rfl) ?_
  refine t_getN (D := D) (ci := 7) (v := .ref (zg S 8 0 k)) (C := RX8) (T := TX8) (N := 12) hx hb hts iX8 hown hK hW 2 0 k (dm2 (by omega) (by omega)) rfl rfl 0 (by decide) (zk_tab rfl (hN _ wr1104 rfl)) (fun _ h9 => h9) rfl dX10_sinkOf_7 ?_
  refine t_getN (D := D) (ci := 4) (v := .int (F 8 0 k 0)) (C := RX5) (T := TX5) (N := 15) hx hb hts iX5 hown hK hW 8 0 k (dm8 (by omega)) rfl rfl 0 (by decide) (zk_tab rfl (hN _ wr831 rfl)) (fun _ h9 => h9) rfl dX10_sinkOf_10 ?_
  refine lv_bipush (v := 7) hx hb dX10_sinkOf_13 (by decide) ?_
  refine lv_icmp_ne (tgt := 22) hx hb dX10_sinkOf_15 (by decide) (fun h9 => absurd hs h9) (fun _ => ?_)
  refine lv_iconst (v := 1) hx hb dX10_sinkOf_18 (by decide) ?_
  refine lv_goto (tgt := 23) hx hb dX10_sinkOf_19 (by decide) ?_
  refine zr_v (va_runS (As := [.int 1]) (rest := []) ⟨hx, hb, hml, hown, hts⟩ (k_X10_refuseUnless l 1 (by first | assumption | omega | decide)) (va_cwS 1 hts (lw_S wq193 wq194 wq1 wq195) rfl rfl rfl (by decide +kernel) ⟨(Nat.le_of_ble_eq_true rfl), (Nat.le_of_ble_eq_true rfl)⟩) tp_N rfl rfl hl.1 rfl (lv_room (Nat.le_of_ble_eq_true rfl)) dX10_sinkOf_23 ⟨(Nat.le_of_ble_eq_true rfl), (Nat.le_of_ble_eq_true rfl)⟩) ?_
  refine lv_aload_n hx hb dX10_sinkOf_26 rfl (lv_at hl 0 rfl) ?_
  exact ze_q hx hb hr (by first | exact Or.inl ⟨_, rfl⟩ | exact Or.inr ⟨_, rfl⟩) hlk (by first | exact Or.inl rfl | exact Or.inr ⟨_, rfl⟩ | exact zch_or _ _ _ _) (by rfl) dX10_sinkOf_27
def v_X10_spanStageOf (S : TS) (F : TF) (G : TG) (q : TQ) (k : Nat) : Value := if (F 8 0 k 0) = 3 then (.ref (zg S 2 0 k)) else if (F 8 0 k 0) = 4 then (.ref (zg S 2 0 k)) else (.ref (zg S 2 0 k))
set_option maxHeartbeats 4000000 in
set_option maxRecDepth 100000 in
theorem k_X10_spanStageOf (l : Launch) (D : va_G) (yc : Nat → ClassId) (e0 : Nat) (A : Nat → Prop) (S : TS) (Z : Nat × Nat) (F : TF) (G : TG) (q : TQ) (k : Nat) (hk : k < zn S) (hs : F 8 0 k 0 = 3 ∨ F 8 0 k 0 = 4) : Met l yX10_spanStageOf (ws_ yX10_spanStageOf cX10_spanStageOf 3 (some (.object "WeirStream$Stage"))) ({ frames := 5, cells := 0, slots := 0, locals := 107 }) (PT D yc e0 A S Z F G q [.ref (zg S 7 0 0), .int (nI k)]) (zQ (some ((v_X10_spanStageOf S F G q k)))) 0 0 zno := by
  refine tk_M (by decide) (Nat.le_of_ble_eq_true rfl) ?_
  intro p e s m args below meth c ls hx hb hml hr hlk hown hts hW hS hA hC hl
  have hK := hC.1
  have hN := hC.2.1
  have hn12 := hW.n12
  have hl : lv_has ls 3 [(0, .ref (zg S 7 0 0)), (1, .int (nI k))] := hl
  refine lv_aload_n hx hb dX10_spanStageOf_0 rfl (lv_at hl 0 rfl) ?_
  refine lv_iload_n hx hb dX10_spanStageOf_1 rfl (lv_at hl 1 rfl) ?_
  refine zr_q (va_runV (As := [.int (nI k)]) (rest := []) ⟨hx, hb, hml, hown, hts⟩ (k_X10_stageOf l D yc e0 A S Z F G q k (by first | assumption | omega | decide)) (cwV 1 hts (lw_V wq219 wq221 ws2 wq1 wq222) rfl rfl rfl (by decide +kernel) ⟨(Nat.le_of_ble_eq_true rfl), (Nat.le_of_ble_eq_true rfl)⟩) (tp_V hC hW hS hA 7 0 0 dm7 rfl rfl) rfl rfl hl.1 rfl (lv_room (Nat.le_of_ble_eq_true rfl)) dX10_spanStageOf_2 ⟨(Nat.le_of_ble_eq_true rfl), (Nat.le_of_ble_eq_true rfl)⟩) ?_
  refine lv_astore_n (lv' := [(2, .ref (zg S 2 0 k)), (0, .ref (zg S 7 0 0)), (1, .int (nI k))]) hx hb dX10_spanStageOf_5 rfl hl (by decide) rfl (fun ls hl => ?_)
  refine lv_aload_n hx hb dX10_spanStageOf_6 rfl (lv_at hl 0 rfl) ?_
  refine t_getN (D := D) (ci := 7) (v := .ref (zg S 8 0 k)) (C := RX8) (T := TX8) (N := 12) hx hb hts iX8 hown hK hW 2 0 k (dm2 (by omega) (by omega)) rfl rfl 0 (by decide) (zk_tab rfl (hN _ wr1104 rfl)) (fun _ h9 => h9) rfl dX10_spanStageOf_7 ?_
  refine t_getN (D := D) (ci := 4) (v := .int (F 8 0 k 0)) (C := RX5) (T := TX5) (N := 15) hx hb hts iX5 hown hK hW 8 0 k (dm8 (by omega)) rfl rfl 0 (by decide) (zk_tab rfl (hN _ wr831 rfl)) (fun _ h9 => h9) rfl dX10_spanStageOf_10 ?_
  refine lv_iconst (v := 3) hx hb dX10_spanStageOf_13 (by decide) ?_
  refine lv_icmp_eq (tgt := 28) hx hb dX10_spanStageOf_14 (by decide) (fun hb1 => ?_) (fun hb1 => ?_)
  · refine lv_iconst (v := 1) hx hb dX10_spanStageOf_28 (by decide) ?_
    refine lv_goto (tgt := 33) hx hb dX10_spanStageOf_29 (by decide) ?_
    refine zr_v (va_runS (As := [.int 1]) (rest := []) ⟨hx, hb, hml, hown, hts⟩ (k_X10_refuseUnless l 1 (by first | decide | (intro _; rcases hs with h9 | h9 <;> contradiction))) (va_cwS 1 hts (lw_S wq193 wq194 wq1 wq195) rfl rfl rfl (by decide +kernel) ⟨(Nat.le_of_ble_eq_true rfl), (Nat.le_of_ble_eq_true rfl)⟩) tp_N rfl rfl hl.1 rfl (lv_room (Nat.le_of_ble_eq_true rfl)) dX10_spanStageOf_33 ⟨(Nat.le_of_ble_eq_true rfl), (Nat.le_of_ble_eq_true rfl)⟩) ?_
    refine lv_aload_n hx hb dX10_spanStageOf_36 rfl (lv_at hl 0 rfl) ?_
    exact ze_q hx hb hr (by first | exact Or.inl ⟨_, rfl⟩ | exact Or.inr ⟨_, rfl⟩) hlk (by first | exact Or.inl rfl | exact Or.inr ⟨_, rfl⟩ | exact zch_or _ _ _ _) (by unfold v_X10_spanStageOf; rw [if_pos hb1]) dX10_spanStageOf_37
  · refine lv_aload_n hx hb dX10_spanStageOf_17 rfl (lv_at hl 0 rfl) ?_
    refine t_getN (D := D) (ci := 7) (v := .ref (zg S 8 0 k)) (C := RX8) (T := TX8) (N := 12) hx hb hts iX8 hown hK hW 2 0 k (dm2 (by omega) (by omega)) rfl rfl 0 (by decide) (zk_tab rfl (hN _ wr1104 rfl)) (fun _ h9 => h9) rfl dX10_spanStageOf_18 ?_
    refine t_getN (D := D) (ci := 4) (v := .int (F 8 0 k 0)) (C := RX5) (T := TX5) (N := 15) hx hb hts iX5 hown hK hW 8 0 k (dm8 (by omega)) rfl rfl 0 (by decide) (zk_tab rfl (hN _ wr831 rfl)) (fun _ h9 => h9) rfl dX10_spanStageOf_21 ?_
    refine lv_iconst (v := 4) hx hb dX10_spanStageOf_24 (by decide) ?_
    refine lv_icmp_ne (tgt := 32) hx hb dX10_spanStageOf_25 (by decide) (fun hb2 => ?_) (fun hb2 => ?_)
    · refine lv_iconst (v := 0) hx hb dX10_spanStageOf_32 (by decide) ?_
      refine zr_v (va_runS (As := [.int 0]) (rest := []) ⟨hx, hb, hml, hown, hts⟩ (k_X10_refuseUnless l 0 (by first | decide | (intro _; rcases hs with h9 | h9 <;> contradiction))) (va_cwS 1 hts (lw_S wq193 wq194 wq1 wq195) rfl rfl rfl (by decide +kernel) ⟨(Nat.le_of_ble_eq_true rfl), (Nat.le_of_ble_eq_true rfl)⟩) tp_N rfl rfl hl.1 rfl (lv_room (Nat.le_of_ble_eq_true rfl)) dX10_spanStageOf_33 ⟨(Nat.le_of_ble_eq_true rfl), (Nat.le_of_ble_eq_true rfl)⟩) ?_
      refine lv_aload_n hx hb dX10_spanStageOf_36 rfl (lv_at hl 0 rfl) ?_
      exact ze_q hx hb hr (by first | exact Or.inl ⟨_, rfl⟩ | exact Or.inr ⟨_, rfl⟩) hlk (by first | exact Or.inl rfl | exact Or.inr ⟨_, rfl⟩ | exact zch_or _ _ _ _) (by unfold v_X10_spanStageOf; rw [if_neg hb1, if_neg hb2]) dX10_spanStageOf_37
    · refine lv_iconst (v := 1) hx hb dX10_spanStageOf_28 (by decide) ?_
      refine lv_goto (tgt := 33) hx hb dX10_spanStageOf_29 (by decide) ?_
      refine zr_v (va_runS (As := [.int 1]) (rest := []) ⟨hx, hb, hml, hown, hts⟩ (k_X10_refuseUnless l 1 (by first | decide | (intro _; rcases hs with h9 | h9 <;> contradiction))) (va_cwS 1 hts (lw_S wq193 wq194 wq1 wq195) rfl rfl rfl (by decide +kernel) ⟨(Nat.le_of_ble_eq_true rfl), (Nat.le_of_ble_eq_true rfl)⟩) tp_N rfl rfl hl.1 rfl (lv_room (Nat.le_of_ble_eq_true rfl)) dX10_spanStageOf_33 ⟨(Nat.le_of_ble_eq_true rfl), (Nat.le_of_ble_eq_true rfl)⟩) ?_
      refine lv_aload_n hx hb dX10_spanStageOf_36 rfl (lv_at hl 0 rfl) ?_
      exact ze_q hx hb hr (by first | exact Or.inl ⟨_, rfl⟩ | exact Or.inr ⟨_, rfl⟩) hlk (by first | exact Or.inl rfl | exact Or.inr ⟨_, rfl⟩ | exact zch_or _ _ _ _) (by unfold v_X10_spanStageOf; rw [if_neg hb1, if_pos hb2]) dX10_spanStageOf_37
def v_X10_stages (S : TS) (F : TF) (G : TG) (q : TQ) : Int32 := nI (zn S)
set_option maxHeartbeats 4000000 in
set_option maxRecDepth 100000 in
theorem k_X10_stages (l : Launch) (D : va_G) (yc : Nat → ClassId) (e0 : Nat) (A : Nat → Prop) (S : TS) (Z : Nat × Nat) (F : TF) (G : TG) (q : TQ)   : Met l yX10_stages (ws_ yX10_stages cX10_stages 1 (some .int)) ({ frames := 2, cells := 0, slots := 0, locals := 40 }) (PT D yc e0 A S Z F G q [.ref (zg S 7 0 0)]) (zQ (some (.int (v_X10_stages S F G q)))) 0 0 zno := by
  refine tk_M (by decide) (Nat.le_of_ble_eq_true rfl) ?_
  intro p e s m args below meth c ls hx hb hml hr hlk hown hts hW hS hA hC hl
  have hK := hC.1
  have hN := hC.2.1
  have hn12 := hW.n12
  have hl : lv_has ls 1 [(0, .ref (zg S 7 0 0))] := hl
  refine lv_aload_n hx hb dX10_stages_0 rfl (lv_at hl 0 rfl) ?_
  refine t_get (D := D) (ci := 9) (v := .ref (zg S 6 0 0)) (C := RX10) (T := TX10) (N := 5) hx hb hts iX10 hown hK hW 7 0 0 dm7 rfl rfl 0 (by decide) (hts _ wq95) (fun _ h9 => h9) rfl dX10_stages_1 ?_
  refine zr_i (va_runV (As := []) (rest := []) ⟨hx, hb, hml, hown, hts⟩ (k_X2_size l D yc e0 A S Z F G q 0 (by first | assumption | omega | decide)) (cwV 0 hts (lw_V wq115 wq116 wq117 wq2 wq118) rfl rfl rfl (by decide +kernel) ⟨(Nat.le_of_ble_eq_true rfl), (Nat.le_of_ble_eq_true rfl)⟩) (tp_V hC hW hS hA 6 0 0 (dm6 (by omega)) rfl rfl) rfl rfl hl.1 rfl (lv_room (Nat.le_of_ble_eq_true rfl)) dX10_stages_4 ⟨(Nat.le_of_ble_eq_true rfl), (Nat.le_of_ble_eq_true rfl)⟩) ?_
  refine zk_ti (y := nI (zn S)) rfl ?_
  exact ze_i hx hb hr hlk rfl (by rfl) dX10_stages_7
def v_X10_isStarted (S : TS) (F : TF) (G : TG) (q : TQ) : Int32 := F 7 0 0 2
set_option maxHeartbeats 4000000 in
set_option maxRecDepth 100000 in
theorem k_X10_isStarted (l : Launch) (D : va_G) (yc : Nat → ClassId) (e0 : Nat) (A : Nat → Prop) (S : TS) (Z : Nat × Nat) (F : TF) (G : TG) (q : TQ)   : Met l yX10_isStarted (ws_ yX10_isStarted cX10_isStarted 1 (some .boolean)) ({ frames := 0, cells := 0, slots := 0, locals := 0 }) (PT D yc e0 A S Z F G q [.ref (zg S 7 0 0)]) (zQ (some (.int (v_X10_isStarted S F G q)))) 0 0 zno := by
  refine tk_M (by decide) (Nat.le_of_ble_eq_true rfl) ?_
  intro p e s m args below meth c ls hx hb hml hr hlk hown hts hW hS hA hC hl
  have hK := hC.1
  have hN := hC.2.1
  have hn12 := hW.n12
  have hl : lv_has ls 1 [(0, .ref (zg S 7 0 0))] := hl
  refine lv_aload_n hx hb dX10_isStarted_0 rfl (lv_at hl 0 rfl) ?_
  refine t_get (D := D) (ci := 9) (v := .int (F 7 0 0 2)) (C := RX10) (T := TX10) (N := 5) hx hb hts iX10 hown hK hW 7 0 0 dm7 rfl rfl 2 (by decide) (hts _ wq97) (fun _ h9 => h9) rfl dX10_isStarted_1 ?_
  exact ze_i hx hb hr hlk (zk_nb (hW.bit 7 0 0 2 rfl)) (by rfl) dX10_isStarted_4
def v_X10_sortOf (S : TS) (F : TF) (G : TG) (q : TQ) (k : Nat) : Int32 := F 8 0 k 0
set_option maxHeartbeats 4000000 in
set_option maxRecDepth 100000 in
theorem k_X10_sortOf (l : Launch) (D : va_G) (yc : Nat → ClassId) (e0 : Nat) (A : Nat → Prop) (S : TS) (Z : Nat × Nat) (F : TF) (G : TG) (q : TQ) (k : Nat) (hk : k < zn S) : Met l yX10_sortOf (ws_ yX10_sortOf cX10_sortOf 2 (some .int)) ({ frames := 5, cells := 0, slots := 0, locals := 107 }) (PT D yc e0 A S Z F G q [.ref (zg S 7 0 0), .int (nI k)]) (zQ (some (.int (v_X10_sortOf S F G q k)))) 0 0 zno := by
  refine tk_M (by decide) (Nat.le_of_ble_eq_true rfl) ?_
  intro p e s m args below meth c ls hx hb hml hr hlk hown hts hW hS hA hC hl
  have hK := hC.1
  have hN := hC.2.1
  have hn12 := hW.n12
  have hl : lv_has ls 2 [(0, .ref (zg S 7 0 0)), (1, .int (nI k))] := hl
  refine lv_aload_n hx hb dX10_sortOf_0 rfl (lv_at hl 0 rfl) ?_
  refine lv_iload_n hx hb dX10_sortOf_1 rfl (lv_at hl 1 rfl) ?_
  refine zr_q (va_runV (As := [.int (nI k)]) (rest := []) ⟨hx, hb, hml, hown, hts⟩ (k_X10_stageOf l D yc e0 A S Z F G q k (by first | assumption | omega | decide)) (cwV 1 hts (lw_V wq219 wq221 ws2 wq1 wq222) rfl rfl rfl (by decide +kernel) ⟨(Nat.le_of_ble_eq_true rfl), (Nat.le_of_ble_eq_true rfl)⟩) (tp_V hC hW hS hA 7 0 0 dm7 rfl rfl) rfl rfl hl.1 rfl (lv_room (Nat.le_of_ble_eq_true rfl)) dX10_sortOf_2 ⟨(Nat.le_of_ble_eq_true rfl), (Nat.le_of_ble_eq_true rfl)⟩) ?_
  refine t_getN (D := D) (ci := 7) (v := .ref (zg S 8 0 k)) (C := RX8) (T := TX8) (N := 12) hx hb hts iX8 hown hK hW 2 0 k (dm2 (by omega) (by omega)) rfl rfl 0 (by decide) (zk_tab rfl (hN _ wr1104 rfl)) (fun _ h9 => h9) rfl dX10_sortOf_5 ?_
  refine t_getN (D := D) (ci := 4) (v := .int (F 8 0 k 0)) (C := RX5) (T := TX5) (N := 15) hx hb hts iX5 hown hK hW 8 0 k (dm8 (by omega)) rfl rfl 0 (by decide) (zk_tab rfl (hN _ wr831 rfl)) (fun _ h9 => h9) rfl dX10_sortOf_8 ?_
  exact ze_i hx hb hr hlk rfl (by rfl) dX10_sortOf_11
def v_X10_markOf (S : TS) (F : TF) (G : TG) (q : TQ) (k : Nat) : Int32 := F 0 0 (3 * k) 0
set_option maxHeartbeats 4000000 in
set_option maxRecDepth 100000 in
theorem k_X10_markOf (l : Launch) (D : va_G) (yc : Nat → ClassId) (e0 : Nat) (A : Nat → Prop) (S : TS) (Z : Nat × Nat) (F : TF) (G : TG) (q : TQ) (k : Nat) (hk : k < zn S) : Met l yX10_markOf (ws_ yX10_markOf cX10_markOf 2 (some .int)) ({ frames := 5, cells := 0, slots := 0, locals := 107 }) (PT D yc e0 A S Z F G q [.ref (zg S 7 0 0), .int (nI k)]) (zQ (some (.int (v_X10_markOf S F G q k)))) 0 0 zno := by
  refine tk_M (by decide) (Nat.le_of_ble_eq_true rfl) ?_
  intro p e s m args below meth c ls hx hb hml hr hlk hown hts hW hS hA hC hl
  have hK := hC.1
  have hN := hC.2.1
  have hn12 := hW.n12
  have hl : lv_has ls 2 [(0, .ref (zg S 7 0 0)), (1, .int (nI k))] := hl
  refine lv_aload_n hx hb dX10_markOf_0 rfl (lv_at hl 0 rfl) ?_
  refine lv_iload_n hx hb dX10_markOf_1 rfl (lv_at hl 1 rfl) ?_
  refine zr_q (va_runV (As := [.int (nI k)]) (rest := []) ⟨hx, hb, hml, hown, hts⟩ (k_X10_stageOf l D yc e0 A S Z F G q k (by first | assumption | omega | decide)) (cwV 1 hts (lw_V wq219 wq221 ws2 wq1 wq222) rfl rfl rfl (by decide +kernel) ⟨(Nat.le_of_ble_eq_true rfl), (Nat.le_of_ble_eq_true rfl)⟩) (tp_V hC hW hS hA 7 0 0 dm7 rfl rfl) rfl rfl hl.1 rfl (lv_room (Nat.le_of_ble_eq_true rfl)) dX10_markOf_2 ⟨(Nat.le_of_ble_eq_true rfl), (Nat.le_of_ble_eq_true rfl)⟩) ?_
  refine t_getN (D := D) (ci := 7) (v := .ref (zg S 0 0 (3 * k))) (C := RX8) (T := TX8) (N := 12) hx hb hts iX8 hown hK hW 2 0 k (dm2 (by omega) (by omega)) rfl rfl 7 (by decide) (zk_tab rfl (hN _ wr1120 rfl)) (fun _ h9 => h9) rfl dX10_markOf_5 ?_
  refine t_getN (D := D) (ci := 8) (v := .int (F 0 0 (3 * k) 0)) (C := RX9) (T := TX9) (N := 11) hx hb hts iX9 hown hK hW 0 0 (3 * k) (dm0 (by omega) (by omega)) rfl rfl 0 (by decide) (zk_tab rfl (hN _ wr1053 rfl)) (fun _ h9 => h9) rfl dX10_markOf_8 ?_
  exact ze_i hx hb hr hlk rfl (by rfl) dX10_markOf_11
def v_X10_taken (S : TS) (F : TF) (G : TG) (q : TQ) (k : Nat) : Int32 := F 0 0 (3 * k) 4
set_option maxHeartbeats 4000000 in
set_option maxRecDepth 100000 in
theorem k_X10_taken (l : Launch) (D : va_G) (yc : Nat → ClassId) (e0 : Nat) (A : Nat → Prop) (S : TS) (Z : Nat × Nat) (F : TF) (G : TG) (q : TQ) (k : Nat) (hk : k < zn S) : Met l yX10_taken (ws_ yX10_taken cX10_taken 2 (some .int)) ({ frames := 5, cells := 0, slots := 0, locals := 107 }) (PT D yc e0 A S Z F G q [.ref (zg S 7 0 0), .int (nI k)]) (zQ (some (.int (v_X10_taken S F G q k)))) 0 0 zno := by
  refine tk_M (by decide) (Nat.le_of_ble_eq_true rfl) ?_
  intro p e s m args below meth c ls hx hb hml hr hlk hown hts hW hS hA hC hl
  have hK := hC.1
  have hN := hC.2.1
  have hn12 := hW.n12
  have hl : lv_has ls 2 [(0, .ref (zg S 7 0 0)), (1, .int (nI k))] := hl
  refine lv_aload_n hx hb dX10_taken_0 rfl (lv_at hl 0 rfl) ?_
  refine lv_iload_n hx hb dX10_taken_1 rfl (lv_at hl 1 rfl) ?_
  refine zr_q (va_runV (As := [.int (nI k)]) (rest := []) ⟨hx, hb, hml, hown, hts⟩ (k_X10_stageOf l D yc e0 A S Z F G q k (by first | assumption | omega | decide)) (cwV 1 hts (lw_V wq219 wq221 ws2 wq1 wq222) rfl rfl rfl (by decide +kernel) ⟨(Nat.le_of_ble_eq_true rfl), (Nat.le_of_ble_eq_true rfl)⟩) (tp_V hC hW hS hA 7 0 0 dm7 rfl rfl) rfl rfl hl.1 rfl (lv_room (Nat.le_of_ble_eq_true rfl)) dX10_taken_2 ⟨(Nat.le_of_ble_eq_true rfl), (Nat.le_of_ble_eq_true rfl)⟩) ?_
  refine t_getN (D := D) (ci := 7) (v := .ref (zg S 0 0 (3 * k))) (C := RX8) (T := TX8) (N := 12) hx hb hts iX8 hown hK hW 2 0 k (dm2 (by omega) (by omega)) rfl rfl 7 (by decide) (zk_tab rfl (hN _ wr1120 rfl)) (fun _ h9 => h9) rfl dX10_taken_5 ?_
  refine t_getN (D := D) (ci := 8) (v := .int (F 0 0 (3 * k) 4)) (C := RX9) (T := TX9) (N := 11) hx hb hts iX9 hown hK hW 0 0 (3 * k) (dm0 (by omega) (by omega)) rfl rfl 4 (by decide) (zk_tab rfl (hN _ wr1063 rfl)) (fun _ h9 => h9) rfl dX10_taken_8 ?_
  exact ze_i hx hb hr hlk rfl (by rfl) dX10_taken_11
def v_X10_emitted (S : TS) (F : TF) (G : TG) (q : TQ) (k : Nat) : Int32 := F 0 0 (3 * k) 5
set_option maxHeartbeats 4000000 in
set_option maxRecDepth 100000 in
theorem k_X10_emitted (l : Launch) (D : va_G) (yc : Nat → ClassId) (e0 : Nat) (A : Nat → Prop) (S : TS) (Z : Nat × Nat) (F : TF) (G : TG) (q : TQ) (k : Nat) (hk : k < zn S) : Met l yX10_emitted (ws_ yX10_emitted cX10_emitted 2 (some .int)) ({ frames := 5, cells := 0, slots := 0, locals := 107 }) (PT D yc e0 A S Z F G q [.ref (zg S 7 0 0), .int (nI k)]) (zQ (some (.int (v_X10_emitted S F G q k)))) 0 0 zno := by
  refine tk_M (by decide) (Nat.le_of_ble_eq_true rfl) ?_
  intro p e s m args below meth c ls hx hb hml hr hlk hown hts hW hS hA hC hl
  have hK := hC.1
  have hN := hC.2.1
  have hn12 := hW.n12
  have hl : lv_has ls 2 [(0, .ref (zg S 7 0 0)), (1, .int (nI k))] := hl
  refine lv_aload_n hx hb dX10_emitted_0 rfl (lv_at hl 0 rfl) ?_
  refine lv_iload_n hx hb dX10_emitted_1 rfl (lv_at hl 1 rfl) ?_
  refine zr_q (va_runV (As := [.int (nI k)]) (rest := []) ⟨hx, hb, hml, hown, hts⟩ (k_X10_stageOf l D yc e0 A S Z F G q k (by first | assumption | omega | decide)) (cwV 1 hts (lw_V wq219 wq221 ws2 wq1 wq222) rfl rfl rfl (by decide +kernel) ⟨(Nat.le_of_ble_eq_true rfl), (Nat.le_of_ble_eq_true rfl)⟩) (tp_V hC hW hS hA 7 0 0 dm7 rfl rfl) rfl rfl hl.1 rfl (lv_room (Nat.le_of_ble_eq_true rfl)) dX10_emitted_2 ⟨(Nat.le_of_ble_eq_true rfl), (Nat.le_of_ble_eq_true rfl)⟩) ?_
  refine t_getN (D := D) (ci := 7) (v := .ref (zg S 0 0 (3 * k))) (C := RX8) (T := TX8) (N := 12) hx hb hts iX8 hown hK hW 2 0 k (dm2 (by omega) (by omega)) rfl rfl 7 (by decide) (zk_tab rfl (hN _ wr1120 rfl)) (fun _ h9 => h9) rfl dX10_emitted_5 ?_
  refine t_getN (D := D) (ci := 8) (v := .int (F 0 0 (3 * k) 5)) (C := RX9) (T := TX9) (N := 11) hx hb hts iX9 hown hK hW 0 0 (3 * k) (dm0 (by omega) (by omega)) rfl rfl 5 (by decide) (zk_tab rfl (hN _ wr1066 rfl)) (fun _ h9 => h9) rfl dX10_emitted_8 ?_
  exact ze_i hx hb hr hlk rfl (by rfl) dX10_emitted_11
def v_X10_late (S : TS) (F : TF) (G : TG) (q : TQ) (k : Nat) : Int32 := F 0 0 (3 * k) 6
set_option maxHeartbeats 4000000 in
set_option maxRecDepth 100000 in
theorem k_X10_late (l : Launch) (D : va_G) (yc : Nat → ClassId) (e0 : Nat) (A : Nat → Prop) (S : TS) (Z : Nat × Nat) (F : TF) (G : TG) (q : TQ) (k : Nat) (hk : k < zn S) : Met l yX10_late (ws_ yX10_late cX10_late 2 (some .int)) ({ frames := 5, cells := 0, slots := 0, locals := 107 }) (PT D yc e0 A S Z F G q [.ref (zg S 7 0 0), .int (nI k)]) (zQ (some (.int (v_X10_late S F G q k)))) 0 0 zno := by
  refine tk_M (by decide) (Nat.le_of_ble_eq_true rfl) ?_
  intro p e s m args below meth c ls hx hb hml hr hlk hown hts hW hS hA hC hl
  have hK := hC.1
  have hN := hC.2.1
  have hn12 := hW.n12
  have hl : lv_has ls 2 [(0, .ref (zg S 7 0 0)), (1, .int (nI k))] := hl
  refine lv_aload_n hx hb dX10_late_0 rfl (lv_at hl 0 rfl) ?_
  refine lv_iload_n hx hb dX10_late_1 rfl (lv_at hl 1 rfl) ?_
  refine zr_q (va_runV (As := [.int (nI k)]) (rest := []) ⟨hx, hb, hml, hown, hts⟩ (k_X10_stageOf l D yc e0 A S Z F G q k (by first | assumption | omega | decide)) (cwV 1 hts (lw_V wq219 wq221 ws2 wq1 wq222) rfl rfl rfl (by decide +kernel) ⟨(Nat.le_of_ble_eq_true rfl), (Nat.le_of_ble_eq_true rfl)⟩) (tp_V hC hW hS hA 7 0 0 dm7 rfl rfl) rfl rfl hl.1 rfl (lv_room (Nat.le_of_ble_eq_true rfl)) dX10_late_2 ⟨(Nat.le_of_ble_eq_true rfl), (Nat.le_of_ble_eq_true rfl)⟩) ?_
  refine t_getN (D := D) (ci := 7) (v := .ref (zg S 0 0 (3 * k))) (C := RX8) (T := TX8) (N := 12) hx hb hts iX8 hown hK hW 2 0 k (dm2 (by omega) (by omega)) rfl rfl 7 (by decide) (zk_tab rfl (hN _ wr1120 rfl)) (fun _ h9 => h9) rfl dX10_late_5 ?_
  refine t_getN (D := D) (ci := 8) (v := .int (F 0 0 (3 * k) 6)) (C := RX9) (T := TX9) (N := 11) hx hb hts iX9 hown hK hW 0 0 (3 * k) (dm0 (by omega) (by omega)) rfl rfl 6 (by decide) (zk_tab rfl (hN _ wr1069 rfl)) (fun _ h9 => h9) rfl dX10_late_8 ?_
  exact ze_i hx hb hr hlk rfl (by rfl) dX10_late_11
def v_X10_kept (S : TS) (F : TF) (G : TG) (q : TQ) (k : Nat) : Int32 := if (F 8 0 k 0) = 0 then v_X8_unread S F G q 0 k else v_X9_keptCount S F G q 0 (3 * k)
set_option maxHeartbeats 4000000 in
set_option maxRecDepth 100000 in
theorem k_X10_kept (l : Launch) (D : va_G) (yc : Nat → ClassId) (e0 : Nat) (A : Nat → Prop) (S : TS) (Z : Nat × Nat) (F : TF) (G : TG) (q : TQ) (k : Nat) (hk : k < zn S) : Met l yX10_kept (ws_ yX10_kept cX10_kept 3 (some .int)) ({ frames := 5, cells := 0, slots := 0, locals := 107 }) (PT D yc e0 A S Z F G q [.ref (zg S 7 0 0), .int (nI k)]) (zQ (some (.int (v_X10_kept S F G q k)))) 0 0 zno := by
  refine tk_M (by decide) (Nat.le_of_ble_eq_true rfl) ?_
  intro p e s m args below meth c ls hx hb hml hr hlk hown hts hW hS hA hC hl
  have hK := hC.1
  have hN := hC.2.1
  have hn12 := hW.n12
  have hl : lv_has ls 3 [(0, .ref (zg S 7 0 0)), (1, .int (nI k))] := hl
  refine lv_aload_n hx hb dX10_kept_0 rfl (lv_at hl 0 rfl) ?_
  refine lv_iload_n hx hb dX10_kept_1 rfl (lv_at hl 1 rfl) ?_
  refine zr_q (va_runV (As := [.int (nI k)]) (rest := []) ⟨hx, hb, hml, hown, hts⟩ (k_X10_stageOf l D yc e0 A S Z F G q k (by first | assumption | omega | decide)) (cwV 1 hts (lw_V wq219 wq221 ws2 wq1 wq222) rfl rfl rfl (by decide +kernel) ⟨(Nat.le_of_ble_eq_true rfl), (Nat.le_of_ble_eq_true rfl)⟩) (tp_V hC hW hS hA 7 0 0 dm7 rfl rfl) rfl rfl hl.1 rfl (lv_room (Nat.le_of_ble_eq_true rfl)) dX10_kept_2 ⟨(Nat.le_of_ble_eq_true rfl), (Nat.le_of_ble_eq_true rfl)⟩) ?_
  refine lv_astore_n (lv' := [(2, .ref (zg S 2 0 k)), (0, .ref (zg S 7 0 0)), (1, .int (nI k))]) hx hb dX10_kept_5 rfl hl (by decide) rfl (fun ls hl => ?_)
  refine lv_aload_n hx hb dX10_kept_6 rfl (lv_at hl 0 rfl) ?_
  refine t_getN (D := D) (ci := 7) (v := .ref (zg S 8 0 k)) (C := RX8) (T := TX8) (N := 12) hx hb hts iX8 hown hK hW 2 0 k (dm2 (by omega) (by omega)) rfl rfl 0 (by decide) (zk_tab rfl (hN _ wr1104 rfl)) (fun _ h9 => h9) rfl dX10_kept_7 ?_
  refine t_getN (D := D) (ci := 4) (v := .int (F 8 0 k 0)) (C := RX5) (T := TX5) (N := 15) hx hb hts iX5 hown hK hW 8 0 k (dm8 (by omega)) rfl rfl 0 (by decide) (zk_tab rfl (hN _ wr831 rfl)) (fun _ h9 => h9) rfl dX10_kept_10 ?_
  refine lv_if_ne (tgt := 23) hx hb dX10_kept_13 (by decide) (fun hb1 => ?_) (fun hb1 => ?_)
  · refine lv_aload_n hx hb dX10_kept_23 rfl (lv_at hl 0 rfl) ?_
    refine t_getN (D := D) (ci := 7) (v := .ref (zg S 0 0 (3 * k))) (C := RX8) (T := TX8) (N := 12) hx hb hts iX8 hown hK hW 2 0 k (dm2 (by omega) (by omega)) rfl rfl 7 (by decide) (zk_tab rfl (hN _ wr1120 rfl)) (fun _ h9 => h9) rfl dX10_kept_24 ?_
    refine zr_i (va_runV (As := []) (rest := []) ⟨hx, hb, hml, hown, hts⟩ (k_X9_keptCount l D yc e0 A S Z F G q 0 (3 * k) (by first | assumption | omega | decide) (by first | assumption | omega | decide)) (cwV 0 hts (lw_V wq643 wq644 wq645 wq22 wq646) rfl rfl rfl (by decide +kernel) ⟨(Nat.le_of_ble_eq_true rfl), (Nat.le_of_ble_eq_true rfl)⟩) (tp_V hC hW hS hA 0 0 (3 * k) (dm0 (by omega) (by omega)) rfl rfl) rfl rfl hl.1 rfl (lv_room (Nat.le_of_ble_eq_true rfl)) dX10_kept_27 ⟨(Nat.le_of_ble_eq_true rfl), (Nat.le_of_ble_eq_true rfl)⟩) ?_
    exact ze_i hx hb hr hlk rfl (by unfold v_X10_kept; rw [if_neg hb1]) dX10_kept_30
  · refine lv_aload_n hx hb dX10_kept_16 rfl (lv_at hl 0 rfl) ?_
    refine zr_i (va_runV (As := []) (rest := []) ⟨hx, hb, hml, hown, hts⟩ (k_X8_unread l D yc e0 A S Z F G q 0 k (by first | assumption | omega | decide) (by first | assumption | omega | decide)) (cwV 0 hts (lw_V wq261 wq262 wq263 wq16 wq264) rfl rfl rfl (by decide +kernel) ⟨(Nat.le_of_ble_eq_true rfl), (Nat.le_of_ble_eq_true rfl)⟩) (tp_V hC hW hS hA 2 0 k (dm2 (by omega) (by omega)) rfl rfl) rfl rfl hl.1 rfl (lv_room (Nat.le_of_ble_eq_true rfl)) dX10_kept_17 ⟨(Nat.le_of_ble_eq_true rfl), (Nat.le_of_ble_eq_true rfl)⟩) ?_
    refine lv_goto (tgt := 30) hx hb dX10_kept_20 (by decide) ?_
    exact ze_i hx hb hr hlk rfl (by unfold v_X10_kept; rw [if_pos hb1]) dX10_kept_30
def v_X10_depthOf (S : TS) (F : TF) (G : TG) (q : TQ) (k : Nat) : Int32 := F 8 0 k 13
set_option maxHeartbeats 4000000 in
set_option maxRecDepth 100000 in
theorem k_X10_depthOf (l : Launch) (D : va_G) (yc : Nat → ClassId) (e0 : Nat) (A : Nat → Prop) (S : TS) (Z : Nat × Nat) (F : TF) (G : TG) (q : TQ) (k : Nat) (hk : k < zn S) : Met l yX10_depthOf (ws_ yX10_depthOf cX10_depthOf 2 (some .int)) ({ frames := 5, cells := 0, slots := 0, locals := 107 }) (PT D yc e0 A S Z F G q [.ref (zg S 7 0 0), .int (nI k)]) (zQ (some (.int (v_X10_depthOf S F G q k)))) 0 0 zno := by
  refine tk_M (by decide) (Nat.le_of_ble_eq_true rfl) ?_
  intro p e s m args below meth c ls hx hb hml hr hlk hown hts hW hS hA hC hl
  have hK := hC.1
  have hN := hC.2.1
  have hn12 := hW.n12
  have hl : lv_has ls 2 [(0, .ref (zg S 7 0 0)), (1, .int (nI k))] := hl
  refine lv_aload_n hx hb dX10_depthOf_0 rfl (lv_at hl 0 rfl) ?_
  refine lv_iload_n hx hb dX10_depthOf_1 rfl (lv_at hl 1 rfl) ?_
  refine zr_q (va_runV (As := [.int (nI k)]) (rest := []) ⟨hx, hb, hml, hown, hts⟩ (k_X10_stageOf l D yc e0 A S Z F G q k (by first | assumption | omega | decide)) (cwV 1 hts (lw_V wq219 wq221 ws2 wq1 wq222) rfl rfl rfl (by decide +kernel) ⟨(Nat.le_of_ble_eq_true rfl), (Nat.le_of_ble_eq_true rfl)⟩) (tp_V hC hW hS hA 7 0 0 dm7 rfl rfl) rfl rfl hl.1 rfl (lv_room (Nat.le_of_ble_eq_true rfl)) dX10_depthOf_2 ⟨(Nat.le_of_ble_eq_true rfl), (Nat.le_of_ble_eq_true rfl)⟩) ?_
  refine t_getN (D := D) (ci := 7) (v := .ref (zg S 8 0 k)) (C := RX8) (T := TX8) (N := 12) hx hb hts iX8 hown hK hW 2 0 k (dm2 (by omega) (by omega)) rfl rfl 0 (by decide) (zk_tab rfl (hN _ wr1104 rfl)) (fun _ h9 => h9) rfl dX10_depthOf_5 ?_
  refine t_getN (D := D) (ci := 4) (v := .int (F 8 0 k 13)) (C := RX5) (T := TX5) (N := 15) hx hb hts iX5 hown hK hW 8 0 k (dm8 (by omega)) rfl rfl 13 (by decide) (zk_tab rfl (hN _ wr861 rfl)) (fun _ h9 => h9) rfl dX10_depthOf_8 ?_
  exact ze_i hx hb hr hlk rfl (by rfl) dX10_depthOf_11
def v_X10_isReady (S : TS) (F : TF) (G : TG) (q : TQ) (k : Nat) : Int32 := v_X8_canWork S F G q 0 k (F 6 0 0 2)
set_option maxHeartbeats 4000000 in
set_option maxRecDepth 100000 in
theorem k_X10_isReady (l : Launch) (D : va_G) (yc : Nat → ClassId) (e0 : Nat) (A : Nat → Prop) (S : TS) (Z : Nat × Nat) (F : TF) (G : TG) (q : TQ) (k : Nat) (hk : k < zn S) : Met l yX10_isReady (ws_ yX10_isReady cX10_isReady 2 (some .boolean)) ({ frames := 6, cells := 0, slots := 0, locals := 128 }) (PT D yc e0 A S Z F G q [.ref (zg S 7 0 0), .int (nI k)]) (zQ (some (.int (v_X10_isReady S F G q k)))) 0 0 zno := by
  refine tk_M (by decide) (Nat.le_of_ble_eq_true rfl) ?_
  intro p e s m args below meth c ls hx hb hml hr hlk hown hts hW hS hA hC hl
  have hK := hC.1
  have hN := hC.2.1
  have hn12 := hW.n12
  have hl : lv_has ls 2 [(0, .ref (zg S 7 0 0)), (1, .int (nI k))] := hl
  refine lv_aload_n hx hb dX10_isReady_0 rfl (lv_at hl 0 rfl) ?_
  refine lv_iload_n hx hb dX10_isReady_1 rfl (lv_at hl 1 rfl) ?_
  refine zr_q (va_runV (As := [.int (nI k)]) (rest := []) ⟨hx, hb, hml, hown, hts⟩ (k_X10_stageOf l D yc e0 A S Z F G q k (by first | assumption | omega | decide)) (cwV 1 hts (lw_V wq219 wq221 ws2 wq1 wq222) rfl rfl rfl (by decide +kernel) ⟨(Nat.le_of_ble_eq_true rfl), (Nat.le_of_ble_eq_true rfl)⟩) (tp_V hC hW hS hA 7 0 0 dm7 rfl rfl) rfl rfl hl.1 rfl (lv_room (Nat.le_of_ble_eq_true rfl)) dX10_isReady_2 ⟨(Nat.le_of_ble_eq_true rfl), (Nat.le_of_ble_eq_true rfl)⟩) ?_
  refine lv_aload_n hx hb dX10_isReady_5 rfl (lv_at hl 0 rfl) ?_
  refine t_get (D := D) (ci := 9) (v := .ref (zg S 6 0 0)) (C := RX10) (T := TX10) (N := 5) hx hb hts iX10 hown hK hW 7 0 0 dm7 rfl rfl 0 (by decide) (hts _ wq95) (fun _ h9 => h9) rfl dX10_isReady_6 ?_
  refine t_getN (D := D) (ci := 2) (v := .int (F 6 0 0 2)) (C := RX2) (T := TX2) (N := 8) hx hb hts iX2 hown hK hW 6 0 0 (dm6 (by omega)) rfl rfl 2 (by decide) (zk_tab rfl (hN _ wr70 rfl)) (fun _ h9 => h9) rfl dX10_isReady_9 ?_
  refine zr_i (va_runV (As := [.int (F 6 0 0 2)]) (rest := []) ⟨hx, hb, hml, hown, hts⟩ (k_X8_canWork l D yc e0 A S Z F G q 0 k (F 6 0 0 2) (by first | assumption | omega | decide) (by first | assumption | omega | decide)) (cwV 1 hts (lw_V wq592 wq283 wq284 wq16 wq285) rfl rfl rfl (by decide +kernel) ⟨(Nat.le_of_ble_eq_true rfl), (Nat.le_of_ble_eq_true rfl)⟩) (tp_V hC hW hS hA 2 0 k (dm2 (by omega) (by omega)) rfl rfl) rfl rfl hl.1 rfl (lv_room (Nat.le_of_ble_eq_true rfl)) dX10_isReady_12 ⟨(Nat.le_of_ble_eq_true rfl), (Nat.le_of_ble_eq_true rfl)⟩) ?_
  exact ze_i hx hb hr hlk (zk_nb (by unfold v_X8_canWork; repeat (first | exact Or.inl rfl | exact Or.inr rfl | split))) (by rfl) dX10_isReady_15
def v_X10_hasRoom (S : TS) (F : TF) (G : TG) (q : TQ) (k : Nat) : Int32 := v_X4_isBelow S F G q 0 k (F 6 0 0 2)
set_option maxHeartbeats 4000000 in
set_option maxRecDepth 100000 in
theorem k_X10_hasRoom (l : Launch) (D : va_G) (yc : Nat → ClassId) (e0 : Nat) (A : Nat → Prop) (S : TS) (Z : Nat × Nat) (F : TF) (G : TG) (q : TQ) (k : Nat) (hk : k < zn S) : Met l yX10_hasRoom (ws_ yX10_hasRoom cX10_hasRoom 2 (some .boolean)) ({ frames := 5, cells := 0, slots := 0, locals := 107 }) (PT D yc e0 A S Z F G q [.ref (zg S 7 0 0), .int (nI k)]) (zQ (some (.int (v_X10_hasRoom S F G q k)))) 0 0 zno := by
  refine tk_M (by decide) (Nat.le_of_ble_eq_true rfl) ?_
  intro p e s m args below meth c ls hx hb hml hr hlk hown hts hW hS hA hC hl
  have hK := hC.1
  have hN := hC.2.1
  have hn12 := hW.n12
  have hl : lv_has ls 2 [(0, .ref (zg S 7 0 0)), (1, .int (nI k))] := hl
  refine lv_aload_n hx hb dX10_hasRoom_0 rfl (lv_at hl 0 rfl) ?_
  refine lv_iload_n hx hb dX10_hasRoom_1 rfl (lv_at hl 1 rfl) ?_
  refine zr_q (va_runV (As := [.int (nI k)]) (rest := []) ⟨hx, hb, hml, hown, hts⟩ (k_X10_stageOf l D yc e0 A S Z F G q k (by first | assumption | omega | decide)) (cwV 1 hts (lw_V wq219 wq221 ws2 wq1 wq222) rfl rfl rfl (by decide +kernel) ⟨(Nat.le_of_ble_eq_true rfl), (Nat.le_of_ble_eq_true rfl)⟩) (tp_V hC hW hS hA 7 0 0 dm7 rfl rfl) rfl rfl hl.1 rfl (lv_room (Nat.le_of_ble_eq_true rfl)) dX10_hasRoom_2 ⟨(Nat.le_of_ble_eq_true rfl), (Nat.le_of_ble_eq_true rfl)⟩) ?_
  refine t_getN (D := D) (ci := 7) (v := .ref (zg S 3 0 k)) (C := RX8) (T := TX8) (N := 12) hx hb hts iX8 hown hK hW 2 0 k (dm2 (by omega) (by omega)) rfl rfl 5 (by decide) (zk_tab rfl (hN _ wr1115 rfl)) (fun _ h9 => h9) rfl dX10_hasRoom_5 ?_
  refine lv_aload_n hx hb dX10_hasRoom_8 rfl (lv_at hl 0 rfl) ?_
  refine t_get (D := D) (ci := 9) (v := .ref (zg S 6 0 0)) (C := RX10) (T := TX10) (N := 5) hx hb hts iX10 hown hK hW 7 0 0 dm7 rfl rfl 0 (by decide) (hts _ wq95) (fun _ h9 => h9) rfl dX10_hasRoom_9 ?_
  refine t_getN (D := D) (ci := 2) (v := .int (F 6 0 0 2)) (C := RX2) (T := TX2) (N := 8) hx hb hts iX2 hown hK hW 6 0 0 (dm6 (by omega)) rfl rfl 2 (by decide) (zk_tab rfl (hN _ wr70 rfl)) (fun _ h9 => h9) rfl dX10_hasRoom_12 ?_
  refine zr_i (va_runV (As := [.int (F 6 0 0 2)]) (rest := []) ⟨hx, hb, hml, hown, hts⟩ (k_X4_isBelow l D yc e0 A S Z F G q 0 k (F 6 0 0 2) (by first | assumption | omega | decide) (by first | assumption | omega | decide)) (cwV 1 hts (lw_V wq758 wq287 wq288 wq21 wq289) rfl rfl rfl (by decide +kernel) ⟨(Nat.le_of_ble_eq_true rfl), (Nat.le_of_ble_eq_true rfl)⟩) (tp_V hC hW hS hA 3 0 k (dm3 (by omega) (by omega)) rfl rfl) rfl rfl hl.1 rfl (lv_room (Nat.le_of_ble_eq_true rfl)) dX10_hasRoom_15 ⟨(Nat.le_of_ble_eq_true rfl), (Nat.le_of_ble_eq_true rfl)⟩) ?_
  exact ze_i hx hb hr hlk (zk_nb (by unfold v_X4_isBelow; repeat (first | exact Or.inl rfl | exact Or.inr rfl | split))) (by rfl) dX10_hasRoom_18
def v_X10_queued0 (S : TS) (F : TF) (G : TG) (q : TQ) (k : Nat) : Int32 := if (zp S 0 k).isSome = true then v_X1_length S F G q 4 0 k else (-1)
set_option maxHeartbeats 4000000 in
set_option maxRecDepth 100000 in
theorem k_X10_queued0 (l : Launch) (D : va_G) (yc : Nat → ClassId) (e0 : Nat) (A : Nat → Prop) (S : TS) (Z : Nat × Nat) (F : TF) (G : TG) (q : TQ) (k : Nat) (hk : k < zn S) : Met l yX10_queued (ws_ yX10_queued cX10_queued 4 (some .int)) ({ frames := 5, cells := 0, slots := 0, locals := 107 }) (PT D yc e0 A S Z F G q [.ref (zg S 7 0 0), .int (nI k), .int 0]) (zQ (some (.int (v_X10_queued0 S F G q k)))) 0 0 zno := by
  refine tk_M (by decide) (Nat.le_of_ble_eq_true rfl) ?_
  intro p e s m args below meth c ls hx hb hml hr hlk hown hts hW hS hA hC hl
  have hK := hC.1
  have hN := hC.2.1
  have hn12 := hW.n12
  have hl : lv_has ls 4 [(0, .ref (zg S 7 0 0)), (1, .int (nI k)), (2, .int 0)] := hl
  refine lv_aload_n hx hb dX10_queued_0 rfl (lv_at hl 0 rfl) ?_
  refine lv_iload_n hx hb dX10_queued_1 rfl (lv_at hl 1 rfl) ?_
  refine zr_q (va_runV (As := [.int (nI k)]) (rest := []) ⟨hx, hb, hml, hown, hts⟩ (k_X10_stageOf l D yc e0 A S Z F G q k (by first | assumption | omega | decide)) (cwV 1 hts (lw_V wq219 wq221 ws2 wq1 wq222) rfl rfl rfl (by decide +kernel) ⟨(Nat.le_of_ble_eq_true rfl), (Nat.le_of_ble_eq_true rfl)⟩) (tp_V hC hW hS hA 7 0 0 dm7 rfl rfl) rfl rfl hl.1 rfl (lv_room (Nat.le_of_ble_eq_true rfl)) dX10_queued_2 ⟨(Nat.le_of_ble_eq_true rfl), (Nat.le_of_ble_eq_true rfl)⟩) ?_
  refine lv_iload_n hx hb dX10_queued_5 rfl (lv_at hl 2 rfl) ?_
  refine zr_q (va_runV (As := [.int 0]) (rest := []) ⟨hx, hb, hml, hown, hts⟩ (k_X8_channel0 l D yc e0 A S Z F G q 0 k (by first | assumption | omega | decide) (by first | assumption | omega | decide)) (cwV 1 hts (lw_V wq657 wq466 wq467 wq16 wq468) rfl rfl rfl (by decide +kernel) ⟨(Nat.le_of_ble_eq_true rfl), (Nat.le_of_ble_eq_true rfl)⟩) (tp_V hC hW hS hA 2 0 k (dm2 (by omega) (by omega)) rfl rfl) rfl rfl hl.1 rfl (lv_room (Nat.le_of_ble_eq_true rfl)) dX10_queued_6 ⟨(Nat.le_of_ble_eq_true rfl), (Nat.le_of_ble_eq_true rfl)⟩) ?_
  by_cases ho1 : (zp S 0 k).isSome = true
  · refine zk_tv (y := .ref (zg S 4 0 k)) (by show zch S 0 0 k = _; unfold zch; rw [if_pos ho1]) ?_
    refine lv_astore_n (lv' := [(3, .ref (zg S 4 0 k)), (0, .ref (zg S 7 0 0)), (1, .int (nI k)), (2, .int 0)]) hx hb dX10_queued_9 rfl hl (by decide) rfl (fun ls hl => ?_)
    refine lv_aload_n hx hb dX10_queued_10 rfl (lv_at hl 0 rfl) ?_
    refine lv_ifnonnull (tgt := 18) hx hb dX10_queued_11 (by decide) ?_
    refine lv_aload_n hx hb dX10_queued_18 rfl (lv_at hl 0 rfl) ?_
    refine zr_i (va_runV (As := []) (rest := []) ⟨hx, hb, hml, hown, hts⟩ (k_X1_length l D yc e0 A S Z F G q 4 0 k (Or.inl rfl) (dm4 (by omega) (by omega) (by assumption))) (cwV 0 hts (lw_V wq763 wq309 wq310 wq17 wq311) rfl rfl rfl (by decide +kernel) ⟨(Nat.le_of_ble_eq_true rfl), (Nat.le_of_ble_eq_true rfl)⟩) (tp_V hC hW hS hA 4 0 k (dm4 (by omega) (by omega) (by assumption)) (cel_ch (Or.inl rfl)) rfl) rfl rfl hl.1 rfl (lv_room (Nat.le_of_ble_eq_true rfl)) dX10_queued_19 ⟨(Nat.le_of_ble_eq_true rfl), (Nat.le_of_ble_eq_true rfl)⟩) ?_
    exact ze_i hx hb hr hlk rfl (by unfold v_X10_queued0; rw [if_pos ho1]) dX10_queued_22
  · refine zk_tv (y := .null) (by show zch S 0 0 k = _; unfold zch; rw [if_neg ho1]) ?_
    refine lv_astore_nN (lv' := [(3, .null), (0, .ref (zg S 7 0 0)), (1, .int (nI k)), (2, .int 0)]) hx hb dX10_queued_9 rfl hl (by decide) rfl (fun ls hl => ?_)
    refine lv_aload_nN hx hb dX10_queued_10 rfl (lv_at hl 0 rfl) ?_
    refine lv_ifnonnullN hx hb dX10_queued_11 ?_
    refine lv_iconst (v := (-1)) hx hb dX10_queued_14 (by decide) ?_
    refine lv_goto (tgt := 22) hx hb dX10_queued_15 (by decide) ?_
    exact ze_i hx hb hr hlk rfl (by unfold v_X10_queued0; rw [if_neg ho1]) dX10_queued_22
def v_X10_isBlocked0 (S : TS) (F : TF) (G : TG) (q : TQ) (k : Nat) : Int32 := if (zp S 0 k).isSome = true then if (F 4 0 k 2) = 0 then 0 else 1 else 0
set_option maxHeartbeats 4000000 in
set_option maxRecDepth 100000 in
theorem k_X10_isBlocked0 (l : Launch) (D : va_G) (yc : Nat → ClassId) (e0 : Nat) (A : Nat → Prop) (S : TS) (Z : Nat × Nat) (F : TF) (G : TG) (q : TQ) (k : Nat) (hk : k < zn S) : Met l yX10_isBlocked (ws_ yX10_isBlocked cX10_isBlocked 4 (some .boolean)) ({ frames := 5, cells := 0, slots := 0, locals := 107 }) (PT D yc e0 A S Z F G q [.ref (zg S 7 0 0), .int (nI k), .int 0]) (zQ (some (.int (v_X10_isBlocked0 S F G q k)))) 0 0 zno := by
  refine tk_M (by decide) (Nat.le_of_ble_eq_true rfl) ?_
  intro p e s m args below meth c ls hx hb hml hr hlk hown hts hW hS hA hC hl
  have hK := hC.1
  have hN := hC.2.1
  have hn12 := hW.n12
  have hl : lv_has ls 4 [(0, .ref (zg S 7 0 0)), (1, .int (nI k)), (2, .int 0)] := hl
  refine lv_aload_n hx hb dX10_isBlocked_0 rfl (lv_at hl 0 rfl) ?_
  refine lv_iload_n hx hb dX10_isBlocked_1 rfl (lv_at hl 1 rfl) ?_
  refine zr_q (va_runV (As := [.int (nI k)]) (rest := []) ⟨hx, hb, hml, hown, hts⟩ (k_X10_stageOf l D yc e0 A S Z F G q k (by first | assumption | omega | decide)) (cwV 1 hts (lw_V wq219 wq221 ws2 wq1 wq222) rfl rfl rfl (by decide +kernel) ⟨(Nat.le_of_ble_eq_true rfl), (Nat.le_of_ble_eq_true rfl)⟩) (tp_V hC hW hS hA 7 0 0 dm7 rfl rfl) rfl rfl hl.1 rfl (lv_room (Nat.le_of_ble_eq_true rfl)) dX10_isBlocked_2 ⟨(Nat.le_of_ble_eq_true rfl), (Nat.le_of_ble_eq_true rfl)⟩) ?_
  refine lv_iload_n hx hb dX10_isBlocked_5 rfl (lv_at hl 2 rfl) ?_
  refine zr_q (va_runV (As := [.int 0]) (rest := []) ⟨hx, hb, hml, hown, hts⟩ (k_X8_channel0 l D yc e0 A S Z F G q 0 k (by first | assumption | omega | decide) (by first | assumption | omega | decide)) (cwV 1 hts (lw_V wq657 wq466 wq467 wq16 wq468) rfl rfl rfl (by decide +kernel) ⟨(Nat.le_of_ble_eq_true rfl), (Nat.le_of_ble_eq_true rfl)⟩) (tp_V hC hW hS hA 2 0 k (dm2 (by omega) (by omega)) rfl rfl) rfl rfl hl.1 rfl (lv_room (Nat.le_of_ble_eq_true rfl)) dX10_isBlocked_6 ⟨(Nat.le_of_ble_eq_true rfl), (Nat.le_of_ble_eq_true rfl)⟩) ?_
  by_cases ho1 : (zp S 0 k).isSome = true
  · refine zk_tv (y := .ref (zg S 4 0 k)) (by show zch S 0 0 k = _; unfold zch; rw [if_pos ho1]) ?_
    refine lv_astore_n (lv' := [(3, .ref (zg S 4 0 k)), (0, .ref (zg S 7 0 0)), (1, .int (nI k)), (2, .int 0)]) hx hb dX10_isBlocked_9 rfl hl (by decide) rfl (fun ls hl => ?_)
    refine lv_aload_n hx hb dX10_isBlocked_10 rfl (lv_at hl 0 rfl) ?_
    refine lv_ifnull hx hb dX10_isBlocked_11 ?_
    refine lv_aload_n hx hb dX10_isBlocked_14 rfl (lv_at hl 0 rfl) ?_
    refine t_getN (D := D) (ci := 1) (v := .int (F 4 0 k 2)) (C := RX1) (T := TX1) (N := 3) hx hb hts iX1 hown hK hW 4 0 k (dm4 (by omega) (by omega) (by assumption)) (cel_ch (Or.inl rfl)) rfl 2 (by decide) (zk_tab rfl (hN _ wr943 rfl)) (fun _ h9 => h9) rfl dX10_isBlocked_15 ?_
    refine lv_if_eq (tgt := 25) hx hb dX10_isBlocked_18 (by decide) (fun hb2 => ?_) (fun hb2 => ?_)
    · refine lv_iconst (v := 0) hx hb dX10_isBlocked_25 (by decide) ?_
      exact ze_i hx hb hr hlk rfl (by unfold v_X10_isBlocked0; rw [if_pos ho1, if_pos hb2]) dX10_isBlocked_26
    · refine lv_iconst (v := 1) hx hb dX10_isBlocked_21 (by decide) ?_
      refine lv_goto (tgt := 26) hx hb dX10_isBlocked_22 (by decide) ?_
      exact ze_i hx hb hr hlk rfl (by unfold v_X10_isBlocked0; rw [if_pos ho1, if_neg hb2]) dX10_isBlocked_26
  · refine zk_tv (y := .null) (by show zch S 0 0 k = _; unfold zch; rw [if_neg ho1]) ?_
    refine lv_astore_nN (lv' := [(3, .null), (0, .ref (zg S 7 0 0)), (1, .int (nI k)), (2, .int 0)]) hx hb dX10_isBlocked_9 rfl hl (by decide) rfl (fun ls hl => ?_)
    refine lv_aload_nN hx hb dX10_isBlocked_10 rfl (lv_at hl 0 rfl) ?_
    refine lv_ifnullN (tgt := 25) hx hb dX10_isBlocked_11 (by decide) ?_
    refine lv_iconst (v := 0) hx hb dX10_isBlocked_25 (by decide) ?_
    exact ze_i hx hb hr hlk rfl (by unfold v_X10_isBlocked0; rw [if_neg ho1]) dX10_isBlocked_26
def v_X10_queued1 (S : TS) (F : TF) (G : TG) (q : TQ) (k : Nat) : Int32 := if (zp S 1 k).isSome = true then v_X1_length S F G q 5 0 k else (-1)
set_option maxHeartbeats 4000000 in
set_option maxRecDepth 100000 in
theorem k_X10_queued1 (l : Launch) (D : va_G) (yc : Nat → ClassId) (e0 : Nat) (A : Nat → Prop) (S : TS) (Z : Nat × Nat) (F : TF) (G : TG) (q : TQ) (k : Nat) (hk : k < zn S) : Met l yX10_queued (ws_ yX10_queued cX10_queued 4 (some .int)) ({ frames := 5, cells := 0, slots := 0, locals := 107 }) (PT D yc e0 A S Z F G q [.ref (zg S 7 0 0), .int (nI k), .int 1]) (zQ (some (.int (v_X10_queued1 S F G q k)))) 0 0 zno := by
  refine tk_M (by decide) (Nat.le_of_ble_eq_true rfl) ?_
  intro p e s m args below meth c ls hx hb hml hr hlk hown hts hW hS hA hC hl
  have hK := hC.1
  have hN := hC.2.1
  have hn12 := hW.n12
  have hl : lv_has ls 4 [(0, .ref (zg S 7 0 0)), (1, .int (nI k)), (2, .int 1)] := hl
  refine lv_aload_n hx hb dX10_queued_0 rfl (lv_at hl 0 rfl) ?_
  refine lv_iload_n hx hb dX10_queued_1 rfl (lv_at hl 1 rfl) ?_
  refine zr_q (va_runV (As := [.int (nI k)]) (rest := []) ⟨hx, hb, hml, hown, hts⟩ (k_X10_stageOf l D yc e0 A S Z F G q k (by first | assumption | omega | decide)) (cwV 1 hts (lw_V wq219 wq221 ws2 wq1 wq222) rfl rfl rfl (by decide +kernel) ⟨(Nat.le_of_ble_eq_true rfl), (Nat.le_of_ble_eq_true rfl)⟩) (tp_V hC hW hS hA 7 0 0 dm7 rfl rfl) rfl rfl hl.1 rfl (lv_room (Nat.le_of_ble_eq_true rfl)) dX10_queued_2 ⟨(Nat.le_of_ble_eq_true rfl), (Nat.le_of_ble_eq_true rfl)⟩) ?_
  refine lv_iload_n hx hb dX10_queued_5 rfl (lv_at hl 2 rfl) ?_
  refine zr_q (va_runV (As := [.int 1]) (rest := []) ⟨hx, hb, hml, hown, hts⟩ (k_X8_channel1 l D yc e0 A S Z F G q 0 k (by first | assumption | omega | decide) (by first | assumption | omega | decide)) (cwV 1 hts (lw_V wq657 wq466 wq467 wq16 wq468) rfl rfl rfl (by decide +kernel) ⟨(Nat.le_of_ble_eq_true rfl), (Nat.le_of_ble_eq_true rfl)⟩) (tp_V hC hW hS hA 2 0 k (dm2 (by omega) (by omega)) rfl rfl) rfl rfl hl.1 rfl (lv_room (Nat.le_of_ble_eq_true rfl)) dX10_queued_6 ⟨(Nat.le_of_ble_eq_true rfl), (Nat.le_of_ble_eq_true rfl)⟩) ?_
  by_cases ho1 : (zp S 1 k).isSome = true
  · refine zk_tv (y := .ref (zg S 5 0 k)) (by show zch S 1 0 k = _; unfold zch; rw [if_pos ho1]) ?_
    refine lv_astore_n (lv' := [(3, .ref (zg S 5 0 k)), (0, .ref (zg S 7 0 0)), (1, .int (nI k)), (2, .int 1)]) hx hb dX10_queued_9 rfl hl (by decide) rfl (fun ls hl => ?_)
    refine lv_aload_n hx hb dX10_queued_10 rfl (lv_at hl 0 rfl) ?_
    refine lv_ifnonnull (tgt := 18) hx hb dX10_queued_11 (by decide) ?_
    refine lv_aload_n hx hb dX10_queued_18 rfl (lv_at hl 0 rfl) ?_
    refine zr_i (va_runV (As := []) (rest := []) ⟨hx, hb, hml, hown, hts⟩ (k_X1_length l D yc e0 A S Z F G q 5 0 k (Or.inr rfl) (dm5 (by omega) (by omega) (by assumption))) (cwV 0 hts (lw_V wq763 wq309 wq310 wq17 wq311) rfl rfl rfl (by decide +kernel) ⟨(Nat.le_of_ble_eq_true rfl), (Nat.le_of_ble_eq_true rfl)⟩) (tp_V hC hW hS hA 5 0 k (dm5 (by omega) (by omega) (by assumption)) (cel_ch (Or.inr rfl)) rfl) rfl rfl hl.1 rfl (lv_room (Nat.le_of_ble_eq_true rfl)) dX10_queued_19 ⟨(Nat.le_of_ble_eq_true rfl), (Nat.le_of_ble_eq_true rfl)⟩) ?_
    exact ze_i hx hb hr hlk rfl (by unfold v_X10_queued1; rw [if_pos ho1]) dX10_queued_22
  · refine zk_tv (y := .null) (by show zch S 1 0 k = _; unfold zch; rw [if_neg ho1]) ?_
    refine lv_astore_nN (lv' := [(3, .null), (0, .ref (zg S 7 0 0)), (1, .int (nI k)), (2, .int 1)]) hx hb dX10_queued_9 rfl hl (by decide) rfl (fun ls hl => ?_)
    refine lv_aload_nN hx hb dX10_queued_10 rfl (lv_at hl 0 rfl) ?_
    refine lv_ifnonnullN hx hb dX10_queued_11 ?_
    refine lv_iconst (v := (-1)) hx hb dX10_queued_14 (by decide) ?_
    refine lv_goto (tgt := 22) hx hb dX10_queued_15 (by decide) ?_
    exact ze_i hx hb hr hlk rfl (by unfold v_X10_queued1; rw [if_neg ho1]) dX10_queued_22
def v_X10_isBlocked1 (S : TS) (F : TF) (G : TG) (q : TQ) (k : Nat) : Int32 := if (zp S 1 k).isSome = true then if (F 5 0 k 2) = 0 then 0 else 1 else 0
set_option maxHeartbeats 4000000 in
set_option maxRecDepth 100000 in
theorem k_X10_isBlocked1 (l : Launch) (D : va_G) (yc : Nat → ClassId) (e0 : Nat) (A : Nat → Prop) (S : TS) (Z : Nat × Nat) (F : TF) (G : TG) (q : TQ) (k : Nat) (hk : k < zn S) : Met l yX10_isBlocked (ws_ yX10_isBlocked cX10_isBlocked 4 (some .boolean)) ({ frames := 5, cells := 0, slots := 0, locals := 107 }) (PT D yc e0 A S Z F G q [.ref (zg S 7 0 0), .int (nI k), .int 1]) (zQ (some (.int (v_X10_isBlocked1 S F G q k)))) 0 0 zno := by
  refine tk_M (by decide) (Nat.le_of_ble_eq_true rfl) ?_
  intro p e s m args below meth c ls hx hb hml hr hlk hown hts hW hS hA hC hl
  have hK := hC.1
  have hN := hC.2.1
  have hn12 := hW.n12
  have hl : lv_has ls 4 [(0, .ref (zg S 7 0 0)), (1, .int (nI k)), (2, .int 1)] := hl
  refine lv_aload_n hx hb dX10_isBlocked_0 rfl (lv_at hl 0 rfl) ?_
  refine lv_iload_n hx hb dX10_isBlocked_1 rfl (lv_at hl 1 rfl) ?_
  refine zr_q (va_runV (As := [.int (nI k)]) (rest := []) ⟨hx, hb, hml, hown, hts⟩ (k_X10_stageOf l D yc e0 A S Z F G q k (by first | assumption | omega | decide)) (cwV 1 hts (lw_V wq219 wq221 ws2 wq1 wq222) rfl rfl rfl (by decide +kernel) ⟨(Nat.le_of_ble_eq_true rfl), (Nat.le_of_ble_eq_true rfl)⟩) (tp_V hC hW hS hA 7 0 0 dm7 rfl rfl) rfl rfl hl.1 rfl (lv_room (Nat.le_of_ble_eq_true rfl)) dX10_isBlocked_2 ⟨(Nat.le_of_ble_eq_true rfl), (Nat.le_of_ble_eq_true rfl)⟩) ?_
  refine lv_iload_n hx hb dX10_isBlocked_5 rfl (lv_at hl 2 rfl) ?_
  refine zr_q (va_runV (As := [.int 1]) (rest := []) ⟨hx, hb, hml, hown, hts⟩ (k_X8_channel1 l D yc e0 A S Z F G q 0 k (by first | assumption | omega | decide) (by first | assumption | omega | decide)) (cwV 1 hts (lw_V wq657 wq466 wq467 wq16 wq468) rfl rfl rfl (by decide +kernel) ⟨(Nat.le_of_ble_eq_true rfl), (Nat.le_of_ble_eq_true rfl)⟩) (tp_V hC hW hS hA 2 0 k (dm2 (by omega) (by omega)) rfl rfl) rfl rfl hl.1 rfl (lv_room (Nat.le_of_ble_eq_true rfl)) dX10_isBlocked_6 ⟨(Nat.le_of_ble_eq_true rfl), (Nat.le_of_ble_eq_true rfl)⟩) ?_
  by_cases ho1 : (zp S 1 k).isSome = true
  · refine zk_tv (y := .ref (zg S 5 0 k)) (by show zch S 1 0 k = _; unfold zch; rw [if_pos ho1]) ?_
    refine lv_astore_n (lv' := [(3, .ref (zg S 5 0 k)), (0, .ref (zg S 7 0 0)), (1, .int (nI k)), (2, .int 1)]) hx hb dX10_isBlocked_9 rfl hl (by decide) rfl (fun ls hl => ?_)
    refine lv_aload_n hx hb dX10_isBlocked_10 rfl (lv_at hl 0 rfl) ?_
    refine lv_ifnull hx hb dX10_isBlocked_11 ?_
    refine lv_aload_n hx hb dX10_isBlocked_14 rfl (lv_at hl 0 rfl) ?_
    refine t_getN (D := D) (ci := 1) (v := .int (F 5 0 k 2)) (C := RX1) (T := TX1) (N := 3) hx hb hts iX1 hown hK hW 5 0 k (dm5 (by omega) (by omega) (by assumption)) (cel_ch (Or.inr rfl)) rfl 2 (by decide) (zk_tab rfl (hN _ wr943 rfl)) (fun _ h9 => h9) rfl dX10_isBlocked_15 ?_
    refine lv_if_eq (tgt := 25) hx hb dX10_isBlocked_18 (by decide) (fun hb2 => ?_) (fun hb2 => ?_)
    · refine lv_iconst (v := 0) hx hb dX10_isBlocked_25 (by decide) ?_
      exact ze_i hx hb hr hlk rfl (by unfold v_X10_isBlocked1; rw [if_pos ho1, if_pos hb2]) dX10_isBlocked_26
    · refine lv_iconst (v := 1) hx hb dX10_isBlocked_21 (by decide) ?_
      refine lv_goto (tgt := 26) hx hb dX10_isBlocked_22 (by decide) ?_
      exact ze_i hx hb hr hlk rfl (by unfold v_X10_isBlocked1; rw [if_pos ho1, if_neg hb2]) dX10_isBlocked_26
  · refine zk_tv (y := .null) (by show zch S 1 0 k = _; unfold zch; rw [if_neg ho1]) ?_
    refine lv_astore_nN (lv' := [(3, .null), (0, .ref (zg S 7 0 0)), (1, .int (nI k)), (2, .int 1)]) hx hb dX10_isBlocked_9 rfl hl (by decide) rfl (fun ls hl => ?_)
    refine lv_aload_nN hx hb dX10_isBlocked_10 rfl (lv_at hl 0 rfl) ?_
    refine lv_ifnullN (tgt := 25) hx hb dX10_isBlocked_11 (by decide) ?_
    refine lv_iconst (v := 0) hx hb dX10_isBlocked_25 (by decide) ?_
    exact ze_i hx hb hr hlk rfl (by unfold v_X10_isBlocked1; rw [if_neg ho1]) dX10_isBlocked_26
def v_X10_nextEnd (S : TS) (F : TF) (G : TG) (q : TQ) (k : Nat) : Int32 := if (v_X7_length S F G q 0 (3 * k)) ≤ (v_X7_firstEndingAbove S F G q 0 (3 * k) (F 0 0 (3 * k) 0)) then (-1) else v_X7_endAt S F G q 0 (3 * k) (v_X7_firstEndingAbove S F G q 0 (3 * k) (F 0 0 (3 * k) 0))
set_option maxHeartbeats 4000000 in
set_option maxRecDepth 100000 in
theorem k_X10_nextEnd (l : Launch) (D : va_G) (yc : Nat → ClassId) (e0 : Nat) (A : Nat → Prop) (S : TS) (Z : Nat × Nat) (F : TF) (G : TG) (q : TQ) (k : Nat) (hk : k < zn S) (hs : F 8 0 k 0 = 3 ∨ F 8 0 k 0 = 4) : Met l yX10_nextEnd (ws_ yX10_nextEnd cX10_nextEnd 5 (some .int)) ({ frames := 6, cells := 0, slots := 0, locals := 129 }) (PT D yc e0 A S Z F G q [.ref (zg S 7 0 0), .int (nI k)]) (zQ (some (.int (v_X10_nextEnd S F G q k)))) 0 0 zno := by
  refine tk_M (by decide) (Nat.le_of_ble_eq_true rfl) ?_
  intro p e s m args below meth c ls hx hb hml hr hlk hown hts hW hS hA hC hl
  have hK := hC.1
  have hN := hC.2.1
  have hn12 := hW.n12
  have hl : lv_has ls 5 [(0, .ref (zg S 7 0 0)), (1, .int (nI k))] := hl
  refine lv_aload_n hx hb dX10_nextEnd_0 rfl (lv_at hl 0 rfl) ?_
  refine lv_iload_n hx hb dX10_nextEnd_1 rfl (lv_at hl 1 rfl) ?_
  refine zr_q (va_runV (As := [.int (nI k)]) (rest := []) ⟨hx, hb, hml, hown, hts⟩ (k_X10_spanStageOf l D yc e0 A S Z F G q k (by first | assumption | omega | decide) (by first | assumption | omega | decide)) (cwV 1 hts (lw_V wq773 wq775 ws22 wq1 wq776) rfl rfl rfl (by decide +kernel) ⟨(Nat.le_of_ble_eq_true rfl), (Nat.le_of_ble_eq_true rfl)⟩) (tp_V hC hW hS hA 7 0 0 dm7 rfl rfl) rfl rfl hl.1 rfl (lv_room (Nat.le_of_ble_eq_true rfl)) dX10_nextEnd_2 ⟨(Nat.le_of_ble_eq_true rfl), (Nat.le_of_ble_eq_true rfl)⟩) ?_
  refine zk_tv (y := .ref (zg S 2 0 k)) (by unfold v_X10_spanStageOf; repeat' (first | rfl | split)) ?_
  refine lv_astore_n (lv' := [(2, .ref (zg S 2 0 k)), (0, .ref (zg S 7 0 0)), (1, .int (nI k))]) hx hb dX10_nextEnd_5 rfl hl (by decide) rfl (fun ls hl => ?_)
  refine lv_aload_n hx hb dX10_nextEnd_6 rfl (lv_at hl 0 rfl) ?_
  refine t_getN (D := D) (ci := 7) (v := .ref (zg S 0 0 (3 * k))) (C := RX8) (T := TX8) (N := 12) hx hb hts iX8 hown hK hW 2 0 k (dm2 (by omega) (by omega)) rfl rfl 7 (by decide) (zk_tab rfl (hN _ wr1120 rfl)) (fun _ h9 => h9) rfl dX10_nextEnd_7 ?_
  refine t_getN (D := D) (ci := 8) (v := .ref (zg S 1 0 (3 * k))) (C := RX9) (T := TX9) (N := 11) hx hb hts iX9 hown hK hW 0 0 (3 * k) (dm0 (by omega) (by omega)) rfl rfl 8 (by decide) (zk_tab rfl (hN _ wr1075 rfl)) (fun _ h9 => h9) rfl dX10_nextEnd_10 ?_
  refine lv_astore_n (lv' := [(3, .ref (zg S 1 0 (3 * k))), (2, .ref (zg S 2 0 k)), (0, .ref (zg S 7 0 0)), (1, .int (nI k))]) hx hb dX10_nextEnd_13 rfl hl (by decide) rfl (fun ls hl => ?_)
  refine lv_aload_n hx hb dX10_nextEnd_14 rfl (lv_at hl 0 rfl) ?_
  refine lv_aload_n hx hb dX10_nextEnd_15 rfl (lv_at hl 1 rfl) ?_
  refine t_getN (D := D) (ci := 7) (v := .ref (zg S 0 0 (3 * k))) (C := RX8) (T := TX8) (N := 12) hx hb hts iX8 hown hK hW 2 0 k (dm2 (by omega) (by omega)) rfl rfl 7 (by decide) (zk_tab rfl (hN _ wr1120 rfl)) (fun _ h9 => h9) rfl dX10_nextEnd_16 ?_
  refine t_getN (D := D) (ci := 8) (v := .int (F 0 0 (3 * k) 0)) (C := RX9) (T := TX9) (N := 11) hx hb hts iX9 hown hK hW 0 0 (3 * k) (dm0 (by omega) (by omega)) rfl rfl 0 (by decide) (zk_tab rfl (hN _ wr1053 rfl)) (fun _ h9 => h9) rfl dX10_nextEnd_19 ?_
  refine zr_i (va_runV (As := [.int (F 0 0 (3 * k) 0)]) (rest := []) ⟨hx, hb, hml, hown, hts⟩ (k_X7_firstEndingAbove l D yc e0 A S Z F G q 0 (3 * k) (F 0 0 (3 * k) 0) (by first | assumption | omega | decide) (by first | assumption | omega | decide)) (cwV 1 hts (lw_V wq777 wq409 wq410 wq23 wq411) rfl rfl rfl (by decide +kernel) ⟨(Nat.le_of_ble_eq_true rfl), (Nat.le_of_ble_eq_true rfl)⟩) (tp_V hC hW hS hA 1 0 (3 * k) (dm1 (by omega) (by omega)) rfl rfl) rfl rfl hl.1 rfl (lv_room (Nat.le_of_ble_eq_true rfl)) dX10_nextEnd_22 ⟨(Nat.le_of_ble_eq_true rfl), (Nat.le_of_ble_eq_true rfl)⟩) ?_
  refine lv_istore (lv' := [(4, .int (v_X7_firstEndingAbove S F G q 0 (3 * k) (F 0 0 (3 * k) 0))), (3, .ref (zg S 1 0 (3 * k))), (2, .ref (zg S 2 0 k)), (0, .ref (zg S 7 0 0)), (1, .int (nI k))]) hx hb dX10_nextEnd_25 hl (by decide) rfl (fun ls hl => ?_)
  refine lv_iload hx hb dX10_nextEnd_27 (lv_at hl 0 rfl) ?_
  refine lv_aload_n hx hb dX10_nextEnd_29 rfl (lv_at hl 1 rfl) ?_
  refine zr_i (va_runV (As := []) (rest := [.int (v_X7_firstEndingAbove S F G q 0 (3 * k) (F 0 0 (3 * k) 0))]) ⟨hx, hb, hml, hown, hts⟩ (k_X7_length l D yc e0 A S Z F G q 0 (3 * k) (by first | assumption | omega | decide) (by first | assumption | omega | decide)) (cwV 0 hts (lw_V wq778 wq552 wq553 wq23 wq554) rfl rfl rfl (by decide +kernel) ⟨(Nat.le_of_ble_eq_true rfl), (Nat.le_of_ble_eq_true rfl)⟩) (tp_V hC hW hS hA 1 0 (3 * k) (dm1 (by omega) (by omega)) rfl rfl) rfl rfl hl.1 rfl (lv_room (Nat.le_of_ble_eq_true rfl)) dX10_nextEnd_30 ⟨(Nat.le_of_ble_eq_true rfl), (Nat.le_of_ble_eq_true rfl)⟩) ?_
  refine lv_icmp_ge (tgt := 45) hx hb dX10_nextEnd_33 (by decide) (fun hb1 => ?_) (fun hb1 => ?_)
  · refine lv_iconst (v := (-1)) hx hb dX10_nextEnd_45 (by decide) ?_
    exact ze_i hx hb hr hlk rfl (by unfold v_X10_nextEnd; rw [if_pos hb1]) dX10_nextEnd_46
  · refine lv_aload_n hx hb dX10_nextEnd_36 rfl (lv_at hl 1 rfl) ?_
    refine lv_iload hx hb dX10_nextEnd_37 (lv_at hl 0 rfl) ?_
    refine zr_i (va_runV (As := [.int (v_X7_firstEndingAbove S F G q 0 (3 * k) (F 0 0 (3 * k) 0))]) (rest := []) ⟨hx, hb, hml, hown, hts⟩ (k_X7_endAt l D yc e0 A S Z F G q 0 (3 * k) (v_X7_firstEndingAbove S F G q 0 (3 * k) (F 0 0 (3 * k) 0)) (by first | assumption | omega | decide) (by first | assumption | omega | decide)) (cwV 1 hts (lw_V wq779 wq441 wq442 wq23 wq443) rfl rfl rfl (by decide +kernel) ⟨(Nat.le_of_ble_eq_true rfl), (Nat.le_of_ble_eq_true rfl)⟩) (tp_V hC hW hS hA 1 0 (3 * k) (dm1 (by omega) (by omega)) rfl rfl) rfl rfl hl.1 rfl (lv_room (Nat.le_of_ble_eq_true rfl)) dX10_nextEnd_39 ⟨(Nat.le_of_ble_eq_true rfl), (Nat.le_of_ble_eq_true rfl)⟩) ?_
    refine lv_goto (tgt := 46) hx hb dX10_nextEnd_42 (by decide) ?_
    exact ze_i hx hb hr hlk rfl (by unfold v_X10_nextEnd; rw [if_neg hb1]) dX10_nextEnd_46
def v_X10_outputs (S : TS) (F : TF) (G : TG) (q : TQ) (k : Nat) : Int32 := F 0 0 (3 * k) 7
set_option maxHeartbeats 4000000 in
set_option maxRecDepth 100000 in
theorem k_X10_outputs (l : Launch) (D : va_G) (yc : Nat → ClassId) (e0 : Nat) (A : Nat → Prop) (S : TS) (Z : Nat × Nat) (F : TF) (G : TG) (q : TQ) (k : Nat) (hk : k < zn S) (hs : F 8 0 k 0 = 7) : Met l yX10_outputs (ws_ yX10_outputs cX10_outputs 2 (some .int)) ({ frames := 6, cells := 0, slots := 0, locals := 129 }) (PT D yc e0 A S Z F G q [.ref (zg S 7 0 0), .int (nI k)]) (zQ (some (.int (v_X10_outputs S F G q k)))) 0 0 zno := by
  refine tk_M (by decide) (Nat.le_of_ble_eq_true rfl) ?_
  intro p e s m args below meth c ls hx hb hml hr hlk hown hts hW hS hA hC hl
  have hK := hC.1
  have hN := hC.2.1
  have hn12 := hW.n12
  have hl : lv_has ls 2 [(0, .ref (zg S 7 0 0)), (1, .int (nI k))] := hl
  refine lv_aload_n hx hb dX10_outputs_0 rfl (lv_at hl 0 rfl) ?_
  refine lv_iload_n hx hb dX10_outputs_1 rfl (lv_at hl 1 rfl) ?_
  refine zr_q (va_runV (As := [.int (nI k)]) (rest := []) ⟨hx, hb, hml, hown, hts⟩ (k_X10_sinkOf l D yc e0 A S Z F G q k (by first | assumption | omega | decide) (by first | assumption | omega | decide)) (cwV 1 hts (lw_V wq662 wq664 ws20 wq1 wq665) rfl rfl rfl (by decide +kernel) ⟨(Nat.le_of_ble_eq_true rfl), (Nat.le_of_ble_eq_true rfl)⟩) (tp_V hC hW hS hA 7 0 0 dm7 rfl rfl) rfl rfl hl.1 rfl (lv_room (Nat.le_of_ble_eq_true rfl)) dX10_outputs_2 ⟨(Nat.le_of_ble_eq_true rfl), (Nat.le_of_ble_eq_true rfl)⟩) ?_
  refine t_getN (D := D) (ci := 7) (v := .ref (zg S 0 0 (3 * k))) (C := RX8) (T := TX8) (N := 12) hx hb hts iX8 hown hK hW 2 0 k (dm2 (by omega) (by omega)) rfl rfl 7 (by decide) (zk_tab rfl (hN _ wr1120 rfl)) (fun _ h9 => h9) rfl dX10_outputs_5 ?_
  refine t_getN (D := D) (ci := 8) (v := .int (F 0 0 (3 * k) 7)) (C := RX9) (T := TX9) (N := 11) hx hb hts iX9 hown hK hW 0 0 (3 * k) (dm0 (by omega) (by omega)) rfl rfl 7 (by decide) (zk_tab rfl (hN _ wr1072 rfl)) (fun _ h9 => h9) rfl dX10_outputs_8 ?_
  exact ze_i hx hb hr hlk rfl (by rfl) dX10_outputs_11
def v_X10_committed (S : TS) (F : TF) (G : TG) (q : TQ) (k : Nat) : Int32 := F 0 0 (3 * k + (G 0 k).1) 7
set_option maxHeartbeats 4000000 in
set_option maxRecDepth 100000 in
theorem k_X10_committed (l : Launch) (D : va_G) (yc : Nat → ClassId) (e0 : Nat) (A : Nat → Prop) (S : TS) (Z : Nat × Nat) (F : TF) (G : TG) (q : TQ) (k : Nat) (hk : k < zn S) (hs : F 8 0 k 0 = 7) (hG : (G 0 k).1 < 3) : Met l yX10_committed (ws_ yX10_committed cX10_committed 2 (some .int)) ({ frames := 6, cells := 0, slots := 0, locals := 129 }) (PT D yc e0 A S Z F G q [.ref (zg S 7 0 0), .int (nI k)]) (zQ (some (.int (v_X10_committed S F G q k)))) 0 0 zno := by
  refine tk_M (by decide) (Nat.le_of_ble_eq_true rfl) ?_
  intro p e s m args below meth c ls hx hb hml hr hlk hown hts hW hS hA hC hl
  have hK := hC.1
  have hN := hC.2.1
  have hn12 := hW.n12
  have hl : lv_has ls 2 [(0, .ref (zg S 7 0 0)), (1, .int (nI k))] := hl
  refine lv_aload_n hx hb dX10_committed_0 rfl (lv_at hl 0 rfl) ?_
  refine lv_iload_n hx hb dX10_committed_1 rfl (lv_at hl 1 rfl) ?_
  refine zr_q (va_runV (As := [.int (nI k)]) (rest := []) ⟨hx, hb, hml, hown, hts⟩ (k_X10_sinkOf l D yc e0 A S Z F G q k (by first | assumption | omega | decide) (by first | assumption | omega | decide)) (cwV 1 hts (lw_V wq662 wq664 ws20 wq1 wq665) rfl rfl rfl (by decide +kernel) ⟨(Nat.le_of_ble_eq_true rfl), (Nat.le_of_ble_eq_true rfl)⟩) (tp_V hC hW hS hA 7 0 0 dm7 rfl rfl) rfl rfl hl.1 rfl (lv_room (Nat.le_of_ble_eq_true rfl)) dX10_committed_2 ⟨(Nat.le_of_ble_eq_true rfl), (Nat.le_of_ble_eq_true rfl)⟩) ?_
  refine t_getN (D := D) (ci := 7) (v := .ref (zg S 0 0 (3 * k + (G 0 k).1))) (C := RX8) (T := TX8) (N := 12) hx hb hts iX8 hown hK hW 2 0 k (dm2 (by omega) (by omega)) rfl rfl 8 (by decide) (zk_tab rfl (hN _ wr1122 rfl)) (fun _ h9 => h9) rfl dX10_committed_5 ?_
  refine t_getN (D := D) (ci := 8) (v := .int (F 0 0 (3 * k + (G 0 k).1) 7)) (C := RX9) (T := TX9) (N := 11) hx hb hts iX9 hown hK hW 0 0 (3 * k + (G 0 k).1) (dm0 (by omega) (by omega)) rfl rfl 7 (by decide) (zk_tab rfl (hN _ wr1072 rfl)) (fun _ h9 => h9) rfl dX10_committed_8 ?_
  exact ze_i hx hb hr hlk rfl (by rfl) dX10_committed_11
def v_X10_complete (S : TS) (F : TF) (G : TG) (q : TQ) : Int32 := F 6 0 0 6
set_option maxHeartbeats 4000000 in
set_option maxRecDepth 100000 in
theorem k_X10_complete (l : Launch) (D : va_G) (yc : Nat → ClassId) (e0 : Nat) (A : Nat → Prop) (S : TS) (Z : Nat × Nat) (F : TF) (G : TG) (q : TQ)   : Met l yX10_complete (ws_ yX10_complete cX10_complete 1 (some .int)) ({ frames := 0, cells := 0, slots := 0, locals := 0 }) (PT D yc e0 A S Z F G q [.ref (zg S 7 0 0)]) (zQ (some (.int (v_X10_complete S F G q)))) 0 0 zno := by
  refine tk_M (by decide) (Nat.le_of_ble_eq_true rfl) ?_
  intro p e s m args below meth c ls hx hb hml hr hlk hown hts hW hS hA hC hl
  have hK := hC.1
  have hN := hC.2.1
  have hn12 := hW.n12
  have hl : lv_has ls 1 [(0, .ref (zg S 7 0 0))] := hl
  refine lv_aload_n hx hb dX10_complete_0 rfl (lv_at hl 0 rfl) ?_
  refine t_get (D := D) (ci := 9) (v := .ref (zg S 6 0 0)) (C := RX10) (T := TX10) (N := 5) hx hb hts iX10 hown hK hW 7 0 0 dm7 rfl rfl 0 (by decide) (hts _ wq95) (fun _ h9 => h9) rfl dX10_complete_1 ?_
  refine t_getN (D := D) (ci := 2) (v := .int (F 6 0 0 6)) (C := RX2) (T := TX2) (N := 8) hx hb hts iX2 hown hK hW 6 0 0 (dm6 (by omega)) rfl rfl 6 (by decide) (zk_tab rfl (hN _ wr76 rfl)) (fun _ h9 => h9) rfl dX10_complete_4 ?_
  exact ze_i hx hb hr hlk rfl (by rfl) dX10_complete_7
def v_X10_begun (S : TS) (F : TF) (G : TG) (q : TQ) : Int32 := F 6 0 0 5
set_option maxHeartbeats 4000000 in
set_option maxRecDepth 100000 in
theorem k_X10_begun (l : Launch) (D : va_G) (yc : Nat → ClassId) (e0 : Nat) (A : Nat → Prop) (S : TS) (Z : Nat × Nat) (F : TF) (G : TG) (q : TQ)   : Met l yX10_begun (ws_ yX10_begun cX10_begun 1 (some .int)) ({ frames := 0, cells := 0, slots := 0, locals := 0 }) (PT D yc e0 A S Z F G q [.ref (zg S 7 0 0)]) (zQ (some (.int (v_X10_begun S F G q)))) 0 0 zno := by
  refine tk_M (by decide) (Nat.le_of_ble_eq_true rfl) ?_
  intro p e s m args below meth c ls hx hb hml hr hlk hown hts hW hS hA hC hl
  have hK := hC.1
  have hN := hC.2.1
  have hn12 := hW.n12
  have hl : lv_has ls 1 [(0, .ref (zg S 7 0 0))] := hl
  refine lv_aload_n hx hb dX10_begun_0 rfl (lv_at hl 0 rfl) ?_
  refine t_get (D := D) (ci := 9) (v := .ref (zg S 6 0 0)) (C := RX10) (T := TX10) (N := 5) hx hb hts iX10 hown hK hW 7 0 0 dm7 rfl rfl 0 (by decide) (hts _ wq95) (fun _ h9 => h9) rfl dX10_begun_1 ?_
  refine t_getN (D := D) (ci := 2) (v := .int (F 6 0 0 5)) (C := RX2) (T := TX2) (N := 8) hx hb hts iX2 hown hK hW 6 0 0 (dm6 (by omega)) rfl rfl 5 (by decide) (zk_tab rfl (hN _ wr74 rfl)) (fun _ h9 => h9) rfl dX10_begun_4 ?_
  exact ze_i hx hb hr hlk rfl (by rfl) dX10_begun_7
def v_X10_crashes (S : TS) (F : TF) (G : TG) (q : TQ) : Int32 := F 7 0 0 3
set_option maxHeartbeats 4000000 in
set_option maxRecDepth 100000 in
theorem k_X10_crashes (l : Launch) (D : va_G) (yc : Nat → ClassId) (e0 : Nat) (A : Nat → Prop) (S : TS) (Z : Nat × Nat) (F : TF) (G : TG) (q : TQ)   : Met l yX10_crashes (ws_ yX10_crashes cX10_crashes 1 (some .int)) ({ frames := 0, cells := 0, slots := 0, locals := 0 }) (PT D yc e0 A S Z F G q [.ref (zg S 7 0 0)]) (zQ (some (.int (v_X10_crashes S F G q)))) 0 0 zno := by
  refine tk_M (by decide) (Nat.le_of_ble_eq_true rfl) ?_
  intro p e s m args below meth c ls hx hb hml hr hlk hown hts hW hS hA hC hl
  have hK := hC.1
  have hN := hC.2.1
  have hn12 := hW.n12
  have hl : lv_has ls 1 [(0, .ref (zg S 7 0 0))] := hl
  refine lv_aload_n hx hb dX10_crashes_0 rfl (lv_at hl 0 rfl) ?_
  refine t_get (D := D) (ci := 9) (v := .int (F 7 0 0 3)) (C := RX10) (T := TX10) (N := 5) hx hb hts iX10 hown hK hW 7 0 0 dm7 rfl rfl 3 (by decide) (hts _ wq98) (fun _ h9 => h9) rfl dX10_crashes_1 ?_
  exact ze_i hx hb hr hlk rfl (by rfl) dX10_crashes_4
def v_X10_worked (S : TS) (F : TF) (G : TG) (q : TQ) : Int32 := F 7 0 0 4
set_option maxHeartbeats 4000000 in
set_option maxRecDepth 100000 in
theorem k_X10_worked (l : Launch) (D : va_G) (yc : Nat → ClassId) (e0 : Nat) (A : Nat → Prop) (S : TS) (Z : Nat × Nat) (F : TF) (G : TG) (q : TQ)   : Met l yX10_worked (ws_ yX10_worked cX10_worked 1 (some .int)) ({ frames := 0, cells := 0, slots := 0, locals := 0 }) (PT D yc e0 A S Z F G q [.ref (zg S 7 0 0)]) (zQ (some (.int (v_X10_worked S F G q)))) 0 0 zno := by
  refine tk_M (by decide) (Nat.le_of_ble_eq_true rfl) ?_
  intro p e s m args below meth c ls hx hb hml hr hlk hown hts hW hS hA hC hl
  have hK := hC.1
  have hN := hC.2.1
  have hn12 := hW.n12
  have hl : lv_has ls 1 [(0, .ref (zg S 7 0 0))] := hl
  refine lv_aload_n hx hb dX10_worked_0 rfl (lv_at hl 0 rfl) ?_
  refine t_get (D := D) (ci := 9) (v := .int (F 7 0 0 4)) (C := RX10) (T := TX10) (N := 5) hx hb hts iX10 hown hK hW 7 0 0 dm7 rfl rfl 4 (by decide) (hts _ wq99) (fun _ h9 => h9) rfl dX10_worked_1 ?_
  exact ze_i hx hb hr hlk rfl (by rfl) dX10_worked_4
def v_X10_inFlight (S : TS) (F : TF) (G : TG) (q : TQ) : Int32 := v_X2_waiting S F G q 0
set_option maxHeartbeats 4000000 in
set_option maxRecDepth 100000 in
theorem k_X10_inFlight (l : Launch) (D : va_G) (yc : Nat → ClassId) (e0 : Nat) (A : Nat → Prop) (S : TS) (Z : Nat × Nat) (F : TF) (G : TG) (q : TQ)   : Met l yX10_inFlight (ws_ yX10_inFlight cX10_inFlight 1 (some .int)) ({ frames := 4, cells := 0, slots := 0, locals := 87 }) (PT D yc e0 A S Z F G q [.ref (zg S 7 0 0)]) (zQ (some (.int (v_X10_inFlight S F G q)))) 0 0 zno := by
  refine tk_M (by decide) (Nat.le_of_ble_eq_true rfl) ?_
  intro p e s m args below meth c ls hx hb hml hr hlk hown hts hW hS hA hC hl
  have hK := hC.1
  have hN := hC.2.1
  have hn12 := hW.n12
  have hl : lv_has ls 1 [(0, .ref (zg S 7 0 0))] := hl
  refine lv_aload_n hx hb dX10_inFlight_0 rfl (lv_at hl 0 rfl) ?_
  refine t_get (D := D) (ci := 9) (v := .ref (zg S 6 0 0)) (C := RX10) (T := TX10) (N := 5) hx hb hts iX10 hown hK hW 7 0 0 dm7 rfl rfl 0 (by decide) (hts _ wq95) (fun _ h9 => h9) rfl dX10_inFlight_1 ?_
  refine zr_i (va_runV (As := []) (rest := []) ⟨hx, hb, hml, hown, hts⟩ (k_X2_waiting l D yc e0 A S Z F G q 0 (by first | assumption | omega | decide)) (cwV 0 hts (lw_V wq678 wq679 wq680 wq2 wq681) rfl rfl rfl (by decide +kernel) ⟨(Nat.le_of_ble_eq_true rfl), (Nat.le_of_ble_eq_true rfl)⟩) (tp_V hC hW hS hA 6 0 0 (dm6 (by omega)) rfl rfl) rfl rfl hl.1 rfl (lv_room (Nat.le_of_ble_eq_true rfl)) dX10_inFlight_4 ⟨(Nat.le_of_ble_eq_true rfl), (Nat.le_of_ble_eq_true rfl)⟩) ?_
  exact ze_i hx hb hr hlk rfl (by rfl) dX10_inFlight_7
def v_X10_next (S : TS) (F : TF) (G : TG) (q : TQ) (w : Nat) : Int32 := v_X2_nextToWork S F G q 0 w
set_option maxHeartbeats 4000000 in
set_option maxRecDepth 100000 in
theorem k_X10_next (l : Launch) (D : va_G) (yc : Nat → ClassId) (e0 : Nat) (A : Nat → Prop) (S : TS) (Z : Nat × Nat) (F : TF) (G : TG) (q : TQ) (w : Nat) (hw : F 6 0 0 3 = nI w - 1) (hwn : w ≤ zn S) : Met l yX10_next (ws_ yX10_next cX10_next 1 (some .int)) ({ frames := 7, cells := 0, slots := 0, locals := 152 }) (PT D yc e0 A S Z F G q [.ref (zg S 7 0 0)]) (zQ (some (.int (v_X10_next S F G q w)))) 0 0 zno := by
  refine tk_M (by decide) (Nat.le_of_ble_eq_true rfl) ?_
  intro p e s m args below meth c ls hx hb hml hr hlk hown hts hW hS hA hC hl
  have hK := hC.1
  have hN := hC.2.1
  have hn12 := hW.n12
  have hl : lv_has ls 1 [(0, .ref (zg S 7 0 0))] := hl
  refine lv_aload_n hx hb dX10_next_0 rfl (lv_at hl 0 rfl) ?_
  refine t_get (D := D) (ci := 9) (v := .ref (zg S 6 0 0)) (C := RX10) (T := TX10) (N := 5) hx hb hts iX10 hown hK hW 7 0 0 dm7 rfl rfl 0 (by decide) (hts _ wq95) (fun _ h9 => h9) rfl dX10_next_1 ?_
  refine zr_i (va_runV (As := []) (rest := []) ⟨hx, hb, hml, hown, hts⟩ (k_X2_nextToWork l D yc e0 A S Z F G q 0 w (by first | assumption | omega | decide) (by first | assumption | omega | decide) (by first | assumption | omega | decide)) (cwV 0 hts (lw_V wq277 wq278 wq279 wq2 wq280) rfl rfl rfl (by decide +kernel) ⟨(Nat.le_of_ble_eq_true rfl), (Nat.le_of_ble_eq_true rfl)⟩) (tp_V hC hW hS hA 6 0 0 (dm6 (by omega)) rfl rfl) rfl rfl hl.1 rfl (lv_room (Nat.le_of_ble_eq_true rfl)) dX10_next_4 ⟨(Nat.le_of_ble_eq_true rfl), (Nat.le_of_ble_eq_true rfl)⟩) ?_
  exact ze_i hx hb hr hlk rfl (by rfl) dX10_next_7
def v_X10_meanQueue (S : TS) (F : TF) (G : TG) (q : TQ) : UInt64 := if (v_X2_channels S F G q 0) = 0 then FP.dconst0 else FP.ddiv (FP.i2d (v_X2_waiting S F G q 0)) (FP.i2d (v_X2_channels S F G q 0))
set_option maxHeartbeats 4000000 in
set_option maxRecDepth 100000 in
theorem k_X10_meanQueue (l : Launch) (D : va_G) (yc : Nat → ClassId) (e0 : Nat) (A : Nat → Prop) (S : TS) (Z : Nat × Nat) (F : TF) (G : TG) (q : TQ)   : Met l yX10_meanQueue (ws_ yX10_meanQueue cX10_meanQueue 2 (some .double)) ({ frames := 4, cells := 0, slots := 0, locals := 87 }) (PT D yc e0 A S Z F G q [.ref (zg S 7 0 0)]) (zQ (some (.double (v_X10_meanQueue S F G q)))) 0 0 zno := by
  refine tk_M (by decide) (Nat.le_of_ble_eq_true rfl) ?_
  intro p e s m args below meth c ls hx hb hml hr hlk hown hts hW hS hA hC hl
  have hK := hC.1
  have hN := hC.2.1
  have hn12 := hW.n12
  have hl : lv_has ls 2 [(0, .ref (zg S 7 0 0))] := hl
  refine lv_aload_n hx hb dX10_meanQueue_0 rfl (lv_at hl 0 rfl) ?_
  refine t_get (D := D) (ci := 9) (v := .ref (zg S 6 0 0)) (C := RX10) (T := TX10) (N := 5) hx hb hts iX10 hown hK hW 7 0 0 dm7 rfl rfl 0 (by decide) (hts _ wq95) (fun _ h9 => h9) rfl dX10_meanQueue_1 ?_
  refine zr_i (va_runV (As := []) (rest := []) ⟨hx, hb, hml, hown, hts⟩ (k_X2_channels l D yc e0 A S Z F G q 0 (by first | assumption | omega | decide)) (cwV 0 hts (lw_V wq1201 wq1202 wq1203 wq2 wq1204) rfl rfl rfl (by decide +kernel) ⟨(Nat.le_of_ble_eq_true rfl), (Nat.le_of_ble_eq_true rfl)⟩) (tp_V hC hW hS hA 6 0 0 (dm6 (by omega)) rfl rfl) rfl rfl hl.1 rfl (lv_room (Nat.le_of_ble_eq_true rfl)) dX10_meanQueue_4 ⟨(Nat.le_of_ble_eq_true rfl), (Nat.le_of_ble_eq_true rfl)⟩) ?_
  refine lv_istore_n (lv' := [(1, .int (v_X2_channels S F G q 0)), (0, .ref (zg S 7 0 0))]) hx hb dX10_meanQueue_7 rfl hl (by decide) rfl (fun ls hl => ?_)
  refine lv_iload_n hx hb dX10_meanQueue_8 rfl (lv_at hl 0 rfl) ?_
  refine lv_if_ne (tgt := 16) hx hb dX10_meanQueue_9 (by decide) (fun hb1 => ?_) (fun hb1 => ?_)
  · refine lv_aload_n hx hb dX10_meanQueue_16 rfl (lv_at hl 1 rfl) ?_
    refine t_get (D := D) (ci := 9) (v := .ref (zg S 6 0 0)) (C := RX10) (T := TX10) (N := 5) hx hb hts iX10 hown hK hW 7 0 0 dm7 rfl rfl 0 (by decide) (hts _ wq95) (fun _ h9 => h9) rfl dX10_meanQueue_17 ?_
    refine zr_i (va_runV (As := []) (rest := []) ⟨hx, hb, hml, hown, hts⟩ (k_X2_waiting l D yc e0 A S Z F G q 0 (by first | assumption | omega | decide)) (cwV 0 hts (lw_V wq678 wq679 wq680 wq2 wq681) rfl rfl rfl (by decide +kernel) ⟨(Nat.le_of_ble_eq_true rfl), (Nat.le_of_ble_eq_true rfl)⟩) (tp_V hC hW hS hA 6 0 0 (dm6 (by omega)) rfl rfl) rfl rfl hl.1 rfl (lv_room (Nat.le_of_ble_eq_true rfl)) dX10_meanQueue_20 ⟨(Nat.le_of_ble_eq_true rfl), (Nat.le_of_ble_eq_true rfl)⟩) ?_
    refine lv_i2d hx hb dX10_meanQueue_23 ?_
    refine lv_iload_n hx hb dX10_meanQueue_24 rfl (lv_at hl 0 rfl) ?_
    refine lv_i2d hx hb dX10_meanQueue_25 ?_
    refine lv_ddiv hx hb dX10_meanQueue_26 (zfp_n64 (zfp_div (by assumption))) ?_
    exact ze_d hx hb hr hlk (by unfold v_X10_meanQueue; rw [if_neg hb1]) dX10_meanQueue_27
  · refine lv_dconst0 hx hb dX10_meanQueue_12 ?_
    refine lv_goto (tgt := 27) hx hb dX10_meanQueue_13 (by decide) ?_
    exact ze_d hx hb hr hlk (by unfold v_X10_meanQueue; rw [if_pos hb1]) dX10_meanQueue_27
def v_X10_wouldLose (S : TS) (F : TF) (G : TG) (q : TQ) (k : Nat) : Int32 := (F 0 0 (3 * k) 7) - (F 0 0 (3 * k + (G 0 k).1) 7)
set_option maxHeartbeats 4000000 in
set_option maxRecDepth 100000 in
theorem k_X10_wouldLose (l : Launch) (D : va_G) (yc : Nat → ClassId) (e0 : Nat) (A : Nat → Prop) (S : TS) (Z : Nat × Nat) (F : TF) (G : TG) (q : TQ) (k : Nat) (hk : k < zn S) (hs : F 8 0 k 0 = 7) (hG : (G 0 k).1 < 3) : Met l yX10_wouldLose (ws_ yX10_wouldLose cX10_wouldLose 3 (some .int)) ({ frames := 6, cells := 0, slots := 0, locals := 129 }) (PT D yc e0 A S Z F G q [.ref (zg S 7 0 0), .int (nI k)]) (zQ (some (.int (v_X10_wouldLose S F G q k)))) 0 0 zno := by
  refine tk_M (by decide) (Nat.le_of_ble_eq_true rfl) ?_
  intro p e s m args below meth c ls hx hb hml hr hlk hown hts hW hS hA hC hl
  have hK := hC.1
  have hN := hC.2.1
  have hn12 := hW.n12
  have hl : lv_has ls 3 [(0, .ref (zg S 7 0 0)), (1, .int (nI k))] := hl
  refine lv_aload_n hx hb dX10_wouldLose_0 rfl (lv_at hl 0 rfl) ?_
  refine lv_iload_n hx hb dX10_wouldLose_1 rfl (lv_at hl 1 rfl) ?_
  refine zr_q (va_runV (As := [.int (nI k)]) (rest := []) ⟨hx, hb, hml, hown, hts⟩ (k_X10_sinkOf l D yc e0 A S Z F G q k (by first | assumption | omega | decide) (by first | assumption | omega | decide)) (cwV 1 hts (lw_V wq662 wq664 ws20 wq1 wq665) rfl rfl rfl (by decide +kernel) ⟨(Nat.le_of_ble_eq_true rfl), (Nat.le_of_ble_eq_true rfl)⟩) (tp_V hC hW hS hA 7 0 0 dm7 rfl rfl) rfl rfl hl.1 rfl (lv_room (Nat.le_of_ble_eq_true rfl)) dX10_wouldLose_2 ⟨(Nat.le_of_ble_eq_true rfl), (Nat.le_of_ble_eq_true rfl)⟩) ?_
  refine lv_astore_n (lv' := [(2, .ref (zg S 2 0 k)), (0, .ref (zg S 7 0 0)), (1, .int (nI k))]) hx hb dX10_wouldLose_5 rfl hl (by decide) rfl (fun ls hl => ?_)
  refine lv_aload_n hx hb dX10_wouldLose_6 rfl (lv_at hl 0 rfl) ?_
  refine t_getN (D := D) (ci := 7) (v := .ref (zg S 0 0 (3 * k))) (C := RX8) (T := TX8) (N := 12) hx hb hts iX8 hown hK hW 2 0 k (dm2 (by omega) (by omega)) rfl rfl 7 (by decide) (zk_tab rfl (hN _ wr1120 rfl)) (fun _ h9 => h9) rfl dX10_wouldLose_7 ?_
  refine t_getN (D := D) (ci := 8) (v := .int (F 0 0 (3 * k) 7)) (C := RX9) (T := TX9) (N := 11) hx hb hts iX9 hown hK hW 0 0 (3 * k) (dm0 (by omega) (by omega)) rfl rfl 7 (by decide) (zk_tab rfl (hN _ wr1072 rfl)) (fun _ h9 => h9) rfl dX10_wouldLose_10 ?_
  refine lv_aload_n hx hb dX10_wouldLose_13 rfl (lv_at hl 0 rfl) ?_
  refine t_getN (D := D) (ci := 7) (v := .ref (zg S 0 0 (3 * k + (G 0 k).1))) (C := RX8) (T := TX8) (N := 12) hx hb hts iX8 hown hK hW 2 0 k (dm2 (by omega) (by omega)) rfl rfl 8 (by decide) (zk_tab rfl (hN _ wr1122 rfl)) (fun _ h9 => h9) rfl dX10_wouldLose_14 ?_
  refine t_getN (D := D) (ci := 8) (v := .int (F 0 0 (3 * k + (G 0 k).1) 7)) (C := RX9) (T := TX9) (N := 11) hx hb hts iX9 hown hK hW 0 0 (3 * k + (G 0 k).1) (dm0 (by omega) (by omega)) rfl rfl 7 (by decide) (zk_tab rfl (hN _ wr1072 rfl)) (fun _ h9 => h9) rfl dX10_wouldLose_17 ?_
  refine lv_isub hx hb dX10_wouldLose_20 ?_
  exact ze_i hx hb hr hlk rfl (by rfl) dX10_wouldLose_21
def v_X10_wouldReplay (S : TS) (F : TF) (G : TG) (q : TQ) (k : Nat) : Int32 := (F 0 0 (3 * k) 4) - (F 0 0 (3 * k + (G 0 k).1) 4)
set_option maxHeartbeats 4000000 in
set_option maxRecDepth 100000 in
theorem k_X10_wouldReplay (l : Launch) (D : va_G) (yc : Nat → ClassId) (e0 : Nat) (A : Nat → Prop) (S : TS) (Z : Nat × Nat) (F : TF) (G : TG) (q : TQ) (k : Nat) (hk : k < zn S) (hs : F 8 0 k 0 = 0) (hG : (G 0 k).1 < 3) : Met l yX10_wouldReplay (ws_ yX10_wouldReplay cX10_wouldReplay 3 (some .int)) ({ frames := 6, cells := 0, slots := 0, locals := 129 }) (PT D yc e0 A S Z F G q [.ref (zg S 7 0 0), .int (nI k)]) (zQ (some (.int (v_X10_wouldReplay S F G q k)))) 0 0 zno := by
  refine tk_M (by decide) (Nat.le_of_ble_eq_true rfl) ?_
  intro p e s m args below meth c ls hx hb hml hr hlk hown hts hW hS hA hC hl
  have hK := hC.1
  have hN := hC.2.1
  have hn12 := hW.n12
  have hl : lv_has ls 3 [(0, .ref (zg S 7 0 0)), (1, .int (nI k))] := hl
  refine lv_aload_n hx hb dX10_wouldReplay_0 rfl (lv_at hl 0 rfl) ?_
  refine lv_iload_n hx hb dX10_wouldReplay_1 rfl (lv_at hl 1 rfl) ?_
  refine zr_q (va_runV (As := [.int (nI k)]) (rest := []) ⟨hx, hb, hml, hown, hts⟩ (k_X10_sourceOf l D yc e0 A S Z F G q k (by first | assumption | omega | decide) (by first | assumption | omega | decide)) (cwV 1 hts (lw_V wq215 wq217 ws1 wq1 wq218) rfl rfl rfl (by decide +kernel) ⟨(Nat.le_of_ble_eq_true rfl), (Nat.le_of_ble_eq_true rfl)⟩) (tp_V hC hW hS hA 7 0 0 dm7 rfl rfl) rfl rfl hl.1 rfl (lv_room (Nat.le_of_ble_eq_true rfl)) dX10_wouldReplay_2 ⟨(Nat.le_of_ble_eq_true rfl), (Nat.le_of_ble_eq_true rfl)⟩) ?_
  refine lv_astore_n (lv' := [(2, .ref (zg S 2 0 k)), (0, .ref (zg S 7 0 0)), (1, .int (nI k))]) hx hb dX10_wouldReplay_5 rfl hl (by decide) rfl (fun ls hl => ?_)
  refine lv_aload_n hx hb dX10_wouldReplay_6 rfl (lv_at hl 0 rfl) ?_
  refine t_getN (D := D) (ci := 7) (v := .ref (zg S 0 0 (3 * k))) (C := RX8) (T := TX8) (N := 12) hx hb hts iX8 hown hK hW 2 0 k (dm2 (by omega) (by omega)) rfl rfl 7 (by decide) (zk_tab rfl (hN _ wr1120 rfl)) (fun _ h9 => h9) rfl dX10_wouldReplay_7 ?_
  refine t_getN (D := D) (ci := 8) (v := .int (F 0 0 (3 * k) 4)) (C := RX9) (T := TX9) (N := 11) hx hb hts iX9 hown hK hW 0 0 (3 * k) (dm0 (by omega) (by omega)) rfl rfl 4 (by decide) (zk_tab rfl (hN _ wr1063 rfl)) (fun _ h9 => h9) rfl dX10_wouldReplay_10 ?_
  refine lv_aload_n hx hb dX10_wouldReplay_13 rfl (lv_at hl 0 rfl) ?_
  refine t_getN (D := D) (ci := 7) (v := .ref (zg S 0 0 (3 * k + (G 0 k).1))) (C := RX8) (T := TX8) (N := 12) hx hb hts iX8 hown hK hW 2 0 k (dm2 (by omega) (by omega)) rfl rfl 8 (by decide) (zk_tab rfl (hN _ wr1122 rfl)) (fun _ h9 => h9) rfl dX10_wouldReplay_14 ?_
  refine t_getN (D := D) (ci := 8) (v := .int (F 0 0 (3 * k + (G 0 k).1) 4)) (C := RX9) (T := TX9) (N := 11) hx hb hts iX9 hown hK hW 0 0 (3 * k + (G 0 k).1) (dm0 (by omega) (by omega)) rfl rfl 4 (by decide) (zk_tab rfl (hN _ wr1063 rfl)) (fun _ h9 => h9) rfl dX10_wouldReplay_17 ?_
  refine lv_isub hx hb dX10_wouldReplay_20 ?_
  exact ze_i hx hb hr hlk rfl (by rfl) dX10_wouldReplay_21
def v_X10_outputAt (S : TS) (F : TF) (G : TG) (q : TQ) (k : Nat) (i1 : Int32) : Int64 := v_X6_at S F G q (ro 0 k) i1
set_option maxHeartbeats 4000000 in
set_option maxRecDepth 100000 in
theorem k_X10_outputAt (l : Launch) (D : va_G) (yc : Nat → ClassId) (e0 : Nat) (A : Nat → Prop) (S : TS) (Z : Nat × Nat) (F : TF) (G : TG) (q : TQ) (k : Nat) (i1 : Int32) (hk : k < zn S) (hs : F 8 0 k 0 = 7) (h1 : ¬ i1 < 0) (h2 : ¬ (F 0 0 (3 * k) 7) ≤ i1) : Met l yX10_outputAt (ws_ yX10_outputAt cX10_outputAt 4 (some .long)) ({ frames := 6, cells := 0, slots := 0, locals := 129 }) (PT D yc e0 A S Z F G q [.ref (zg S 7 0 0), .int (nI k), .int i1]) (zQ (some (.long (v_X10_outputAt S F G q k i1)))) 0 0 zno := by
  refine tk_M (by decide) (Nat.le_of_ble_eq_true rfl) ?_
  intro p e s m args below meth c ls hx hb hml hr hlk hown hts hW hS hA hC hl
  have hK := hC.1
  have hN := hC.2.1
  have hn12 := hW.n12
  have hl : lv_has ls 4 [(0, .ref (zg S 7 0 0)), (1, .int (nI k)), (2, .int i1)] := hl
  refine lv_aload_n hx hb dX10_outputAt_0 rfl (lv_at hl 0 rfl) ?_
  refine lv_iload_n hx hb dX10_outputAt_1 rfl (lv_at hl 1 rfl) ?_
  refine zr_q (va_runV (As := [.int (nI k)]) (rest := []) ⟨hx, hb, hml, hown, hts⟩ (k_X10_sinkOf l D yc e0 A S Z F G q k (by first | assumption | omega | decide) (by first | assumption | omega | decide)) (cwV 1 hts (lw_V wq662 wq664 ws20 wq1 wq665) rfl rfl rfl (by decide +kernel) ⟨(Nat.le_of_ble_eq_true rfl), (Nat.le_of_ble_eq_true rfl)⟩) (tp_V hC hW hS hA 7 0 0 dm7 rfl rfl) rfl rfl hl.1 rfl (lv_room (Nat.le_of_ble_eq_true rfl)) dX10_outputAt_2 ⟨(Nat.le_of_ble_eq_true rfl), (Nat.le_of_ble_eq_true rfl)⟩) ?_
  refine lv_astore_n (lv' := [(3, .ref (zg S 2 0 k)), (0, .ref (zg S 7 0 0)), (1, .int (nI k)), (2, .int i1)]) hx hb dX10_outputAt_5 rfl hl (by decide) rfl (fun ls hl => ?_)
  refine lv_iload_n hx hb dX10_outputAt_6 rfl (lv_at hl 3 rfl) ?_
  refine lv_if_lt (tgt := 25) hx hb dX10_outputAt_7 (by decide) (fun h9 => absurd h9 h1) (fun _ => ?_)
  refine lv_iload_n hx hb dX10_outputAt_10 rfl (lv_at hl 3 rfl) ?_
  refine lv_aload_n hx hb dX10_outputAt_11 rfl (lv_at hl 0 rfl) ?_
  refine t_getN (D := D) (ci := 7) (v := .ref (zg S 0 0 (3 * k))) (C := RX8) (T := TX8) (N := 12) hx hb hts iX8 hown hK hW 2 0 k (dm2 (by omega) (by omega)) rfl rfl 7 (by decide) (zk_tab rfl (hN _ wr1120 rfl)) (fun _ h9 => h9) rfl dX10_outputAt_12 ?_
  refine t_getN (D := D) (ci := 8) (v := .int (F 0 0 (3 * k) 7)) (C := RX9) (T := TX9) (N := 11) hx hb hts iX9 hown hK hW 0 0 (3 * k) (dm0 (by omega) (by omega)) rfl rfl 7 (by decide) (zk_tab rfl (hN _ wr1072 rfl)) (fun _ h9 => h9) rfl dX10_outputAt_15 ?_
  refine lv_icmp_ge (tgt := 25) hx hb dX10_outputAt_18 (by decide) (fun h9 => absurd h9 h2) (fun _ => ?_)
  refine lv_iconst (v := 1) hx hb dX10_outputAt_21 (by decide) ?_
  refine lv_goto (tgt := 26) hx hb dX10_outputAt_22 (by decide) ?_
  refine zr_v (va_runS (As := [.int 1]) (rest := []) ⟨hx, hb, hml, hown, hts⟩ (k_X10_refuseUnless l 1 (by first | assumption | omega | decide)) (va_cwS 1 hts (lw_S wq193 wq194 wq1 wq195) rfl rfl rfl (by decide +kernel) ⟨(Nat.le_of_ble_eq_true rfl), (Nat.le_of_ble_eq_true rfl)⟩) tp_N rfl rfl hl.1 rfl (lv_room (Nat.le_of_ble_eq_true rfl)) dX10_outputAt_26 ⟨(Nat.le_of_ble_eq_true rfl), (Nat.le_of_ble_eq_true rfl)⟩) ?_
  refine lv_aload_n hx hb dX10_outputAt_29 rfl (lv_at hl 0 rfl) ?_
  refine t_getN (D := D) (ci := 7) (v := .ref (zr S (ro 0 k))) (C := RX8) (T := TX8) (N := 12) hx hb hts iX8 hown hK hW 2 0 k (dm2 (by omega) (by omega)) rfl rfl 6 (by decide) (zk_tab rfl (hN _ wr1117 rfl)) (fun _ h9 => h9) rfl dX10_outputAt_30 ?_
  refine lv_iload_n hx hb dX10_outputAt_33 rfl (lv_at hl 3 rfl) ?_
  refine zr_l (va_runV (As := [.int i1]) (rest := []) ⟨hx, hb, hml, hown, hts⟩ (k_X6_at l D yc e0 A S Z F G q (ro 0 k) i1 (dr_o hW.n12 (by omega) (by omega))) (cwV 1 hts (lw_V wq790 wq391 wq392 wq15 wq393) rfl rfl rfl (by decide +kernel) ⟨(Nat.le_of_ble_eq_true rfl), (Nat.le_of_ble_eq_true rfl)⟩) (tp_R hC hW hS hA (ro 0 k) (dr_o hW.n12 (by omega) (by omega))) rfl rfl hl.1 rfl (lv_room (Nat.le_of_ble_eq_true rfl)) dX10_outputAt_34 ⟨(Nat.le_of_ble_eq_true rfl), (Nat.le_of_ble_eq_true rfl)⟩) ?_
  exact ze_l hx hb hr hlk (by rfl) dX10_outputAt_37
