def r_X4_forgetGiven (S : TS) (fl : Nat) (k : Nat) (gv : Int32) : Nat → Nat → TW → TW
  | 0, i, w => w
  | n + 1, i, w => zlet (zset w ((ochd S k i).1) fl ((ochd S k i).2) 1 ((w.1 ((ochd S k i).1) fl ((ochd S k i).2) 1) - gv)) (fun w2 => r_X4_forgetGiven S fl k gv n (i + 1) w2)
theorem er_X4_forgetGiven (S : TS) (fl : Nat) (k : Nat) (gv : Int32) (n : Nat) (i : Nat) (w : TW) : r_X4_forgetGiven S fl k gv (n + 1) i w = zlet (zset w ((ochd S k i).1) fl ((ochd S k i).2) 1 ((w.1 ((ochd S k i).1) fl ((ochd S k i).2) 1) - gv)) (fun w2 => r_X4_forgetGiven S fl k gv n (i + 1) w2) := rfl
theorem mr_X4_forgetGiven (S : TS) (fl : Nat) (k : Nat) (gv : Int32) : ∀ (n : Nat) (i : Nat) (w : TW), zle w ((r_X4_forgetGiven S fl k gv n i w)) := by
  intro n
  induction n with
  | zero => intro i w; exact zle.rf
  | succ n ih =>
    intro i w
    rw [er_X4_forgetGiven]
    exact (zP_let (P := (zle (w))) (zle (w)) (zle.to zle.rf rfl) (fun w2 h8_ => (zle.tr h8_ (ih _ _))))
theorem gr_X4_forgetGiven (S : TS) (fl : Nat) (k : Nat) (gv : Int32) : ∀ (n : Nat) (i : Nat) (w : TW), ((r_X4_forgetGiven S fl k gv n i w)).2.1 = w.2.1 := by
  intro n
  induction n with
  | zero => intro i w; rfl
  | succ n ih =>
    intro i w
    rw [er_X4_forgetGiven]
    exact (zP_let (P := (fun (b : TW) => b.2.1 = w.2.1)) (fun (b : TW) => b.2.1 = w.2.1) rfl (fun w2 h8_ => ((ih _ _).trans h8_)))
set_option maxHeartbeats 4000000 in
set_option maxRecDepth 100000 in
theorem lp_X4_forgetGiven {p : Program} {e : Env} {s : State} {m : MethodId} {args : Array Value} {below : List Frame} {meth : Method} {c : Code} {l : Launch} {D : va_G} {yc : Nat → ClassId} {e0 : Nat} {A : Nat → Prop} {S : TS} {Z : Nat × Nat} {Tc Ts : Nat} (fl : Nat) (k : Nat) (gv : Int32) (hf : fl < 2) (hk : k < zn S) (hx : p.tables.exec = Jvm.exec) (hb : c.code = cX4_forgetGiven) (hml : c.maxLocals = 3) (hr : meth.sig.returnType = none) (hlk : meth.locks = false) (hown : s.vm.findClass yX4_forgetGiven.cls = some m.cls) (hts : ∀ w ∈ lw_all, w.before args s = true) (hA : ∀ a, s.heap.size ≤ a → A a) (hC : CX D yc e0 A s) {Q : State → Prop} : ∀ (n : Nat) (i : Nat) (w : TW) (H : Heap) (locs : List Loc) (ls : Array Slot), i + n = (och S k).length → ZB Z Tc Ts ((r_X4_forgetGiven S fl k gv n i w)) → WT D yc e0 A S Z w.1 w.2.1 w.2.2 H → va_S A s.heap H locs → lv_has ls 3 [(2, .int (nI i)), (1, .int gv), (0, .ref (zg S 3 fl k))] → (∀ (wr : TW) (H : Heap) (locs : List Loc) (ls : Array Slot), r_X4_forgetGiven S fl k gv n i w = wr → WT D yc e0 A S Z wr.1 wr.2.1 wr.2.2 H → va_S A s.heap H locs → lv_has ls 3 [(1, .int gv), (0, .ref (zg S 3 fl k))] → W p l e { frames := 4, cells := Tc - s.heap.size, slots := Ts - zh s.heap, locals := 86 } s m args below meth c H locs (Tc - s.heap.size) (Ts - zh s.heap) Q (F0 m 70 ls [])) → W p l e { frames := 4, cells := Tc - s.heap.size, slots := Ts - zh s.heap, locals := 86 } s m args below meth c H locs (Tc - s.heap.size) (Ts - zh s.heap) Q (F0 m 33 ls []) := by
  have hK := hC.1
  have hN := hC.2.1
  intro n
  induction n with
  | zero =>
    intro i w H locs ls hinv hB hW hS hl kk
    have hB0 : ZB Z Tc Ts w := hB
    have hn12 := hW.n12
    have hol := och_len S k
    refine lv_iload_n hx hb dX4_forgetGiven_33 rfl (lv_at hl 0 rfl) ?_
    refine lv_aload_n hx hb dX4_forgetGiven_34 rfl (lv_at hl 2 rfl) ?_
    refine t_get (D := D) (ci := 3) (v := .ref (zl S 1 fl k)) (C := RX4) (T := TX4) (N := 2) hx hb hts iX4 hown hK hW 3 fl k (dm3 (by omega) (by omega)) rfl rfl 1 (by decide) (hts _ wq1018) (fun _ h9 => h9) rfl dX4_forgetGiven_35 ?_
    refine zr_i (va_runV (As := []) (rest := [.int (nI i)]) ⟨hx, hb, hml, hown, hts⟩ (k_AL_size l D yc e0 A S Z w.1 w.2.1 w.2.2 1 fl k (dl1 (by omega) (by omega))) (cwV 0 hts (lw_V wq296 wq120 wq121 wq5 wq122) rfl rfl rfl (by decide +kernel) ⟨(Nat.le_of_ble_eq_true rfl), (Nat.le_of_ble_eq_true rfl)⟩) (tp_L hC hW hS hA 1 fl k (dl1 (by omega) (by omega))) rfl rfl hl.1 rfl (lv_room (Nat.le_of_ble_eq_true rfl)) dX4_forgetGiven_38 ⟨(Nat.le_refl _), (Nat.le_refl _)⟩) ?_
    refine zk_ti (y := nI (och S k).length) rfl ?_
    refine lv_icmp_ge (tgt := 70) hx hb dX4_forgetGiven_41 (by decide) (fun _ => ?_) (fun h9 => absurd (nI_le (by omega) (by omega)) h9)
    exact kk w H locs _ rfl hW hS (lv_sub hl [1, 2] rfl)
  | succ n ih =>
    intro i w H locs ls hinv hB hW hS hl kk
    rw [er_X4_forgetGiven] at hB
    have hB0 : ZB Z Tc Ts w := hB.mono (zP_let (P := (zle (w))) (zle (w)) (zle.to zle.rf rfl) (fun w2 h8_ => (zle.tr h8_ (mr_X4_forgetGiven _ _ _ _ _ _ _))))
    have hn12 := hW.n12
    have hol := och_len S k
    refine lv_iload_n hx hb dX4_forgetGiven_33 rfl (lv_at hl 0 rfl) ?_
    refine lv_aload_n hx hb dX4_forgetGiven_34 rfl (lv_at hl 2 rfl) ?_
    refine t_get (D := D) (ci := 3) (v := .ref (zl S 1 fl k)) (C := RX4) (T := TX4) (N := 2) hx hb hts iX4 hown hK hW 3 fl k (dm3 (by omega) (by omega)) rfl rfl 1 (by decide) (hts _ wq1018) (fun _ h9 => h9) rfl dX4_forgetGiven_35 ?_
    refine zr_i (va_runV (As := []) (rest := [.int (nI i)]) ⟨hx, hb, hml, hown, hts⟩ (k_AL_size l D yc e0 A S Z w.1 w.2.1 w.2.2 1 fl k (dl1 (by omega) (by omega))) (cwV 0 hts (lw_V wq296 wq120 wq121 wq5 wq122) rfl rfl rfl (by decide +kernel) ⟨(Nat.le_of_ble_eq_true rfl), (Nat.le_of_ble_eq_true rfl)⟩) (tp_L hC hW hS hA 1 fl k (dl1 (by omega) (by omega))) rfl rfl hl.1 rfl (lv_room (Nat.le_of_ble_eq_true rfl)) dX4_forgetGiven_38 ⟨(Nat.le_refl _), (Nat.le_refl _)⟩) ?_
    refine zk_ti (y := nI (och S k).length) rfl ?_
    refine lv_icmp_ge (tgt := 70) hx hb dX4_forgetGiven_41 (by decide) (fun h9 => absurd h9 (nI_ge (by omega) (by omega))) (fun _ => ?_)
    refine lv_aload_n hx hb dX4_forgetGiven_44 rfl (lv_at hl 2 rfl) ?_
    refine t_get (D := D) (ci := 3) (v := .ref (zl S 1 fl k)) (C := RX4) (T := TX4) (N := 2) hx hb hts iX4 hown hK hW 3 fl k (dm3 (by omega) (by omega)) rfl rfl 1 (by decide) (hts _ wq1018) (fun _ h9 => h9) rfl dX4_forgetGiven_45 ?_
    refine lv_iload_n hx hb dX4_forgetGiven_48 rfl (lv_at hl 0 rfl) ?_
    refine zr_q (va_runV (As := [.int (nI i)]) (rest := []) ⟨hx, hb, hml, hown, hts⟩ (k_AL_get l D yc e0 A S Z w.1 w.2.1 w.2.2 1 fl k i (dl1 (by omega) (by omega)) (show i < (och S k).length by omega)) (cwV 1 hts (lw_V wq297 wq228 wq229 wq5 wq230) rfl rfl rfl (by decide +kernel) ⟨(Nat.le_of_ble_eq_true rfl), (Nat.le_of_ble_eq_true rfl)⟩) (tp_L hC hW hS hA 1 fl k (dl1 (by omega) (by omega))) rfl rfl hl.1 rfl (lv_room (Nat.le_of_ble_eq_true rfl)) dX4_forgetGiven_49 ⟨(Nat.le_refl _), (Nat.le_refl _)⟩) ?_
    obtain ⟨hc1a, hc1b, hc1c⟩ := och_ok (S := S) (k := k) (i := i) (fl := fl) (by omega) (by first | assumption | omega)
    refine zk_tv (y := .ref (zg S ((ochd S k i).1) fl ((ochd S k i).2))) rfl ?_
    refine va_castS hx hb hown (hts _ wq298) (hK.1 1 _ rfl).2 (t_cell hK hW ((ochd S k i).1) fl ((ochd S k i).2) hc1b (cel_ch hc1a) rfl) dX4_forgetGiven_52 ?_
    refine lv_dup hx hb dX4_forgetGiven_55 rfl ?_
    refine t_getN (D := D) (ci := 1) (v := .int (w.1 ((ochd S k i).1) fl ((ochd S k i).2) 1)) (C := RX1) (T := TX1) (N := 3) hx hb hts iX1 hown hK hW ((ochd S k i).1) fl ((ochd S k i).2) hc1b (cel_ch hc1a) rfl 1 (by decide) (zk_tab rfl (hN _ wr939 rfl)) (fun _ h9 => h9) rfl dX4_forgetGiven_56 ?_
    refine lv_iload_n hx hb dX4_forgetGiven_59 rfl (lv_at hl 1 rfl) ?_
    refine lv_isub hx hb dX4_forgetGiven_60 ?_
    refine t_putN (D := D) (ci := 1) (v := .int ((w.1 ((ochd S k i).1) fl ((ochd S k i).2) 1) - gv)) (ty := .int) (C := RX1) (T := TX1) (N := 3) hx hb hts iX1 tyX1 tyX1_ok nmX1 hown hK hW hS ((ochd S k i).1) fl ((ochd S k i).2) hc1b (cel_ch hc1a) rfl 1 (by decide) (zk_tab rfl (hN _ wr939 rfl)) (fun _ h9 => h9) rfl (by decide +kernel) rfl rfl (Nat.le_of_ble_eq_true rfl) (fun j9 => if j9 = 1 then (w.1 ((ochd S k i).1) fl ((ochd S k i).2) 1) - gv else w.1 ((ochd S k i).1) fl ((ochd S k i).2) j9) w.2.1 ((cel_ch hc1a).trans rfl) (fun _ _ _ => rfl) (zbit (fun j9 h9 => hW.bit _ _ _ j9 h9) (fun h9 => absurd h9 (zib_c1 hc1a))) dX4_forgetGiven_61 (fun H locs hW hS => ?_)
    obtain ⟨w2, hw2, hW, hB_w2⟩ : ∃ ww : TW, zset w ((ochd S k i).1) fl ((ochd S k i).2) 1 ((w.1 ((ochd S k i).1) fl ((ochd S k i).2) 1) - gv) = ww ∧ WT D yc e0 A S Z ww.1 ww.2.1 ww.2.2 H ∧ ZB Z Tc Ts ww := ⟨_, rfl, hW, hB0⟩
    refine lv_iinc (v := nI (i + 1)) (lv' := [(2, .int (nI (i + 1))), (1, .int gv), (0, .ref (zg S 3 fl k))]) hx hb dX4_forgetGiven_64 hl (k := 0) rfl (nI_1 _) (by decide) rfl (fun ls hl => ?_)
    refine lv_goto (tgt := 33) hx hb dX4_forgetGiven_67 (by decide) ?_
    have e9 : r_X4_forgetGiven S fl k gv (n + 1) i w = r_X4_forgetGiven S fl k gv n (i + 1) w2 := (er_X4_forgetGiven _ _ _ _ _ _ _).trans (zlet_e hw2 rfl)
    have e8 : ZB Z Tc Ts ((r_X4_forgetGiven S fl k gv n (i + 1) w2)) := by rw [← e9, er_X4_forgetGiven]; exact hB
    exact ih (i + 1) w2 H locs _ (by omega) e8 hW hS (lv_sub hl [0, 1, 2] rfl) (fun wr H locs ls he hW hS hl => kk wr H locs ls (e9.trans he) hW hS hl)
def w_X4_forgetGiven (S : TS) (w : TW) (fl : Nat) (k : Nat) : TW := if (v_X4_leastGiven S w.1 w.2.1 w.2.2 fl k) ≤ 0 then w else if (v_X4_leastGiven S w.1 w.2.1 w.2.2 fl k) < ((v_X6_length S w.1 w.2.1 w.2.2 (ri fl k)) / 2) then w else zlet (zrw w (ri fl k) (qrem (w.2.2 (ri fl k)) 0 ((v_X4_leastGiven S w.1 w.2.1 w.2.2 fl k).toNatClampNeg))) (fun w3 => zlet (r_X4_forgetGiven S fl k (v_X4_leastGiven S w.1 w.2.1 w.2.2 fl k) ((och S k).length) 0 w3) (fun w4 => w4))
theorem m_X4_forgetGiven (S : TS) (w : TW) (fl : Nat) (k : Nat) : zle w (w_X4_forgetGiven S w fl k) := by
  unfold w_X4_forgetGiven
  exact (zP_if (P := (zle (w))) zle.rf (zP_if (P := (zle (w))) zle.rf (zP_let (P := (zle (w))) (zle (w)) (zle.tr zle.rf (zle.row (mq_remove _ _ _))) (fun w3 h8_ => (zP_let (P := (zle (w))) (zle (w)) (zle.tr h8_ (mr_X4_forgetGiven _ _ _ _ _ _ _)) (fun w4 h8__ => h8__))))))
theorem g_X4_forgetGiven (S : TS) (w : TW) (fl : Nat) (k : Nat) : (w_X4_forgetGiven S w fl k).2.1 = w.2.1 := by
  unfold w_X4_forgetGiven
  exact (zP_if (P := (fun (b : TW) => b.2.1 = w.2.1)) rfl (zP_if (P := (fun (b : TW) => b.2.1 = w.2.1)) rfl (zP_let (P := (fun (b : TW) => b.2.1 = w.2.1)) (fun (b : TW) => b.2.1 = w.2.1) rfl (fun w3 h8_ => (zP_let (P := (fun (b : TW) => b.2.1 = w.2.1)) (fun (b : TW) => b.2.1 = w.2.1) ((gr_X4_forgetGiven _ _ _ _ _ _ _).trans h8_) (fun w4 h8__ => h8__))))))
set_option maxHeartbeats 4000000 in
set_option maxRecDepth 100000 in
theorem k_X4_forgetGiven (l : Launch) (D : va_G) (yc : Nat → ClassId) (e0 : Nat) (A : Nat → Prop) (S : TS) (Z : Nat × Nat) (Tc Ts : Nat) (w : TW) (cN zN : Nat) (fl : Nat) (k : Nat) (hf : fl < 2) (hk : k < zn S) (hB : ZB Z Tc Ts (w_X4_forgetGiven S w fl k)) : Met l yX4_forgetGiven (ws_ yX4_forgetGiven cX4_forgetGiven 3 none) { frames := 4, cells := Tc - cN, slots := Ts - zN, locals := 86 } (PM D yc e0 A S Z w cN zN [.ref (zg S 3 fl k)]) (tQv D yc e0 A S Z (w_X4_forgetGiven S w fl k)) (Tc - cN) (Ts - zN) A := by
  have hB0 : ZB Z Tc Ts w := hB.mono (m_X4_forgetGiven _ _ _ _)
  refine tk_W hB0 (by decide) (Nat.le_of_ble_eq_true rfl) ?_
  intro p e s m args below meth c ls H locs hx hb hml hr hlk hown hts hW hS hA hC hl
  have hK := hC.1
  have hN := hC.2.1
  have hn12 := hW.n12
  skip
  have hl : lv_has ls 3 [(0, .ref (zg S 3 fl k))] := hl
  refine lv_aload_n hx hb dX4_forgetGiven_0 rfl (lv_at hl 0 rfl) ?_
  refine zr_i (va_runV (As := []) (rest := []) ⟨hx, hb, hml, hown, hts⟩ (k_X4_leastGiven l D yc e0 A S Z w.1 w.2.1 w.2.2 fl k (by first | assumption | omega | decide) (by first | assumption | omega | decide)) (cwV 0 hts (lw_V wq291 wq293 ws5 wq21 wq295) rfl rfl rfl (by decide +kernel) ⟨(Nat.le_of_ble_eq_true rfl), (Nat.le_of_ble_eq_true rfl)⟩) (tp_V hC hW hS hA 3 fl k (dm3 (by omega) (by omega)) rfl rfl) rfl rfl hl.1 rfl (lv_room (Nat.le_of_ble_eq_true rfl)) dX4_forgetGiven_1 ⟨(Nat.le_refl _), (Nat.le_refl _)⟩) ?_
  refine lv_istore_n (lv' := [(1, .int (v_X4_leastGiven S w.1 w.2.1 w.2.2 fl k)), (0, .ref (zg S 3 fl k))]) hx hb dX4_forgetGiven_4 rfl hl (by decide) rfl (fun ls hl => ?_)
  refine lv_iload_n hx hb dX4_forgetGiven_5 rfl (lv_at hl 0 rfl) ?_
  refine lv_if_le (tgt := 70) hx hb dX4_forgetGiven_6 (by decide) (fun hb1 => ?_) (fun hb1 => ?_)
  · exact tx_v hx hb hr hlk hS hW (zif_p hb1 rfl) dX4_forgetGiven_70
  · refine lv_iload_n hx hb dX4_forgetGiven_9 rfl (lv_at hl 0 rfl) ?_
    refine lv_aload_n hx hb dX4_forgetGiven_10 rfl (lv_at hl 1 rfl) ?_
    refine t_get (D := D) (ci := 3) (v := .ref (zr S (ri fl k))) (C := RX4) (T := TX4) (N := 2) hx hb hts iX4 hown hK hW 3 fl k (dm3 (by omega) (by omega)) rfl rfl 0 (by decide) (hts _ wq1016) (fun _ h9 => h9) rfl dX4_forgetGiven_11 ?_
    refine zr_i (va_runV (As := []) (rest := [.int (v_X4_leastGiven S w.1 w.2.1 w.2.2 fl k)]) ⟨hx, hb, hml, hown, hts⟩ (k_X6_length l D yc e0 A S Z w.1 w.2.1 w.2.2 (ri fl k) (dr_i hW.n12 (by omega) (by omega))) (cwV 0 hts (lw_V wq290 wq266 wq267 wq15 wq268) rfl rfl rfl (by decide +kernel) ⟨(Nat.le_of_ble_eq_true rfl), (Nat.le_of_ble_eq_true rfl)⟩) (tp_R hC hW hS hA (ri fl k) (dr_i hW.n12 (by omega) (by omega))) rfl rfl hl.1 rfl (lv_room (Nat.le_of_ble_eq_true rfl)) dX4_forgetGiven_14 ⟨(Nat.le_refl _), (Nat.le_refl _)⟩) ?_
    refine lv_iconst (v := 2) hx hb dX4_forgetGiven_17 (by decide) ?_
    refine lv_idiv hx hb dX4_forgetGiven_18 (by decide) ?_
    refine lv_icmp_lt (tgt := 70) hx hb dX4_forgetGiven_19 (by decide) (fun hb2 => ?_) (fun hb2 => ?_)
    · exact tx_v hx hb hr hlk hS hW (zif_n hb1 (zif_p hb2 rfl)) dX4_forgetGiven_70
    · refine lv_aload_n hx hb dX4_forgetGiven_22 rfl (lv_at hl 1 rfl) ?_
      refine t_get (D := D) (ci := 3) (v := .ref (zr S (ri fl k))) (C := RX4) (T := TX4) (N := 2) hx hb hts iX4 hown hK hW 3 fl k (dm3 (by omega) (by omega)) rfl rfl 0 (by decide) (hts _ wq1016) (fun _ h9 => h9) rfl dX4_forgetGiven_23 ?_
      refine lv_iconst (v := 0) hx hb dX4_forgetGiven_26 (by decide) ?_
      refine zk_ti (y := nI 0) rfl ?_
      refine lv_iload_n hx hb dX4_forgetGiven_27 rfl (lv_at hl 0 rfl) ?_
      refine zk_ti (y := nI (v_X4_leastGiven S w.1 w.2.1 w.2.2 fl k).toNatClampNeg) (znn (zle0 (by assumption))) ?_
      have hB_w3 : ZB Z Tc Ts (zrw w (ri fl k) (qrem (w.2.2 (ri fl k)) 0 ((v_X4_leastGiven S w.1 w.2.1 w.2.2 fl k).toNatClampNeg))) := hB.mono (zP_n (P := (zle (zrw w (ri fl k) (qrem (w.2.2 (ri fl k)) 0 ((v_X4_leastGiven S w.1 w.2.1 w.2.2 fl k).toNatClampNeg))))) hb1 (zP_n (P := (zle (zrw w (ri fl k) (qrem (w.2.2 (ri fl k)) 0 ((v_X4_leastGiven S w.1 w.2.1 w.2.2 fl k).toNatClampNeg))))) hb2 (zP_let (P := (zle (zrw w (ri fl k) (qrem (w.2.2 (ri fl k)) 0 ((v_X4_leastGiven S w.1 w.2.1 w.2.2 fl k).toNatClampNeg))))) (zle (zrw w (ri fl k) (qrem (w.2.2 (ri fl k)) 0 ((v_X4_leastGiven S w.1 w.2.1 w.2.2 fl k).toNatClampNeg)))) zle.rf (fun w3 h8 => (zP_let (P := (zle (zrw w (ri fl k) (qrem (w.2.2 (ri fl k)) 0 ((v_X4_leastGiven S w.1 w.2.1 w.2.2 fl k).toNatClampNeg))))) (zle (zrw w (ri fl k) (qrem (w.2.2 (ri fl k)) 0 ((v_X4_leastGiven S w.1 w.2.1 w.2.2 fl k).toNatClampNeg)))) (zle.tr h8 (mr_X4_forgetGiven _ _ _ _ _ _ _)) (fun w4 h8_ => h8_))))))
      refine tw_v hB_w3 ⟨rfl, rfl⟩ (hB0.top hW) (fun hle9 => va_runV (As := [.int (nI 0), .int (nI ((v_X4_leastGiven S w.1 w.2.1 w.2.2 fl k).toNatClampNeg))]) (rest := []) ⟨hx, hb, hml, hown, hts⟩ (k_X6_remove l D yc e0 A S Z Tc Ts w H.size (zh H) (ri fl k) 0 ((v_X4_leastGiven S w.1 w.2.1 w.2.2 fl k).toNatClampNeg) (dr_i hW.n12 (by omega) (by omega)) (by decide) (znl _) hB_w3) (cwV 2 hts (lw_V wq321 wq322 wq323 wq15 wq324) rfl rfl rfl (by decide +kernel) ⟨(Nat.le_of_ble_eq_true rfl), (Nat.le_of_ble_eq_true rfl)⟩) (tq_R hC hW hS hA (ri fl k) (dr_i hW.n12 (by omega) (by omega))) rfl rfl hl.1 rfl (lv_room (Nat.le_of_ble_eq_true rfl)) dX4_forgetGiven_28 hle9) hS (fun H locs hW hS => ?_)
      obtain ⟨w3, hw3, hW, hB_w3⟩ : ∃ ww : TW, zrw w (ri fl k) (qrem (w.2.2 (ri fl k)) 0 ((v_X4_leastGiven S w.1 w.2.1 w.2.2 fl k).toNatClampNeg)) = ww ∧ WT D yc e0 A S Z ww.1 ww.2.1 ww.2.2 H ∧ ZB Z Tc Ts ww := ⟨_, rfl, hW, hB_w3⟩
      refine lv_iconst (v := 0) hx hb dX4_forgetGiven_31 (by decide) ?_
      refine lv_istore_n (lv' := [(2, .int 0), (1, .int (v_X4_leastGiven S w.1 w.2.1 w.2.2 fl k)), (0, .ref (zg S 3 fl k))]) hx hb dX4_forgetGiven_32 rfl hl (by decide) rfl (fun ls hl => ?_)
      have hB_w4 : ZB Z Tc Ts (r_X4_forgetGiven S fl k (v_X4_leastGiven S w.1 w.2.1 w.2.2 fl k) ((och S k).length) 0 w3) := hB.mono (zP_n (P := (zle (r_X4_forgetGiven S fl k (v_X4_leastGiven S w.1 w.2.1 w.2.2 fl k) ((och S k).length) 0 w3))) hb1 (zP_n (P := (zle (r_X4_forgetGiven S fl k (v_X4_leastGiven S w.1 w.2.1 w.2.2 fl k) ((och S k).length) 0 w3))) hb2 (zP_l (P := (zle (r_X4_forgetGiven S fl k (v_X4_leastGiven S w.1 w.2.1 w.2.2 fl k) ((och S k).length) 0 w3))) hw3 (zP_let (P := (zle (r_X4_forgetGiven S fl k (v_X4_leastGiven S w.1 w.2.1 w.2.2 fl k) ((och S k).length) 0 w3))) (zle (r_X4_forgetGiven S fl k (v_X4_leastGiven S w.1 w.2.1 w.2.2 fl k) ((och S k).length) 0 w3)) zle.rf (fun w4 h8 => h8)))))
      refine lp_X4_forgetGiven fl k (v_X4_leastGiven S w.1 w.2.1 w.2.2 fl k) hf hk hx hb hml hr hlk hown hts hA hC ((och S k).length) 0 w3 H locs _ (Nat.zero_add _) hB_w4 hW hS (lv_sub hl [0, 1, 2] rfl) (fun w4 H locs ls hw4 hW hS hl => ?_)
      have hB_w4 : ZB Z Tc Ts w4 := by rw [← hw4]; exact hB_w4
      exact tx_v hx hb hr hlk hS hW (zif_n hb1 (zif_n hb2 (zlet_e hw3 (zlet_e hw4 rfl)))) dX4_forgetGiven_70
def r_X4_empty (S : TS) (fl : Nat) (k : Nat) : Nat → Nat → TW → TW
  | 0, i, w => w
  | n + 1, i, w => zlet (zset w ((ochd S k i).1) fl ((ochd S k i).2) 1 0) (fun w2 => zlet (zset w2 ((ochd S k i).1) fl ((ochd S k i).2) 2 0) (fun w3 => r_X4_empty S fl k n (i + 1) w3))
theorem er_X4_empty (S : TS) (fl : Nat) (k : Nat) (n : Nat) (i : Nat) (w : TW) : r_X4_empty S fl k (n + 1) i w = zlet (zset w ((ochd S k i).1) fl ((ochd S k i).2) 1 0) (fun w2 => zlet (zset w2 ((ochd S k i).1) fl ((ochd S k i).2) 2 0) (fun w3 => r_X4_empty S fl k n (i + 1) w3)) := rfl
theorem mr_X4_empty (S : TS) (fl : Nat) (k : Nat) : ∀ (n : Nat) (i : Nat) (w : TW), zle w ((r_X4_empty S fl k n i w)) := by
  intro n
  induction n with
  | zero => intro i w; exact zle.rf
  | succ n ih =>
    intro i w
    rw [er_X4_empty]
    exact (zP_let (P := (zle (w))) (zle (w)) (zle.to zle.rf rfl) (fun w2 h8_ => (zP_let (P := (zle (w))) (zle (w)) (zle.to h8_ rfl) (fun w3 h8__ => (zle.tr h8__ (ih _ _))))))
theorem gr_X4_empty (S : TS) (fl : Nat) (k : Nat) : ∀ (n : Nat) (i : Nat) (w : TW), ((r_X4_empty S fl k n i w)).2.1 = w.2.1 := by
  intro n
  induction n with
  | zero => intro i w; rfl
  | succ n ih =>
    intro i w
    rw [er_X4_empty]
    exact (zP_let (P := (fun (b : TW) => b.2.1 = w.2.1)) (fun (b : TW) => b.2.1 = w.2.1) rfl (fun w2 h8_ => (zP_let (P := (fun (b : TW) => b.2.1 = w.2.1)) (fun (b : TW) => b.2.1 = w.2.1) h8_ (fun w3 h8__ => ((ih _ _).trans h8__)))))
set_option maxHeartbeats 4000000 in
set_option maxRecDepth 100000 in
theorem lp_X4_empty {p : Program} {e : Env} {s : State} {m : MethodId} {args : Array Value} {below : List Frame} {meth : Method} {c : Code} {l : Launch} {D : va_G} {yc : Nat → ClassId} {e0 : Nat} {A : Nat → Prop} {S : TS} {Z : Nat × Nat} {Tc Ts : Nat} (fl : Nat) (k : Nat) (hf : fl < 2) (hk : k < zn S) (hx : p.tables.exec = Jvm.exec) (hb : c.code = cX4_empty) (hml : c.maxLocals = 3) (hr : meth.sig.returnType = none) (hlk : meth.locks = false) (hown : s.vm.findClass yX4_empty.cls = some m.cls) (hts : ∀ w ∈ lw_all, w.before args s = true) (hA : ∀ a, s.heap.size ≤ a → A a) (hC : CX D yc e0 A s) {Q : State → Prop} : ∀ (n : Nat) (i : Nat) (w : TW) (H : Heap) (locs : List Loc) (ls : Array Slot), i + n = (och S k).length → ZB Z Tc Ts ((r_X4_empty S fl k n i w)) → WT D yc e0 A S Z w.1 w.2.1 w.2.2 H → va_S A s.heap H locs → lv_has ls 3 [(1, .int (nI i)), (0, .ref (zg S 3 fl k))] → (∀ (wr : TW) (H : Heap) (locs : List Loc) (ls : Array Slot), r_X4_empty S fl k n i w = wr → WT D yc e0 A S Z wr.1 wr.2.1 wr.2.2 H → va_S A s.heap H locs → lv_has ls 3 [(0, .ref (zg S 3 fl k))] → W p l e { frames := 3, cells := Tc - s.heap.size, slots := Ts - zh s.heap, locals := 64 } s m args below meth c H locs (Tc - s.heap.size) (Ts - zh s.heap) Q (F0 m 49 ls [])) → W p l e { frames := 3, cells := Tc - s.heap.size, slots := Ts - zh s.heap, locals := 64 } s m args below meth c H locs (Tc - s.heap.size) (Ts - zh s.heap) Q (F0 m 10 ls []) := by
  have hK := hC.1
  have hN := hC.2.1
  intro n
  induction n with
  | zero =>
    intro i w H locs ls hinv hB hW hS hl kk
    have hB0 : ZB Z Tc Ts w := hB
    have hn12 := hW.n12
    have hol := och_len S k
    refine lv_iload_n hx hb dX4_empty_10 rfl (lv_at hl 0 rfl) ?_
    refine lv_aload_n hx hb dX4_empty_11 rfl (lv_at hl 1 rfl) ?_
    refine t_get (D := D) (ci := 3) (v := .ref (zl S 1 fl k)) (C := RX4) (T := TX4) (N := 2) hx hb hts iX4 hown hK hW 3 fl k (dm3 (by omega) (by omega)) rfl rfl 1 (by decide) (hts _ wq1018) (fun _ h9 => h9) rfl dX4_empty_12 ?_
    refine zr_i (va_runV (As := []) (rest := [.int (nI i)]) ⟨hx, hb, hml, hown, hts⟩ (k_AL_size l D yc e0 A S Z w.1 w.2.1 w.2.2 1 fl k (dl1 (by omega) (by omega))) (cwV 0 hts (lw_V wq296 wq120 wq121 wq5 wq122) rfl rfl rfl (by decide +kernel) ⟨(Nat.le_of_ble_eq_true rfl), (Nat.le_of_ble_eq_true rfl)⟩) (tp_L hC hW hS hA 1 fl k (dl1 (by omega) (by omega))) rfl rfl hl.1 rfl (lv_room (Nat.le_of_ble_eq_true rfl)) dX4_empty_15 ⟨(Nat.le_refl _), (Nat.le_refl _)⟩) ?_
    refine zk_ti (y := nI (och S k).length) rfl ?_
    refine lv_icmp_ge (tgt := 49) hx hb dX4_empty_18 (by decide) (fun _ => ?_) (fun h9 => absurd (nI_le (by omega) (by omega)) h9)
    exact kk w H locs _ rfl hW hS (lv_sub hl [1] rfl)
  | succ n ih =>
    intro i w H locs ls hinv hB hW hS hl kk
    rw [er_X4_empty] at hB
    have hB0 : ZB Z Tc Ts w := hB.mono (zP_let (P := (zle (w))) (zle (w)) (zle.to zle.rf rfl) (fun w2 h8_ => (zP_let (P := (zle (w))) (zle (w)) (zle.to h8_ rfl) (fun w3 h8__ => (zle.tr h8__ (mr_X4_empty _ _ _ _ _ _))))))
    have hn12 := hW.n12
    have hol := och_len S k
    refine lv_iload_n hx hb dX4_empty_10 rfl (lv_at hl 0 rfl) ?_
    refine lv_aload_n hx hb dX4_empty_11 rfl (lv_at hl 1 rfl) ?_
    refine t_get (D := D) (ci := 3) (v := .ref (zl S 1 fl k)) (C := RX4) (T := TX4) (N := 2) hx hb hts iX4 hown hK hW 3 fl k (dm3 (by omega) (by omega)) rfl rfl 1 (by decide) (hts _ wq1018) (fun _ h9 => h9) rfl dX4_empty_12 ?_
    refine zr_i (va_runV (As := []) (rest := [.int (nI i)]) ⟨hx, hb, hml, hown, hts⟩ (k_AL_size l D yc e0 A S Z w.1 w.2.1 w.2.2 1 fl k (dl1 (by omega) (by omega))) (cwV 0 hts (lw_V wq296 wq120 wq121 wq5 wq122) rfl rfl rfl (by decide +kernel) ⟨(Nat.le_of_ble_eq_true rfl), (Nat.le_of_ble_eq_true rfl)⟩) (tp_L hC hW hS hA 1 fl k (dl1 (by omega) (by omega))) rfl rfl hl.1 rfl (lv_room (Nat.le_of_ble_eq_true rfl)) dX4_empty_15 ⟨(Nat.le_refl _), (Nat.le_refl _)⟩) ?_
    refine zk_ti (y := nI (och S k).length) rfl ?_
    refine lv_icmp_ge (tgt := 49) hx hb dX4_empty_18 (by decide) (fun h9 => absurd h9 (nI_ge (by omega) (by omega))) (fun _ => ?_)
    refine lv_aload_n hx hb dX4_empty_21 rfl (lv_at hl 1 rfl) ?_
    refine t_get (D := D) (ci := 3) (v := .ref (zl S 1 fl k)) (C := RX4) (T := TX4) (N := 2) hx hb hts iX4 hown hK hW 3 fl k (dm3 (by omega) (by omega)) rfl rfl 1 (by decide) (hts _ wq1018) (fun _ h9 => h9) rfl dX4_empty_22 ?_
    refine lv_iload_n hx hb dX4_empty_25 rfl (lv_at hl 0 rfl) ?_
    refine zr_q (va_runV (As := [.int (nI i)]) (rest := []) ⟨hx, hb, hml, hown, hts⟩ (k_AL_get l D yc e0 A S Z w.1 w.2.1 w.2.2 1 fl k i (dl1 (by omega) (by omega)) (show i < (och S k).length by omega)) (cwV 1 hts (lw_V wq297 wq228 wq229 wq5 wq230) rfl rfl rfl (by decide +kernel) ⟨(Nat.le_of_ble_eq_true rfl), (Nat.le_of_ble_eq_true rfl)⟩) (tp_L hC hW hS hA 1 fl k (dl1 (by omega) (by omega))) rfl rfl hl.1 rfl (lv_room (Nat.le_of_ble_eq_true rfl)) dX4_empty_26 ⟨(Nat.le_refl _), (Nat.le_refl _)⟩) ?_
    obtain ⟨hc1a, hc1b, hc1c⟩ := och_ok (S := S) (k := k) (i := i) (fl := fl) (by omega) (by first | assumption | omega)
    refine zk_tv (y := .ref (zg S ((ochd S k i).1) fl ((ochd S k i).2))) rfl ?_
    refine va_castS hx hb hown (hts _ wq298) (hK.1 1 _ rfl).2 (t_cell hK hW ((ochd S k i).1) fl ((ochd S k i).2) hc1b (cel_ch hc1a) rfl) dX4_empty_29 ?_
    refine lv_astore_n (lv' := [(2, .ref (zg S ((ochd S k i).1) fl ((ochd S k i).2))), (1, .int (nI i)), (0, .ref (zg S 3 fl k))]) hx hb dX4_empty_32 rfl hl (by decide) rfl (fun ls hl => ?_)
    refine lv_aload_n hx hb dX4_empty_33 rfl (lv_at hl 0 rfl) ?_
    refine lv_iconst (v := 0) hx hb dX4_empty_34 (by decide) ?_
    refine t_putN (D := D) (ci := 1) (v := .int 0) (ty := .int) (C := RX1) (T := TX1) (N := 3) hx hb hts iX1 tyX1 tyX1_ok nmX1 hown hK hW hS ((ochd S k i).1) fl ((ochd S k i).2) hc1b (cel_ch hc1a) rfl 1 (by decide) (zk_tab rfl (hN _ wr939 rfl)) (fun _ h9 => h9) rfl (by decide +kernel) rfl rfl (Nat.le_of_ble_eq_true rfl) (fun j9 => if j9 = 1 then 0 else w.1 ((ochd S k i).1) fl ((ochd S k i).2) j9) w.2.1 ((cel_ch hc1a).trans rfl) (fun _ _ _ => rfl) (zbit (fun j9 h9 => hW.bit _ _ _ j9 h9) (fun h9 => absurd h9 (zib_c1 hc1a))) dX4_empty_35 (fun H locs hW hS => ?_)
    obtain ⟨w2, hw2, hW, hB_w2⟩ : ∃ ww : TW, zset w ((ochd S k i).1) fl ((ochd S k i).2) 1 0 = ww ∧ WT D yc e0 A S Z ww.1 ww.2.1 ww.2.2 H ∧ ZB Z Tc Ts ww := ⟨_, rfl, hW, hB0⟩
    refine lv_aload_n hx hb dX4_empty_38 rfl (lv_at hl 0 rfl) ?_
    refine lv_iconst (v := 0) hx hb dX4_empty_39 (by decide) ?_
    refine t_putN (D := D) (ci := 1) (v := .int 0) (ty := .boolean) (C := RX1) (T := TX1) (N := 3) hx hb hts iX1 tyX1 tyX1_ok nmX1 hown hK hW hS ((ochd S k i).1) fl ((ochd S k i).2) hc1b (cel_ch hc1a) rfl 2 (by decide) (zk_tab rfl (hN _ wr941 rfl)) (fun _ h9 => h9) rfl (by decide +kernel) rfl rfl (Nat.le_of_ble_eq_true rfl) (fun j9 => if j9 = 2 then 0 else w2.1 ((ochd S k i).1) fl ((ochd S k i).2) j9) w2.2.1 ((cel_ch hc1a).trans rfl) (fun _ _ _ => rfl) (zbit (fun j9 h9 => hW.bit _ _ _ j9 h9) (fun _ => (by decide))) dX4_empty_40 (fun H locs hW hS => ?_)
    obtain ⟨w3, hw3, hW, hB_w3⟩ : ∃ ww : TW, zset w2 ((ochd S k i).1) fl ((ochd S k i).2) 2 0 = ww ∧ WT D yc e0 A S Z ww.1 ww.2.1 ww.2.2 H ∧ ZB Z Tc Ts ww := ⟨_, rfl, hW, hB_w2⟩
    refine lv_iinc (v := nI (i + 1)) (lv' := [(1, .int (nI (i + 1))), (2, .ref (zg S ((ochd S k i).1) fl ((ochd S k i).2))), (0, .ref (zg S 3 fl k))]) hx hb dX4_empty_43 hl (k := 1) rfl (nI_1 _) (by decide) rfl (fun ls hl => ?_)
    refine lv_goto (tgt := 10) hx hb dX4_empty_46 (by decide) ?_
    have e9 : r_X4_empty S fl k (n + 1) i w = r_X4_empty S fl k n (i + 1) w3 := (er_X4_empty _ _ _ _ _ _).trans (zlet_e hw2 (zlet_e hw3 rfl))
    have e8 : ZB Z Tc Ts ((r_X4_empty S fl k n (i + 1) w3)) := by rw [← e9, er_X4_empty]; exact hB
    exact ih (i + 1) w3 H locs _ (by omega) e8 hW hS (lv_sub hl [0, 2] rfl) (fun wr H locs ls he hW hS hl => kk wr H locs ls (e9.trans he) hW hS hl)
def w_X4_empty (S : TS) (w : TW) (fl : Nat) (k : Nat) : TW := zlet (zrw w (ri fl k) (qsho (w.2.2 (ri fl k)) 0)) (fun w1 => zlet (r_X4_empty S fl k ((och S k).length) 0 w1) (fun w2 => w2))
theorem m_X4_empty (S : TS) (w : TW) (fl : Nat) (k : Nat) : zle w (w_X4_empty S w fl k) := by
  unfold w_X4_empty
  exact (zP_let (P := (zle (w))) (zle (w)) (zle.tr zle.rf (zle.row (mq_shorten _ _))) (fun w1 h8_ => (zP_let (P := (zle (w))) (zle (w)) (zle.tr h8_ (mr_X4_empty _ _ _ _ _ _)) (fun w2 h8__ => h8__))))
theorem g_X4_empty (S : TS) (w : TW) (fl : Nat) (k : Nat) : (w_X4_empty S w fl k).2.1 = w.2.1 := by
  unfold w_X4_empty
  exact (zP_let (P := (fun (b : TW) => b.2.1 = w.2.1)) (fun (b : TW) => b.2.1 = w.2.1) rfl (fun w1 h8_ => (zP_let (P := (fun (b : TW) => b.2.1 = w.2.1)) (fun (b : TW) => b.2.1 = w.2.1) ((gr_X4_empty _ _ _ _ _ _).trans h8_) (fun w2 h8__ => h8__))))
set_option maxHeartbeats 4000000 in
set_option maxRecDepth 100000 in
theorem k_X4_empty (l : Launch) (D : va_G) (yc : Nat → ClassId) (e0 : Nat) (A : Nat → Prop) (S : TS) (Z : Nat × Nat) (Tc Ts : Nat) (w : TW) (cN zN : Nat) (fl : Nat) (k : Nat) (hf : fl < 2) (hk : k < zn S) (hB : ZB Z Tc Ts (w_X4_empty S w fl k)) : Met l yX4_empty (ws_ yX4_empty cX4_empty 3 none) { frames := 3, cells := Tc - cN, slots := Ts - zN, locals := 64 } (PM D yc e0 A S Z w cN zN [.ref (zg S 3 fl k)]) (tQv D yc e0 A S Z (w_X4_empty S w fl k)) (Tc - cN) (Ts - zN) A := by
  have hB0 : ZB Z Tc Ts w := hB.mono (m_X4_empty _ _ _ _)
  refine tk_W hB0 (by decide) (Nat.le_of_ble_eq_true rfl) ?_
  intro p e s m args below meth c ls H locs hx hb hml hr hlk hown hts hW hS hA hC hl
  have hK := hC.1
  have hN := hC.2.1
  have hn12 := hW.n12
  skip
  have hl : lv_has ls 3 [(0, .ref (zg S 3 fl k))] := hl
  refine lv_aload_n hx hb dX4_empty_0 rfl (lv_at hl 0 rfl) ?_
  refine t_get (D := D) (ci := 3) (v := .ref (zr S (ri fl k))) (C := RX4) (T := TX4) (N := 2) hx hb hts iX4 hown hK hW 3 fl k (dm3 (by omega) (by omega)) rfl rfl 0 (by decide) (hts _ wq1016) (fun _ h9 => h9) rfl dX4_empty_1 ?_
  refine lv_iconst (v := 0) hx hb dX4_empty_4 (by decide) ?_
  have hB_w1 : ZB Z Tc Ts (zrw w (ri fl k) (qsho (w.2.2 (ri fl k)) 0)) := hB.mono (zP_let (P := (zle (zrw w (ri fl k) (qsho (w.2.2 (ri fl k)) 0)))) (zle (zrw w (ri fl k) (qsho (w.2.2 (ri fl k)) 0))) zle.rf (fun w1 h8 => (zP_let (P := (zle (zrw w (ri fl k) (qsho (w.2.2 (ri fl k)) 0)))) (zle (zrw w (ri fl k) (qsho (w.2.2 (ri fl k)) 0))) (zle.tr h8 (mr_X4_empty _ _ _ _ _ _)) (fun w2 h8_ => h8_))))
  refine tw_v hB_w1 ⟨rfl, rfl⟩ (hB0.top hW) (fun hle9 => va_runV (As := [.int 0]) (rest := []) ⟨hx, hb, hml, hown, hts⟩ (k_X6_shorten l D yc e0 A S Z Tc Ts w H.size (zh H) (ri fl k) 0 (dr_i hW.n12 (by omega) (by omega)) hB_w1) (cwV 1 hts (lw_V wq622 wq615 wq616 wq15 wq617) rfl rfl rfl (by decide +kernel) ⟨(Nat.le_of_ble_eq_true rfl), (Nat.le_of_ble_eq_true rfl)⟩) (tq_R hC hW hS hA (ri fl k) (dr_i hW.n12 (by omega) (by omega))) rfl rfl hl.1 rfl (lv_room (Nat.le_of_ble_eq_true rfl)) dX4_empty_5 hle9) hS (fun H locs hW hS => ?_)
  obtain ⟨w1, hw1, hW, hB_w1⟩ : ∃ ww : TW, zrw w (ri fl k) (qsho (w.2.2 (ri fl k)) 0) = ww ∧ WT D yc e0 A S Z ww.1 ww.2.1 ww.2.2 H ∧ ZB Z Tc Ts ww := ⟨_, rfl, hW, hB_w1⟩
  refine lv_iconst (v := 0) hx hb dX4_empty_8 (by decide) ?_
  refine lv_istore_n (lv' := [(1, .int 0), (0, .ref (zg S 3 fl k))]) hx hb dX4_empty_9 rfl hl (by decide) rfl (fun ls hl => ?_)
  have hB_w2 : ZB Z Tc Ts (r_X4_empty S fl k ((och S k).length) 0 w1) := hB.mono (zP_l (P := (zle (r_X4_empty S fl k ((och S k).length) 0 w1))) hw1 (zP_let (P := (zle (r_X4_empty S fl k ((och S k).length) 0 w1))) (zle (r_X4_empty S fl k ((och S k).length) 0 w1)) zle.rf (fun w2 h8 => h8)))
  refine lp_X4_empty fl k hf hk hx hb hml hr hlk hown hts hA hC ((och S k).length) 0 w1 H locs _ (Nat.zero_add _) hB_w2 hW hS (lv_sub hl [0, 1] rfl) (fun w2 H locs ls hw2 hW hS hl => ?_)
  have hB_w2 : ZB Z Tc Ts w2 := by rw [← hw2]; exact hB_w2
  exact tx_v hx hb hr hlk hS hW (zlet_e hw1 (zlet_e hw2 rfl)) dX4_empty_49
def r_X4_become (S : TS) (fl : Nat) (k : Nat) (fl2 : Nat) (gv : Int32) : Nat → Nat → TW → TW
  | 0, i, w => w
  | n + 1, i, w => zlet (zset w ((ochd S k i).1) fl ((ochd S k i).2) 1 ((w.1 ((ochd S k i).1) fl2 ((ochd S k i).2) 1) - gv)) (fun w3 => zlet (zset w3 ((ochd S k i).1) fl ((ochd S k i).2) 2 (w3.1 ((ochd S k i).1) fl2 ((ochd S k i).2) 2)) (fun w4 => r_X4_become S fl k fl2 gv n (i + 1) w4))
theorem er_X4_become (S : TS) (fl : Nat) (k : Nat) (fl2 : Nat) (gv : Int32) (n : Nat) (i : Nat) (w : TW) : r_X4_become S fl k fl2 gv (n + 1) i w = zlet (zset w ((ochd S k i).1) fl ((ochd S k i).2) 1 ((w.1 ((ochd S k i).1) fl2 ((ochd S k i).2) 1) - gv)) (fun w3 => zlet (zset w3 ((ochd S k i).1) fl ((ochd S k i).2) 2 (w3.1 ((ochd S k i).1) fl2 ((ochd S k i).2) 2)) (fun w4 => r_X4_become S fl k fl2 gv n (i + 1) w4)) := rfl
theorem mr_X4_become (S : TS) (fl : Nat) (k : Nat) (fl2 : Nat) (gv : Int32) : ∀ (n : Nat) (i : Nat) (w : TW), zle w ((r_X4_become S fl k fl2 gv n i w)) := by
  intro n
  induction n with
  | zero => intro i w; exact zle.rf
  | succ n ih =>
    intro i w
    rw [er_X4_become]
    exact (zP_let (P := (zle (w))) (zle (w)) (zle.to zle.rf rfl) (fun w3 h8_ => (zP_let (P := (zle (w))) (zle (w)) (zle.to h8_ rfl) (fun w4 h8__ => (zle.tr h8__ (ih _ _))))))
theorem gr_X4_become (S : TS) (fl : Nat) (k : Nat) (fl2 : Nat) (gv : Int32) : ∀ (n : Nat) (i : Nat) (w : TW), ((r_X4_become S fl k fl2 gv n i w)).2.1 = w.2.1 := by
  intro n
  induction n with
  | zero => intro i w; rfl
  | succ n ih =>
    intro i w
    rw [er_X4_become]
    exact (zP_let (P := (fun (b : TW) => b.2.1 = w.2.1)) (fun (b : TW) => b.2.1 = w.2.1) rfl (fun w3 h8_ => (zP_let (P := (fun (b : TW) => b.2.1 = w.2.1)) (fun (b : TW) => b.2.1 = w.2.1) h8_ (fun w4 h8__ => ((ih _ _).trans h8__)))))
set_option maxHeartbeats 4000000 in
set_option maxRecDepth 100000 in
theorem lp_X4_become {p : Program} {e : Env} {s : State} {m : MethodId} {args : Array Value} {below : List Frame} {meth : Method} {c : Code} {l : Launch} {D : va_G} {yc : Nat → ClassId} {e0 : Nat} {A : Nat → Prop} {S : TS} {Z : Nat × Nat} {Tc Ts : Nat} (fl : Nat) (k : Nat) (fl2 : Nat) (gv : Int32) (hf : fl < 2) (hk : k < zn S) (hf2 : fl2 < 2) (hx : p.tables.exec = Jvm.exec) (hb : c.code = cX4_become) (hml : c.maxLocals = 6) (hr : meth.sig.returnType = none) (hlk : meth.locks = false) (hown : s.vm.findClass yX4_become.cls = some m.cls) (hts : ∀ w ∈ lw_all, w.before args s = true) (hA : ∀ a, s.heap.size ≤ a → A a) (hC : CX D yc e0 A s) {Q : State → Prop} : ∀ (n : Nat) (i : Nat) (w : TW) (H : Heap) (locs : List Loc) (ls : Array Slot), i + n = (och S k).length → ZB Z Tc Ts ((r_X4_become S fl k fl2 gv n i w)) → WT D yc e0 A S Z w.1 w.2.1 w.2.2 H → va_S A s.heap H locs → lv_has ls 6 [(3, .int (nI i)), (2, .int gv), (0, .ref (zg S 3 fl k)), (1, .ref (zg S 3 fl2 k))] → (∀ (wr : TW) (H : Heap) (locs : List Loc) (ls : Array Slot), r_X4_become S fl k fl2 gv n i w = wr → WT D yc e0 A S Z wr.1 wr.2.1 wr.2.2 H → va_S A s.heap H locs → lv_has ls 6 [(2, .int gv), (0, .ref (zg S 3 fl k)), (1, .ref (zg S 3 fl2 k))] → W p l e { frames := 4, cells := Tc - s.heap.size, slots := Ts - zh s.heap, locals := 86 } s m args below meth c H locs (Tc - s.heap.size) (Ts - zh s.heap) Q (F0 m 95 ls [])) → W p l e { frames := 4, cells := Tc - s.heap.size, slots := Ts - zh s.heap, locals := 86 } s m args below meth c H locs (Tc - s.heap.size) (Ts - zh s.heap) Q (F0 m 19 ls []) := by
  have hK := hC.1
  have hN := hC.2.1
  intro n
  induction n with
  | zero =>
    intro i w H locs ls hinv hB hW hS hl kk
    have hB0 : ZB Z Tc Ts w := hB
    have hn12 := hW.n12
    have hol := och_len S k
    refine lv_iload_n hx hb dX4_become_19 rfl (lv_at hl 0 rfl) ?_
    refine lv_aload_n hx hb dX4_become_20 rfl (lv_at hl 2 rfl) ?_
    refine t_get (D := D) (ci := 3) (v := .ref (zl S 1 fl k)) (C := RX4) (T := TX4) (N := 2) hx hb hts iX4 hown hK hW 3 fl k (dm3 (by omega) (by omega)) rfl rfl 1 (by decide) (hts _ wq1018) (fun _ h9 => h9) rfl dX4_become_21 ?_
    refine zr_i (va_runV (As := []) (rest := [.int (nI i)]) ⟨hx, hb, hml, hown, hts⟩ (k_AL_size l D yc e0 A S Z w.1 w.2.1 w.2.2 1 fl k (dl1 (by omega) (by omega))) (cwV 0 hts (lw_V wq296 wq120 wq121 wq5 wq122) rfl rfl rfl (by decide +kernel) ⟨(Nat.le_of_ble_eq_true rfl), (Nat.le_of_ble_eq_true rfl)⟩) (tp_L hC hW hS hA 1 fl k (dl1 (by omega) (by omega))) rfl rfl hl.1 rfl (lv_room (Nat.le_of_ble_eq_true rfl)) dX4_become_24 ⟨(Nat.le_refl _), (Nat.le_refl _)⟩) ?_
    refine zk_ti (y := nI (och S k).length) rfl ?_
    refine lv_icmp_ge (tgt := 95) hx hb dX4_become_27 (by decide) (fun _ => ?_) (fun h9 => absurd (nI_le (by omega) (by omega)) h9)
    exact kk w H locs _ rfl hW hS (lv_sub hl [1, 2, 3] rfl)
  | succ n ih =>
    intro i w H locs ls hinv hB hW hS hl kk
    rw [er_X4_become] at hB
    have hB0 : ZB Z Tc Ts w := hB.mono (zP_let (P := (zle (w))) (zle (w)) (zle.to zle.rf rfl) (fun w3 h8_ => (zP_let (P := (zle (w))) (zle (w)) (zle.to h8_ rfl) (fun w4 h8__ => (zle.tr h8__ (mr_X4_become _ _ _ _ _ _ _ _))))))
    have hn12 := hW.n12
    have hol := och_len S k
    refine lv_iload_n hx hb dX4_become_19 rfl (lv_at hl 0 rfl) ?_
    refine lv_aload_n hx hb dX4_become_20 rfl (lv_at hl 2 rfl) ?_
    refine t_get (D := D) (ci := 3) (v := .ref (zl S 1 fl k)) (C := RX4) (T := TX4) (N := 2) hx hb hts iX4 hown hK hW 3 fl k (dm3 (by omega) (by omega)) rfl rfl 1 (by decide) (hts _ wq1018) (fun _ h9 => h9) rfl dX4_become_21 ?_
    refine zr_i (va_runV (As := []) (rest := [.int (nI i)]) ⟨hx, hb, hml, hown, hts⟩ (k_AL_size l D yc e0 A S Z w.1 w.2.1 w.2.2 1 fl k (dl1 (by omega) (by omega))) (cwV 0 hts (lw_V wq296 wq120 wq121 wq5 wq122) rfl rfl rfl (by decide +kernel) ⟨(Nat.le_of_ble_eq_true rfl), (Nat.le_of_ble_eq_true rfl)⟩) (tp_L hC hW hS hA 1 fl k (dl1 (by omega) (by omega))) rfl rfl hl.1 rfl (lv_room (Nat.le_of_ble_eq_true rfl)) dX4_become_24 ⟨(Nat.le_refl _), (Nat.le_refl _)⟩) ?_
    refine zk_ti (y := nI (och S k).length) rfl ?_
    refine lv_icmp_ge (tgt := 95) hx hb dX4_become_27 (by decide) (fun h9 => absurd h9 (nI_ge (by omega) (by omega))) (fun _ => ?_)
    refine lv_iload_n hx hb dX4_become_30 rfl (lv_at hl 0 rfl) ?_
    refine lv_aload_n hx hb dX4_become_31 rfl (lv_at hl 3 rfl) ?_
    refine t_get (D := D) (ci := 3) (v := .ref (zl S 1 fl2 k)) (C := RX4) (T := TX4) (N := 2) hx hb hts iX4 hown hK hW 3 fl2 k (dm3 (by omega) (by omega)) rfl rfl 1 (by decide) (hts _ wq1018) (fun _ h9 => h9) rfl dX4_become_32 ?_
    refine zr_i (va_runV (As := []) (rest := [.int (nI i)]) ⟨hx, hb, hml, hown, hts⟩ (k_AL_size l D yc e0 A S Z w.1 w.2.1 w.2.2 1 fl2 k (dl1 (by omega) (by omega))) (cwV 0 hts (lw_V wq296 wq120 wq121 wq5 wq122) rfl rfl rfl (by decide +kernel) ⟨(Nat.le_of_ble_eq_true rfl), (Nat.le_of_ble_eq_true rfl)⟩) (tp_L hC hW hS hA 1 fl2 k (dl1 (by omega) (by omega))) rfl rfl hl.1 rfl (lv_room (Nat.le_of_ble_eq_true rfl)) dX4_become_35 ⟨(Nat.le_refl _), (Nat.le_refl _)⟩) ?_
    refine zk_ti (y := nI (och S k).length) rfl ?_
    refine lv_icmp_ge (tgt := 95) hx hb dX4_become_38 (by decide) (fun h9 => absurd h9 (nI_ge (by omega) (by omega))) (fun _ => ?_)
    refine lv_aload_n hx hb dX4_become_41 rfl (lv_at hl 2 rfl) ?_
    refine t_get (D := D) (ci := 3) (v := .ref (zl S 1 fl k)) (C := RX4) (T := TX4) (N := 2) hx hb hts iX4 hown hK hW 3 fl k (dm3 (by omega) (by omega)) rfl rfl 1 (by decide) (hts _ wq1018) (fun _ h9 => h9) rfl dX4_become_42 ?_
    refine lv_iload_n hx hb dX4_become_45 rfl (lv_at hl 0 rfl) ?_
    refine zr_q (va_runV (As := [.int (nI i)]) (rest := []) ⟨hx, hb, hml, hown, hts⟩ (k_AL_get l D yc e0 A S Z w.1 w.2.1 w.2.2 1 fl k i (dl1 (by omega) (by omega)) (show i < (och S k).length by omega)) (cwV 1 hts (lw_V wq297 wq228 wq229 wq5 wq230) rfl rfl rfl (by decide +kernel) ⟨(Nat.le_of_ble_eq_true rfl), (Nat.le_of_ble_eq_true rfl)⟩) (tp_L hC hW hS hA 1 fl k (dl1 (by omega) (by omega))) rfl rfl hl.1 rfl (lv_room (Nat.le_of_ble_eq_true rfl)) dX4_become_46 ⟨(Nat.le_refl _), (Nat.le_refl _)⟩) ?_
    obtain ⟨hc1a, hc1b, hc1c⟩ := och_ok (S := S) (k := k) (i := i) (fl := fl) (by omega) (by first | assumption | omega)
    refine zk_tv (y := .ref (zg S ((ochd S k i).1) fl ((ochd S k i).2))) rfl ?_
    refine va_castS hx hb hown (hts _ wq298) (hK.1 1 _ rfl).2 (t_cell hK hW ((ochd S k i).1) fl ((ochd S k i).2) hc1b (cel_ch hc1a) rfl) dX4_become_49 ?_
    refine lv_astore (lv' := [(4, .ref (zg S ((ochd S k i).1) fl ((ochd S k i).2))), (3, .int (nI i)), (2, .int gv), (0, .ref (zg S 3 fl k)), (1, .ref (zg S 3 fl2 k))]) hx hb dX4_become_52 hl (by decide) rfl (fun ls hl => ?_)
    refine lv_aload_n hx hb dX4_become_54 rfl (lv_at hl 4 rfl) ?_
    refine t_get (D := D) (ci := 3) (v := .ref (zl S 1 fl2 k)) (C := RX4) (T := TX4) (N := 2) hx hb hts iX4 hown hK hW 3 fl2 k (dm3 (by omega) (by omega)) rfl rfl 1 (by decide) (hts _ wq1018) (fun _ h9 => h9) rfl dX4_become_55 ?_
    refine lv_iload_n hx hb dX4_become_58 rfl (lv_at hl 1 rfl) ?_
    refine zr_q (va_runV (As := [.int (nI i)]) (rest := []) ⟨hx, hb, hml, hown, hts⟩ (k_AL_get l D yc e0 A S Z w.1 w.2.1 w.2.2 1 fl2 k i (dl1 (by omega) (by omega)) (show i < (och S k).length by omega)) (cwV 1 hts (lw_V wq297 wq228 wq229 wq5 wq230) rfl rfl rfl (by decide +kernel) ⟨(Nat.le_of_ble_eq_true rfl), (Nat.le_of_ble_eq_true rfl)⟩) (tp_L hC hW hS hA 1 fl2 k (dl1 (by omega) (by omega))) rfl rfl hl.1 rfl (lv_room (Nat.le_of_ble_eq_true rfl)) dX4_become_59 ⟨(Nat.le_refl _), (Nat.le_refl _)⟩) ?_
    obtain ⟨hc2a, hc2b, hc2c⟩ := och_ok (S := S) (k := k) (i := i) (fl := fl2) (by omega) (by first | assumption | omega)
    refine zk_tv (y := .ref (zg S ((ochd S k i).1) fl2 ((ochd S k i).2))) rfl ?_
    refine va_castS hx hb hown (hts _ wq298) (hK.1 1 _ rfl).2 (t_cell hK hW ((ochd S k i).1) fl2 ((ochd S k i).2) hc2b (cel_ch hc2a) rfl) dX4_become_62 ?_
    refine lv_astore (lv' := [(5, .ref (zg S ((ochd S k i).1) fl2 ((ochd S k i).2))), (4, .ref (zg S ((ochd S k i).1) fl ((ochd S k i).2))), (3, .int (nI i)), (2, .int gv), (0, .ref (zg S 3 fl k)), (1, .ref (zg S 3 fl2 k))]) hx hb dX4_become_65 hl (by decide) rfl (fun ls hl => ?_)
    refine lv_aload hx hb dX4_become_67 (lv_at hl 1 rfl) ?_
    refine lv_aload hx hb dX4_become_69 (lv_at hl 0 rfl) ?_
    refine t_getN (D := D) (ci := 1) (v := .int (w.1 ((ochd S k i).1) fl2 ((ochd S k i).2) 1)) (C := RX1) (T := TX1) (N := 3) hx hb hts iX1 hown hK hW ((ochd S k i).1) fl2 ((ochd S k i).2) hc2b (cel_ch hc2a) rfl 1 (by decide) (zk_tab rfl (hN _ wr939 rfl)) (fun _ h9 => h9) rfl dX4_become_71 ?_
    refine lv_iload_n hx hb dX4_become_74 rfl (lv_at hl 3 rfl) ?_
    refine lv_isub hx hb dX4_become_75 ?_
    refine t_putN (D := D) (ci := 1) (v := .int ((w.1 ((ochd S k i).1) fl2 ((ochd S k i).2) 1) - gv)) (ty := .int) (C := RX1) (T := TX1) (N := 3) hx hb hts iX1 tyX1 tyX1_ok nmX1 hown hK hW hS ((ochd S k i).1) fl ((ochd S k i).2) hc1b (cel_ch hc1a) rfl 1 (by decide) (zk_tab rfl (hN _ wr939 rfl)) (fun _ h9 => h9) rfl (by decide +kernel) rfl rfl (Nat.le_of_ble_eq_true rfl) (fun j9 => if j9 = 1 then (w.1 ((ochd S k i).1) fl2 ((ochd S k i).2) 1) - gv else w.1 ((ochd S k i).1) fl ((ochd S k i).2) j9) w.2.1 ((cel_ch hc1a).trans rfl) (fun _ _ _ => rfl) (zbit (fun j9 h9 => hW.bit _ _ _ j9 h9) (fun h9 => absurd h9 (zib_c1 hc1a))) dX4_become_76 (fun H locs hW hS => ?_)
    obtain ⟨w3, hw3, hW, hB_w3⟩ : ∃ ww : TW, zset w ((ochd S k i).1) fl ((ochd S k i).2) 1 ((w.1 ((ochd S k i).1) fl2 ((ochd S k i).2) 1) - gv) = ww ∧ WT D yc e0 A S Z ww.1 ww.2.1 ww.2.2 H ∧ ZB Z Tc Ts ww := ⟨_, rfl, hW, hB0⟩
    refine lv_aload hx hb dX4_become_79 (lv_at hl 1 rfl) ?_
    refine lv_aload hx hb dX4_become_81 (lv_at hl 0 rfl) ?_
    refine t_getN (D := D) (ci := 1) (v := .int (w3.1 ((ochd S k i).1) fl2 ((ochd S k i).2) 2)) (C := RX1) (T := TX1) (N := 3) hx hb hts iX1 hown hK hW ((ochd S k i).1) fl2 ((ochd S k i).2) hc2b (cel_ch hc2a) rfl 2 (by decide) (zk_tab rfl (hN _ wr941 rfl)) (fun _ h9 => h9) rfl dX4_become_83 ?_
    refine t_putN (D := D) (ci := 1) (v := .int (w3.1 ((ochd S k i).1) fl2 ((ochd S k i).2) 2)) (ty := .boolean) (C := RX1) (T := TX1) (N := 3) hx hb hts iX1 tyX1 tyX1_ok nmX1 hown hK hW hS ((ochd S k i).1) fl ((ochd S k i).2) hc1b (cel_ch hc1a) rfl 2 (by decide) (zk_tab rfl (hN _ wr941 rfl)) (fun _ h9 => h9) rfl (by decide +kernel) (zk_nb (hW.bit _ _ _ _ (zib_ch hc1a))) (zk_fb (hW.bit _ _ _ _ (zib_ch hc1a))) (Nat.le_of_ble_eq_true rfl) (fun j9 => if j9 = 2 then w3.1 ((ochd S k i).1) fl2 ((ochd S k i).2) 2 else w3.1 ((ochd S k i).1) fl ((ochd S k i).2) j9) w3.2.1 ((cel_ch hc1a).trans rfl) (fun _ _ _ => rfl) (zbit (fun j9 h9 => hW.bit _ _ _ j9 h9) (fun _ => (hW.bit _ _ _ _ (zib_ch hc1a)))) dX4_become_86 (fun H locs hW hS => ?_)
    obtain ⟨w4, hw4, hW, hB_w4⟩ : ∃ ww : TW, zset w3 ((ochd S k i).1) fl ((ochd S k i).2) 2 (w3.1 ((ochd S k i).1) fl2 ((ochd S k i).2) 2) = ww ∧ WT D yc e0 A S Z ww.1 ww.2.1 ww.2.2 H ∧ ZB Z Tc Ts ww := ⟨_, rfl, hW, hB_w3⟩
    refine lv_iinc (v := nI (i + 1)) (lv' := [(3, .int (nI (i + 1))), (5, .ref (zg S ((ochd S k i).1) fl2 ((ochd S k i).2))), (4, .ref (zg S ((ochd S k i).1) fl ((ochd S k i).2))), (2, .int gv), (0, .ref (zg S 3 fl k)), (1, .ref (zg S 3 fl2 k))]) hx hb dX4_become_89 hl (k := 2) rfl (nI_1 _) (by decide) rfl (fun ls hl => ?_)
    refine lv_goto (tgt := 19) hx hb dX4_become_92 (by decide) ?_
    have e9 : r_X4_become S fl k fl2 gv (n + 1) i w = r_X4_become S fl k fl2 gv n (i + 1) w4 := (er_X4_become _ _ _ _ _ _ _ _).trans (zlet_e hw3 (zlet_e hw4 rfl))
    have e8 : ZB Z Tc Ts ((r_X4_become S fl k fl2 gv n (i + 1) w4)) := by rw [← e9, er_X4_become]; exact hB
    exact ih (i + 1) w4 H locs _ (by omega) e8 hW hS (lv_sub hl [0, 3, 4, 5] rfl) (fun wr H locs ls he hW hS hl => kk wr H locs ls (e9.trans he) hW hS hl)
def w_X4_become (S : TS) (w : TW) (fl : Nat) (k : Nat) (fl2 : Nat) : TW := zlet (zrw w (ri fl k) (qbec (w.2.2 (ri fl k)) (w.2.2 (ri fl2 k)) (zfrom (v_X4_leastGiven S w.1 w.2.1 w.2.2 fl2 k) (w.2.2 (ri fl2 k)).2.length))) (fun w1 => zlet (r_X4_become S fl k fl2 (v_X4_leastGiven S w.1 w.2.1 w.2.2 fl2 k) ((och S k).length) 0 w1) (fun w2 => w2))
theorem m_X4_become (S : TS) (w : TW) (fl : Nat) (k : Nat) (fl2 : Nat) : zle w (w_X4_become S w fl k fl2) := by
  unfold w_X4_become
  exact (zP_let (P := (zle (w))) (zle (w)) (zle.tr zle.rf (zle.row (mq_become _ _ _))) (fun w1 h8_ => (zP_let (P := (zle (w))) (zle (w)) (zle.tr h8_ (mr_X4_become _ _ _ _ _ _ _ _)) (fun w2 h8__ => h8__))))
theorem g_X4_become (S : TS) (w : TW) (fl : Nat) (k : Nat) (fl2 : Nat) : (w_X4_become S w fl k fl2).2.1 = w.2.1 := by
  unfold w_X4_become
  exact (zP_let (P := (fun (b : TW) => b.2.1 = w.2.1)) (fun (b : TW) => b.2.1 = w.2.1) rfl (fun w1 h8_ => (zP_let (P := (fun (b : TW) => b.2.1 = w.2.1)) (fun (b : TW) => b.2.1 = w.2.1) ((gr_X4_become _ _ _ _ _ _ _ _).trans h8_) (fun w2 h8__ => h8__))))
set_option maxHeartbeats 4000000 in
set_option maxRecDepth 100000 in
theorem k_X4_become (l : Launch) (D : va_G) (yc : Nat → ClassId) (e0 : Nat) (A : Nat → Prop) (S : TS) (Z : Nat × Nat) (Tc Ts : Nat) (w : TW) (cN zN : Nat) (fl : Nat) (k : Nat) (fl2 : Nat) (hf : fl < 2) (hk : k < zn S) (hf2 : fl2 < 2) (hne3 : ¬ fl2 = fl) (hB : ZB Z Tc Ts (w_X4_become S w fl k fl2)) : Met l yX4_become (ws_ yX4_become cX4_become 6 none) { frames := 4, cells := Tc - cN, slots := Ts - zN, locals := 86 } (PM D yc e0 A S Z w cN zN [.ref (zg S 3 fl k), .ref (zg S 3 fl2 k)]) (tQv D yc e0 A S Z (w_X4_become S w fl k fl2)) (Tc - cN) (Ts - zN) A := by
  have hB0 : ZB Z Tc Ts w := hB.mono (m_X4_become _ _ _ _ _)
  refine tk_W hB0 (by decide) (Nat.le_of_ble_eq_true rfl) ?_
  intro p e s m args below meth c ls H locs hx hb hml hr hlk hown hts hW hS hA hC hl
  have hK := hC.1
  have hN := hC.2.1
  have hn12 := hW.n12
  skip
  have hl : lv_has ls 6 [(0, .ref (zg S 3 fl k)), (1, .ref (zg S 3 fl2 k))] := hl
  refine lv_aload_n hx hb dX4_become_0 rfl (lv_at hl 1 rfl) ?_
  refine zr_i (va_runV (As := []) (rest := []) ⟨hx, hb, hml, hown, hts⟩ (k_X4_leastGiven l D yc e0 A S Z w.1 w.2.1 w.2.2 fl2 k (by first | assumption | omega | decide) (by first | assumption | omega | decide)) (cwV 0 hts (lw_V wq291 wq293 ws5 wq21 wq295) rfl rfl rfl (by decide +kernel) ⟨(Nat.le_of_ble_eq_true rfl), (Nat.le_of_ble_eq_true rfl)⟩) (tp_V hC hW hS hA 3 fl2 k (dm3 (by omega) (by omega)) rfl rfl) rfl rfl hl.1 rfl (lv_room (Nat.le_of_ble_eq_true rfl)) dX4_become_1 ⟨(Nat.le_refl _), (Nat.le_refl _)⟩) ?_
  refine lv_istore_n (lv' := [(2, .int (v_X4_leastGiven S w.1 w.2.1 w.2.2 fl2 k)), (0, .ref (zg S 3 fl k)), (1, .ref (zg S 3 fl2 k))]) hx hb dX4_become_4 rfl hl (by decide) rfl (fun ls hl => ?_)
  refine lv_aload_n hx hb dX4_become_5 rfl (lv_at hl 1 rfl) ?_
  refine t_get (D := D) (ci := 3) (v := .ref (zr S (ri fl k))) (C := RX4) (T := TX4) (N := 2) hx hb hts iX4 hown hK hW 3 fl k (dm3 (by omega) (by omega)) rfl rfl 0 (by decide) (hts _ wq1016) (fun _ h9 => h9) rfl dX4_become_6 ?_
  refine lv_aload_n hx hb dX4_become_9 rfl (lv_at hl 2 rfl) ?_
  refine t_get (D := D) (ci := 3) (v := .ref (zr S (ri fl2 k))) (C := RX4) (T := TX4) (N := 2) hx hb hts iX4 hown hK hW 3 fl2 k (dm3 (by omega) (by omega)) rfl rfl 0 (by decide) (hts _ wq1016) (fun _ h9 => h9) rfl dX4_become_10 ?_
  refine lv_iload_n hx hb dX4_become_13 rfl (lv_at hl 0 rfl) ?_
  have hB_w1 : ZB Z Tc Ts (zrw w (ri fl k) (qbec (w.2.2 (ri fl k)) (w.2.2 (ri fl2 k)) (zfrom (v_X4_leastGiven S w.1 w.2.1 w.2.2 fl2 k) (w.2.2 (ri fl2 k)).2.length))) := hB.mono (zP_let (P := (zle (zrw w (ri fl k) (qbec (w.2.2 (ri fl k)) (w.2.2 (ri fl2 k)) (zfrom (v_X4_leastGiven S w.1 w.2.1 w.2.2 fl2 k) (w.2.2 (ri fl2 k)).2.length))))) (zle (zrw w (ri fl k) (qbec (w.2.2 (ri fl k)) (w.2.2 (ri fl2 k)) (zfrom (v_X4_leastGiven S w.1 w.2.1 w.2.2 fl2 k) (w.2.2 (ri fl2 k)).2.length)))) zle.rf (fun w1 h8 => (zP_let (P := (zle (zrw w (ri fl k) (qbec (w.2.2 (ri fl k)) (w.2.2 (ri fl2 k)) (zfrom (v_X4_leastGiven S w.1 w.2.1 w.2.2 fl2 k) (w.2.2 (ri fl2 k)).2.length))))) (zle (zrw w (ri fl k) (qbec (w.2.2 (ri fl k)) (w.2.2 (ri fl2 k)) (zfrom (v_X4_leastGiven S w.1 w.2.1 w.2.2 fl2 k) (w.2.2 (ri fl2 k)).2.length)))) (zle.tr h8 (mr_X4_become _ _ _ _ _ _ _ _)) (fun w2 h8_ => h8_))))
  refine tw_v hB_w1 ⟨rfl, rfl⟩ (hB0.top hW) (fun hle9 => va_runV (As := [.ref (zr S (ri fl2 k)), .int (v_X4_leastGiven S w.1 w.2.1 w.2.2 fl2 k)]) (rest := []) ⟨hx, hb, hml, hown, hts⟩ (k_X6_become l D yc e0 A S Z Tc Ts w H.size (zh H) (ri fl k) (ri fl2 k) (v_X4_leastGiven S w.1 w.2.1 w.2.2 fl2 k) (dr_i hW.n12 (by omega) (by omega)) (dr_i hW.n12 (by omega) (by omega)) (by first | (unfold rs; omega) | (unfold ri; omega)) hB_w1) (cwV 2 hts (lw_V wq703 wq370 wq371 wq15 wq372) rfl rfl rfl (by decide +kernel) ⟨(Nat.le_of_ble_eq_true rfl), (Nat.le_of_ble_eq_true rfl)⟩) (tq_R hC hW hS hA (ri fl k) (dr_i hW.n12 (by omega) (by omega))) rfl rfl hl.1 rfl (lv_room (Nat.le_of_ble_eq_true rfl)) dX4_become_14 hle9) hS (fun H locs hW hS => ?_)
  obtain ⟨w1, hw1, hW, hB_w1⟩ : ∃ ww : TW, zrw w (ri fl k) (qbec (w.2.2 (ri fl k)) (w.2.2 (ri fl2 k)) (zfrom (v_X4_leastGiven S w.1 w.2.1 w.2.2 fl2 k) (w.2.2 (ri fl2 k)).2.length)) = ww ∧ WT D yc e0 A S Z ww.1 ww.2.1 ww.2.2 H ∧ ZB Z Tc Ts ww := ⟨_, rfl, hW, hB_w1⟩
  refine lv_iconst (v := 0) hx hb dX4_become_17 (by decide) ?_
  refine lv_istore_n (lv' := [(3, .int 0), (2, .int (v_X4_leastGiven S w.1 w.2.1 w.2.2 fl2 k)), (0, .ref (zg S 3 fl k)), (1, .ref (zg S 3 fl2 k))]) hx hb dX4_become_18 rfl hl (by decide) rfl (fun ls hl => ?_)
  have hB_w2 : ZB Z Tc Ts (r_X4_become S fl k fl2 (v_X4_leastGiven S w.1 w.2.1 w.2.2 fl2 k) ((och S k).length) 0 w1) := hB.mono (zP_l (P := (zle (r_X4_become S fl k fl2 (v_X4_leastGiven S w.1 w.2.1 w.2.2 fl2 k) ((och S k).length) 0 w1))) hw1 (zP_let (P := (zle (r_X4_become S fl k fl2 (v_X4_leastGiven S w.1 w.2.1 w.2.2 fl2 k) ((och S k).length) 0 w1))) (zle (r_X4_become S fl k fl2 (v_X4_leastGiven S w.1 w.2.1 w.2.2 fl2 k) ((och S k).length) 0 w1)) zle.rf (fun w2 h8 => h8)))
  refine lp_X4_become fl k fl2 (v_X4_leastGiven S w.1 w.2.1 w.2.2 fl2 k) hf hk hf2 hx hb hml hr hlk hown hts hA hC ((och S k).length) 0 w1 H locs _ (Nat.zero_add _) hB_w2 hW hS (lv_sub hl [0, 1, 2, 3] rfl) (fun w2 H locs ls hw2 hW hS hl => ?_)
  have hB_w2 : ZB Z Tc Ts w2 := by rw [← hw2]; exact hB_w2
  exact tx_v hx hb hr hlk hS hW (zlet_e hw1 (zlet_e hw2 rfl)) dX4_become_95
def w_X8_emit (S : TS) (w : TW) (fl : Nat) (k : Nat) (l1 : Int64) : TW := if (v_X3_kind l1) = 0 then zlet (zset w 0 fl (3 * k) 5 ((w.1 0 fl (3 * k) 5) + 1)) (fun w2 => if (nI (och S k).length) ≤ 0 then w2 else zlet (zrw w2 (ri fl k) (qadd (w2.2.2 (ri fl k)) l1)) (fun w4 => w4)) else if (nI (och S k).length) ≤ 0 then w else zlet (zrw w (ri fl k) (qadd (w.2.2 (ri fl k)) l1)) (fun w6 => w6)
theorem m_X8_emit (S : TS) (w : TW) (fl : Nat) (k : Nat) (l1 : Int64) : zle w (w_X8_emit S w fl k l1) := by
  unfold w_X8_emit
  exact (zP_if (P := (zle (w))) (zP_let (P := (zle (w))) (zle (w)) (zle.to zle.rf rfl) (fun w2 h8_ => (zP_if (P := (zle (w))) h8_ (zP_let (P := (zle (w))) (zle (w)) (zle.tr h8_ (zle.row (mq_add _ _))) (fun w4 h8__ => h8__))))) (zP_if (P := (zle (w))) zle.rf (zP_let (P := (zle (w))) (zle (w)) (zle.tr zle.rf (zle.row (mq_add _ _))) (fun w6 h8_ => h8_))))
theorem g_X8_emit (S : TS) (w : TW) (fl : Nat) (k : Nat) (l1 : Int64) : (w_X8_emit S w fl k l1).2.1 = w.2.1 := by
  unfold w_X8_emit
  exact (zP_if (P := (fun (b : TW) => b.2.1 = w.2.1)) (zP_let (P := (fun (b : TW) => b.2.1 = w.2.1)) (fun (b : TW) => b.2.1 = w.2.1) rfl (fun w2 h8_ => (zP_if (P := (fun (b : TW) => b.2.1 = w.2.1)) h8_ (zP_let (P := (fun (b : TW) => b.2.1 = w.2.1)) (fun (b : TW) => b.2.1 = w.2.1) h8_ (fun w4 h8__ => h8__))))) (zP_if (P := (fun (b : TW) => b.2.1 = w.2.1)) rfl (zP_let (P := (fun (b : TW) => b.2.1 = w.2.1)) (fun (b : TW) => b.2.1 = w.2.1) rfl (fun w6 h8_ => h8_))))
set_option maxHeartbeats 4000000 in
set_option maxRecDepth 100000 in
theorem k_X8_emit (l : Launch) (D : va_G) (yc : Nat → ClassId) (e0 : Nat) (A : Nat → Prop) (S : TS) (Z : Nat × Nat) (Tc Ts : Nat) (w : TW) (cN zN : Nat) (fl : Nat) (k : Nat) (l1 : Int64) (hf : fl < 2) (hk : k < zn S) (hB : ZB Z Tc Ts (w_X8_emit S w fl k l1)) : Met l yX8_emit (ws_ yX8_emit cX8_emit 3 none) { frames := 3, cells := Tc - cN, slots := Ts - zN, locals := 84 } (PM D yc e0 A S Z w cN zN [.ref (zg S 2 fl k), .long l1]) (tQv D yc e0 A S Z (w_X8_emit S w fl k l1)) (Tc - cN) (Ts - zN) A := by
  have hB0 : ZB Z Tc Ts w := hB.mono (m_X8_emit _ _ _ _ _)
  refine tk_W hB0 (by decide) (Nat.le_of_ble_eq_true rfl) ?_
  intro p e s m args below meth c ls H locs hx hb hml hr hlk hown hts hW hS hA hC hl
  have hK := hC.1
  have hN := hC.2.1
  have hn12 := hW.n12
  skip
  have hl : lv_has ls 3 [(0, .ref (zg S 2 fl k)), (1, .long l1)] := hl
  refine lv_lload_n hx hb dX8_emit_0 rfl (lv_at hl 1 rfl) ?_
  refine zr_i (va_runS (As := [.long l1]) (rest := []) ⟨hx, hb, hml, hown, hts⟩ (k_X3_kind l l1) (va_cwS 1 hts (lw_S wq340 wq341 wq25 wq342) rfl rfl rfl (by decide +kernel) ⟨(Nat.le_of_ble_eq_true rfl), (Nat.le_of_ble_eq_true rfl)⟩) tp_N rfl rfl hl.1 rfl (lv_room (Nat.le_of_ble_eq_true rfl)) dX8_emit_1 ⟨(Nat.le_refl _), (Nat.le_refl _)⟩) ?_
  refine lv_if_ne (tgt := 20) hx hb dX8_emit_4 (by decide) (fun hb1 => ?_) (fun hb1 => ?_)
  · refine lv_aload_n hx hb dX8_emit_20 rfl (lv_at hl 0 rfl) ?_
    refine t_get (D := D) (ci := 7) (v := .ref (zg S 3 fl k)) (C := RX8) (T := TX8) (N := 12) hx hb hts iX8 hown hK hW 2 fl k (dm2 (by omega) (by omega)) rfl rfl 5 (by decide) (hts _ wq1113) (fun _ h9 => h9) rfl dX8_emit_21 ?_
    refine t_getN (D := D) (ci := 3) (v := .ref (zl S 1 fl k)) (C := RX4) (T := TX4) (N := 2) hx hb hts iX4 hown hK hW 3 fl k (dm3 (by omega) (by omega)) rfl rfl 1 (by decide) (zk_tab rfl (hN _ wr1019 rfl)) (fun _ h9 => h9) rfl dX8_emit_24 ?_
    refine zr_i (va_runV (As := []) (rest := []) ⟨hx, hb, hml, hown, hts⟩ (k_AL_size l D yc e0 A S Z w.1 w.2.1 w.2.2 1 fl k (dl1 (by omega) (by omega))) (cwV 0 hts (lw_V wq343 wq120 wq121 wq5 wq122) rfl rfl rfl (by decide +kernel) ⟨(Nat.le_of_ble_eq_true rfl), (Nat.le_of_ble_eq_true rfl)⟩) (tp_L hC hW hS hA 1 fl k (dl1 (by omega) (by omega))) rfl rfl hl.1 rfl (lv_room (Nat.le_of_ble_eq_true rfl)) dX8_emit_27 ⟨(Nat.le_refl _), (Nat.le_refl _)⟩) ?_
    refine zk_ti (y := nI (och S k).length) rfl ?_
    refine lv_if_le (tgt := 44) hx hb dX8_emit_30 (by decide) (fun hb5 => ?_) (fun hb5 => ?_)
    · exact tx_v hx hb hr hlk hS hW (zif_n hb1 (zif_p hb5 rfl)) dX8_emit_44
    · refine lv_aload_n hx hb dX8_emit_33 rfl (lv_at hl 0 rfl) ?_
      refine t_get (D := D) (ci := 7) (v := .ref (zg S 3 fl k)) (C := RX8) (T := TX8) (N := 12) hx hb hts iX8 hown hK hW 2 fl k (dm2 (by omega) (by omega)) rfl rfl 5 (by decide) (hts _ wq1113) (fun _ h9 => h9) rfl dX8_emit_34 ?_
      refine t_getN (D := D) (ci := 3) (v := .ref (zr S (ri fl k))) (C := RX4) (T := TX4) (N := 2) hx hb hts iX4 hown hK hW 3 fl k (dm3 (by omega) (by omega)) rfl rfl 0 (by decide) (zk_tab rfl (hN _ wr1017 rfl)) (fun _ h9 => h9) rfl dX8_emit_37 ?_
      refine lv_lload_n hx hb dX8_emit_40 rfl (lv_at hl 1 rfl) ?_
      have hB_w6 : ZB Z Tc Ts (zrw w (ri fl k) (qadd (w.2.2 (ri fl k)) l1)) := hB.mono (zP_n (P := (zle (zrw w (ri fl k) (qadd (w.2.2 (ri fl k)) l1)))) hb1 (zP_n (P := (zle (zrw w (ri fl k) (qadd (w.2.2 (ri fl k)) l1)))) hb5 (zP_let (P := (zle (zrw w (ri fl k) (qadd (w.2.2 (ri fl k)) l1)))) (zle (zrw w (ri fl k) (qadd (w.2.2 (ri fl k)) l1))) zle.rf (fun w6 h8 => h8))))
      refine tw_v hB_w6 ⟨rfl, rfl⟩ (hB0.top hW) (fun hle9 => va_runV (As := [.long l1]) (rest := []) ⟨hx, hb, hml, hown, hts⟩ (k_X6_add l D yc e0 A S Z Tc Ts w H.size (zh H) (ri fl k) l1 (dr_i hW.n12 (by omega) (by omega)) hB_w6) (cwV 1 hts (lw_V wq344 wq345 wq346 wq15 wq347) rfl rfl rfl (by decide +kernel) ⟨(Nat.le_of_ble_eq_true rfl), (Nat.le_of_ble_eq_true rfl)⟩) (tq_R hC hW hS hA (ri fl k) (dr_i hW.n12 (by omega) (by omega))) rfl rfl hl.1 rfl (lv_room (Nat.le_of_ble_eq_true rfl)) dX8_emit_41 hle9) hS (fun H locs hW hS => ?_)
      obtain ⟨w6, hw6, hW, hB_w6⟩ : ∃ ww : TW, zrw w (ri fl k) (qadd (w.2.2 (ri fl k)) l1) = ww ∧ WT D yc e0 A S Z ww.1 ww.2.1 ww.2.2 H ∧ ZB Z Tc Ts ww := ⟨_, rfl, hW, hB_w6⟩
      exact tx_v hx hb hr hlk hS hW (zif_n hb1 (zif_n hb5 (zlet_e hw6 rfl))) dX8_emit_44
  · refine lv_aload_n hx hb dX8_emit_7 rfl (lv_at hl 0 rfl) ?_
    refine t_get (D := D) (ci := 7) (v := .ref (zg S 0 fl (3 * k))) (C := RX8) (T := TX8) (N := 12) hx hb hts iX8 hown hK hW 2 fl k (dm2 (by omega) (by omega)) rfl rfl 7 (by decide) (hts _ wq1118) (fun _ h9 => h9) rfl dX8_emit_8 ?_
    refine lv_dup hx hb dX8_emit_11 rfl ?_
    refine t_getN (D := D) (ci := 8) (v := .int (w.1 0 fl (3 * k) 5)) (C := RX9) (T := TX9) (N := 11) hx hb hts iX9 hown hK hW 0 fl (3 * k) (dm0 (by omega) (by omega)) rfl rfl 5 (by decide) (zk_tab rfl (hN _ wr1065 rfl)) (fun _ h9 => h9) rfl dX8_emit_12 ?_
    refine lv_iconst (v := 1) hx hb dX8_emit_15 (by decide) ?_
    refine lv_iadd hx hb dX8_emit_16 ?_
    refine t_putN (D := D) (ci := 8) (v := .int ((w.1 0 fl (3 * k) 5) + 1)) (ty := .int) (C := RX9) (T := TX9) (N := 11) hx hb hts iX9 tyX9 tyX9_ok nmX9 hown hK hW hS 0 fl (3 * k) (dm0 (by omega) (by omega)) rfl rfl 5 (by decide) (zk_tab rfl (hN _ wr1065 rfl)) (fun _ h9 => h9) rfl (by decide +kernel) rfl rfl (Nat.le_of_ble_eq_true rfl) (fun j9 => if j9 = 5 then (w.1 0 fl (3 * k) 5) + 1 else w.1 0 fl (3 * k) j9) w.2.1 rfl (fun _ _ _ => rfl) (zbit (fun j9 h9 => hW.bit _ _ _ j9 h9) (fun h9 => absurd h9 (by decide))) dX8_emit_17 (fun H locs hW hS => ?_)
    obtain ⟨w2, hw2, hW, hB_w2⟩ : ∃ ww : TW, zset w 0 fl (3 * k) 5 ((w.1 0 fl (3 * k) 5) + 1) = ww ∧ WT D yc e0 A S Z ww.1 ww.2.1 ww.2.2 H ∧ ZB Z Tc Ts ww := ⟨_, rfl, hW, hB0⟩
    refine lv_aload_n hx hb dX8_emit_20 rfl (lv_at hl 0 rfl) ?_
    refine t_get (D := D) (ci := 7) (v := .ref (zg S 3 fl k)) (C := RX8) (T := TX8) (N := 12) hx hb hts iX8 hown hK hW 2 fl k (dm2 (by omega) (by omega)) rfl rfl 5 (by decide) (hts _ wq1113) (fun _ h9 => h9) rfl dX8_emit_21 ?_
    refine t_getN (D := D) (ci := 3) (v := .ref (zl S 1 fl k)) (C := RX4) (T := TX4) (N := 2) hx hb hts iX4 hown hK hW 3 fl k (dm3 (by omega) (by omega)) rfl rfl 1 (by decide) (zk_tab rfl (hN _ wr1019 rfl)) (fun _ h9 => h9) rfl dX8_emit_24 ?_
    refine zr_i (va_runV (As := []) (rest := []) ⟨hx, hb, hml, hown, hts⟩ (k_AL_size l D yc e0 A S Z w2.1 w2.2.1 w2.2.2 1 fl k (dl1 (by omega) (by omega))) (cwV 0 hts (lw_V wq343 wq120 wq121 wq5 wq122) rfl rfl rfl (by decide +kernel) ⟨(Nat.le_of_ble_eq_true rfl), (Nat.le_of_ble_eq_true rfl)⟩) (tp_L hC hW hS hA 1 fl k (dl1 (by omega) (by omega))) rfl rfl hl.1 rfl (lv_room (Nat.le_of_ble_eq_true rfl)) dX8_emit_27 ⟨(Nat.le_refl _), (Nat.le_refl _)⟩) ?_
    refine zk_ti (y := nI (och S k).length) rfl ?_
    refine lv_if_le (tgt := 44) hx hb dX8_emit_30 (by decide) (fun hb3 => ?_) (fun hb3 => ?_)
    · exact tx_v hx hb hr hlk hS hW (zif_p hb1 (zlet_e hw2 (zif_p hb3 rfl))) dX8_emit_44
    · refine lv_aload_n hx hb dX8_emit_33 rfl (lv_at hl 0 rfl) ?_
      refine t_get (D := D) (ci := 7) (v := .ref (zg S 3 fl k)) (C := RX8) (T := TX8) (N := 12) hx hb hts iX8 hown hK hW 2 fl k (dm2 (by omega) (by omega)) rfl rfl 5 (by decide) (hts _ wq1113) (fun _ h9 => h9) rfl dX8_emit_34 ?_
      refine t_getN (D := D) (ci := 3) (v := .ref (zr S (ri fl k))) (C := RX4) (T := TX4) (N := 2) hx hb hts iX4 hown hK hW 3 fl k (dm3 (by omega) (by omega)) rfl rfl 0 (by decide) (zk_tab rfl (hN _ wr1017 rfl)) (fun _ h9 => h9) rfl dX8_emit_37 ?_
      refine lv_lload_n hx hb dX8_emit_40 rfl (lv_at hl 1 rfl) ?_
      have hB_w4 : ZB Z Tc Ts (zrw w2 (ri fl k) (qadd (w2.2.2 (ri fl k)) l1)) := hB.mono (zP_p (P := (zle (zrw w2 (ri fl k) (qadd (w2.2.2 (ri fl k)) l1)))) hb1 (zP_l (P := (zle (zrw w2 (ri fl k) (qadd (w2.2.2 (ri fl k)) l1)))) hw2 (zP_n (P := (zle (zrw w2 (ri fl k) (qadd (w2.2.2 (ri fl k)) l1)))) hb3 (zP_let (P := (zle (zrw w2 (ri fl k) (qadd (w2.2.2 (ri fl k)) l1)))) (zle (zrw w2 (ri fl k) (qadd (w2.2.2 (ri fl k)) l1))) zle.rf (fun w4 h8 => h8)))))
      refine tw_v hB_w4 ⟨rfl, rfl⟩ (hB_w2.top hW) (fun hle9 => va_runV (As := [.long l1]) (rest := []) ⟨hx, hb, hml, hown, hts⟩ (k_X6_add l D yc e0 A S Z Tc Ts w2 H.size (zh H) (ri fl k) l1 (dr_i hW.n12 (by omega) (by omega)) hB_w4) (cwV 1 hts (lw_V wq344 wq345 wq346 wq15 wq347) rfl rfl rfl (by decide +kernel) ⟨(Nat.le_of_ble_eq_true rfl), (Nat.le_of_ble_eq_true rfl)⟩) (tq_R hC hW hS hA (ri fl k) (dr_i hW.n12 (by omega) (by omega))) rfl rfl hl.1 rfl (lv_room (Nat.le_of_ble_eq_true rfl)) dX8_emit_41 hle9) hS (fun H locs hW hS => ?_)
      obtain ⟨w4, hw4, hW, hB_w4⟩ : ∃ ww : TW, zrw w2 (ri fl k) (qadd (w2.2.2 (ri fl k)) l1) = ww ∧ WT D yc e0 A S Z ww.1 ww.2.1 ww.2.2 H ∧ ZB Z Tc Ts ww := ⟨_, rfl, hW, hB_w4⟩
      exact tx_v hx hb hr hlk hS hW (zif_p hb1 (zlet_e hw2 (zif_n hb3 (zlet_e hw4 rfl)))) dX8_emit_44
def w_X8_read (S : TS) (w : TW) (fl : Nat) (k : Nat) : TW × Int32 := if 0 < (v_X8_unread S w.1 w.2.1 w.2.2 fl k) then zlet (zset w 0 fl (3 * k) 4 ((w.1 0 fl (3 * k) 4) + 1)) (fun w2 => zlet (w_X8_emit S w2 fl k (v_X6_at S w.1 w.2.1 w.2.2 (rl k) (w.1 0 fl (3 * k) 4))) (fun w3 => (w3, (v_X3_time (v_X6_at S w.1 w.2.1 w.2.2 (rl k) (w.1 0 fl (3 * k) 4))) - (w3.1 8 0 k 3)))) else (w, 1000000)
theorem m_X8_read (S : TS) (w : TW) (fl : Nat) (k : Nat) : zle w ((w_X8_read S w fl k).1) := by
  unfold w_X8_read
  exact (zP_if (P := (zle2 (w))) (zP_let (P := (zle2 (w))) (zle (w)) (zle.to zle.rf rfl) (fun w2 h8_ => (zP_let (P := (zle2 (w))) (zle (w)) (zle.tr h8_ (m_X8_emit _ _ _ _ _)) (fun w3 h8__ => h8__)))) zle.rf)
theorem g_X8_read (S : TS) (w : TW) (fl : Nat) (k : Nat) : ((w_X8_read S w fl k).1).2.1 = w.2.1 := by
  unfold w_X8_read
  exact (zP_if (P := (fun (b : TW × Int32) => b.1.2.1 = w.2.1)) (zP_let (P := (fun (b : TW × Int32) => b.1.2.1 = w.2.1)) (fun (b : TW) => b.2.1 = w.2.1) rfl (fun w2 h8_ => (zP_let (P := (fun (b : TW × Int32) => b.1.2.1 = w.2.1)) (fun (b : TW) => b.2.1 = w.2.1) ((g_X8_emit _ _ _ _ _).trans h8_) (fun w3 h8__ => h8__)))) rfl)
set_option maxHeartbeats 4000000 in
set_option maxRecDepth 100000 in
theorem k_X8_read (l : Launch) (D : va_G) (yc : Nat → ClassId) (e0 : Nat) (A : Nat → Prop) (S : TS) (Z : Nat × Nat) (Tc Ts : Nat) (w : TW) (cN zN : Nat) (fl : Nat) (k : Nat) (hf : fl < 2) (hk : k < zn S) (hB : ZB Z Tc Ts ((w_X8_read S w fl k).1)) : Met l yX8_read (ws_ yX8_read cX8_read 3 (some .int)) { frames := 4, cells := Tc - cN, slots := Ts - zN, locals := 106 } (PM D yc e0 A S Z w cN zN [.ref (zg S 2 fl k)]) (tQi D yc e0 A S Z (w_X8_read S w fl k)) (Tc - cN) (Ts - zN) A := by
  have hB0 : ZB Z Tc Ts w := hB.mono (m_X8_read _ _ _ _)
  refine tk_W hB0 (by decide) (Nat.le_of_ble_eq_true rfl) ?_
  intro p e s m args below meth c ls H locs hx hb hml hr hlk hown hts hW hS hA hC hl
  have hK := hC.1
  have hN := hC.2.1
  have hn12 := hW.n12
  skip
  have hl : lv_has ls 3 [(0, .ref (zg S 2 fl k))] := hl
  refine lv_aload_n hx hb dX8_read_0 rfl (lv_at hl 0 rfl) ?_
  refine zr_i (va_runV (As := []) (rest := []) ⟨hx, hb, hml, hown, hts⟩ (k_X8_unread l D yc e0 A S Z w.1 w.2.1 w.2.2 fl k (by first | assumption | omega | decide) (by first | assumption | omega | decide)) (cwV 0 hts (lw_V wq302 wq262 wq263 wq16 wq264) rfl rfl rfl (by decide +kernel) ⟨(Nat.le_of_ble_eq_true rfl), (Nat.le_of_ble_eq_true rfl)⟩) (tp_V hC hW hS hA 2 fl k (dm2 (by omega) (by omega)) rfl rfl) rfl rfl hl.1 rfl (lv_room (Nat.le_of_ble_eq_true rfl)) dX8_read_1 ⟨(Nat.le_refl _), (Nat.le_refl _)⟩) ?_
  refine lv_if_gt (tgt := 10) hx hb dX8_read_4 (by decide) (fun hb1 => ?_) (fun hb1 => ?_)
  · refine lv_aload_n hx hb dX8_read_10 rfl (lv_at hl 0 rfl) ?_
    refine t_get (D := D) (ci := 7) (v := .ref (zr S (rl k))) (C := RX8) (T := TX8) (N := 12) hx hb hts iX8 hown hK hW 2 fl k (dm2 (by omega) (by omega)) rfl rfl 1 (by decide) (hts _ wq1106) (fun _ h9 => h9) rfl dX8_read_11 ?_
    refine lv_aload_n hx hb dX8_read_14 rfl (lv_at hl 0 rfl) ?_
    refine t_get (D := D) (ci := 7) (v := .ref (zg S 0 fl (3 * k))) (C := RX8) (T := TX8) (N := 12) hx hb hts iX8 hown hK hW 2 fl k (dm2 (by omega) (by omega)) rfl rfl 7 (by decide) (hts _ wq1118) (fun _ h9 => h9) rfl dX8_read_15 ?_
    refine t_getN (D := D) (ci := 8) (v := .int (w.1 0 fl (3 * k) 4)) (C := RX9) (T := TX9) (N := 11) hx hb hts iX9 hown hK hW 0 fl (3 * k) (dm0 (by omega) (by omega)) rfl rfl 4 (by decide) (zk_tab rfl (hN _ wr1061 rfl)) (fun _ h9 => h9) rfl dX8_read_18 ?_
    refine zr_l (va_runV (As := [.int (w.1 0 fl (3 * k) 4)]) (rest := []) ⟨hx, hb, hml, hown, hts⟩ (k_X6_at l D yc e0 A S Z w.1 w.2.1 w.2.2 (rl k) (w.1 0 fl (3 * k) 4) (dr_l hW.n12 (by omega))) (cwV 1 hts (lw_V wq390 wq391 wq392 wq15 wq393) rfl rfl rfl (by decide +kernel) ⟨(Nat.le_of_ble_eq_true rfl), (Nat.le_of_ble_eq_true rfl)⟩) (tp_R hC hW hS hA (rl k) (dr_l hW.n12 (by omega))) rfl rfl hl.1 rfl (lv_room (Nat.le_of_ble_eq_true rfl)) dX8_read_21 ⟨(Nat.le_refl _), (Nat.le_refl _)⟩) ?_
    refine lv_lstore_n (lv' := [(1, .long (v_X6_at S w.1 w.2.1 w.2.2 (rl k) (w.1 0 fl (3 * k) 4))), (0, .ref (zg S 2 fl k))]) hx hb dX8_read_24 rfl hl (by decide) rfl (fun ls hl => ?_)
    refine lv_aload_n hx hb dX8_read_25 rfl (lv_at hl 1 rfl) ?_
    refine t_get (D := D) (ci := 7) (v := .ref (zg S 0 fl (3 * k))) (C := RX8) (T := TX8) (N := 12) hx hb hts iX8 hown hK hW 2 fl k (dm2 (by omega) (by omega)) rfl rfl 7 (by decide) (hts _ wq1118) (fun _ h9 => h9) rfl dX8_read_26 ?_
    refine lv_dup hx hb dX8_read_29 rfl ?_
    refine t_getN (D := D) (ci := 8) (v := .int (w.1 0 fl (3 * k) 4)) (C := RX9) (T := TX9) (N := 11) hx hb hts iX9 hown hK hW 0 fl (3 * k) (dm0 (by omega) (by omega)) rfl rfl 4 (by decide) (zk_tab rfl (hN _ wr1061 rfl)) (fun _ h9 => h9) rfl dX8_read_30 ?_
    refine lv_iconst (v := 1) hx hb dX8_read_33 (by decide) ?_
    refine lv_iadd hx hb dX8_read_34 ?_
    refine t_putN (D := D) (ci := 8) (v := .int ((w.1 0 fl (3 * k) 4) + 1)) (ty := .int) (C := RX9) (T := TX9) (N := 11) hx hb hts iX9 tyX9 tyX9_ok nmX9 hown hK hW hS 0 fl (3 * k) (dm0 (by omega) (by omega)) rfl rfl 4 (by decide) (zk_tab rfl (hN _ wr1061 rfl)) (fun _ h9 => h9) rfl (by decide +kernel) rfl rfl (Nat.le_of_ble_eq_true rfl) (fun j9 => if j9 = 4 then (w.1 0 fl (3 * k) 4) + 1 else w.1 0 fl (3 * k) j9) w.2.1 rfl (fun _ _ _ => rfl) (zbit (fun j9 h9 => hW.bit _ _ _ j9 h9) (fun h9 => absurd h9 (by decide))) dX8_read_35 (fun H locs hW hS => ?_)
    obtain ⟨w2, hw2, hW, hB_w2⟩ : ∃ ww : TW, zset w 0 fl (3 * k) 4 ((w.1 0 fl (3 * k) 4) + 1) = ww ∧ WT D yc e0 A S Z ww.1 ww.2.1 ww.2.2 H ∧ ZB Z Tc Ts ww := ⟨_, rfl, hW, hB0⟩
    refine lv_aload_n hx hb dX8_read_38 rfl (lv_at hl 1 rfl) ?_
    refine lv_lload_n hx hb dX8_read_39 rfl (lv_at hl 0 rfl) ?_
    have hB_w3 : ZB Z Tc Ts (w_X8_emit S w2 fl k (v_X6_at S w.1 w.2.1 w.2.2 (rl k) (w.1 0 fl (3 * k) 4))) := hB.mono (zP_p (P := (zle2 (w_X8_emit S w2 fl k (v_X6_at S w.1 w.2.1 w.2.2 (rl k) (w.1 0 fl (3 * k) 4))))) hb1 (zP_l (P := (zle2 (w_X8_emit S w2 fl k (v_X6_at S w.1 w.2.1 w.2.2 (rl k) (w.1 0 fl (3 * k) 4))))) hw2 (zP_let (P := (zle2 (w_X8_emit S w2 fl k (v_X6_at S w.1 w.2.1 w.2.2 (rl k) (w.1 0 fl (3 * k) 4))))) (zle (w_X8_emit S w2 fl k (v_X6_at S w.1 w.2.1 w.2.2 (rl k) (w.1 0 fl (3 * k) 4)))) zle.rf (fun w3 h8 => h8))))
    refine tw_v hB_w3 ⟨rfl, rfl⟩ (hB_w2.top hW) (fun hle9 => va_runV (As := [.long (v_X6_at S w.1 w.2.1 w.2.2 (rl k) (w.1 0 fl (3 * k) 4))]) (rest := []) ⟨hx, hb, hml, hown, hts⟩ (k_X8_emit l D yc e0 A S Z Tc Ts w2 H.size (zh H) fl k (v_X6_at S w.1 w.2.1 w.2.2 (rl k) (w.1 0 fl (3 * k) 4)) (by first | assumption | omega | decide) (by first | assumption | omega | decide) hB_w3) (cwV 1 hts (lw_V wq394 wq337 wq338 wq16 wq339) rfl rfl rfl (by decide +kernel) ⟨(Nat.le_of_ble_eq_true rfl), (Nat.le_of_ble_eq_true rfl)⟩) (tq_V hC hW hS hA 2 fl k (dm2 (by omega) (by omega)) rfl rfl) rfl rfl hl.1 rfl (lv_room (Nat.le_of_ble_eq_true rfl)) dX8_read_40 hle9) hS (fun H locs hW hS => ?_)
    obtain ⟨w3, hw3, hW, hB_w3⟩ : ∃ ww : TW, w_X8_emit S w2 fl k (v_X6_at S w.1 w.2.1 w.2.2 (rl k) (w.1 0 fl (3 * k) 4)) = ww ∧ WT D yc e0 A S Z ww.1 ww.2.1 ww.2.2 H ∧ ZB Z Tc Ts ww := ⟨_, rfl, hW, hB_w3⟩
    refine lv_lload_n hx hb dX8_read_43 rfl (lv_at hl 0 rfl) ?_
    refine zr_i (va_runS (As := [.long (v_X6_at S w.1 w.2.1 w.2.2 (rl k) (w.1 0 fl (3 * k) 4))]) (rest := []) ⟨hx, hb, hml, hown, hts⟩ (k_X3_time l (v_X6_at S w.1 w.2.1 w.2.2 (rl k) (w.1 0 fl (3 * k) 4))) (va_cwS 1 hts (lw_S wq395 wq396 wq25 wq397) rfl rfl rfl (by decide +kernel) ⟨(Nat.le_of_ble_eq_true rfl), (Nat.le_of_ble_eq_true rfl)⟩) tp_N rfl rfl hl.1 rfl (lv_room (Nat.le_of_ble_eq_true rfl)) dX8_read_44 ⟨(Nat.le_refl _), (Nat.le_refl _)⟩) ?_
    refine lv_aload_n hx hb dX8_read_47 rfl (lv_at hl 1 rfl) ?_
    refine t_get (D := D) (ci := 7) (v := .ref (zg S 8 0 k)) (C := RX8) (T := TX8) (N := 12) hx hb hts iX8 hown hK hW 2 fl k (dm2 (by omega) (by omega)) rfl rfl 0 (by decide) (hts _ wq1103) (fun _ h9 => h9) rfl dX8_read_48 ?_
    refine t_getN (D := D) (ci := 4) (v := .int (w3.1 8 0 k 3)) (C := RX5) (T := TX5) (N := 15) hx hb hts iX5 hown hK hW 8 0 k (dm8 (by omega)) rfl rfl 3 (by decide) (zk_tab rfl (hN _ wr841 rfl)) (fun _ h9 => h9) rfl dX8_read_51 ?_
    refine lv_isub hx hb dX8_read_54 ?_
    exact tx_i hx hb hr hlk hS rfl hW (zif_p hb1 (zlet_e hw2 (zlet_e hw3 rfl))) dX8_read_55
  · refine lv_ldc hx hb hown (hts _ wq303) dX8_read_7 ?_
    exact tx_i hx hb hr hlk hS rfl hW (zif_n hb1 rfl) dX8_read_9
def w_X8_putOut (S : TS) (w : TW) (fl : Nat) (k : Nat) (l1 : Int64) : TW := zlet (zset w 0 fl (3 * k) 7 ((w.1 0 fl (3 * k) 7) + 1)) (fun w1 => if (nI fl) = 0 then zlet (zrw w1 (ro fl k) (qadd (w1.2.2 (ro fl k)) l1)) (fun w3 => w3) else w1)
theorem m_X8_putOut (S : TS) (w : TW) (fl : Nat) (k : Nat) (l1 : Int64) : zle w (w_X8_putOut S w fl k l1) := by
  unfold w_X8_putOut
  exact (zP_let (P := (zle (w))) (zle (w)) (zle.to zle.rf rfl) (fun w1 h8_ => (zP_if (P := (zle (w))) (zP_let (P := (zle (w))) (zle (w)) (zle.tr h8_ (zle.row (mq_add _ _))) (fun w3 h8__ => h8__)) h8_)))
theorem g_X8_putOut (S : TS) (w : TW) (fl : Nat) (k : Nat) (l1 : Int64) : (w_X8_putOut S w fl k l1).2.1 = w.2.1 := by
  unfold w_X8_putOut
  exact (zP_let (P := (fun (b : TW) => b.2.1 = w.2.1)) (fun (b : TW) => b.2.1 = w.2.1) rfl (fun w1 h8_ => (zP_if (P := (fun (b : TW) => b.2.1 = w.2.1)) (zP_let (P := (fun (b : TW) => b.2.1 = w.2.1)) (fun (b : TW) => b.2.1 = w.2.1) h8_ (fun w3 h8__ => h8__)) h8_)))
set_option maxHeartbeats 4000000 in
set_option maxRecDepth 100000 in
theorem k_X8_putOut (l : Launch) (D : va_G) (yc : Nat → ClassId) (e0 : Nat) (A : Nat → Prop) (S : TS) (Z : Nat × Nat) (Tc Ts : Nat) (w : TW) (cN zN : Nat) (fl : Nat) (k : Nat) (l1 : Int64) (hf : fl < 2) (hk : k < zn S) (hB : ZB Z Tc Ts (w_X8_putOut S w fl k l1)) : Met l yX8_putOut (ws_ yX8_putOut cX8_putOut 3 none) { frames := 3, cells := Tc - cN, slots := Ts - zN, locals := 84 } (PM D yc e0 A S Z w cN zN [.ref (zg S 2 fl k), .long l1]) (tQv D yc e0 A S Z (w_X8_putOut S w fl k l1)) (Tc - cN) (Ts - zN) A := by
  have hB0 : ZB Z Tc Ts w := hB.mono (m_X8_putOut _ _ _ _ _)
  refine tk_W hB0 (by decide) (Nat.le_of_ble_eq_true rfl) ?_
  intro p e s m args below meth c ls H locs hx hb hml hr hlk hown hts hW hS hA hC hl
  have hK := hC.1
  have hN := hC.2.1
  have hn12 := hW.n12
  skip
  have hl : lv_has ls 3 [(0, .ref (zg S 2 fl k)), (1, .long l1)] := hl
  refine lv_aload_n hx hb dX8_putOut_0 rfl (lv_at hl 0 rfl) ?_
  refine t_get (D := D) (ci := 7) (v := .ref (zg S 0 fl (3 * k))) (C := RX8) (T := TX8) (N := 12) hx hb hts iX8 hown hK hW 2 fl k (dm2 (by omega) (by omega)) rfl rfl 7 (by decide) (hts _ wq1118) (fun _ h9 => h9) rfl dX8_putOut_1 ?_
  refine lv_dup hx hb dX8_putOut_4 rfl ?_
  refine t_getN (D := D) (ci := 8) (v := .int (w.1 0 fl (3 * k) 7)) (C := RX9) (T := TX9) (N := 11) hx hb hts iX9 hown hK hW 0 fl (3 * k) (dm0 (by omega) (by omega)) rfl rfl 7 (by decide) (zk_tab rfl (hN _ wr1071 rfl)) (fun _ h9 => h9) rfl dX8_putOut_5 ?_
  refine lv_iconst (v := 1) hx hb dX8_putOut_8 (by decide) ?_
  refine lv_iadd hx hb dX8_putOut_9 ?_
  refine t_putN (D := D) (ci := 8) (v := .int ((w.1 0 fl (3 * k) 7) + 1)) (ty := .int) (C := RX9) (T := TX9) (N := 11) hx hb hts iX9 tyX9 tyX9_ok nmX9 hown hK hW hS 0 fl (3 * k) (dm0 (by omega) (by omega)) rfl rfl 7 (by decide) (zk_tab rfl (hN _ wr1071 rfl)) (fun _ h9 => h9) rfl (by decide +kernel) rfl rfl (Nat.le_of_ble_eq_true rfl) (fun j9 => if j9 = 7 then (w.1 0 fl (3 * k) 7) + 1 else w.1 0 fl (3 * k) j9) w.2.1 rfl (fun _ _ _ => rfl) (zbit (fun j9 h9 => hW.bit _ _ _ j9 h9) (fun h9 => absurd h9 (by decide))) dX8_putOut_10 (fun H locs hW hS => ?_)
  obtain ⟨w1, hw1, hW, hB_w1⟩ : ∃ ww : TW, zset w 0 fl (3 * k) 7 ((w.1 0 fl (3 * k) 7) + 1) = ww ∧ WT D yc e0 A S Z ww.1 ww.2.1 ww.2.2 H ∧ ZB Z Tc Ts ww := ⟨_, rfl, hW, hB0⟩
  refine lv_aload_n hx hb dX8_putOut_13 rfl (lv_at hl 0 rfl) ?_
  refine t_get (D := D) (ci := 7) (v := .int (nI fl)) (C := RX8) (T := TX8) (N := 12) hx hb hts iX8 hown hK hW 2 fl k (dm2 (by omega) (by omega)) rfl rfl 4 (by decide) (hts _ wq1112) (fun _ h9 => h9) rfl dX8_putOut_14 ?_
  refine lv_if_ne (tgt := 28) hx hb dX8_putOut_17 (by decide) (fun hb2 => ?_) (fun hb2 => ?_)
  · exact tx_v hx hb hr hlk hS hW (zlet_e hw1 (zif_n hb2 rfl)) dX8_putOut_28
  · refine lv_aload_n hx hb dX8_putOut_20 rfl (lv_at hl 0 rfl) ?_
    refine t_get (D := D) (ci := 7) (v := .ref (zr S (ro fl k))) (C := RX8) (T := TX8) (N := 12) hx hb hts iX8 hown hK hW 2 fl k (dm2 (by omega) (by omega)) rfl rfl 6 (by decide) (hts _ wq1116) (fun _ h9 => h9) rfl dX8_putOut_21 ?_
    refine lv_lload_n hx hb dX8_putOut_24 rfl (lv_at hl 1 rfl) ?_
    have hB_w3 : ZB Z Tc Ts (zrw w1 (ro fl k) (qadd (w1.2.2 (ro fl k)) l1)) := hB.mono (zP_l (P := (zle (zrw w1 (ro fl k) (qadd (w1.2.2 (ro fl k)) l1)))) hw1 (zP_p (P := (zle (zrw w1 (ro fl k) (qadd (w1.2.2 (ro fl k)) l1)))) hb2 (zP_let (P := (zle (zrw w1 (ro fl k) (qadd (w1.2.2 (ro fl k)) l1)))) (zle (zrw w1 (ro fl k) (qadd (w1.2.2 (ro fl k)) l1))) zle.rf (fun w3 h8 => h8))))
    refine tw_v hB_w3 ⟨rfl, rfl⟩ (hB_w1.top hW) (fun hle9 => va_runV (As := [.long l1]) (rest := []) ⟨hx, hb, hml, hown, hts⟩ (k_X6_add l D yc e0 A S Z Tc Ts w1 H.size (zh H) (ro fl k) l1 (dr_o hW.n12 (by omega) (by omega)) hB_w3) (cwV 1 hts (lw_V wq344 wq345 wq346 wq15 wq347) rfl rfl rfl (by decide +kernel) ⟨(Nat.le_of_ble_eq_true rfl), (Nat.le_of_ble_eq_true rfl)⟩) (tq_R hC hW hS hA (ro fl k) (dr_o hW.n12 (by omega) (by omega))) rfl rfl hl.1 rfl (lv_room (Nat.le_of_ble_eq_true rfl)) dX8_putOut_25 hle9) hS (fun H locs hW hS => ?_)
    obtain ⟨w3, hw3, hW, hB_w3⟩ : ∃ ww : TW, zrw w1 (ro fl k) (qadd (w1.2.2 (ro fl k)) l1) = ww ∧ WT D yc e0 A S Z ww.1 ww.2.1 ww.2.2 H ∧ ZB Z Tc Ts ww := ⟨_, rfl, hW, hB_w3⟩
    exact tx_v hx hb hr hlk hS hW (zlet_e hw1 (zif_p hb2 (zlet_e hw3 rfl))) dX8_putOut_28
