def v_J9_floorMod (i1 : Int32) (i2 : Int32) : Int32 := if 0 ≤ (i1 ^^^ i2) then i1 - i1 / i2 * i2 else if (i1 - i1 / i2 * i2) = 0 then i1 - i1 / i2 * i2 else (i1 - i1 / i2 * i2) + i2
set_option maxHeartbeats 4000000 in
set_option maxRecDepth 100000 in
theorem k_J9_floorMod (l : Launch) (i1 : Int32) (i2 : Int32) (h0 : ¬ i2 = 0) : Met l yJ9_floorMod_7cf53 (ws_ yJ9_floorMod_7cf53 cJ9_floorMod_7cf53 3 (some .int)) ({ frames := 0, cells := 0, slots := 0, locals := 0 }) (PN [.int i1, .int i2]) (zQ (some (.int (v_J9_floorMod i1 i2)))) 0 0 zno := by
  refine tk_NF (by decide +kernel) (Nat.le_of_ble_eq_true rfl) ?_
  intro p e s m args below meth c ls hx hb hml hr hlk hown hts hl
  have hl : lv_has ls 3 [(0, .int i1), (1, .int i2)] := hl
  refine lv_iload_n hx hb dJ9_floorMod_7cf53_0 rfl (lv_at hl 0 rfl) ?_
  refine lv_iload_n hx hb dJ9_floorMod_7cf53_1 rfl (lv_at hl 1 rfl) ?_
  refine lv_irem hx hb dJ9_floorMod_7cf53_2 (by assumption) ?_
  refine lv_istore_n (lv' := [(2, .int (i1 - i1 / i2 * i2)), (0, .int i1), (1, .int i2)]) hx hb dJ9_floorMod_7cf53_3 rfl hl (by decide) rfl (fun ls hl => ?_)
  refine lv_iload_n hx hb dJ9_floorMod_7cf53_4 rfl (lv_at hl 1 rfl) ?_
  refine lv_iload_n hx hb dJ9_floorMod_7cf53_5 rfl (lv_at hl 2 rfl) ?_
  refine lv_ixor hx hb dJ9_floorMod_7cf53_6 ?_
  refine lv_if_ge (tgt := 18) hx hb dJ9_floorMod_7cf53_7 (by decide) (fun hb1 => ?_) (fun hb1 => ?_)
  · refine lv_iload_n hx hb dJ9_floorMod_7cf53_18 rfl (lv_at hl 0 rfl) ?_
    exact ze_i hx hb hr hlk rfl (by unfold v_J9_floorMod; rw [if_pos hb1]) dJ9_floorMod_7cf53_19
  · refine lv_iload_n hx hb dJ9_floorMod_7cf53_10 rfl (lv_at hl 0 rfl) ?_
    refine lv_if_eq (tgt := 18) hx hb dJ9_floorMod_7cf53_11 (by decide) (fun hb2 => ?_) (fun hb2 => ?_)
    · refine lv_iload_n hx hb dJ9_floorMod_7cf53_18 rfl (lv_at hl 0 rfl) ?_
      exact ze_i hx hb hr hlk rfl (by unfold v_J9_floorMod; rw [if_neg hb1, if_pos hb2]) dJ9_floorMod_7cf53_19
    · refine lv_iload_n hx hb dJ9_floorMod_7cf53_14 rfl (lv_at hl 0 rfl) ?_
      refine lv_iload_n hx hb dJ9_floorMod_7cf53_15 rfl (lv_at hl 2 rfl) ?_
      refine lv_iadd hx hb dJ9_floorMod_7cf53_16 ?_
      exact ze_i hx hb hr hlk rfl (by unfold v_J9_floorMod; rw [if_neg hb1, if_neg hb2]) dJ9_floorMod_7cf53_17
def v_J9_floorDiv (i1 : Int32) (i2 : Int32) : Int32 := if 0 ≤ (i1 ^^^ i2) then i1 / i2 else if ((i1 / i2) * i2) = i1 then i1 / i2 else (i1 / i2) - 1
set_option maxHeartbeats 4000000 in
set_option maxRecDepth 100000 in
theorem k_J9_floorDiv (l : Launch) (i1 : Int32) (i2 : Int32) (h0 : ¬ i2 = 0) : Met l yJ9_floorDiv_7cf53 (ws_ yJ9_floorDiv_7cf53 cJ9_floorDiv_7cf53 3 (some .int)) ({ frames := 0, cells := 0, slots := 0, locals := 0 }) (PN [.int i1, .int i2]) (zQ (some (.int (v_J9_floorDiv i1 i2)))) 0 0 zno := by
  refine tk_NF (by decide +kernel) (Nat.le_of_ble_eq_true rfl) ?_
  intro p e s m args below meth c ls hx hb hml hr hlk hown hts hl
  have hl : lv_has ls 3 [(0, .int i1), (1, .int i2)] := hl
  refine lv_iload_n hx hb dJ9_floorDiv_7cf53_0 rfl (lv_at hl 0 rfl) ?_
  refine lv_iload_n hx hb dJ9_floorDiv_7cf53_1 rfl (lv_at hl 1 rfl) ?_
  refine lv_idiv hx hb dJ9_floorDiv_7cf53_2 (by assumption) ?_
  refine lv_istore_n (lv' := [(2, .int (i1 / i2)), (0, .int i1), (1, .int i2)]) hx hb dJ9_floorDiv_7cf53_3 rfl hl (by decide) rfl (fun ls hl => ?_)
  refine lv_iload_n hx hb dJ9_floorDiv_7cf53_4 rfl (lv_at hl 1 rfl) ?_
  refine lv_iload_n hx hb dJ9_floorDiv_7cf53_5 rfl (lv_at hl 2 rfl) ?_
  refine lv_ixor hx hb dJ9_floorDiv_7cf53_6 ?_
  refine lv_if_ge (tgt := 21) hx hb dJ9_floorDiv_7cf53_7 (by decide) (fun hb1 => ?_) (fun hb1 => ?_)
  · refine lv_iload_n hx hb dJ9_floorDiv_7cf53_21 rfl (lv_at hl 0 rfl) ?_
    exact ze_i hx hb hr hlk rfl (by unfold v_J9_floorDiv; rw [if_pos hb1]) dJ9_floorDiv_7cf53_22
  · refine lv_iload_n hx hb dJ9_floorDiv_7cf53_10 rfl (lv_at hl 0 rfl) ?_
    refine lv_iload_n hx hb dJ9_floorDiv_7cf53_11 rfl (lv_at hl 2 rfl) ?_
    refine lv_imul hx hb dJ9_floorDiv_7cf53_12 ?_
    refine lv_iload_n hx hb dJ9_floorDiv_7cf53_13 rfl (lv_at hl 1 rfl) ?_
    refine lv_icmp_eq (tgt := 21) hx hb dJ9_floorDiv_7cf53_14 (by decide) (fun hb2 => ?_) (fun hb2 => ?_)
    · refine lv_iload_n hx hb dJ9_floorDiv_7cf53_21 rfl (lv_at hl 0 rfl) ?_
      exact ze_i hx hb hr hlk rfl (by unfold v_J9_floorDiv; rw [if_neg hb1, if_pos hb2]) dJ9_floorDiv_7cf53_22
    · refine lv_iload_n hx hb dJ9_floorDiv_7cf53_17 rfl (lv_at hl 0 rfl) ?_
      refine lv_iconst (v := 1) hx hb dJ9_floorDiv_7cf53_18 (by decide) ?_
      refine lv_isub hx hb dJ9_floorDiv_7cf53_19 ?_
      exact ze_i hx hb hr hlk rfl (by unfold v_J9_floorDiv; rw [if_neg hb1, if_neg hb2]) dJ9_floorDiv_7cf53_20
def v_X10_isWithin (i1 : Int32) (i2 : Int32) (i3 : Int32) : Int32 := if i1 < i2 then 0 else if i3 < i1 then 0 else 1
set_option maxHeartbeats 4000000 in
set_option maxRecDepth 100000 in
theorem k_X10_isWithin (l : Launch) (i1 : Int32) (i2 : Int32) (i3 : Int32)  : Met l yX10_isWithin (ws_ yX10_isWithin cX10_isWithin 3 (some .boolean)) ({ frames := 0, cells := 0, slots := 0, locals := 0 }) (PN [.int i1, .int i2, .int i3]) (zQ (some (.int (v_X10_isWithin i1 i2 i3)))) 0 0 zno := by
  refine tk_N (by decide) (Nat.le_of_ble_eq_true rfl) ?_
  intro p e s m args below meth c ls hx hb hml hr hlk hown hts hl
  have hl : lv_has ls 3 [(0, .int i1), (1, .int i2), (2, .int i3)] := hl
  refine lv_iload_n hx hb dX10_isWithin_0 rfl (lv_at hl 0 rfl) ?_
  refine lv_iload_n hx hb dX10_isWithin_1 rfl (lv_at hl 1 rfl) ?_
  refine lv_icmp_lt (tgt := 14) hx hb dX10_isWithin_2 (by decide) (fun hb1 => ?_) (fun hb1 => ?_)
  · refine lv_iconst (v := 0) hx hb dX10_isWithin_14 (by decide) ?_
    exact ze_i hx hb hr hlk rfl (by unfold v_X10_isWithin; rw [if_pos hb1]) dX10_isWithin_15
  · refine lv_iload_n hx hb dX10_isWithin_5 rfl (lv_at hl 0 rfl) ?_
    refine lv_iload_n hx hb dX10_isWithin_6 rfl (lv_at hl 2 rfl) ?_
    refine lv_icmp_gt (tgt := 14) hx hb dX10_isWithin_7 (by decide) (fun hb2 => ?_) (fun hb2 => ?_)
    · refine lv_iconst (v := 0) hx hb dX10_isWithin_14 (by decide) ?_
      exact ze_i hx hb hr hlk rfl (by unfold v_X10_isWithin; rw [if_neg hb1, if_pos hb2]) dX10_isWithin_15
    · refine lv_iconst (v := 1) hx hb dX10_isWithin_10 (by decide) ?_
      refine lv_goto (tgt := 15) hx hb dX10_isWithin_11 (by decide) ?_
      exact ze_i hx hb hr hlk rfl (by unfold v_X10_isWithin; rw [if_neg hb1, if_neg hb2]) dX10_isWithin_15
def v_X10_bit (i1 : Int32) : Int32 := if i1 = 0 then 0 else 1
set_option maxHeartbeats 4000000 in
set_option maxRecDepth 100000 in
theorem k_X10_bit (l : Launch) (i1 : Int32)  : Met l yX10_bit (ws_ yX10_bit cX10_bit 1 (some .int)) ({ frames := 0, cells := 0, slots := 0, locals := 0 }) (PN [.int i1]) (zQ (some (.int (v_X10_bit i1)))) 0 0 zno := by
  refine tk_N (by decide) (Nat.le_of_ble_eq_true rfl) ?_
  intro p e s m args below meth c ls hx hb hml hr hlk hown hts hl
  have hl : lv_has ls 1 [(0, .int i1)] := hl
  refine lv_iload_n hx hb dX10_bit_0 rfl (lv_at hl 0 rfl) ?_
  refine lv_if_eq (tgt := 8) hx hb dX10_bit_1 (by decide) (fun hb1 => ?_) (fun hb1 => ?_)
  · refine lv_iconst (v := 0) hx hb dX10_bit_8 (by decide) ?_
    exact ze_i hx hb hr hlk rfl (by unfold v_X10_bit; rw [if_pos hb1]) dX10_bit_9
  · refine lv_iconst (v := 1) hx hb dX10_bit_4 (by decide) ?_
    refine lv_goto (tgt := 9) hx hb dX10_bit_5 (by decide) ?_
    exact ze_i hx hb hr hlk rfl (by unfold v_X10_bit; rw [if_neg hb1]) dX10_bit_9
set_option maxHeartbeats 4000000 in
set_option maxRecDepth 100000 in
theorem k_X10_refuseUnless (l : Launch) (i1 : Int32) (h1 : ¬ i1 = 0) : Met l yX10_refuseUnless (ws_ yX10_refuseUnless cX10_refuseUnless 1 none) ({ frames := 0, cells := 0, slots := 0, locals := 0 }) (PN [.int i1]) (zQ (none)) 0 0 zno := by
  refine tk_N (by decide) (Nat.le_of_ble_eq_true rfl) ?_
  intro p e s m args below meth c ls hx hb hml hr hlk hown hts hl
  have hl : lv_has ls 1 [(0, .int i1)] := hl
  refine lv_iload_n hx hb dX10_refuseUnless_0 rfl (lv_at hl 0 rfl) ?_
  refine lv_if_ne (tgt := 12) hx hb dX10_refuseUnless_1 (by decide) (fun _ => ?_) (fun h9 => absurd h9 h1)
  exact ze_v hx hb hr hlk dX10_refuseUnless_12
def r_X7_placeFor (S : TS) (F : TF) (G : TG) (q : TQ) (fl : Nat) (k : Nat) (l1 : Int64) : Nat → Nat → Nat → Int32
  | 0, lo, _ => nI lo
  | n + 1, lo, hi => if (nI hi) ≤ (nI lo) then nI lo else if 0 ≤ (lg_cmp (v_X6_at S F G q (rs 0 fl k) (nI ((lo + hi) / 2))) l1) then r_X7_placeFor S F G q fl k l1 n lo ((lo + hi) / 2) else r_X7_placeFor S F G q fl k l1 n ((lo + hi) / 2 + 1) hi
set_option maxHeartbeats 4000000 in
set_option maxRecDepth 100000 in
theorem lp_X7_placeFor {p : Program} {l : Launch} {e : Env} {s : State} {m : MethodId} {args : Array Value} {below : List Frame} {meth : Method} {c : Code} {D : va_G} {yc : Nat → ClassId} {e0 : Nat} {A : Nat → Prop} {S : TS} {Z : Nat × Nat} {F : TF} {G : TG} {q : TQ} (fl : Nat) (k : Nat) (l1 : Int64) (hf : fl < 2) (hk : k < 3 * zn S) (hx : p.tables.exec = Jvm.exec) (hb : c.code = cX7_placeFor) (hml : c.maxLocals = 7) (hr : meth.sig.returnType = (some .int)) (hlk : meth.locks = false) (hown : s.vm.findClass yX7_placeFor.cls = some m.cls) (hts : ∀ w ∈ lw_all, w.before args s = true) (hW : WT D yc e0 A S Z F G q s.heap) (hS : va_S A s.heap s.heap []) (hA : ∀ a, s.heap.size ≤ a → A a) (hC : CX D yc e0 A s) : ∀ (n : Nat) (i : Nat) (lo : Nat) (hi : Nat) (ls : Array Slot), i + n = 40 ∧ lo ≤ 8388608 ∧ hi ≤ 8388608 → lv_has ls 7 [(5, .int (nI i)), (4, .int (nI hi)), (3, .int (nI lo)), (0, .ref (zg S 1 fl k)), (1, .long l1)] → W p l e ({ frames := 1, cells := 0, slots := 0, locals := 21 }) s m args below meth c s.heap [] 0 0 (MQ below (zQ (some (.int (r_X7_placeFor S F G q fl k l1 n lo hi)))) args s 0 0 zno) (F0 m 14 ls []) := by
  have hK := hC.1
  have hN := hC.2.1
  have hn12 := hW.n12
  have hrl := hW.rlen (dr_s (x := 0) hn12 (by omega) hf hk)
  intro n
  induction n with
  | zero =>
    intro i lo hi ls hinv hl
    refine lv_iload hx hb dX7_placeFor_14 (lv_at hl 0 rfl) ?_
    refine lv_bipush (v := 40) hx hb dX7_placeFor_16 (by decide) ?_
    refine lv_icmp_ge (tgt := 67) hx hb dX7_placeFor_18 (by decide) (fun _ => ?_) (fun h9 => absurd (show nI 40 ≤ nI i from nI_le (by omega) (by omega)) h9)
    refine lv_iload_n hx hb dX7_placeFor_67 rfl (lv_at hl 2 rfl) ?_
    exact ze_i hx hb hr hlk rfl (by rfl) dX7_placeFor_68
  | succ n ih =>
    intro i lo hi ls hinv hl
    refine lv_iload hx hb dX7_placeFor_14 (lv_at hl 0 rfl) ?_
    refine lv_bipush (v := 40) hx hb dX7_placeFor_16 (by decide) ?_
    refine lv_icmp_ge (tgt := 67) hx hb dX7_placeFor_18 (by decide) (fun h9 => absurd h9 (show ¬ nI 40 ≤ nI i from nI_ge (by omega) (by omega))) (fun _ => ?_)
    refine lv_iload_n hx hb dX7_placeFor_21 rfl (lv_at hl 2 rfl) ?_
    refine lv_iload hx hb dX7_placeFor_22 (lv_at hl 1 rfl) ?_
    refine lv_icmp_ge (tgt := 67) hx hb dX7_placeFor_24 (by decide) (fun hb1 => ?_) (fun hb1 => ?_)
    · have hb1n : hi ≤ lo := (nI_leI (by omega) (by omega)).mp hb1
      refine lv_iload_n hx hb dX7_placeFor_67 rfl (lv_at hl 2 rfl) ?_
      exact ze_i hx hb hr hlk rfl (by simp only [r_X7_placeFor]; rw [if_pos hb1]) dX7_placeFor_68
    · have hb1n : ¬ (hi ≤ lo) := fun h9 => hb1 ((nI_leI (by omega) (by omega)).mpr h9)
      refine lv_iload_n hx hb dX7_placeFor_27 rfl (lv_at hl 2 rfl) ?_
      refine lv_iload hx hb dX7_placeFor_28 (lv_at hl 1 rfl) ?_
      refine lv_iadd hx hb dX7_placeFor_30 ?_
      refine lv_iconst (v := 1) hx hb dX7_placeFor_31 (by decide) ?_
      refine lv_iushr (v := (((nI lo) + (nI hi)).toUInt32 >>> ((1 : Int32).toUInt32 &&& Int32.toUInt32 31)).toInt32) hx hb dX7_placeFor_32 rfl ?_
      refine zk_ti (y := nI ((lo + hi) / 2)) (zhalf (by omega)) ?_
      refine lv_istore (lv' := [(6, .int (nI ((lo + hi) / 2))), (5, .int (nI i)), (4, .int (nI hi)), (3, .int (nI lo)), (0, .ref (zg S 1 fl k)), (1, .long l1)]) hx hb dX7_placeFor_33 hl (by decide) rfl (fun ls hl => ?_)
      refine lv_aload_n hx hb dX7_placeFor_35 rfl (lv_at hl 4 rfl) ?_
      refine t_get (D := D) (ci := 6) (v := .ref (zr S (rs 0 fl k))) (C := RX7) (T := TX7) (N := 2) hx hb hts iX7 hown hK hW 1 fl k (dm1 (by omega) (by omega)) rfl rfl 0 (by decide) (hts _ wq1042) (fun _ h9 => h9) rfl dX7_placeFor_36 ?_
      refine lv_iload hx hb dX7_placeFor_39 (lv_at hl 0 rfl) ?_
      refine zr_l (va_runV (As := [.int (nI ((lo + hi) / 2))]) (rest := []) ⟨hx, hb, hml, hown, hts⟩ (k_X6_at l D yc e0 A S Z F G q (rs 0 fl k) (nI ((lo + hi) / 2)) (dr_s hW.n12 (by omega) (by omega) (by omega))) (cwV 1 hts (lw_V wq417 wq391 wq392 wq15 wq393) rfl rfl rfl (by decide +kernel) ⟨(Nat.le_of_ble_eq_true rfl), (Nat.le_of_ble_eq_true rfl)⟩) (tp_R hC hW hS hA (rs 0 fl k) (dr_s hW.n12 (by omega) (by omega) (by omega))) rfl rfl hl.1 rfl (lv_room (Nat.le_of_ble_eq_true rfl)) dX7_placeFor_41 ⟨(Nat.le_of_ble_eq_true rfl), (Nat.le_of_ble_eq_true rfl)⟩) ?_
      refine lv_lload_n hx hb dX7_placeFor_44 rfl (lv_at hl 5 rfl) ?_
      refine W.lcmp hx hb dX7_placeFor_45 ?_
      refine lv_if_ge (tgt := 57) hx hb dX7_placeFor_46 (by decide) (fun hb2 => ?_) (fun hb2 => ?_)
      · refine lv_iload hx hb dX7_placeFor_57 (lv_at hl 0 rfl) ?_
        refine lv_istore (lv' := [(4, .int (nI ((lo + hi) / 2))), (6, .int (nI ((lo + hi) / 2))), (5, .int (nI i)), (3, .int (nI lo)), (0, .ref (zg S 1 fl k)), (1, .long l1)]) hx hb dX7_placeFor_59 hl (by decide) rfl (fun ls hl => ?_)
        refine lv_iinc (v := nI (i + 1)) (lv' := [(5, .int (nI (i + 1))), (4, .int (nI ((lo + hi) / 2))), (6, .int (nI ((lo + hi) / 2))), (3, .int (nI lo)), (0, .ref (zg S 1 fl k)), (1, .long l1)]) hx hb dX7_placeFor_61 hl (k := 2) rfl (nI_1 _) (by decide) rfl (fun ls hl => ?_)
        refine lv_goto (tgt := 14) hx hb dX7_placeFor_64 (by decide) ?_
        have e9 : r_X7_placeFor S F G q fl k l1 (n + 1) lo hi = r_X7_placeFor S F G q fl k l1 n lo ((lo + hi) / 2) := by simp only [r_X7_placeFor]; rw [if_neg hb1, if_pos hb2]
        rw [e9]
        exact ih (i + 1) lo ((lo + hi) / 2) _ (by omega) (lv_sub hl [0, 1, 3, 4, 5] rfl)
      · refine lv_iload hx hb dX7_placeFor_49 (lv_at hl 0 rfl) ?_
        refine lv_iconst (v := 1) hx hb dX7_placeFor_51 (by decide) ?_
        refine lv_iadd hx hb dX7_placeFor_52 ?_
        refine zk_ti (y := nI (((lo + hi) / 2) + 1)) (nI_1 _) ?_
        refine lv_istore_n (lv' := [(3, .int (nI (((lo + hi) / 2) + 1))), (6, .int (nI ((lo + hi) / 2))), (5, .int (nI i)), (4, .int (nI hi)), (0, .ref (zg S 1 fl k)), (1, .long l1)]) hx hb dX7_placeFor_53 rfl hl (by decide) rfl (fun ls hl => ?_)
        refine lv_goto (tgt := 61) hx hb dX7_placeFor_54 (by decide) ?_
        refine lv_iinc (v := nI (i + 1)) (lv' := [(5, .int (nI (i + 1))), (3, .int (nI (((lo + hi) / 2) + 1))), (6, .int (nI ((lo + hi) / 2))), (4, .int (nI hi)), (0, .ref (zg S 1 fl k)), (1, .long l1)]) hx hb dX7_placeFor_61 hl (k := 2) rfl (nI_1 _) (by decide) rfl (fun ls hl => ?_)
        refine lv_goto (tgt := 14) hx hb dX7_placeFor_64 (by decide) ?_
        have e9 : r_X7_placeFor S F G q fl k l1 (n + 1) lo hi = r_X7_placeFor S F G q fl k l1 n (((lo + hi) / 2) + 1) hi := by simp only [r_X7_placeFor]; rw [if_neg hb1, if_neg hb2]
        rw [e9]
        exact ih (i + 1) (((lo + hi) / 2) + 1) hi _ (by omega) (lv_sub hl [0, 3, 1, 4, 5] rfl)
def v_X7_placeFor (S : TS) (F : TF) (G : TG) (q : TQ) (fl : Nat) (k : Nat) (l1 : Int64) : Int32 := r_X7_placeFor S F G q fl k l1 40 0 ((q (rs 0 fl k)).2.length)
set_option maxHeartbeats 4000000 in
set_option maxRecDepth 100000 in
theorem k_X7_placeFor (l : Launch) (D : va_G) (yc : Nat → ClassId) (e0 : Nat) (A : Nat → Prop) (S : TS) (Z : Nat × Nat) (F : TF) (G : TG) (q : TQ) (fl : Nat) (k : Nat) (l1 : Int64) (hf : fl < 2) (hk : k < 3 * zn S) : Met l yX7_placeFor (ws_ yX7_placeFor cX7_placeFor 7 (some .int)) ({ frames := 1, cells := 0, slots := 0, locals := 21 }) (PT D yc e0 A S Z F G q [.ref (zg S 1 fl k), .long l1]) (zQ (some (.int (v_X7_placeFor S F G q fl k l1)))) 0 0 zno := by
  refine tk_M (by decide) (Nat.le_of_ble_eq_true rfl) ?_
  intro p e s m args below meth c ls hx hb hml hr hlk hown hts hW hS hA hC hl
  have hK := hC.1
  have hN := hC.2.1
  have hn12 := hW.n12
  have hl : lv_has ls 7 [(0, .ref (zg S 1 fl k)), (1, .long l1)] := hl
  have hrl := hW.rlen (dr_s (x := 0) hn12 (by omega) hf hk)
  refine lv_iconst (v := 0) hx hb dX7_placeFor_0 (by decide) ?_
  refine lv_istore_n (lv' := [(3, .int 0), (0, .ref (zg S 1 fl k)), (1, .long l1)]) hx hb dX7_placeFor_1 rfl hl (by decide) rfl (fun ls hl => ?_)
  refine lv_aload_n hx hb dX7_placeFor_2 rfl (lv_at hl 1 rfl) ?_
  refine t_get (D := D) (ci := 6) (v := .ref (zr S (rs 0 fl k))) (C := RX7) (T := TX7) (N := 2) hx hb hts iX7 hown hK hW 1 fl k (dm1 (by omega) (by omega)) rfl rfl 0 (by decide) (hts _ wq1042) (fun _ h9 => h9) rfl dX7_placeFor_3 ?_
  refine zr_i (va_runV (As := []) (rest := []) ⟨hx, hb, hml, hown, hts⟩ (k_X6_length l D yc e0 A S Z F G q (rs 0 fl k) (dr_s hW.n12 (by omega) (by omega) (by omega))) (cwV 0 hts (lw_V wq416 wq266 wq267 wq15 wq268) rfl rfl rfl (by decide +kernel) ⟨(Nat.le_of_ble_eq_true rfl), (Nat.le_of_ble_eq_true rfl)⟩) (tp_R hC hW hS hA (rs 0 fl k) (dr_s hW.n12 (by omega) (by omega) (by omega))) rfl rfl hl.1 rfl (lv_room (Nat.le_of_ble_eq_true rfl)) dX7_placeFor_6 ⟨(Nat.le_of_ble_eq_true rfl), (Nat.le_of_ble_eq_true rfl)⟩) ?_
  refine lv_istore (lv' := [(4, .int (v_X6_length S F G q (rs 0 fl k))), (3, .int 0), (0, .ref (zg S 1 fl k)), (1, .long l1)]) hx hb dX7_placeFor_9 hl (by decide) rfl (fun ls hl => ?_)
  refine lv_iconst (v := 0) hx hb dX7_placeFor_11 (by decide) ?_
  refine lv_istore (lv' := [(5, .int 0), (4, .int (v_X6_length S F G q (rs 0 fl k))), (3, .int 0), (0, .ref (zg S 1 fl k)), (1, .long l1)]) hx hb dX7_placeFor_12 hl (by decide) rfl (fun ls hl => ?_)
  exact lp_X7_placeFor fl k l1 hf hk hx hb hml hr hlk hown hts hW hS hA hC 40 0 0 ((q (rs 0 fl k)).2.length) _ (by omega) (lv_sub hl [0, 1, 2, 3, 4] rfl)
def v_X7_firstEndingAbove (S : TS) (F : TF) (G : TG) (q : TQ) (fl : Nat) (k : Nat) (i1 : Int32) : Int32 := v_X7_placeFor S F G q fl k (((i1 + 1).toInt64) <<< ((29 : Int32).toInt64 &&& 63))
set_option maxHeartbeats 4000000 in
set_option maxRecDepth 100000 in
theorem k_X7_firstEndingAbove (l : Launch) (D : va_G) (yc : Nat → ClassId) (e0 : Nat) (A : Nat → Prop) (S : TS) (Z : Nat × Nat) (F : TF) (G : TG) (q : TQ) (fl : Nat) (k : Nat) (i1 : Int32) (hf : fl < 2) (hk : k < 3 * zn S) : Met l yX7_firstEndingAbove (ws_ yX7_firstEndingAbove cX7_firstEndingAbove 2 (some .int)) ({ frames := 2, cells := 0, slots := 0, locals := 47 }) (PT D yc e0 A S Z F G q [.ref (zg S 1 fl k), .int i1]) (zQ (some (.int (v_X7_firstEndingAbove S F G q fl k i1)))) 0 0 zno := by
  refine tk_M (by decide) (Nat.le_of_ble_eq_true rfl) ?_
  intro p e s m args below meth c ls hx hb hml hr hlk hown hts hW hS hA hC hl
  have hK := hC.1
  have hN := hC.2.1
  have hn12 := hW.n12
  have hl : lv_has ls 2 [(0, .ref (zg S 1 fl k)), (1, .int i1)] := hl
  refine lv_aload_n hx hb dX7_firstEndingAbove_0 rfl (lv_at hl 0 rfl) ?_
  refine lv_iload_n hx hb dX7_firstEndingAbove_1 rfl (lv_at hl 1 rfl) ?_
  refine lv_iconst (v := 1) hx hb dX7_firstEndingAbove_2 (by decide) ?_
  refine lv_iadd hx hb dX7_firstEndingAbove_3 ?_
  refine lv_i2l (v := (i1 + 1).toInt64) hx hb dX7_firstEndingAbove_4 rfl ?_
  refine lv_bipush (v := 29) hx hb dX7_firstEndingAbove_5 (by decide) ?_
  refine lv_lshl (v := ((i1 + 1).toInt64) <<< ((29 : Int32).toInt64 &&& 63)) hx hb dX7_firstEndingAbove_7 rfl ?_
  refine zr_i (va_runV (As := [.long (((i1 + 1).toInt64) <<< ((29 : Int32).toInt64 &&& 63))]) (rest := []) ⟨hx, hb, hml, hown, hts⟩ (k_X7_placeFor l D yc e0 A S Z F G q fl k (((i1 + 1).toInt64) <<< ((29 : Int32).toInt64 &&& 63)) (by first | assumption | omega | decide) (by first | assumption | omega | decide)) (cwV 1 hts (lw_V wq412 wq413 wq414 wq23 wq415) rfl rfl rfl (by decide +kernel) ⟨(Nat.le_of_ble_eq_true rfl), (Nat.le_of_ble_eq_true rfl)⟩) (tp_V hC hW hS hA 1 fl k (dm1 (by omega) (by omega)) rfl rfl) rfl rfl hl.1 rfl (lv_room (Nat.le_of_ble_eq_true rfl)) dX7_firstEndingAbove_8 ⟨(Nat.le_of_ble_eq_true rfl), (Nat.le_of_ble_eq_true rfl)⟩) ?_
  exact ze_i hx hb hr hlk rfl (by rfl) dX7_firstEndingAbove_11
def v_X8_channel0 (S : TS) (F : TF) (G : TG) (q : TQ) (fl : Nat) (k : Nat) : Value := zch S 0 fl k
set_option maxHeartbeats 4000000 in
set_option maxRecDepth 100000 in
theorem k_X8_channel0 (l : Launch) (D : va_G) (yc : Nat → ClassId) (e0 : Nat) (A : Nat → Prop) (S : TS) (Z : Nat × Nat) (F : TF) (G : TG) (q : TQ) (fl : Nat) (k : Nat) (hf : fl < 2) (hk : k < zn S) : Met l yX8_channel (ws_ yX8_channel cX8_channel 2 (some (.object "WeirStream$Channel"))) ({ frames := 0, cells := 0, slots := 0, locals := 0 }) (PT D yc e0 A S Z F G q [.ref (zg S 2 fl k), .int 0]) (zQ (some ((v_X8_channel0 S F G q fl k)))) 0 0 zno := by
  refine tk_M (by decide) (Nat.le_of_ble_eq_true rfl) ?_
  intro p e s m args below meth c ls hx hb hml hr hlk hown hts hW hS hA hC hl
  have hK := hC.1
  have hN := hC.2.1
  have hn12 := hW.n12
  have hl : lv_has ls 2 [(0, .ref (zg S 2 fl k)), (1, .int 0)] := hl
  refine lv_iload_n hx hb dX8_channel_0 rfl (lv_at hl 1 rfl) ?_
  refine lv_if_eq (tgt := 11) hx hb dX8_channel_1 (by decide) (fun _ => ?_) (fun h9 => absurd (by decide) h9)
  refine lv_aload_n hx hb dX8_channel_11 rfl (lv_at hl 0 rfl) ?_
  refine t_get (D := D) (ci := 7) (v := zch S 0 fl k) (C := RX8) (T := TX8) (N := 12) hx hb hts iX8 hown hK hW 2 fl k (dm2 (by omega) (by omega)) rfl rfl 2 (by decide) (hts _ wq1108) (fun _ h9 => h9) rfl dX8_channel_12 ?_
  exact ze_q hx hb hr (by first | exact Or.inl ⟨_, rfl⟩ | exact Or.inr ⟨_, rfl⟩) hlk (by first | exact Or.inl rfl | exact Or.inr ⟨_, rfl⟩ | exact zch_or _ _ _ _) (by rfl) dX8_channel_15
def v_X8_channel1 (S : TS) (F : TF) (G : TG) (q : TQ) (fl : Nat) (k : Nat) : Value := zch S 1 fl k
set_option maxHeartbeats 4000000 in
set_option maxRecDepth 100000 in
theorem k_X8_channel1 (l : Launch) (D : va_G) (yc : Nat → ClassId) (e0 : Nat) (A : Nat → Prop) (S : TS) (Z : Nat × Nat) (F : TF) (G : TG) (q : TQ) (fl : Nat) (k : Nat) (hf : fl < 2) (hk : k < zn S) : Met l yX8_channel (ws_ yX8_channel cX8_channel 2 (some (.object "WeirStream$Channel"))) ({ frames := 0, cells := 0, slots := 0, locals := 0 }) (PT D yc e0 A S Z F G q [.ref (zg S 2 fl k), .int 1]) (zQ (some ((v_X8_channel1 S F G q fl k)))) 0 0 zno := by
  refine tk_M (by decide) (Nat.le_of_ble_eq_true rfl) ?_
  intro p e s m args below meth c ls hx hb hml hr hlk hown hts hW hS hA hC hl
  have hK := hC.1
  have hN := hC.2.1
  have hn12 := hW.n12
  have hl : lv_has ls 2 [(0, .ref (zg S 2 fl k)), (1, .int 1)] := hl
  refine lv_iload_n hx hb dX8_channel_0 rfl (lv_at hl 1 rfl) ?_
  refine lv_if_eq (tgt := 11) hx hb dX8_channel_1 (by decide) (fun h9 => absurd h9 (by decide)) (fun _ => ?_)
  refine lv_aload_n hx hb dX8_channel_4 rfl (lv_at hl 0 rfl) ?_
  refine t_get (D := D) (ci := 7) (v := zch S 1 fl k) (C := RX8) (T := TX8) (N := 12) hx hb hts iX8 hown hK hW 2 fl k (dm2 (by omega) (by omega)) rfl rfl 3 (by decide) (hts _ wq1110) (fun _ h9 => h9) rfl dX8_channel_5 ?_
  refine lv_goto (tgt := 15) hx hb dX8_channel_8 (by decide) ?_
  exact ze_q hx hb hr (by first | exact Or.inl ⟨_, rfl⟩ | exact Or.inr ⟨_, rfl⟩) hlk (by first | exact Or.inl rfl | exact Or.inr ⟨_, rfl⟩ | exact zch_or _ _ _ _) (by rfl) dX8_channel_15
def v_X8_unread (S : TS) (F : TF) (G : TG) (q : TQ) (fl : Nat) (k : Nat) : Int32 := (v_X6_length S F G q (rl k)) - (F 0 fl (3 * k) 4)
set_option maxHeartbeats 4000000 in
set_option maxRecDepth 100000 in
theorem k_X8_unread (l : Launch) (D : va_G) (yc : Nat → ClassId) (e0 : Nat) (A : Nat → Prop) (S : TS) (Z : Nat × Nat) (F : TF) (G : TG) (q : TQ) (fl : Nat) (k : Nat) (hf : fl < 2) (hk : k < zn S) : Met l yX8_unread (ws_ yX8_unread cX8_unread 1 (some .int)) ({ frames := 1, cells := 0, slots := 0, locals := 20 }) (PT D yc e0 A S Z F G q [.ref (zg S 2 fl k)]) (zQ (some (.int (v_X8_unread S F G q fl k)))) 0 0 zno := by
  refine tk_M (by decide) (Nat.le_of_ble_eq_true rfl) ?_
  intro p e s m args below meth c ls hx hb hml hr hlk hown hts hW hS hA hC hl
  have hK := hC.1
  have hN := hC.2.1
  have hn12 := hW.n12
  have hl : lv_has ls 1 [(0, .ref (zg S 2 fl k))] := hl
  refine lv_aload_n hx hb dX8_unread_0 rfl (lv_at hl 0 rfl) ?_
  refine t_get (D := D) (ci := 7) (v := .ref (zr S (rl k))) (C := RX8) (T := TX8) (N := 12) hx hb hts iX8 hown hK hW 2 fl k (dm2 (by omega) (by omega)) rfl rfl 1 (by decide) (hts _ wq1106) (fun _ h9 => h9) rfl dX8_unread_1 ?_
  refine zr_i (va_runV (As := []) (rest := []) ⟨hx, hb, hml, hown, hts⟩ (k_X6_length l D yc e0 A S Z F G q (rl k) (dr_l hW.n12 (by omega))) (cwV 0 hts (lw_V wq265 wq266 wq267 wq15 wq268) rfl rfl rfl (by decide +kernel) ⟨(Nat.le_of_ble_eq_true rfl), (Nat.le_of_ble_eq_true rfl)⟩) (tp_R hC hW hS hA (rl k) (dr_l hW.n12 (by omega))) rfl rfl hl.1 rfl (lv_room (Nat.le_of_ble_eq_true rfl)) dX8_unread_4 ⟨(Nat.le_of_ble_eq_true rfl), (Nat.le_of_ble_eq_true rfl)⟩) ?_
  refine lv_aload_n hx hb dX8_unread_7 rfl (lv_at hl 0 rfl) ?_
  refine t_get (D := D) (ci := 7) (v := .ref (zg S 0 fl (3 * k))) (C := RX8) (T := TX8) (N := 12) hx hb hts iX8 hown hK hW 2 fl k (dm2 (by omega) (by omega)) rfl rfl 7 (by decide) (hts _ wq1118) (fun _ h9 => h9) rfl dX8_unread_8 ?_
  refine t_getN (D := D) (ci := 8) (v := .int (F 0 fl (3 * k) 4)) (C := RX9) (T := TX9) (N := 11) hx hb hts iX9 hown hK hW 0 fl (3 * k) (dm0 (by omega) (by omega)) rfl rfl 4 (by decide) (zk_tab rfl (hN _ wr1061 rfl)) (fun _ h9 => h9) rfl dX8_unread_11 ?_
  refine lv_isub hx hb dX8_unread_14 ?_
  exact ze_i hx hb hr hlk rfl (by rfl) dX8_unread_15
def v_X8_canWork (S : TS) (F : TF) (G : TG) (q : TQ) (fl : Nat) (k : Nat) (i1 : Int32) : Int32 := if (v_X4_isBelow S F G q fl k i1) = 0 then 0 else if (F 8 0 k 0) = 0 then if (F 2 fl k 11) = 0 then if 0 < (v_X8_unread S F G q fl k) then 1 else if (F 2 fl k 10) = 0 then 0 else if (F 0 fl (3 * k) 0) = 1000000 then 0 else 1 else 1 else if (zp S 0 k).isSome = true then if (v_X1_canGive S F G q 4 fl k) = 0 then if (zp S 1 k).isSome = true then if (v_X1_canGive S F G q 5 fl k) = 0 then 0 else 1 else 0 else 1 else if (zp S 1 k).isSome = true then if (v_X1_canGive S F G q 5 fl k) = 0 then 0 else 1 else 0
set_option maxHeartbeats 4000000 in
set_option maxRecDepth 100000 in
theorem k_X8_canWork (l : Launch) (D : va_G) (yc : Nat → ClassId) (e0 : Nat) (A : Nat → Prop) (S : TS) (Z : Nat × Nat) (F : TF) (G : TG) (q : TQ) (fl : Nat) (k : Nat) (i1 : Int32) (hf : fl < 2) (hk : k < zn S) : Met l yX8_canWork (ws_ yX8_canWork cX8_canWork 2 (some .boolean)) ({ frames := 5, cells := 0, slots := 0, locals := 107 }) (PT D yc e0 A S Z F G q [.ref (zg S 2 fl k), .int i1]) (zQ (some (.int (v_X8_canWork S F G q fl k i1)))) 0 0 zno := by
  refine tk_M (by decide) (Nat.le_of_ble_eq_true rfl) ?_
  intro p e s m args below meth c ls hx hb hml hr hlk hown hts hW hS hA hC hl
  have hK := hC.1
  have hN := hC.2.1
  have hn12 := hW.n12
  have hl : lv_has ls 2 [(0, .ref (zg S 2 fl k)), (1, .int i1)] := hl
  refine lv_aload_n hx hb dX8_canWork_0 rfl (lv_at hl 0 rfl) ?_
  refine t_get (D := D) (ci := 7) (v := .ref (zg S 3 fl k)) (C := RX8) (T := TX8) (N := 12) hx hb hts iX8 hown hK hW 2 fl k (dm2 (by omega) (by omega)) rfl rfl 5 (by decide) (hts _ wq1113) (fun _ h9 => h9) rfl dX8_canWork_1 ?_
  refine lv_iload_n hx hb dX8_canWork_4 rfl (lv_at hl 1 rfl) ?_
  refine zr_i (va_runV (As := [.int i1]) (rest := []) ⟨hx, hb, hml, hown, hts⟩ (k_X4_isBelow l D yc e0 A S Z F G q fl k i1 (by first | assumption | omega | decide) (by first | assumption | omega | decide)) (cwV 1 hts (lw_V wq286 wq287 wq288 wq21 wq289) rfl rfl rfl (by decide +kernel) ⟨(Nat.le_of_ble_eq_true rfl), (Nat.le_of_ble_eq_true rfl)⟩) (tp_V hC hW hS hA 3 fl k (dm3 (by omega) (by omega)) rfl rfl) rfl rfl hl.1 rfl (lv_room (Nat.le_of_ble_eq_true rfl)) dX8_canWork_5 ⟨(Nat.le_of_ble_eq_true rfl), (Nat.le_of_ble_eq_true rfl)⟩) ?_
  refine lv_if_ne (tgt := 13) hx hb dX8_canWork_8 (by decide) (fun hb1 => ?_) (fun hb1 => ?_)
  · refine lv_aload_n hx hb dX8_canWork_13 rfl (lv_at hl 0 rfl) ?_
    refine t_get (D := D) (ci := 7) (v := .ref (zg S 8 0 k)) (C := RX8) (T := TX8) (N := 12) hx hb hts iX8 hown hK hW 2 fl k (dm2 (by omega) (by omega)) rfl rfl 0 (by decide) (hts _ wq1103) (fun _ h9 => h9) rfl dX8_canWork_14 ?_
    refine t_getN (D := D) (ci := 4) (v := .int (F 8 0 k 0)) (C := RX5) (T := TX5) (N := 15) hx hb hts iX5 hown hK hW 8 0 k (dm8 (by omega)) rfl rfl 0 (by decide) (zk_tab rfl (hN _ wr832 rfl)) (fun _ h9 => h9) rfl dX8_canWork_17 ?_
    refine lv_if_ne (tgt := 62) hx hb dX8_canWork_20 (by decide) (fun hb2 => ?_) (fun hb2 => ?_)
    · refine lv_aload_n hx hb dX8_canWork_62 rfl (lv_at hl 0 rfl) ?_
      refine t_get (D := D) (ci := 7) (v := zch S 0 fl k) (C := RX8) (T := TX8) (N := 12) hx hb hts iX8 hown hK hW 2 fl k (dm2 (by omega) (by omega)) rfl rfl 2 (by decide) (hts _ wq1108) (fun _ h9 => h9) rfl dX8_canWork_63 ?_
      by_cases ho7 : (zp S 0 k).isSome = true
      · refine zk_tv (y := .ref (zg S 4 fl k)) (by show zch S 0 fl k = _; unfold zch; rw [if_pos ho7]) ?_
        refine lv_ifnull hx hb dX8_canWork_66 ?_
        refine lv_aload_n hx hb dX8_canWork_69 rfl (lv_at hl 0 rfl) ?_
        refine t_get (D := D) (ci := 7) (v := zch S 0 fl k) (C := RX8) (T := TX8) (N := 12) hx hb hts iX8 hown hK hW 2 fl k (dm2 (by omega) (by omega)) rfl rfl 2 (by decide) (hts _ wq1108) (fun _ h9 => h9) rfl dX8_canWork_70 ?_
        refine zk_tv (y := .ref (zg S 4 fl k)) (by show zch S 0 fl k = _; unfold zch; rw [if_pos ho7]) ?_
        refine zr_i (va_runV (As := []) (rest := []) ⟨hx, hb, hml, hown, hts⟩ (k_X1_canGive l D yc e0 A S Z F G q 4 fl k (Or.inl rfl) (dm4 (by omega) (by omega) (by assumption))) (cwV 0 hts (lw_V wq304 wq305 wq306 wq17 wq307) rfl rfl rfl (by decide +kernel) ⟨(Nat.le_of_ble_eq_true rfl), (Nat.le_of_ble_eq_true rfl)⟩) (tp_V hC hW hS hA 4 fl k (dm4 (by omega) (by omega) (by assumption)) (cel_ch (Or.inl rfl)) rfl) rfl rfl hl.1 rfl (lv_room (Nat.le_of_ble_eq_true rfl)) dX8_canWork_73 ⟨(Nat.le_of_ble_eq_true rfl), (Nat.le_of_ble_eq_true rfl)⟩) ?_
        refine lv_if_ne (tgt := 96) hx hb dX8_canWork_76 (by decide) (fun hb8 => ?_) (fun hb8 => ?_)
        · refine lv_iconst (v := 1) hx hb dX8_canWork_96 (by decide) ?_
          refine lv_goto (tgt := 101) hx hb dX8_canWork_97 (by decide) ?_
          exact ze_i hx hb hr hlk rfl (by unfold v_X8_canWork; rw [if_neg hb1, if_neg hb2, if_pos ho7, if_neg hb8]) dX8_canWork_101
        · refine lv_aload_n hx hb dX8_canWork_79 rfl (lv_at hl 0 rfl) ?_
          refine t_get (D := D) (ci := 7) (v := zch S 1 fl k) (C := RX8) (T := TX8) (N := 12) hx hb hts iX8 hown hK hW 2 fl k (dm2 (by omega) (by omega)) rfl rfl 3 (by decide) (hts _ wq1110) (fun _ h9 => h9) rfl dX8_canWork_80 ?_
          by_cases ho9 : (zp S 1 k).isSome = true
          · refine zk_tv (y := .ref (zg S 5 fl k)) (by show zch S 1 fl k = _; unfold zch; rw [if_pos ho9]) ?_
            refine lv_ifnull hx hb dX8_canWork_83 ?_
            refine lv_aload_n hx hb dX8_canWork_86 rfl (lv_at hl 0 rfl) ?_
            refine t_get (D := D) (ci := 7) (v := zch S 1 fl k) (C := RX8) (T := TX8) (N := 12) hx hb hts iX8 hown hK hW 2 fl k (dm2 (by omega) (by omega)) rfl rfl 3 (by decide) (hts _ wq1110) (fun _ h9 => h9) rfl dX8_canWork_87 ?_
            refine zk_tv (y := .ref (zg S 5 fl k)) (by show zch S 1 fl k = _; unfold zch; rw [if_pos ho9]) ?_
            refine zr_i (va_runV (As := []) (rest := []) ⟨hx, hb, hml, hown, hts⟩ (k_X1_canGive l D yc e0 A S Z F G q 5 fl k (Or.inr rfl) (dm5 (by omega) (by omega) (by assumption))) (cwV 0 hts (lw_V wq304 wq305 wq306 wq17 wq307) rfl rfl rfl (by decide +kernel) ⟨(Nat.le_of_ble_eq_true rfl), (Nat.le_of_ble_eq_true rfl)⟩) (tp_V hC hW hS hA 5 fl k (dm5 (by omega) (by omega) (by assumption)) (cel_ch (Or.inr rfl)) rfl) rfl rfl hl.1 rfl (lv_room (Nat.le_of_ble_eq_true rfl)) dX8_canWork_90 ⟨(Nat.le_of_ble_eq_true rfl), (Nat.le_of_ble_eq_true rfl)⟩) ?_
            refine lv_if_eq (tgt := 100) hx hb dX8_canWork_93 (by decide) (fun hb10 => ?_) (fun hb10 => ?_)
            · refine lv_iconst (v := 0) hx hb dX8_canWork_100 (by decide) ?_
              exact ze_i hx hb hr hlk rfl (by unfold v_X8_canWork; rw [if_neg hb1, if_neg hb2, if_pos ho7, if_pos hb8, if_pos ho9, if_pos hb10]) dX8_canWork_101
            · refine lv_iconst (v := 1) hx hb dX8_canWork_96 (by decide) ?_
              refine lv_goto (tgt := 101) hx hb dX8_canWork_97 (by decide) ?_
              exact ze_i hx hb hr hlk rfl (by unfold v_X8_canWork; rw [if_neg hb1, if_neg hb2, if_pos ho7, if_pos hb8, if_pos ho9, if_neg hb10]) dX8_canWork_101
          · refine zk_tv (y := .null) (by show zch S 1 fl k = _; unfold zch; rw [if_neg ho9]) ?_
            refine lv_ifnullN (tgt := 100) hx hb dX8_canWork_83 (by decide) ?_
            refine lv_iconst (v := 0) hx hb dX8_canWork_100 (by decide) ?_
            exact ze_i hx hb hr hlk rfl (by unfold v_X8_canWork; rw [if_neg hb1, if_neg hb2, if_pos ho7, if_pos hb8, if_neg ho9]) dX8_canWork_101
      · refine zk_tv (y := .null) (by show zch S 0 fl k = _; unfold zch; rw [if_neg ho7]) ?_
        refine lv_ifnullN (tgt := 79) hx hb dX8_canWork_66 (by decide) ?_
        refine lv_aload_n hx hb dX8_canWork_79 rfl (lv_at hl 0 rfl) ?_
        refine t_get (D := D) (ci := 7) (v := zch S 1 fl k) (C := RX8) (T := TX8) (N := 12) hx hb hts iX8 hown hK hW 2 fl k (dm2 (by omega) (by omega)) rfl rfl 3 (by decide) (hts _ wq1110) (fun _ h9 => h9) rfl dX8_canWork_80 ?_
        by_cases ho11 : (zp S 1 k).isSome = true
        · refine zk_tv (y := .ref (zg S 5 fl k)) (by show zch S 1 fl k = _; unfold zch; rw [if_pos ho11]) ?_
          refine lv_ifnull hx hb dX8_canWork_83 ?_
          refine lv_aload_n hx hb dX8_canWork_86 rfl (lv_at hl 0 rfl) ?_
          refine t_get (D := D) (ci := 7) (v := zch S 1 fl k) (C := RX8) (T := TX8) (N := 12) hx hb hts iX8 hown hK hW 2 fl k (dm2 (by omega) (by omega)) rfl rfl 3 (by decide) (hts _ wq1110) (fun _ h9 => h9) rfl dX8_canWork_87 ?_
          refine zk_tv (y := .ref (zg S 5 fl k)) (by show zch S 1 fl k = _; unfold zch; rw [if_pos ho11]) ?_
          refine zr_i (va_runV (As := []) (rest := []) ⟨hx, hb, hml, hown, hts⟩ (k_X1_canGive l D yc e0 A S Z F G q 5 fl k (Or.inr rfl) (dm5 (by omega) (by omega) (by assumption))) (cwV 0 hts (lw_V wq304 wq305 wq306 wq17 wq307) rfl rfl rfl (by decide +kernel) ⟨(Nat.le_of_ble_eq_true rfl), (Nat.le_of_ble_eq_true rfl)⟩) (tp_V hC hW hS hA 5 fl k (dm5 (by omega) (by omega) (by assumption)) (cel_ch (Or.inr rfl)) rfl) rfl rfl hl.1 rfl (lv_room (Nat.le_of_ble_eq_true rfl)) dX8_canWork_90 ⟨(Nat.le_of_ble_eq_true rfl), (Nat.le_of_ble_eq_true rfl)⟩) ?_
          refine lv_if_eq (tgt := 100) hx hb dX8_canWork_93 (by decide) (fun hb12 => ?_) (fun hb12 => ?_)
          · refine lv_iconst (v := 0) hx hb dX8_canWork_100 (by decide) ?_
            exact ze_i hx hb hr hlk rfl (by unfold v_X8_canWork; rw [if_neg hb1, if_neg hb2, if_neg ho7, if_pos ho11, if_pos hb12]) dX8_canWork_101
          · refine lv_iconst (v := 1) hx hb dX8_canWork_96 (by decide) ?_
            refine lv_goto (tgt := 101) hx hb dX8_canWork_97 (by decide) ?_
            exact ze_i hx hb hr hlk rfl (by unfold v_X8_canWork; rw [if_neg hb1, if_neg hb2, if_neg ho7, if_pos ho11, if_neg hb12]) dX8_canWork_101
        · refine zk_tv (y := .null) (by show zch S 1 fl k = _; unfold zch; rw [if_neg ho11]) ?_
          refine lv_ifnullN (tgt := 100) hx hb dX8_canWork_83 (by decide) ?_
          refine lv_iconst (v := 0) hx hb dX8_canWork_100 (by decide) ?_
          exact ze_i hx hb hr hlk rfl (by unfold v_X8_canWork; rw [if_neg hb1, if_neg hb2, if_neg ho7, if_neg ho11]) dX8_canWork_101
    · refine lv_aload_n hx hb dX8_canWork_23 rfl (lv_at hl 0 rfl) ?_
      refine t_get (D := D) (ci := 7) (v := .int (F 2 fl k 11)) (C := RX8) (T := TX8) (N := 12) hx hb hts iX8 hown hK hW 2 fl k (dm2 (by omega) (by omega)) rfl rfl 11 (by decide) (hts _ wq1127) (fun _ h9 => h9) rfl dX8_canWork_24 ?_
      refine lv_if_ne (tgt := 56) hx hb dX8_canWork_27 (by decide) (fun hb3 => ?_) (fun hb3 => ?_)
      · refine lv_iconst (v := 1) hx hb dX8_canWork_56 (by decide) ?_
        refine lv_goto (tgt := 61) hx hb dX8_canWork_57 (by decide) ?_
        exact ze_i hx hb hr hlk rfl (by unfold v_X8_canWork; rw [if_neg hb1, if_pos hb2, if_neg hb3]) dX8_canWork_61
      · refine lv_aload_n hx hb dX8_canWork_30 rfl (lv_at hl 0 rfl) ?_
        refine zr_i (va_runV (As := []) (rest := []) ⟨hx, hb, hml, hown, hts⟩ (k_X8_unread l D yc e0 A S Z F G q fl k (by first | assumption | omega | decide) (by first | assumption | omega | decide)) (cwV 0 hts (lw_V wq302 wq262 wq263 wq16 wq264) rfl rfl rfl (by decide +kernel) ⟨(Nat.le_of_ble_eq_true rfl), (Nat.le_of_ble_eq_true rfl)⟩) (tp_V hC hW hS hA 2 fl k (dm2 (by omega) (by omega)) rfl rfl) rfl rfl hl.1 rfl (lv_room (Nat.le_of_ble_eq_true rfl)) dX8_canWork_31 ⟨(Nat.le_of_ble_eq_true rfl), (Nat.le_of_ble_eq_true rfl)⟩) ?_
        refine lv_if_gt (tgt := 56) hx hb dX8_canWork_34 (by decide) (fun hb4 => ?_) (fun hb4 => ?_)
        · refine lv_iconst (v := 1) hx hb dX8_canWork_56 (by decide) ?_
          refine lv_goto (tgt := 61) hx hb dX8_canWork_57 (by decide) ?_
          exact ze_i hx hb hr hlk rfl (by unfold v_X8_canWork; rw [if_neg hb1, if_pos hb2, if_pos hb3, if_pos hb4]) dX8_canWork_61
        · refine lv_aload_n hx hb dX8_canWork_37 rfl (lv_at hl 0 rfl) ?_
          refine t_get (D := D) (ci := 7) (v := .int (F 2 fl k 10)) (C := RX8) (T := TX8) (N := 12) hx hb hts iX8 hown hK hW 2 fl k (dm2 (by omega) (by omega)) rfl rfl 10 (by decide) (hts _ wq1125) (fun _ h9 => h9) rfl dX8_canWork_38 ?_
          refine lv_if_eq (tgt := 60) hx hb dX8_canWork_41 (by decide) (fun hb5 => ?_) (fun hb5 => ?_)
          · refine lv_iconst (v := 0) hx hb dX8_canWork_60 (by decide) ?_
            exact ze_i hx hb hr hlk rfl (by unfold v_X8_canWork; rw [if_neg hb1, if_pos hb2, if_pos hb3, if_neg hb4, if_pos hb5]) dX8_canWork_61
          · refine lv_aload_n hx hb dX8_canWork_44 rfl (lv_at hl 0 rfl) ?_
            refine t_get (D := D) (ci := 7) (v := .ref (zg S 0 fl (3 * k))) (C := RX8) (T := TX8) (N := 12) hx hb hts iX8 hown hK hW 2 fl k (dm2 (by omega) (by omega)) rfl rfl 7 (by decide) (hts _ wq1118) (fun _ h9 => h9) rfl dX8_canWork_45 ?_
            refine t_getN (D := D) (ci := 8) (v := .int (F 0 fl (3 * k) 0)) (C := RX9) (T := TX9) (N := 11) hx hb hts iX9 hown hK hW 0 fl (3 * k) (dm0 (by omega) (by omega)) rfl rfl 0 (by decide) (zk_tab rfl (hN _ wr1052 rfl)) (fun _ h9 => h9) rfl dX8_canWork_48 ?_
            refine lv_ldc hx hb hown (hts _ wq303) dX8_canWork_51 ?_
            refine lv_icmp_eq (tgt := 60) hx hb dX8_canWork_53 (by decide) (fun hb6 => ?_) (fun hb6 => ?_)
            · refine lv_iconst (v := 0) hx hb dX8_canWork_60 (by decide) ?_
              exact ze_i hx hb hr hlk rfl (by unfold v_X8_canWork; rw [if_neg hb1, if_pos hb2, if_pos hb3, if_neg hb4, if_neg hb5, if_pos hb6]) dX8_canWork_61
            · refine lv_iconst (v := 1) hx hb dX8_canWork_56 (by decide) ?_
              refine lv_goto (tgt := 61) hx hb dX8_canWork_57 (by decide) ?_
              exact ze_i hx hb hr hlk rfl (by unfold v_X8_canWork; rw [if_neg hb1, if_pos hb2, if_pos hb3, if_neg hb4, if_neg hb5, if_neg hb6]) dX8_canWork_61
  · refine lv_iconst (v := 0) hx hb dX8_canWork_11 (by decide) ?_
    exact ze_i hx hb hr hlk rfl (by unfold v_X8_canWork; rw [if_pos hb1]) dX8_canWork_12
def v_X8_turnsToSecond (S : TS) (F : TF) (G : TG) (q : TQ) (fl : Nat) (k : Nat) : Int32 := if (zp S 1 k).isSome = true then if (v_X1_canGive S F G q 5 fl k) = 0 then 0 else if (F 0 fl (3 * k) 3) = 0 then 1 else if (zp S 0 k).isSome = true then if (v_X1_canGive S F G q 4 fl k) = 0 then 1 else 0 else 1 else 0
set_option maxHeartbeats 4000000 in
set_option maxRecDepth 100000 in
theorem k_X8_turnsToSecond (l : Launch) (D : va_G) (yc : Nat → ClassId) (e0 : Nat) (A : Nat → Prop) (S : TS) (Z : Nat × Nat) (F : TF) (G : TG) (q : TQ) (fl : Nat) (k : Nat) (hf : fl < 2) (hk : k < zn S) : Met l yX8_turnsToSecond (ws_ yX8_turnsToSecond cX8_turnsToSecond 1 (some .boolean)) ({ frames := 3, cells := 0, slots := 0, locals := 60 }) (PT D yc e0 A S Z F G q [.ref (zg S 2 fl k)]) (zQ (some (.int (v_X8_turnsToSecond S F G q fl k)))) 0 0 zno := by
  refine tk_M (by decide) (Nat.le_of_ble_eq_true rfl) ?_
  intro p e s m args below meth c ls hx hb hml hr hlk hown hts hW hS hA hC hl
  have hK := hC.1
  have hN := hC.2.1
  have hn12 := hW.n12
  have hl : lv_has ls 1 [(0, .ref (zg S 2 fl k))] := hl
  refine lv_aload_n hx hb dX8_turnsToSecond_0 rfl (lv_at hl 0 rfl) ?_
  refine t_get (D := D) (ci := 7) (v := zch S 1 fl k) (C := RX8) (T := TX8) (N := 12) hx hb hts iX8 hown hK hW 2 fl k (dm2 (by omega) (by omega)) rfl rfl 3 (by decide) (hts _ wq1110) (fun _ h9 => h9) rfl dX8_turnsToSecond_1 ?_
  by_cases ho1 : (zp S 1 k).isSome = true
  · refine zk_tv (y := .ref (zg S 5 fl k)) (by show zch S 1 fl k = _; unfold zch; rw [if_pos ho1]) ?_
    refine lv_ifnull hx hb dX8_turnsToSecond_4 ?_
    refine lv_aload_n hx hb dX8_turnsToSecond_7 rfl (lv_at hl 0 rfl) ?_
    refine t_get (D := D) (ci := 7) (v := zch S 1 fl k) (C := RX8) (T := TX8) (N := 12) hx hb hts iX8 hown hK hW 2 fl k (dm2 (by omega) (by omega)) rfl rfl 3 (by decide) (hts _ wq1110) (fun _ h9 => h9) rfl dX8_turnsToSecond_8 ?_
    refine zk_tv (y := .ref (zg S 5 fl k)) (by show zch S 1 fl k = _; unfold zch; rw [if_pos ho1]) ?_
    refine zr_i (va_runV (As := []) (rest := []) ⟨hx, hb, hml, hown, hts⟩ (k_X1_canGive l D yc e0 A S Z F G q 5 fl k (Or.inr rfl) (dm5 (by omega) (by omega) (by assumption))) (cwV 0 hts (lw_V wq304 wq305 wq306 wq17 wq307) rfl rfl rfl (by decide +kernel) ⟨(Nat.le_of_ble_eq_true rfl), (Nat.le_of_ble_eq_true rfl)⟩) (tp_V hC hW hS hA 5 fl k (dm5 (by omega) (by omega) (by assumption)) (cel_ch (Or.inr rfl)) rfl) rfl rfl hl.1 rfl (lv_room (Nat.le_of_ble_eq_true rfl)) dX8_turnsToSecond_11 ⟨(Nat.le_of_ble_eq_true rfl), (Nat.le_of_ble_eq_true rfl)⟩) ?_
    refine lv_if_ne (tgt := 19) hx hb dX8_turnsToSecond_14 (by decide) (fun hb2 => ?_) (fun hb2 => ?_)
    · refine lv_aload_n hx hb dX8_turnsToSecond_19 rfl (lv_at hl 0 rfl) ?_
      refine t_get (D := D) (ci := 7) (v := .ref (zg S 0 fl (3 * k))) (C := RX8) (T := TX8) (N := 12) hx hb hts iX8 hown hK hW 2 fl k (dm2 (by omega) (by omega)) rfl rfl 7 (by decide) (hts _ wq1118) (fun _ h9 => h9) rfl dX8_turnsToSecond_20 ?_
      refine t_getN (D := D) (ci := 8) (v := .int (F 0 fl (3 * k) 3)) (C := RX9) (T := TX9) (N := 11) hx hb hts iX9 hown hK hW 0 fl (3 * k) (dm0 (by omega) (by omega)) rfl rfl 3 (by decide) (zk_tab rfl (hN _ wr1059 rfl)) (fun _ h9 => h9) rfl dX8_turnsToSecond_23 ?_
      refine lv_if_eq (tgt := 46) hx hb dX8_turnsToSecond_26 (by decide) (fun hb3 => ?_) (fun hb3 => ?_)
      · refine lv_iconst (v := 1) hx hb dX8_turnsToSecond_46 (by decide) ?_
        refine lv_goto (tgt := 51) hx hb dX8_turnsToSecond_47 (by decide) ?_
        exact ze_i hx hb hr hlk rfl (by unfold v_X8_turnsToSecond; rw [if_pos ho1, if_neg hb2, if_pos hb3]) dX8_turnsToSecond_51
      · refine lv_aload_n hx hb dX8_turnsToSecond_29 rfl (lv_at hl 0 rfl) ?_
        refine t_get (D := D) (ci := 7) (v := zch S 0 fl k) (C := RX8) (T := TX8) (N := 12) hx hb hts iX8 hown hK hW 2 fl k (dm2 (by omega) (by omega)) rfl rfl 2 (by decide) (hts _ wq1108) (fun _ h9 => h9) rfl dX8_turnsToSecond_30 ?_
        by_cases ho4 : (zp S 0 k).isSome = true
        · refine zk_tv (y := .ref (zg S 4 fl k)) (by show zch S 0 fl k = _; unfold zch; rw [if_pos ho4]) ?_
          refine lv_ifnull hx hb dX8_turnsToSecond_33 ?_
          refine lv_aload_n hx hb dX8_turnsToSecond_36 rfl (lv_at hl 0 rfl) ?_
          refine t_get (D := D) (ci := 7) (v := zch S 0 fl k) (C := RX8) (T := TX8) (N := 12) hx hb hts iX8 hown hK hW 2 fl k (dm2 (by omega) (by omega)) rfl rfl 2 (by decide) (hts _ wq1108) (fun _ h9 => h9) rfl dX8_turnsToSecond_37 ?_
          refine zk_tv (y := .ref (zg S 4 fl k)) (by show zch S 0 fl k = _; unfold zch; rw [if_pos ho4]) ?_
          refine zr_i (va_runV (As := []) (rest := []) ⟨hx, hb, hml, hown, hts⟩ (k_X1_canGive l D yc e0 A S Z F G q 4 fl k (Or.inl rfl) (dm4 (by omega) (by omega) (by assumption))) (cwV 0 hts (lw_V wq304 wq305 wq306 wq17 wq307) rfl rfl rfl (by decide +kernel) ⟨(Nat.le_of_ble_eq_true rfl), (Nat.le_of_ble_eq_true rfl)⟩) (tp_V hC hW hS hA 4 fl k (dm4 (by omega) (by omega) (by assumption)) (cel_ch (Or.inl rfl)) rfl) rfl rfl hl.1 rfl (lv_room (Nat.le_of_ble_eq_true rfl)) dX8_turnsToSecond_40 ⟨(Nat.le_of_ble_eq_true rfl), (Nat.le_of_ble_eq_true rfl)⟩) ?_
          refine lv_if_ne (tgt := 50) hx hb dX8_turnsToSecond_43 (by decide) (fun hb5 => ?_) (fun hb5 => ?_)
          · refine lv_iconst (v := 0) hx hb dX8_turnsToSecond_50 (by decide) ?_
            exact ze_i hx hb hr hlk rfl (by unfold v_X8_turnsToSecond; rw [if_pos ho1, if_neg hb2, if_neg hb3, if_pos ho4, if_neg hb5]) dX8_turnsToSecond_51
          · refine lv_iconst (v := 1) hx hb dX8_turnsToSecond_46 (by decide) ?_
            refine lv_goto (tgt := 51) hx hb dX8_turnsToSecond_47 (by decide) ?_
            exact ze_i hx hb hr hlk rfl (by unfold v_X8_turnsToSecond; rw [if_pos ho1, if_neg hb2, if_neg hb3, if_pos ho4, if_pos hb5]) dX8_turnsToSecond_51
        · refine zk_tv (y := .null) (by show zch S 0 fl k = _; unfold zch; rw [if_neg ho4]) ?_
          refine lv_ifnullN (tgt := 46) hx hb dX8_turnsToSecond_33 (by decide) ?_
          refine lv_iconst (v := 1) hx hb dX8_turnsToSecond_46 (by decide) ?_
          refine lv_goto (tgt := 51) hx hb dX8_turnsToSecond_47 (by decide) ?_
          exact ze_i hx hb hr hlk rfl (by unfold v_X8_turnsToSecond; rw [if_pos ho1, if_neg hb2, if_neg hb3, if_neg ho4]) dX8_turnsToSecond_51
    · refine lv_iconst (v := 0) hx hb dX8_turnsToSecond_17 (by decide) ?_
      exact ze_i hx hb hr hlk rfl (by unfold v_X8_turnsToSecond; rw [if_pos ho1, if_pos hb2]) dX8_turnsToSecond_18
  · refine zk_tv (y := .null) (by show zch S 1 fl k = _; unfold zch; rw [if_neg ho1]) ?_
    refine lv_ifnullN (tgt := 17) hx hb dX8_turnsToSecond_4 (by decide) ?_
    refine lv_iconst (v := 0) hx hb dX8_turnsToSecond_17 (by decide) ?_
    exact ze_i hx hb hr hlk rfl (by unfold v_X8_turnsToSecond; rw [if_neg ho1]) dX8_turnsToSecond_18
def v_X8_passes (S : TS) (F : TF) (G : TG) (q : TQ) (fl : Nat) (k : Nat) (l1 : Int64) : Int32 := if (F 8 0 k 4) = 0 then if (v_X3_value l1) < (F 8 0 k 5) then 0 else 1 else if (F 8 0 k 4) = 1 then if (F 8 0 k 5) ≤ (v_X3_value l1) then 0 else 1 else if (F 8 0 k 4) = 2 then if (v_X3_key l1) = (F 8 0 k 5) then 1 else 0 else if (F 8 0 k 5) = 0 then 0 else if (v_J9_floorMod (v_X3_value l1) (F 8 0 k 5)) = 0 then 1 else 0
set_option maxHeartbeats 4000000 in
set_option maxRecDepth 100000 in
theorem k_X8_passes (l : Launch) (D : va_G) (yc : Nat → ClassId) (e0 : Nat) (A : Nat → Prop) (S : TS) (Z : Nat × Nat) (F : TF) (G : TG) (q : TQ) (fl : Nat) (k : Nat) (l1 : Int64) (hf : fl < 2) (hk : k < zn S) : Met l yX8_passes (ws_ yX8_passes cX8_passes 5 (some .boolean)) ({ frames := 1, cells := 0, slots := 0, locals := 22 }) (PT D yc e0 A S Z F G q [.ref (zg S 2 fl k), .long l1]) (zQ (some (.int (v_X8_passes S F G q fl k l1)))) 0 0 zno := by
  refine tk_M (by decide) (Nat.le_of_ble_eq_true rfl) ?_
  intro p e s m args below meth c ls hx hb hml hr hlk hown hts hW hS hA hC hl
  have hK := hC.1
  have hN := hC.2.1
  have hn12 := hW.n12
  have hl : lv_has ls 5 [(0, .ref (zg S 2 fl k)), (1, .long l1)] := hl
  refine lv_lload_n hx hb dX8_passes_0 rfl (lv_at hl 1 rfl) ?_
  refine zr_i (va_runS (As := [.long l1]) (rest := []) ⟨hx, hb, hml, hown, hts⟩ (k_X3_value l l1) (va_cwS 1 hts (lw_S wq484 wq485 wq25 wq486) rfl rfl rfl (by decide +kernel) ⟨(Nat.le_of_ble_eq_true rfl), (Nat.le_of_ble_eq_true rfl)⟩) tp_N rfl rfl hl.1 rfl (lv_room (Nat.le_of_ble_eq_true rfl)) dX8_passes_1 ⟨(Nat.le_of_ble_eq_true rfl), (Nat.le_of_ble_eq_true rfl)⟩) ?_
  refine lv_istore_n (lv' := [(3, .int (v_X3_value l1)), (0, .ref (zg S 2 fl k)), (1, .long l1)]) hx hb dX8_passes_4 rfl hl (by decide) rfl (fun ls hl => ?_)
  refine lv_aload_n hx hb dX8_passes_5 rfl (lv_at hl 1 rfl) ?_
  refine t_get (D := D) (ci := 7) (v := .ref (zg S 8 0 k)) (C := RX8) (T := TX8) (N := 12) hx hb hts iX8 hown hK hW 2 fl k (dm2 (by omega) (by omega)) rfl rfl 0 (by decide) (hts _ wq1103) (fun _ h9 => h9) rfl dX8_passes_6 ?_
  refine t_getN (D := D) (ci := 4) (v := .int (F 8 0 k 5)) (C := RX5) (T := TX5) (N := 15) hx hb hts iX5 hown hK hW 8 0 k (dm8 (by omega)) rfl rfl 5 (by decide) (zk_tab rfl (hN _ wr845 rfl)) (fun _ h9 => h9) rfl dX8_passes_9 ?_
  refine lv_istore (lv' := [(4, .int (F 8 0 k 5)), (3, .int (v_X3_value l1)), (0, .ref (zg S 2 fl k)), (1, .long l1)]) hx hb dX8_passes_12 hl (by decide) rfl (fun ls hl => ?_)
  refine lv_aload_n hx hb dX8_passes_14 rfl (lv_at hl 2 rfl) ?_
  refine t_get (D := D) (ci := 7) (v := .ref (zg S 8 0 k)) (C := RX8) (T := TX8) (N := 12) hx hb hts iX8 hown hK hW 2 fl k (dm2 (by omega) (by omega)) rfl rfl 0 (by decide) (hts _ wq1103) (fun _ h9 => h9) rfl dX8_passes_15 ?_
  refine t_getN (D := D) (ci := 4) (v := .int (F 8 0 k 4)) (C := RX5) (T := TX5) (N := 15) hx hb hts iX5 hown hK hW 8 0 k (dm8 (by omega)) rfl rfl 4 (by decide) (zk_tab rfl (hN _ wr843 rfl)) (fun _ h9 => h9) rfl dX8_passes_18 ?_
  by_cases hs1 : (F 8 0 k 4) = 0
  · refine zk_ti (y := 0) hs1 ?_
    refine lv_tableIn (off := 27) (tgt := 48) hx hb dX8_passes_21 (by decide) (by decide) (by decide) (by decide) ?_
    refine lv_iload_n hx hb dX8_passes_48 rfl (lv_at hl 1 rfl) ?_
    refine lv_iload hx hb dX8_passes_49 (lv_at hl 0 rfl) ?_
    refine lv_icmp_lt (tgt := 58) hx hb dX8_passes_51 (by decide) (fun hb2 => ?_) (fun hb2 => ?_)
    · refine lv_iconst (v := 0) hx hb dX8_passes_58 (by decide) ?_
      exact ze_i hx hb hr hlk rfl (by unfold v_X8_passes; rw [if_pos hs1, if_pos hb2]) dX8_passes_59
    · refine lv_iconst (v := 1) hx hb dX8_passes_54 (by decide) ?_
      refine lv_goto (tgt := 59) hx hb dX8_passes_55 (by decide) ?_
      exact ze_i hx hb hr hlk rfl (by unfold v_X8_passes; rw [if_pos hs1, if_neg hb2]) dX8_passes_59
  · by_cases hs3 : (F 8 0 k 4) = 1
    · refine zk_ti (y := 1) hs3 ?_
      refine lv_tableIn (off := 39) (tgt := 60) hx hb dX8_passes_21 (by decide) (by decide) (by decide) (by decide) ?_
      refine lv_iload_n hx hb dX8_passes_60 rfl (lv_at hl 1 rfl) ?_
      refine lv_iload hx hb dX8_passes_61 (lv_at hl 0 rfl) ?_
      refine lv_icmp_ge (tgt := 70) hx hb dX8_passes_63 (by decide) (fun hb4 => ?_) (fun hb4 => ?_)
      · refine lv_iconst (v := 0) hx hb dX8_passes_70 (by decide) ?_
        exact ze_i hx hb hr hlk rfl (by unfold v_X8_passes; rw [if_neg hs1, if_pos hs3, if_pos hb4]) dX8_passes_71
      · refine lv_iconst (v := 1) hx hb dX8_passes_66 (by decide) ?_
        refine lv_goto (tgt := 71) hx hb dX8_passes_67 (by decide) ?_
        exact ze_i hx hb hr hlk rfl (by unfold v_X8_passes; rw [if_neg hs1, if_pos hs3, if_neg hb4]) dX8_passes_71
    · by_cases hs5 : (F 8 0 k 4) = 2
      · refine zk_ti (y := 2) hs5 ?_
        refine lv_tableIn (off := 51) (tgt := 72) hx hb dX8_passes_21 (by decide) (by decide) (by decide) (by decide) ?_
        refine lv_lload_n hx hb dX8_passes_72 rfl (lv_at hl 3 rfl) ?_
        refine zr_i (va_runS (As := [.long l1]) (rest := []) ⟨hx, hb, hml, hown, hts⟩ (k_X3_key l l1) (va_cwS 1 hts (lw_S wq487 wq488 wq25 wq489) rfl rfl rfl (by decide +kernel) ⟨(Nat.le_of_ble_eq_true rfl), (Nat.le_of_ble_eq_true rfl)⟩) tp_N rfl rfl hl.1 rfl (lv_room (Nat.le_of_ble_eq_true rfl)) dX8_passes_73 ⟨(Nat.le_of_ble_eq_true rfl), (Nat.le_of_ble_eq_true rfl)⟩) ?_
        refine lv_iload hx hb dX8_passes_76 (lv_at hl 0 rfl) ?_
        refine lv_icmp_ne (tgt := 85) hx hb dX8_passes_78 (by decide) (fun hb6 => ?_) (fun hb6 => ?_)
        · refine lv_iconst (v := 0) hx hb dX8_passes_85 (by decide) ?_
          exact ze_i hx hb hr hlk rfl (by unfold v_X8_passes; rw [if_neg hs1, if_neg hs3, if_pos hs5, if_neg hb6]) dX8_passes_86
        · refine lv_iconst (v := 1) hx hb dX8_passes_81 (by decide) ?_
          refine lv_goto (tgt := 86) hx hb dX8_passes_82 (by decide) ?_
          exact ze_i hx hb hr hlk rfl (by unfold v_X8_passes; rw [if_neg hs1, if_neg hs3, if_pos hs5, if_pos hb6]) dX8_passes_86
      · refine lv_tableOut (tgt := 87) hx hb dX8_passes_21 (by have a0 := zk_nt hs1; have e0 : (0 : Int32).toInt = 0 := (by decide); rw [e0] at a0; have a1 := zk_nt hs3; have e1 : (1 : Int32).toInt = 1 := (by decide); rw [e1] at a1; have a2 := zk_nt hs5; have e2 : (2 : Int32).toInt = 2 := (by decide); rw [e2] at a2; omega) (by decide) ?_
        refine lv_iload hx hb dX8_passes_87 (lv_at hl 0 rfl) ?_
        refine lv_if_eq (tgt := 105) hx hb dX8_passes_89 (by decide) (fun hb7 => ?_) (fun hb7 => ?_)
        · refine lv_iconst (v := 0) hx hb dX8_passes_105 (by decide) ?_
          exact ze_i hx hb hr hlk rfl (by unfold v_X8_passes; rw [if_neg hs1, if_neg hs3, if_neg hs5, if_pos hb7]) dX8_passes_106
        · refine lv_iload_n hx hb dX8_passes_92 rfl (lv_at hl 1 rfl) ?_
          refine lv_iload hx hb dX8_passes_93 (lv_at hl 0 rfl) ?_
          refine zr_i (va_runS (As := [.int (v_X3_value l1), .int (F 8 0 k 5)]) (rest := []) ⟨hx, hb, hml, hown, hts⟩ (k_J9_floorMod l (v_X3_value l1) (F 8 0 k 5) (by first | assumption | omega | decide)) (va_cwS 2 hts (lw_S wq491 wq492 wq14 wq493) rfl rfl rfl (by decide +kernel) ⟨(Nat.le_of_ble_eq_true rfl), (Nat.le_of_ble_eq_true rfl)⟩) tp_N rfl rfl hl.1 rfl (lv_room (Nat.le_of_ble_eq_true rfl)) dX8_passes_95 ⟨(Nat.le_of_ble_eq_true rfl), (Nat.le_of_ble_eq_true rfl)⟩) ?_
          refine lv_if_ne (tgt := 105) hx hb dX8_passes_98 (by decide) (fun hb8 => ?_) (fun hb8 => ?_)
          · refine lv_iconst (v := 0) hx hb dX8_passes_105 (by decide) ?_
            exact ze_i hx hb hr hlk rfl (by unfold v_X8_passes; rw [if_neg hs1, if_neg hs3, if_neg hs5, if_neg hb7, if_neg hb8]) dX8_passes_106
          · refine lv_iconst (v := 1) hx hb dX8_passes_101 (by decide) ?_
            refine lv_goto (tgt := 106) hx hb dX8_passes_102 (by decide) ?_
            exact ze_i hx hb hr hlk rfl (by unfold v_X8_passes; rw [if_neg hs1, if_neg hs3, if_neg hs5, if_neg hb7, if_pos hb8]) dX8_passes_106
def v_X8_mapped (S : TS) (F : TF) (G : TG) (q : TQ) (fl : Nat) (k : Nat) (l1 : Int64) : Int64 := if (F 8 0 k 4) = 0 then v_X3_event (v_X3_key l1) ((v_X3_value l1) + (F 8 0 k 5)) (v_X3_time l1) else if (F 8 0 k 4) = 1 then v_X3_event (v_X3_key l1) ((v_X3_value l1) * (F 8 0 k 5)) (v_X3_time l1) else if (F 8 0 k 4) = 2 then if 1 ≤ (F 8 0 k 5) then v_X3_event (v_J9_floorMod (v_X3_value l1) (F 8 0 k 5)) (v_X3_value l1) (v_X3_time l1) else v_X3_event (v_X3_key l1) (v_X3_value l1) (v_X3_time l1) else v_X3_event (v_X3_key l1) (v_X3_key l1) (v_X3_time l1)
set_option maxHeartbeats 4000000 in
set_option maxRecDepth 100000 in
theorem k_X8_mapped (l : Launch) (D : va_G) (yc : Nat → ClassId) (e0 : Nat) (A : Nat → Prop) (S : TS) (Z : Nat × Nat) (F : TF) (G : TG) (q : TQ) (fl : Nat) (k : Nat) (l1 : Int64) (hf : fl < 2) (hk : k < zn S) : Met l yX8_mapped (ws_ yX8_mapped cX8_mapped 7 (some .long)) ({ frames := 1, cells := 0, slots := 0, locals := 22 }) (PT D yc e0 A S Z F G q [.ref (zg S 2 fl k), .long l1]) (zQ (some (.long (v_X8_mapped S F G q fl k l1)))) 0 0 zno := by
  refine tk_M (by decide) (Nat.le_of_ble_eq_true rfl) ?_
  intro p e s m args below meth c ls hx hb hml hr hlk hown hts hW hS hA hC hl
  have hK := hC.1
  have hN := hC.2.1
  have hn12 := hW.n12
  have hl : lv_has ls 7 [(0, .ref (zg S 2 fl k)), (1, .long l1)] := hl
  refine lv_lload_n hx hb dX8_mapped_0 rfl (lv_at hl 1 rfl) ?_
  refine zr_i (va_runS (As := [.long l1]) (rest := []) ⟨hx, hb, hml, hown, hts⟩ (k_X3_key l l1) (va_cwS 1 hts (lw_S wq487 wq488 wq25 wq489) rfl rfl rfl (by decide +kernel) ⟨(Nat.le_of_ble_eq_true rfl), (Nat.le_of_ble_eq_true rfl)⟩) tp_N rfl rfl hl.1 rfl (lv_room (Nat.le_of_ble_eq_true rfl)) dX8_mapped_1 ⟨(Nat.le_of_ble_eq_true rfl), (Nat.le_of_ble_eq_true rfl)⟩) ?_
  refine lv_istore_n (lv' := [(3, .int (v_X3_key l1)), (0, .ref (zg S 2 fl k)), (1, .long l1)]) hx hb dX8_mapped_4 rfl hl (by decide) rfl (fun ls hl => ?_)
  refine lv_lload_n hx hb dX8_mapped_5 rfl (lv_at hl 2 rfl) ?_
  refine zr_i (va_runS (As := [.long l1]) (rest := []) ⟨hx, hb, hml, hown, hts⟩ (k_X3_value l l1) (va_cwS 1 hts (lw_S wq484 wq485 wq25 wq486) rfl rfl rfl (by decide +kernel) ⟨(Nat.le_of_ble_eq_true rfl), (Nat.le_of_ble_eq_true rfl)⟩) tp_N rfl rfl hl.1 rfl (lv_room (Nat.le_of_ble_eq_true rfl)) dX8_mapped_6 ⟨(Nat.le_of_ble_eq_true rfl), (Nat.le_of_ble_eq_true rfl)⟩) ?_
  refine lv_istore (lv' := [(4, .int (v_X3_value l1)), (3, .int (v_X3_key l1)), (0, .ref (zg S 2 fl k)), (1, .long l1)]) hx hb dX8_mapped_9 hl (by decide) rfl (fun ls hl => ?_)
  refine lv_lload_n hx hb dX8_mapped_11 rfl (lv_at hl 3 rfl) ?_
  refine zr_i (va_runS (As := [.long l1]) (rest := []) ⟨hx, hb, hml, hown, hts⟩ (k_X3_time l l1) (va_cwS 1 hts (lw_S wq395 wq396 wq25 wq397) rfl rfl rfl (by decide +kernel) ⟨(Nat.le_of_ble_eq_true rfl), (Nat.le_of_ble_eq_true rfl)⟩) tp_N rfl rfl hl.1 rfl (lv_room (Nat.le_of_ble_eq_true rfl)) dX8_mapped_12 ⟨(Nat.le_of_ble_eq_true rfl), (Nat.le_of_ble_eq_true rfl)⟩) ?_
  refine lv_istore (lv' := [(5, .int (v_X3_time l1)), (4, .int (v_X3_value l1)), (3, .int (v_X3_key l1)), (0, .ref (zg S 2 fl k)), (1, .long l1)]) hx hb dX8_mapped_15 hl (by decide) rfl (fun ls hl => ?_)
  refine lv_aload_n hx hb dX8_mapped_17 rfl (lv_at hl 3 rfl) ?_
  refine t_get (D := D) (ci := 7) (v := .ref (zg S 8 0 k)) (C := RX8) (T := TX8) (N := 12) hx hb hts iX8 hown hK hW 2 fl k (dm2 (by omega) (by omega)) rfl rfl 0 (by decide) (hts _ wq1103) (fun _ h9 => h9) rfl dX8_mapped_18 ?_
  refine t_getN (D := D) (ci := 4) (v := .int (F 8 0 k 5)) (C := RX5) (T := TX5) (N := 15) hx hb hts iX5 hown hK hW 8 0 k (dm8 (by omega)) rfl rfl 5 (by decide) (zk_tab rfl (hN _ wr845 rfl)) (fun _ h9 => h9) rfl dX8_mapped_21 ?_
  refine lv_istore (lv' := [(6, .int (F 8 0 k 5)), (5, .int (v_X3_time l1)), (4, .int (v_X3_value l1)), (3, .int (v_X3_key l1)), (0, .ref (zg S 2 fl k)), (1, .long l1)]) hx hb dX8_mapped_24 hl (by decide) rfl (fun ls hl => ?_)
  refine lv_aload_n hx hb dX8_mapped_26 rfl (lv_at hl 4 rfl) ?_
  refine t_get (D := D) (ci := 7) (v := .ref (zg S 8 0 k)) (C := RX8) (T := TX8) (N := 12) hx hb hts iX8 hown hK hW 2 fl k (dm2 (by omega) (by omega)) rfl rfl 0 (by decide) (hts _ wq1103) (fun _ h9 => h9) rfl dX8_mapped_27 ?_
  refine t_getN (D := D) (ci := 4) (v := .int (F 8 0 k 4)) (C := RX5) (T := TX5) (N := 15) hx hb hts iX5 hown hK hW 8 0 k (dm8 (by omega)) rfl rfl 4 (by decide) (zk_tab rfl (hN _ wr843 rfl)) (fun _ h9 => h9) rfl dX8_mapped_30 ?_
  by_cases hs1 : (F 8 0 k 4) = 0
  · refine zk_ti (y := 0) hs1 ?_
    refine lv_tableIn (off := 27) (tgt := 60) hx hb dX8_mapped_33 (by decide) (by decide) (by decide) (by decide) ?_
    refine lv_iload_n hx hb dX8_mapped_60 rfl (lv_at hl 3 rfl) ?_
    refine lv_iload hx hb dX8_mapped_61 (lv_at hl 2 rfl) ?_
    refine lv_iload hx hb dX8_mapped_63 (lv_at hl 0 rfl) ?_
    refine lv_iadd hx hb dX8_mapped_65 ?_
    refine lv_iload hx hb dX8_mapped_66 (lv_at hl 1 rfl) ?_
    refine zr_l (va_runS (As := [.int (v_X3_key l1), .int ((v_X3_value l1) + (F 8 0 k 5)), .int (v_X3_time l1)]) (rest := []) ⟨hx, hb, hml, hown, hts⟩ (k_X3_event l (v_X3_key l1) ((v_X3_value l1) + (F 8 0 k 5)) (v_X3_time l1)) (va_cwS 3 hts (lw_S wq444 wq445 wq25 wq446) rfl rfl rfl (by decide +kernel) ⟨(Nat.le_of_ble_eq_true rfl), (Nat.le_of_ble_eq_true rfl)⟩) tp_N rfl rfl hl.1 rfl (lv_room (Nat.le_of_ble_eq_true rfl)) dX8_mapped_68 ⟨(Nat.le_of_ble_eq_true rfl), (Nat.le_of_ble_eq_true rfl)⟩) ?_
    exact ze_l hx hb hr hlk (by unfold v_X8_mapped; rw [if_pos hs1]) dX8_mapped_71
  · by_cases hs2 : (F 8 0 k 4) = 1
    · refine zk_ti (y := 1) hs2 ?_
      refine lv_tableIn (off := 39) (tgt := 72) hx hb dX8_mapped_33 (by decide) (by decide) (by decide) (by decide) ?_
      refine lv_iload_n hx hb dX8_mapped_72 rfl (lv_at hl 3 rfl) ?_
      refine lv_iload hx hb dX8_mapped_73 (lv_at hl 2 rfl) ?_
      refine lv_iload hx hb dX8_mapped_75 (lv_at hl 0 rfl) ?_
      refine lv_imul hx hb dX8_mapped_77 ?_
      refine lv_iload hx hb dX8_mapped_78 (lv_at hl 1 rfl) ?_
      refine zr_l (va_runS (As := [.int (v_X3_key l1), .int ((v_X3_value l1) * (F 8 0 k 5)), .int (v_X3_time l1)]) (rest := []) ⟨hx, hb, hml, hown, hts⟩ (k_X3_event l (v_X3_key l1) ((v_X3_value l1) * (F 8 0 k 5)) (v_X3_time l1)) (va_cwS 3 hts (lw_S wq444 wq445 wq25 wq446) rfl rfl rfl (by decide +kernel) ⟨(Nat.le_of_ble_eq_true rfl), (Nat.le_of_ble_eq_true rfl)⟩) tp_N rfl rfl hl.1 rfl (lv_room (Nat.le_of_ble_eq_true rfl)) dX8_mapped_80 ⟨(Nat.le_of_ble_eq_true rfl), (Nat.le_of_ble_eq_true rfl)⟩) ?_
      exact ze_l hx hb hr hlk (by unfold v_X8_mapped; rw [if_neg hs1, if_pos hs2]) dX8_mapped_83
    · by_cases hs3 : (F 8 0 k 4) = 2
      · refine zk_ti (y := 2) hs3 ?_
        refine lv_tableIn (off := 51) (tgt := 84) hx hb dX8_mapped_33 (by decide) (by decide) (by decide) (by decide) ?_
        refine lv_iload hx hb dX8_mapped_84 (lv_at hl 0 rfl) ?_
        refine lv_iconst (v := 1) hx hb dX8_mapped_86 (by decide) ?_
        refine lv_icmp_ge (tgt := 94) hx hb dX8_mapped_87 (by decide) (fun hb4 => ?_) (fun hb4 => ?_)
        · refine lv_iload hx hb dX8_mapped_94 (lv_at hl 2 rfl) ?_
          refine lv_iload hx hb dX8_mapped_96 (lv_at hl 0 rfl) ?_
          refine zr_i (va_runS (As := [.int (v_X3_value l1), .int (F 8 0 k 5)]) (rest := []) ⟨hx, hb, hml, hown, hts⟩ (k_J9_floorMod l (v_X3_value l1) (F 8 0 k 5) (zpos1 (by assumption))) (va_cwS 2 hts (lw_S wq491 wq492 wq14 wq493) rfl rfl rfl (by decide +kernel) ⟨(Nat.le_of_ble_eq_true rfl), (Nat.le_of_ble_eq_true rfl)⟩) tp_N rfl rfl hl.1 rfl (lv_room (Nat.le_of_ble_eq_true rfl)) dX8_mapped_98 ⟨(Nat.le_of_ble_eq_true rfl), (Nat.le_of_ble_eq_true rfl)⟩) ?_
          refine lv_iload hx hb dX8_mapped_101 (lv_at hl 2 rfl) ?_
          refine lv_iload hx hb dX8_mapped_103 (lv_at hl 1 rfl) ?_
          refine zr_l (va_runS (As := [.int (v_J9_floorMod (v_X3_value l1) (F 8 0 k 5)), .int (v_X3_value l1), .int (v_X3_time l1)]) (rest := []) ⟨hx, hb, hml, hown, hts⟩ (k_X3_event l (v_J9_floorMod (v_X3_value l1) (F 8 0 k 5)) (v_X3_value l1) (v_X3_time l1)) (va_cwS 3 hts (lw_S wq444 wq445 wq25 wq446) rfl rfl rfl (by decide +kernel) ⟨(Nat.le_of_ble_eq_true rfl), (Nat.le_of_ble_eq_true rfl)⟩) tp_N rfl rfl hl.1 rfl (lv_room (Nat.le_of_ble_eq_true rfl)) dX8_mapped_105 ⟨(Nat.le_of_ble_eq_true rfl), (Nat.le_of_ble_eq_true rfl)⟩) ?_
          exact ze_l hx hb hr hlk (by unfold v_X8_mapped; rw [if_neg hs1, if_neg hs2, if_pos hs3, if_pos hb4]) dX8_mapped_108
        · refine lv_iload_n hx hb dX8_mapped_90 rfl (lv_at hl 3 rfl) ?_
          refine lv_goto (tgt := 101) hx hb dX8_mapped_91 (by decide) ?_
          refine lv_iload hx hb dX8_mapped_101 (lv_at hl 2 rfl) ?_
          refine lv_iload hx hb dX8_mapped_103 (lv_at hl 1 rfl) ?_
          refine zr_l (va_runS (As := [.int (v_X3_key l1), .int (v_X3_value l1), .int (v_X3_time l1)]) (rest := []) ⟨hx, hb, hml, hown, hts⟩ (k_X3_event l (v_X3_key l1) (v_X3_value l1) (v_X3_time l1)) (va_cwS 3 hts (lw_S wq444 wq445 wq25 wq446) rfl rfl rfl (by decide +kernel) ⟨(Nat.le_of_ble_eq_true rfl), (Nat.le_of_ble_eq_true rfl)⟩) tp_N rfl rfl hl.1 rfl (lv_room (Nat.le_of_ble_eq_true rfl)) dX8_mapped_105 ⟨(Nat.le_of_ble_eq_true rfl), (Nat.le_of_ble_eq_true rfl)⟩) ?_
          exact ze_l hx hb hr hlk (by unfold v_X8_mapped; rw [if_neg hs1, if_neg hs2, if_pos hs3, if_neg hb4]) dX8_mapped_108
      · refine lv_tableOut (tgt := 109) hx hb dX8_mapped_33 (by have a0 := zk_nt hs1; have e0 : (0 : Int32).toInt = 0 := (by decide); rw [e0] at a0; have a1 := zk_nt hs2; have e1 : (1 : Int32).toInt = 1 := (by decide); rw [e1] at a1; have a2 := zk_nt hs3; have e2 : (2 : Int32).toInt = 2 := (by decide); rw [e2] at a2; omega) (by decide) ?_
        refine lv_iload_n hx hb dX8_mapped_109 rfl (lv_at hl 3 rfl) ?_
        refine lv_iload_n hx hb dX8_mapped_110 rfl (lv_at hl 3 rfl) ?_
        refine lv_iload hx hb dX8_mapped_111 (lv_at hl 1 rfl) ?_
        refine zr_l (va_runS (As := [.int (v_X3_key l1), .int (v_X3_key l1), .int (v_X3_time l1)]) (rest := []) ⟨hx, hb, hml, hown, hts⟩ (k_X3_event l (v_X3_key l1) (v_X3_key l1) (v_X3_time l1)) (va_cwS 3 hts (lw_S wq444 wq445 wq25 wq446) rfl rfl rfl (by decide +kernel) ⟨(Nat.le_of_ble_eq_true rfl), (Nat.le_of_ble_eq_true rfl)⟩) tp_N rfl rfl hl.1 rfl (lv_room (Nat.le_of_ble_eq_true rfl)) dX8_mapped_113 ⟨(Nat.le_of_ble_eq_true rfl), (Nat.le_of_ble_eq_true rfl)⟩) ?_
        exact ze_l hx hb hr hlk (by unfold v_X8_mapped; rw [if_neg hs1, if_neg hs2, if_neg hs3]) dX8_mapped_116
def v_X8_meets (S : TS) (F : TF) (G : TG) (q : TQ) (fl : Nat) (k : Nat) (l1 : Int64) (l2 : Int64) : Int32 := if (v_X3_key l1) = (v_X3_key l2) then if (v_X3_time l2) < ((v_X3_time l1) - (F 8 0 k 10)) then 0 else if ((v_X3_time l1) + (F 8 0 k 11)) < (v_X3_time l2) then 0 else 1 else 0
set_option maxHeartbeats 4000000 in
set_option maxRecDepth 100000 in
theorem k_X8_meets (l : Launch) (D : va_G) (yc : Nat → ClassId) (e0 : Nat) (A : Nat → Prop) (S : TS) (Z : Nat × Nat) (F : TF) (G : TG) (q : TQ) (fl : Nat) (k : Nat) (l1 : Int64) (l2 : Int64) (hf : fl < 2) (hk : k < zn S) : Met l yX8_meets (ws_ yX8_meets cX8_meets 7 (some .boolean)) ({ frames := 1, cells := 0, slots := 0, locals := 21 }) (PT D yc e0 A S Z F G q [.ref (zg S 2 fl k), .long l1, .long l2]) (zQ (some (.int (v_X8_meets S F G q fl k l1 l2)))) 0 0 zno := by
  refine tk_M (by decide) (Nat.le_of_ble_eq_true rfl) ?_
  intro p e s m args below meth c ls hx hb hml hr hlk hown hts hW hS hA hC hl
  have hK := hC.1
  have hN := hC.2.1
  have hn12 := hW.n12
  have hl : lv_has ls 7 [(0, .ref (zg S 2 fl k)), (1, .long l1), (3, .long l2)] := hl
  refine lv_lload_n hx hb dX8_meets_0 rfl (lv_at hl 1 rfl) ?_
  refine zr_i (va_runS (As := [.long l1]) (rest := []) ⟨hx, hb, hml, hown, hts⟩ (k_X3_time l l1) (va_cwS 1 hts (lw_S wq395 wq396 wq25 wq397) rfl rfl rfl (by decide +kernel) ⟨(Nat.le_of_ble_eq_true rfl), (Nat.le_of_ble_eq_true rfl)⟩) tp_N rfl rfl hl.1 rfl (lv_room (Nat.le_of_ble_eq_true rfl)) dX8_meets_1 ⟨(Nat.le_of_ble_eq_true rfl), (Nat.le_of_ble_eq_true rfl)⟩) ?_
  refine lv_istore (lv' := [(5, .int (v_X3_time l1)), (0, .ref (zg S 2 fl k)), (1, .long l1), (3, .long l2)]) hx hb dX8_meets_4 hl (by decide) rfl (fun ls hl => ?_)
  refine lv_lload_n hx hb dX8_meets_6 rfl (lv_at hl 3 rfl) ?_
  refine zr_i (va_runS (As := [.long l2]) (rest := []) ⟨hx, hb, hml, hown, hts⟩ (k_X3_time l l2) (va_cwS 1 hts (lw_S wq395 wq396 wq25 wq397) rfl rfl rfl (by decide +kernel) ⟨(Nat.le_of_ble_eq_true rfl), (Nat.le_of_ble_eq_true rfl)⟩) tp_N rfl rfl hl.1 rfl (lv_room (Nat.le_of_ble_eq_true rfl)) dX8_meets_7 ⟨(Nat.le_of_ble_eq_true rfl), (Nat.le_of_ble_eq_true rfl)⟩) ?_
  refine lv_istore (lv' := [(6, .int (v_X3_time l2)), (5, .int (v_X3_time l1)), (0, .ref (zg S 2 fl k)), (1, .long l1), (3, .long l2)]) hx hb dX8_meets_10 hl (by decide) rfl (fun ls hl => ?_)
  refine lv_lload_n hx hb dX8_meets_12 rfl (lv_at hl 3 rfl) ?_
  refine zr_i (va_runS (As := [.long l1]) (rest := []) ⟨hx, hb, hml, hown, hts⟩ (k_X3_key l l1) (va_cwS 1 hts (lw_S wq487 wq488 wq25 wq489) rfl rfl rfl (by decide +kernel) ⟨(Nat.le_of_ble_eq_true rfl), (Nat.le_of_ble_eq_true rfl)⟩) tp_N rfl rfl hl.1 rfl (lv_room (Nat.le_of_ble_eq_true rfl)) dX8_meets_13 ⟨(Nat.le_of_ble_eq_true rfl), (Nat.le_of_ble_eq_true rfl)⟩) ?_
  refine lv_lload_n hx hb dX8_meets_16 rfl (lv_at hl 4 rfl) ?_
  refine zr_i (va_runS (As := [.long l2]) (rest := [.int (v_X3_key l1)]) ⟨hx, hb, hml, hown, hts⟩ (k_X3_key l l2) (va_cwS 1 hts (lw_S wq487 wq488 wq25 wq489) rfl rfl rfl (by decide +kernel) ⟨(Nat.le_of_ble_eq_true rfl), (Nat.le_of_ble_eq_true rfl)⟩) tp_N rfl rfl hl.1 rfl (lv_room (Nat.le_of_ble_eq_true rfl)) dX8_meets_17 ⟨(Nat.le_of_ble_eq_true rfl), (Nat.le_of_ble_eq_true rfl)⟩) ?_
  refine lv_icmp_ne (tgt := 57) hx hb dX8_meets_20 (by decide) (fun hb1 => ?_) (fun hb1 => ?_)
  · refine lv_iconst (v := 0) hx hb dX8_meets_57 (by decide) ?_
    exact ze_i hx hb hr hlk rfl (by unfold v_X8_meets; rw [if_neg hb1]) dX8_meets_58
  · refine lv_iload hx hb dX8_meets_23 (lv_at hl 1 rfl) ?_
    refine lv_aload_n hx hb dX8_meets_25 rfl (lv_at hl 2 rfl) ?_
    refine t_get (D := D) (ci := 7) (v := .ref (zg S 8 0 k)) (C := RX8) (T := TX8) (N := 12) hx hb hts iX8 hown hK hW 2 fl k (dm2 (by omega) (by omega)) rfl rfl 0 (by decide) (hts _ wq1103) (fun _ h9 => h9) rfl dX8_meets_26 ?_
    refine t_getN (D := D) (ci := 4) (v := .int (F 8 0 k 10)) (C := RX5) (T := TX5) (N := 15) hx hb hts iX5 hown hK hW 8 0 k (dm8 (by omega)) rfl rfl 10 (by decide) (zk_tab rfl (hN _ wr855 rfl)) (fun _ h9 => h9) rfl dX8_meets_29 ?_
    refine lv_isub hx hb dX8_meets_32 ?_
    refine lv_iload hx hb dX8_meets_33 (lv_at hl 0 rfl) ?_
    refine lv_icmp_gt (tgt := 57) hx hb dX8_meets_35 (by decide) (fun hb2 => ?_) (fun hb2 => ?_)
    · refine lv_iconst (v := 0) hx hb dX8_meets_57 (by decide) ?_
      exact ze_i hx hb hr hlk rfl (by unfold v_X8_meets; rw [if_pos hb1, if_pos hb2]) dX8_meets_58
    · refine lv_iload hx hb dX8_meets_38 (lv_at hl 0 rfl) ?_
      refine lv_iload hx hb dX8_meets_40 (lv_at hl 1 rfl) ?_
      refine lv_aload_n hx hb dX8_meets_42 rfl (lv_at hl 2 rfl) ?_
      refine t_get (D := D) (ci := 7) (v := .ref (zg S 8 0 k)) (C := RX8) (T := TX8) (N := 12) hx hb hts iX8 hown hK hW 2 fl k (dm2 (by omega) (by omega)) rfl rfl 0 (by decide) (hts _ wq1103) (fun _ h9 => h9) rfl dX8_meets_43 ?_
      refine t_getN (D := D) (ci := 4) (v := .int (F 8 0 k 11)) (C := RX5) (T := TX5) (N := 15) hx hb hts iX5 hown hK hW 8 0 k (dm8 (by omega)) rfl rfl 11 (by decide) (zk_tab rfl (hN _ wr857 rfl)) (fun _ h9 => h9) rfl dX8_meets_46 ?_
      refine lv_iadd hx hb dX8_meets_49 ?_
      refine lv_icmp_gt (tgt := 57) hx hb dX8_meets_50 (by decide) (fun hb3 => ?_) (fun hb3 => ?_)
      · refine lv_iconst (v := 0) hx hb dX8_meets_57 (by decide) ?_
        exact ze_i hx hb hr hlk rfl (by unfold v_X8_meets; rw [if_pos hb1, if_neg hb2, if_pos hb3]) dX8_meets_58
      · refine lv_iconst (v := 1) hx hb dX8_meets_53 (by decide) ?_
        refine lv_goto (tgt := 58) hx hb dX8_meets_54 (by decide) ?_
        exact ze_i hx hb hr hlk rfl (by unfold v_X8_meets; rw [if_pos hb1, if_neg hb2, if_neg hb3]) dX8_meets_58
def v_X8_joined (S : TS) (F : TF) (G : TG) (q : TQ) (fl : Nat) (k : Nat) (i1 : Int32) (i2 : Int32) : Int32 := if (F 8 0 k 4) = 0 then i1 + i2 else if (F 8 0 k 4) = 1 then i1 - i2 else if (F 8 0 k 4) = 2 then i1 * i2 else i1
set_option maxHeartbeats 4000000 in
set_option maxRecDepth 100000 in
theorem k_X8_joined (l : Launch) (D : va_G) (yc : Nat → ClassId) (e0 : Nat) (A : Nat → Prop) (S : TS) (Z : Nat × Nat) (F : TF) (G : TG) (q : TQ) (fl : Nat) (k : Nat) (i1 : Int32) (i2 : Int32) (hf : fl < 2) (hk : k < zn S) : Met l yX8_joined (ws_ yX8_joined cX8_joined 3 (some .int)) ({ frames := 0, cells := 0, slots := 0, locals := 0 }) (PT D yc e0 A S Z F G q [.ref (zg S 2 fl k), .int i1, .int i2]) (zQ (some (.int (v_X8_joined S F G q fl k i1 i2)))) 0 0 zno := by
  refine tk_M (by decide) (Nat.le_of_ble_eq_true rfl) ?_
  intro p e s m args below meth c ls hx hb hml hr hlk hown hts hW hS hA hC hl
  have hK := hC.1
  have hN := hC.2.1
  have hn12 := hW.n12
  have hl : lv_has ls 3 [(0, .ref (zg S 2 fl k)), (1, .int i1), (2, .int i2)] := hl
  refine lv_aload_n hx hb dX8_joined_0 rfl (lv_at hl 0 rfl) ?_
  refine t_get (D := D) (ci := 7) (v := .ref (zg S 8 0 k)) (C := RX8) (T := TX8) (N := 12) hx hb hts iX8 hown hK hW 2 fl k (dm2 (by omega) (by omega)) rfl rfl 0 (by decide) (hts _ wq1103) (fun _ h9 => h9) rfl dX8_joined_1 ?_
  refine t_getN (D := D) (ci := 4) (v := .int (F 8 0 k 4)) (C := RX5) (T := TX5) (N := 15) hx hb hts iX5 hown hK hW 8 0 k (dm8 (by omega)) rfl rfl 4 (by decide) (zk_tab rfl (hN _ wr843 rfl)) (fun _ h9 => h9) rfl dX8_joined_4 ?_
  by_cases hs1 : (F 8 0 k 4) = 0
  · refine zk_ti (y := 0) hs1 ?_
    refine lv_tableIn (off := 25) (tgt := 32) hx hb dX8_joined_7 (by decide) (by decide) (by decide) (by decide) ?_
    refine lv_iload_n hx hb dX8_joined_32 rfl (lv_at hl 1 rfl) ?_
    refine lv_iload_n hx hb dX8_joined_33 rfl (lv_at hl 2 rfl) ?_
    refine lv_iadd hx hb dX8_joined_34 ?_
    exact ze_i hx hb hr hlk rfl (by unfold v_X8_joined; rw [if_pos hs1]) dX8_joined_35
  · by_cases hs2 : (F 8 0 k 4) = 1
    · refine zk_ti (y := 1) hs2 ?_
      refine lv_tableIn (off := 29) (tgt := 36) hx hb dX8_joined_7 (by decide) (by decide) (by decide) (by decide) ?_
      refine lv_iload_n hx hb dX8_joined_36 rfl (lv_at hl 1 rfl) ?_
      refine lv_iload_n hx hb dX8_joined_37 rfl (lv_at hl 2 rfl) ?_
      refine lv_isub hx hb dX8_joined_38 ?_
      exact ze_i hx hb hr hlk rfl (by unfold v_X8_joined; rw [if_neg hs1, if_pos hs2]) dX8_joined_39
    · by_cases hs3 : (F 8 0 k 4) = 2
      · refine zk_ti (y := 2) hs3 ?_
        refine lv_tableIn (off := 33) (tgt := 40) hx hb dX8_joined_7 (by decide) (by decide) (by decide) (by decide) ?_
        refine lv_iload_n hx hb dX8_joined_40 rfl (lv_at hl 1 rfl) ?_
        refine lv_iload_n hx hb dX8_joined_41 rfl (lv_at hl 2 rfl) ?_
        refine lv_imul hx hb dX8_joined_42 ?_
        exact ze_i hx hb hr hlk rfl (by unfold v_X8_joined; rw [if_neg hs1, if_neg hs2, if_pos hs3]) dX8_joined_43
      · refine lv_tableOut (tgt := 44) hx hb dX8_joined_7 (by have a0 := zk_nt hs1; have e0 : (0 : Int32).toInt = 0 := (by decide); rw [e0] at a0; have a1 := zk_nt hs2; have e1 : (1 : Int32).toInt = 1 := (by decide); rw [e1] at a1; have a2 := zk_nt hs3; have e2 : (2 : Int32).toInt = 2 := (by decide); rw [e2] at a2; omega) (by decide) ?_
        refine lv_iload_n hx hb dX8_joined_44 rfl (lv_at hl 1 rfl) ?_
        exact ze_i hx hb hr hlk rfl (by unfold v_X8_joined; rw [if_neg hs1, if_neg hs2, if_neg hs3]) dX8_joined_45
def v_X2_size (S : TS) (F : TF) (G : TG) (q : TQ) (fl : Nat) : Int32 := nI (zn S)
set_option maxHeartbeats 4000000 in
set_option maxRecDepth 100000 in
theorem k_X2_size (l : Launch) (D : va_G) (yc : Nat → ClassId) (e0 : Nat) (A : Nat → Prop) (S : TS) (Z : Nat × Nat) (F : TF) (G : TG) (q : TQ) (fl : Nat) (hf : fl < 2) : Met l yX2_size (ws_ yX2_size cX2_size 1 (some .int)) ({ frames := 1, cells := 0, slots := 0, locals := 20 }) (PT D yc e0 A S Z F G q [.ref (zg S 6 fl 0)]) (zQ (some (.int (v_X2_size S F G q fl)))) 0 0 zno := by
  refine tk_M (by decide) (Nat.le_of_ble_eq_true rfl) ?_
  intro p e s m args below meth c ls hx hb hml hr hlk hown hts hW hS hA hC hl
  have hK := hC.1
  have hN := hC.2.1
  have hn12 := hW.n12
  have hl : lv_has ls 1 [(0, .ref (zg S 6 fl 0))] := hl
  refine lv_aload_n hx hb dX2_size_0 rfl (lv_at hl 0 rfl) ?_
  refine t_get (D := D) (ci := 2) (v := .ref (zl S 0 fl 0)) (C := RX2) (T := TX2) (N := 8) hx hb hts iX2 hown hK hW 6 fl 0 (dm6 (by omega)) rfl rfl 1 (by decide) (hts _ wq68) (fun _ h9 => h9) rfl dX2_size_1 ?_
  refine zr_i (va_runV (As := []) (rest := []) ⟨hx, hb, hml, hown, hts⟩ (k_AL_size l D yc e0 A S Z F G q 0 fl 0 (dl0 (by omega))) (cwV 0 hts (lw_V wq119 wq120 wq121 wq5 wq122) rfl rfl rfl (by decide +kernel) ⟨(Nat.le_of_ble_eq_true rfl), (Nat.le_of_ble_eq_true rfl)⟩) (tp_L hC hW hS hA 0 fl 0 (dl0 (by omega))) rfl rfl hl.1 rfl (lv_room (Nat.le_of_ble_eq_true rfl)) dX2_size_4 ⟨(Nat.le_of_ble_eq_true rfl), (Nat.le_of_ble_eq_true rfl)⟩) ?_
  refine zk_ti (y := nI (zn S)) rfl ?_
  exact ze_i hx hb hr hlk rfl (by rfl) dX2_size_7
def v_X2_at0 (S : TS) (F : TF) (G : TG) (q : TQ) (fl : Nat) (i1 : Int32) : Value := .null
set_option maxHeartbeats 4000000 in
set_option maxRecDepth 100000 in
theorem k_X2_at0 (l : Launch) (D : va_G) (yc : Nat → ClassId) (e0 : Nat) (A : Nat → Prop) (S : TS) (Z : Nat × Nat) (F : TF) (G : TG) (q : TQ) (fl : Nat) (i1 : Int32) (hf : fl < 2) (h0 : i1 < 0) : Met l yX2_at (ws_ yX2_at cX2_at 2 (some (.object "WeirStream$Stage"))) ({ frames := 0, cells := 0, slots := 0, locals := 0 }) (PT D yc e0 A S Z F G q [.ref (zg S 6 fl 0), .int i1]) (zQ (some ((v_X2_at0 S F G q fl i1)))) 0 0 zno := by
  refine tk_M (by decide) (Nat.le_of_ble_eq_true rfl) ?_
  intro p e s m args below meth c ls hx hb hml hr hlk hown hts hW hS hA hC hl
  have hK := hC.1
  have hN := hC.2.1
  have hn12 := hW.n12
  have hl : lv_has ls 2 [(0, .ref (zg S 6 fl 0)), (1, .int i1)] := hl
  refine lv_iload_n hx hb dX2_at_0 rfl (lv_at hl 1 rfl) ?_
  refine lv_if_lt (tgt := 29) hx hb dX2_at_1 (by decide) (fun _ => ?_) (fun h9 => absurd h0 h9)
  refine lv_null hx hb dX2_at_29 ?_
  exact ze_q hx hb hr (by first | exact Or.inl ⟨_, rfl⟩ | exact Or.inr ⟨_, rfl⟩) hlk (by first | exact Or.inl rfl | exact Or.inr ⟨_, rfl⟩ | exact zch_or _ _ _ _) (by rfl) dX2_at_30
def v_X2_at (S : TS) (F : TF) (G : TG) (q : TQ) (fl : Nat) (i : Nat) : Value := (.ref (zg S 2 fl i))
set_option maxHeartbeats 4000000 in
set_option maxRecDepth 100000 in
theorem k_X2_at (l : Launch) (D : va_G) (yc : Nat → ClassId) (e0 : Nat) (A : Nat → Prop) (S : TS) (Z : Nat × Nat) (F : TF) (G : TG) (q : TQ) (fl : Nat) (i : Nat) (hf : fl < 2) (hi : i < zn S) : Met l yX2_at (ws_ yX2_at cX2_at 2 (some (.object "WeirStream$Stage"))) ({ frames := 3, cells := 0, slots := 0, locals := 64 }) (PT D yc e0 A S Z F G q [.ref (zg S 6 fl 0), .int (nI i)]) (zQ (some ((v_X2_at S F G q fl i)))) 0 0 zno := by
  refine tk_M (by decide) (Nat.le_of_ble_eq_true rfl) ?_
  intro p e s m args below meth c ls hx hb hml hr hlk hown hts hW hS hA hC hl
  have hK := hC.1
  have hN := hC.2.1
  have hn12 := hW.n12
  have hl : lv_has ls 2 [(0, .ref (zg S 6 fl 0)), (1, .int (nI i))] := hl
  refine lv_iload_n hx hb dX2_at_0 rfl (lv_at hl 1 rfl) ?_
  refine lv_if_lt (tgt := 29) hx hb dX2_at_1 (by decide) (fun h9 => absurd h9 (nI_pos (by omega))) (fun _ => ?_)
  refine lv_iload_n hx hb dX2_at_4 rfl (lv_at hl 1 rfl) ?_
  refine lv_aload_n hx hb dX2_at_5 rfl (lv_at hl 0 rfl) ?_
  refine t_get (D := D) (ci := 2) (v := .ref (zl S 0 fl 0)) (C := RX2) (T := TX2) (N := 8) hx hb hts iX2 hown hK hW 6 fl 0 (dm6 (by omega)) rfl rfl 1 (by decide) (hts _ wq68) (fun _ h9 => h9) rfl dX2_at_6 ?_
  refine zr_i (va_runV (As := []) (rest := [.int (nI i)]) ⟨hx, hb, hml, hown, hts⟩ (k_AL_size l D yc e0 A S Z F G q 0 fl 0 (dl0 (by omega))) (cwV 0 hts (lw_V wq119 wq120 wq121 wq5 wq122) rfl rfl rfl (by decide +kernel) ⟨(Nat.le_of_ble_eq_true rfl), (Nat.le_of_ble_eq_true rfl)⟩) (tp_L hC hW hS hA 0 fl 0 (dl0 (by omega))) rfl rfl hl.1 rfl (lv_room (Nat.le_of_ble_eq_true rfl)) dX2_at_9 ⟨(Nat.le_of_ble_eq_true rfl), (Nat.le_of_ble_eq_true rfl)⟩) ?_
  refine zk_ti (y := nI (zn S)) rfl ?_
  refine lv_icmp_ge (tgt := 29) hx hb dX2_at_12 (by decide) (fun h9 => absurd h9 (nI_ge (by omega) (by omega))) (fun _ => ?_)
  refine lv_aload_n hx hb dX2_at_15 rfl (lv_at hl 0 rfl) ?_
  refine t_get (D := D) (ci := 2) (v := .ref (zl S 0 fl 0)) (C := RX2) (T := TX2) (N := 8) hx hb hts iX2 hown hK hW 6 fl 0 (dm6 (by omega)) rfl rfl 1 (by decide) (hts _ wq68) (fun _ h9 => h9) rfl dX2_at_16 ?_
  refine lv_iload_n hx hb dX2_at_19 rfl (lv_at hl 1 rfl) ?_
  refine zr_q (va_runV (As := [.int (nI i)]) (rest := []) ⟨hx, hb, hml, hown, hts⟩ (k_AL_get l D yc e0 A S Z F G q 0 fl 0 i (dl0 (by omega)) (show i < zn S by omega)) (cwV 1 hts (lw_V wq227 wq228 wq229 wq5 wq230) rfl rfl rfl (by decide +kernel) ⟨(Nat.le_of_ble_eq_true rfl), (Nat.le_of_ble_eq_true rfl)⟩) (tp_L hC hW hS hA 0 fl 0 (dl0 (by omega))) rfl rfl hl.1 rfl (lv_room (Nat.le_of_ble_eq_true rfl)) dX2_at_20 ⟨(Nat.le_of_ble_eq_true rfl), (Nat.le_of_ble_eq_true rfl)⟩) ?_
  refine zk_tv (y := .ref (zg S 2 fl i)) rfl ?_
  refine va_castS hx hb hown (hts _ wq241) (hK.1 7 _ rfl).2 (t_cell hK hW 2 fl i (dm2 (by omega) (by omega)) rfl rfl) dX2_at_23 ?_
  refine lv_goto (tgt := 30) hx hb dX2_at_26 (by decide) ?_
  exact ze_q hx hb hr (by first | exact Or.inl ⟨_, rfl⟩ | exact Or.inr ⟨_, rfl⟩) hlk (by first | exact Or.inl rfl | exact Or.inr ⟨_, rfl⟩ | exact zch_or _ _ _ _) (by rfl) dX2_at_30
def r_X2_channels (S : TS) (F : TF) (G : TG) (q : TQ) (fl : Nat) : Nat → Nat → Int32 → Int32
  | 0, _, v => v
  | n + 1, i, v => r_X2_channels S F G q fl n (i + 1) (v + (nI (och S i).length))
set_option maxHeartbeats 4000000 in
set_option maxRecDepth 100000 in
theorem lp_X2_channels {p : Program} {l : Launch} {e : Env} {s : State} {m : MethodId} {args : Array Value} {below : List Frame} {meth : Method} {c : Code} {D : va_G} {yc : Nat → ClassId} {e0 : Nat} {A : Nat → Prop} {S : TS} {Z : Nat × Nat} {F : TF} {G : TG} {q : TQ} (fl : Nat) (hf : fl < 2) (hx : p.tables.exec = Jvm.exec) (hb : c.code = cX2_channels) (hml : c.maxLocals = 3) (hr : meth.sig.returnType = (some .int)) (hlk : meth.locks = false) (hown : s.vm.findClass yX2_channels.cls = some m.cls) (hts : ∀ w ∈ lw_all, w.before args s = true) (hW : WT D yc e0 A S Z F G q s.heap) (hS : va_S A s.heap s.heap []) (hA : ∀ a, s.heap.size ≤ a → A a) (hC : CX D yc e0 A s) : ∀ (n : Nat) (i : Nat) (v : Int32) (ls : Array Slot), i + n = zn S → lv_has ls 3 [(2, .int (nI i)), (1, .int v), (0, .ref (zg S 6 fl 0))] → W p l e ({ frames := 3, cells := 0, slots := 0, locals := 64 }) s m args below meth c s.heap [] 0 0 (MQ below (zQ (some (.int (r_X2_channels S F G q fl n i v)))) args s 0 0 zno) (F0 m 4 ls []) := by
  have hK := hC.1
  have hN := hC.2.1
  have hn12 := hW.n12
  intro n
  induction n with
  | zero =>
    intro i v ls hinv hl
    refine lv_iload_n hx hb dX2_channels_4 rfl (lv_at hl 0 rfl) ?_
    refine lv_aload_n hx hb dX2_channels_5 rfl (lv_at hl 2 rfl) ?_
    refine t_get (D := D) (ci := 2) (v := .ref (zl S 0 fl 0)) (C := RX2) (T := TX2) (N := 8) hx hb hts iX2 hown hK hW 6 fl 0 (dm6 (by omega)) rfl rfl 1 (by decide) (hts _ wq68) (fun _ h9 => h9) rfl dX2_channels_6 ?_
    refine zr_i (va_runV (As := []) (rest := [.int (nI i)]) ⟨hx, hb, hml, hown, hts⟩ (k_AL_size l D yc e0 A S Z F G q 0 fl 0 (dl0 (by omega))) (cwV 0 hts (lw_V wq119 wq120 wq121 wq5 wq122) rfl rfl rfl (by decide +kernel) ⟨(Nat.le_of_ble_eq_true rfl), (Nat.le_of_ble_eq_true rfl)⟩) (tp_L hC hW hS hA 0 fl 0 (dl0 (by omega))) rfl rfl hl.1 rfl (lv_room (Nat.le_of_ble_eq_true rfl)) dX2_channels_9 ⟨(Nat.le_of_ble_eq_true rfl), (Nat.le_of_ble_eq_true rfl)⟩) ?_
    refine zk_ti (y := nI (zn S)) rfl ?_
    refine lv_icmp_ge (tgt := 44) hx hb dX2_channels_12 (by decide) (fun _ => ?_) (fun h9 => absurd (nI_le (by omega) (by omega)) h9)
    refine lv_iload_n hx hb dX2_channels_44 rfl (lv_at hl 1 rfl) ?_
    exact ze_i hx hb hr hlk rfl (by rfl) dX2_channels_45
  | succ n ih =>
    intro i v ls hinv hl
    refine lv_iload_n hx hb dX2_channels_4 rfl (lv_at hl 0 rfl) ?_
    refine lv_aload_n hx hb dX2_channels_5 rfl (lv_at hl 2 rfl) ?_
    refine t_get (D := D) (ci := 2) (v := .ref (zl S 0 fl 0)) (C := RX2) (T := TX2) (N := 8) hx hb hts iX2 hown hK hW 6 fl 0 (dm6 (by omega)) rfl rfl 1 (by decide) (hts _ wq68) (fun _ h9 => h9) rfl dX2_channels_6 ?_
    refine zr_i (va_runV (As := []) (rest := [.int (nI i)]) ⟨hx, hb, hml, hown, hts⟩ (k_AL_size l D yc e0 A S Z F G q 0 fl 0 (dl0 (by omega))) (cwV 0 hts (lw_V wq119 wq120 wq121 wq5 wq122) rfl rfl rfl (by decide +kernel) ⟨(Nat.le_of_ble_eq_true rfl), (Nat.le_of_ble_eq_true rfl)⟩) (tp_L hC hW hS hA 0 fl 0 (dl0 (by omega))) rfl rfl hl.1 rfl (lv_room (Nat.le_of_ble_eq_true rfl)) dX2_channels_9 ⟨(Nat.le_of_ble_eq_true rfl), (Nat.le_of_ble_eq_true rfl)⟩) ?_
    refine zk_ti (y := nI (zn S)) rfl ?_
    refine lv_icmp_ge (tgt := 44) hx hb dX2_channels_12 (by decide) (fun h9 => absurd h9 (nI_ge (by omega) (by omega))) (fun _ => ?_)
    refine lv_iload_n hx hb dX2_channels_15 rfl (lv_at hl 1 rfl) ?_
    refine lv_aload_n hx hb dX2_channels_16 rfl (lv_at hl 2 rfl) ?_
    refine t_get (D := D) (ci := 2) (v := .ref (zl S 0 fl 0)) (C := RX2) (T := TX2) (N := 8) hx hb hts iX2 hown hK hW 6 fl 0 (dm6 (by omega)) rfl rfl 1 (by decide) (hts _ wq68) (fun _ h9 => h9) rfl dX2_channels_17 ?_
    refine lv_iload_n hx hb dX2_channels_20 rfl (lv_at hl 0 rfl) ?_
    refine zr_q (va_runV (As := [.int (nI i)]) (rest := [.int v]) ⟨hx, hb, hml, hown, hts⟩ (k_AL_get l D yc e0 A S Z F G q 0 fl 0 i (dl0 (by omega)) (show i < zn S by omega)) (cwV 1 hts (lw_V wq227 wq228 wq229 wq5 wq230) rfl rfl rfl (by decide +kernel) ⟨(Nat.le_of_ble_eq_true rfl), (Nat.le_of_ble_eq_true rfl)⟩) (tp_L hC hW hS hA 0 fl 0 (dl0 (by omega))) rfl rfl hl.1 rfl (lv_room (Nat.le_of_ble_eq_true rfl)) dX2_channels_21 ⟨(Nat.le_of_ble_eq_true rfl), (Nat.le_of_ble_eq_true rfl)⟩) ?_
    refine zk_tv (y := .ref (zg S 2 fl i)) rfl ?_
    refine va_castS hx hb hown (hts _ wq241) (hK.1 7 _ rfl).2 (t_cell hK hW 2 fl i (dm2 (by omega) (by omega)) rfl rfl) dX2_channels_24 ?_
    refine t_getN (D := D) (ci := 7) (v := .ref (zg S 3 fl i)) (C := RX8) (T := TX8) (N := 12) hx hb hts iX8 hown hK hW 2 fl i (dm2 (by omega) (by omega)) rfl rfl 5 (by decide) (zk_tab rfl (hN _ wr1114 rfl)) (fun _ h9 => h9) rfl dX2_channels_27 ?_
    refine t_getN (D := D) (ci := 3) (v := .ref (zl S 1 fl i)) (C := RX4) (T := TX4) (N := 2) hx hb hts iX4 hown hK hW 3 fl i (dm3 (by omega) (by omega)) rfl rfl 1 (by decide) (zk_tab rfl (hN _ wr1020 rfl)) (fun _ h9 => h9) rfl dX2_channels_30 ?_
    refine zr_i (va_runV (As := []) (rest := [.int v]) ⟨hx, hb, hml, hown, hts⟩ (k_AL_size l D yc e0 A S Z F G q 1 fl i (dl1 (by omega) (by omega))) (cwV 0 hts (lw_V wq119 wq120 wq121 wq5 wq122) rfl rfl rfl (by decide +kernel) ⟨(Nat.le_of_ble_eq_true rfl), (Nat.le_of_ble_eq_true rfl)⟩) (tp_L hC hW hS hA 1 fl i (dl1 (by omega) (by omega))) rfl rfl hl.1 rfl (lv_room (Nat.le_of_ble_eq_true rfl)) dX2_channels_33 ⟨(Nat.le_of_ble_eq_true rfl), (Nat.le_of_ble_eq_true rfl)⟩) ?_
    refine zk_ti (y := nI (och S i).length) rfl ?_
    refine lv_iadd hx hb dX2_channels_36 ?_
    refine lv_istore_n (lv' := [(1, .int (v + (nI (och S i).length))), (2, .int (nI i)), (0, .ref (zg S 6 fl 0))]) hx hb dX2_channels_37 rfl hl (by decide) rfl (fun ls hl => ?_)
    refine lv_iinc (v := nI (i + 1)) (lv' := [(2, .int (nI (i + 1))), (1, .int (v + (nI (och S i).length))), (0, .ref (zg S 6 fl 0))]) hx hb dX2_channels_38 hl (k := 1) rfl (nI_1 _) (by decide) rfl (fun ls hl => ?_)
    refine lv_goto (tgt := 4) hx hb dX2_channels_41 (by decide) ?_
    exact ih (i + 1) (v + (nI (och S i).length)) _ (by omega) (lv_sub hl [0, 1, 2] rfl)
def v_X2_channels (S : TS) (F : TF) (G : TG) (q : TQ) (fl : Nat) : Int32 := r_X2_channels S F G q fl (zn S) 0 0
set_option maxHeartbeats 4000000 in
set_option maxRecDepth 100000 in
theorem k_X2_channels (l : Launch) (D : va_G) (yc : Nat → ClassId) (e0 : Nat) (A : Nat → Prop) (S : TS) (Z : Nat × Nat) (F : TF) (G : TG) (q : TQ) (fl : Nat) (hf : fl < 2) : Met l yX2_channels (ws_ yX2_channels cX2_channels 3 (some .int)) ({ frames := 3, cells := 0, slots := 0, locals := 64 }) (PT D yc e0 A S Z F G q [.ref (zg S 6 fl 0)]) (zQ (some (.int (v_X2_channels S F G q fl)))) 0 0 zno := by
  refine tk_M (by decide) (Nat.le_of_ble_eq_true rfl) ?_
  intro p e s m args below meth c ls hx hb hml hr hlk hown hts hW hS hA hC hl
  have hK := hC.1
  have hN := hC.2.1
  have hn12 := hW.n12
  have hl : lv_has ls 3 [(0, .ref (zg S 6 fl 0))] := hl
  refine lv_iconst (v := 0) hx hb dX2_channels_0 (by decide) ?_
  refine lv_istore_n (lv' := [(1, .int 0), (0, .ref (zg S 6 fl 0))]) hx hb dX2_channels_1 rfl hl (by decide) rfl (fun ls hl => ?_)
  refine lv_iconst (v := 0) hx hb dX2_channels_2 (by decide) ?_
  refine lv_istore_n (lv' := [(2, .int 0), (1, .int 0), (0, .ref (zg S 6 fl 0))]) hx hb dX2_channels_3 rfl hl (by decide) rfl (fun ls hl => ?_)
  exact lp_X2_channels fl hf hx hb hml hr hlk hown hts hW hS hA hC (zn S) 0 0 _ (by omega) (lv_sub hl [0, 1, 2] rfl)
