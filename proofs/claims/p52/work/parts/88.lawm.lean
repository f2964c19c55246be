/-! ===== the law's own methods ===== -/
def bel (v : Int32) (n : Nat) : Nat := (v.toBitVec.toNat % 2 ^ 31) % n
theorem bel_lt {v : Int32} {n : Nat} (h : 0 < n) : bel v n < n := Nat.mod_lt _ h
def vcell (L : Nat) (xs : Nat → Int32) (k : Nat) : Int32 := if k < L then xs k else 790386105 * (nI k + 3)
/-- a contract's start over the law's script -/
def PC0 (b L : Nat) (xs : Nat → Int32) (av : List Value) : Array Value → State → Prop := va_Pc av (fun U => va_X b L xs U U.heap ∧ b < U.heap.size)
theorem PC0.blind {b L : Nat} {xs : Nat → Int32} {av : List Value} : FrameBlind (PC0 b L xs av) := fun a U g mk h => by
  obtain ⟨h0, h1, h2⟩ := h
  exact ⟨h0, h1.moved (State.WarmedH.refl U).alike, h2⟩
theorem pc_S {s : State} {A : Nat → Prop} {H : Heap} {locs : List Jvm.Loc} {b L : Nat} {xs : Nat → Int32} {As : List Value} (hX : va_X b L xs s s.heap) (hbl : b < s.heap.size) (hbA : ¬ A b) (hS : va_S A s.heap H locs) : PreS s H (PC0 b L xs As) As :=
  ⟨PC0.blind, fun U hU hW => ⟨rfl, by rw [hU]; exact (hX.kept (hS.2.1 b hbl hbA)).moved hW.alike, by rw [hU]; exact Nat.lt_of_lt_of_le hbl hS.1⟩⟩
set_option maxHeartbeats 4000000 in
set_option maxRecDepth 100000 in
theorem y_below (l : Launch) (v : Int32) (n : Nat) (h0 : 0 < n) (hn : n < 2 ^ 31) : Met l yL_below (ws_ yL_below cL_below 2 (some .int)) { frames := 0, cells := 0, slots := 0, locals := 0 } (PN [.int v, .int (nI n)]) (zQ (some (.int (nI (bel v n))))) 0 0 zno := by
  refine tk_N (by decide) (Nat.le_of_ble_eq_true rfl) ?_
  intro p e s m args below meth c ls hx hb hml hr hlk hown hts hl
  have hl : lv_has ls 2 [(0, .int v), (1, .int (nI n))] := hl
  refine lv_iload_n hx hb dL_below_0 rfl (lv_at hl 0 rfl) ?_
  refine lv_ldc hx hb hown (hts _ wq797) dL_below_1 ?_
  refine lv_iand hx hb dL_below_3 ?_
  refine zk_ti (y := nI (v.toBitVec.toNat % 2 ^ 31)) (pk_and v 31 (by decide)) ?_
  refine lv_iload_n hx hb dL_below_4 rfl (lv_at hl 1 rfl) ?_
  refine lv_irem hx hb dL_below_5 (nI_ne0 h0 hn) ?_
  refine zk_ti (y := nI (bel v n)) (pk_rem (Nat.mod_lt _ (by decide)) h0 hn) ?_
  exact ze_i hx hb hr hlk rfl rfl dL_below_6
set_option maxHeartbeats 4000000 in
set_option maxRecDepth 100000 in
theorem y_cell (l : Launch) {b L : Nat} {xs : Nat → Int32} (k : Nat) (hk : k < 2 ^ 31) (hL : L ≤ 260) : Met l yL_cell (ws_ yL_cell cL_cell 2 (some .int)) { frames := 0, cells := 0, slots := 0, locals := 0 } (PC0 b L xs [.ref b, .int (nI k)]) (zQ (some (.int (vcell L xs k)))) 0 0 zno := by
  refine Met.ofW (cc := cL_cell) (maxL := 2) (ret := (some .int)) (by decide) rfl ?_
  intro p e s m args below meth c s₁ B hml hv
  obtain ⟨rfl, hX, hbl⟩ := hv
  have hts0 := atoms_spec (ws := ws_ yL_cell cL_cell 2 (some .int)) B.pre
  rw [lg_entry_eq]
  have hts := fun w h => hts0 w (List.mem_cons_of_mem (Cond.code yL_cell cL_cell 2 (some .int)) h)
  have hx := B.exec
  have hb : c.code = cL_cell := B.bytes
  have hr := B.returns
  have hlk := B.notSynchronized
  have hown := findClass_of_methodNamed B.named
  have hl := lv_entry ([.ref b, .int (nI k)]) (n := 2) (Nat.le_of_ble_eq_true rfl)
  generalize (lg_sl ([.ref b, .int (nI k)]) ++ List.replicate (2 - (lg_sl ([.ref b, .int (nI k)])).length) Slot.unset).toArray = ls at hl ⊢
  have hl : lv_has ls 2 [(0, .ref b), (1, .int (nI k))] := hl
  have hS : va_S (fun _ => False) s.heap s.heap [] := va_S.rf
  refine lv_iload_n hx hb dL_cell_0 rfl (lv_at hl 1 rfl) ?_
  refine lv_aload_n hx hb dL_cell_1 rfl (lv_at hl 0 rfl) ?_
  refine va_slen hx hb hX hbl (fun h => h) hS dL_cell_2 ?_
  refine zk_ti (y := nI L) rfl ?_
  by_cases hc : k < L
  · refine lv_icmp_ge (tgt := 12) hx hb dL_cell_3 (by decide) (fun h9 => absurd h9 (nI_ge hc (by omega))) (fun _ => ?_)
    refine lv_aload_n hx hb dL_cell_6 rfl (lv_at hl 0 rfl) ?_
    refine lv_iload_n hx hb dL_cell_7 rfl (lv_at hl 1 rfl) ?_
    refine va_sld hx hb hX hbl (fun h => h) hS (vp_in_nI hc (by omega)) dL_cell_8 ?_
    refine zk_ti (y := vcell L xs k) (by rw [nI_clamp hk]; unfold vcell; rw [if_pos hc]) ?_
    refine lv_goto (tgt := 18) hx hb dL_cell_9 (by decide) ?_
    exact ze_i hx hb hr hlk rfl rfl dL_cell_18
  · refine lv_icmp_ge (tgt := 12) hx hb dL_cell_3 (by decide) (fun _ => ?_) (fun h9 => absurd (nI_le (by omega) hk) h9)
    refine lv_ldc hx hb hown (hts _ wq801) dL_cell_12 ?_
    refine lv_iload_n hx hb dL_cell_14 rfl (lv_at hl 1 rfl) ?_
    refine lv_iconst (v := 3) hx hb dL_cell_15 (by decide) ?_
    refine lv_iadd hx hb dL_cell_16 ?_
    refine lv_imul hx hb dL_cell_17 ?_
    refine zk_ti (y := vcell L xs k) (by unfold vcell; rw [if_neg hc]) ?_
    exact ze_i hx hb hr hlk rfl rfl dL_cell_18
