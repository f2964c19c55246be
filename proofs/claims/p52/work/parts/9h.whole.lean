/-! THE CLAIM OUT OF ONE WALK OF THE LAW'S BODY. Your part is whole_start (and what it stands on); all else here is the same for every law, but numbers. -/
def R_law : String := "WeirStreamLaw"
def lw_P (b : Addr) (xs : List Int32) (args : Array Value) (s : State) : Prop := args = #[.ref b] ∧ s.IntsAt b xs ∧ xs.length ≤ 260 ∧ (Jvm.Cond.and given_1 narrow_1).before args s = true
/-- what a walk over the start with the record d0 says of its end, said of the start itself -/
theorem lw_closed {s t : State} {o : Outcome} {d0 : Drawn} {L : List Jvm.Loc} {k n : Nat} (hd0 : s.drawn.sameBut d0 lw_cs) (hv : ∃ v, o = .returned v) (hW : (s.setDrawn d0).WarmedH t.vm) (hs : (s.setDrawn d0).sameButNew ({ t with vm := s.vm } : State) L k n) : State.butDraws s t lw_cs (fun t1 => Framed s o t1 L k n) := by
  have h2 : t.drawn = d0 := congrArg State.drawn hs.1
  refine ⟨⟨hv, hW, State.sameButNew.setDrawn hs s.drawn⟩, ?_, by decide⟩
  rw [h2]
  exact hd0
def lw_Q (_ : Array Value) (s : State) (o : Outcome) (t : State) : Prop := o = .returned (some (.int 1)) ∧ State.butDraws s t lw_cs (fun t1 => Framed s o t1 [] room_1.cells room_1.slots)
def lw_Z (below : List Frame) (a : Array Value) (s : State) : State → Prop := fun t => ∃ o, t.status = .running ∧ Ended t below o ∧ lw_Q a s o t
/-- the law's own end, with 1 on the stack, nothing written that was there before, its room as the claim has it; d0: the record of draws at this point (at the entry s.drawn: begin with 'refine W.base ?_' and 'have hd0 := Drawn.sameBut.refl s.drawn lw_cs') -/
theorem lw_ret {p : Program} {l : Launch} {e : Env} {s : State} {m : MethodId} {below : List Frame} {meth : Method} {c : Code} {b : Nat} {d0 : Drawn} (hd0 : s.drawn.sameBut d0 lw_cs) (hx : p.tables.exec = Jvm.exec) (hb : c.code = code) (hr : meth.sig.returnType = ret) (hlocks : meth.locks = false) {pc : Nat} {H : Heap} {ls : Array Slot} (hdg : decode code pc = .ok (.ireturn, 1)) : W p l e room_1 (s.setDrawn d0) m #[Value.ref b] below meth c H [] room_1.cells room_1.slots (lw_Z below #[Value.ref b] s) (F0 m pc ls [.int 1]) := by
  intro T hT X
  obtain ⟨fs, hret, hrun, hended, hW, hframe⟩ := X.leave (v := some (.int 1)) (hlocks := hlocks) (fun h => by rw [hr] at h; cases h)
  have hmeth' : T.vm.method? m = some meth := X.method'
  refine ⟨T.setFrames fs, ?_, .returned (some (.int 1)), hrun, hended, rfl, lw_closed hd0 ⟨_, rfl⟩ hW hframe⟩
  jvm_step X.here [X.here.top, hx, hb, hdg, hmeth', hr, ret, narrow_b1]
  (try refine ⟨rfl, ?_⟩); (try refine ⟨rfl, ?_⟩)
  first | (intro acts; rw [hret _ acts rfl rfl rfl]) | rw [hret _ _ rfl rfl rfl]
  exact Steps.refl _
/-- what holds at the law's entry: the machine, the code, the tables' words (any of lw_tbl by 'hts w (by decide +kernel)'), the script of L ints xs at the cell b, what the Statement gives of the start (any of its parts by flat_of_before) -/
def lw_At (p : Program) (s : State) (m : MethodId) (meth : Method) (c : Code) (b L : Nat) (xs : Nat → Int32) : Prop :=
  p.tables.exec = Jvm.exec ∧ c.code = code ∧ meth.sig.returnType = ret ∧ c.maxLocals = 12 ∧ s.vm.findClass R_law = some m.cls ∧ (∀ w ∈ lw_tbl, w.before #[Value.ref b] s = true) ∧ va_X b L xs s s.heap ∧ b < s.heap.size ∧ meth.locks = false ∧ (Jvm.Cond.and given_1 narrow_1).before #[Value.ref b] s = true
/-! ===== the context of the start ===== -/
theorem zk_N0 {s : State} {A : Array Value} (h : ∀ w ∈ lw_tbl, w.before A s = true) : zk_N s := by
  intro w hw hz
  have h0 := h w hw
  cases w with
  | fieldLinkNest a i b n d hh => exact va_tabs rfl rfl h0
  | methodLinkNest a i x hh => exact va_tabs rfl rfl h0
  | castable C T => exact va_tabs rfl rfl h0
  | declares x => exact va_tabs rfl rfl h0
  | arrayOver ty => exact h0
  | _ => exact (Bool.false_ne_true hz).elim
theorem zk_tp {args : Array Value} {s : State} {ty : FieldType} (hp : refKind ty = false) (h : (Cond.arrayClass ty).before args s = true) : ∃ c : ClassId, ArrOfT s c ty ∧ va_RA s c ty := by
  obtain ⟨c, k, comp, h1, h2, h3⟩ := Cond.arrayClass_spec h
  refine ⟨c, fun n z => ⟨fun k h => (by cases h), k, h2, comp, h3⟩, ?_⟩
  cases ty with
  | object C => exact absurd hp (by simp [refKind])
  | _ => exact h1
theorem zk_to {args : Array Value} {s : State} {C : String} (h : (Cond.arrayOver (.object C)).before args s = true) : ∃ c : ClassId, ArrOfT s c (.object C) ∧ va_RA s c (.object C) := by
  obtain ⟨comp, c, k, h1, h2, h3, h4, h5⟩ := Cond.arrayOver_spec h
  exact ⟨c, fun n z => ⟨fun k h => (by cases h), k, h3, comp, h4⟩, k, comp, h3, h4, h1, h5⟩
theorem alf_q0 {S : TS} {so : Nat → Nat} : ∀ n, alf so (q0 S) n = 0
  | 0 => rfl
  | n + 1 => by
    show alf so (q0 S) n + _ = 0
    have e : (q0 S (rl n)).2 = [] := by unfold q0; split <;> rfl
    rw [alf_q0 n, e]
    split <;> rfl

set_option maxHeartbeats 4000000 in
set_option maxRecDepth 100000 in
theorem law_cx {p : Program} {s : State} {m : MethodId} {meth : Method} {c : Code} {b L : Nat} {xs : Nat → Int32} (C0 : lw_At p s m meth c b L xs) : ∃ (D : va_G) (yc : Nat → ClassId) (e0 : Nat), CX D yc e0 (A9 s) s := by
  obtain ⟨hx, hb, hr, hml, hown, hts0, hX, hbl, hlk, hgv⟩ := C0
  have hts : ∀ w ∈ lw_all, w.before #[Value.ref b] s = true := fun w h => hts0 w (lw_all_tbl h)
  have hfl := flat_of_before _ hgv
  have hno : ∀ a : Nat, a < s.heap.size → ¬ (fun q : Nat => s.heap.size ≤ q) a := fun a h => Nat.not_le.mpr h
  obtain ⟨c0, j0, k0⟩ := u_known (C := RJx4a65c) (T := TJx4a65c) (N := 3) (n := 3) hts iJx4a65c (hts _ wq42)
  obtain ⟨c1, j1, k1⟩ := u_known (C := RX1) (T := TX1) (N := 3) (n := 3) hts iX1 (hts _ wq932)
  obtain ⟨c2, j2, k2⟩ := u_known (C := RX2) (T := TX2) (N := 8) (n := 8) hts iX2 (hts _ wq36)
  obtain ⟨c3, j3, k3⟩ := u_known (C := RX4) (T := TX4) (N := 2) (n := 2) hts iX4 (hts _ wq294)
  obtain ⟨c4, j4, k4⟩ := u_known (C := RX5) (T := TX5) (N := 15) (n := 15) hts iX5 (hts _ wq825)
  obtain ⟨c5, j5, k5⟩ := u_known (C := RX6) (T := TX6) (N := 2) (n := 2) hts iX6 (hts _ wq908)
  obtain ⟨c6, j6, k6⟩ := u_known (C := RX7) (T := TX7) (N := 2) (n := 2) hts iX7 (hts _ wq1035)
  obtain ⟨c7, j7, k7⟩ := u_known (C := RX8) (T := TX8) (N := 12) (n := 12) hts iX8 (hts _ wq406)
  obtain ⟨c8, j8, k8⟩ := u_known (C := RX9) (T := TX9) (N := 11) (n := 11) hts iX9 (hts _ wq1029)
  obtain ⟨c9, j9, k9⟩ := u_known (C := RX10) (T := TX10) (N := 5) (n := 5) hts iX10 (hts _ wq28)
  obtain ⟨dC, dI, hKc⟩ : ∃ (dC : Nat → ClassId) (dI : Nat → Nat → Nat), ∀ (k : Nat) (x : vw_C), vwCl[k]? = some x → u_Kn s x.1 x.2.1 x.2.2 (dC k) (dI k) := by
    refine ⟨fun k => if k = 0 then c0 else if k = 1 then c1 else if k = 2 then c2 else if k = 3 then c3 else if k = 4 then c4 else if k = 5 then c5 else if k = 6 then c6 else if k = 7 then c7 else if k = 8 then c8 else c9, fun k => if k = 0 then j0 else if k = 1 then j1 else if k = 2 then j2 else if k = 3 then j3 else if k = 4 then j4 else if k = 5 then j5 else if k = 6 then j6 else if k = 7 then j7 else if k = 8 then j8 else j9, ?_⟩
    intro k x hx9
    match k, hx9 with
    | 0, hx9 => cases hx9; exact k0
    | 1, hx9 => cases hx9; exact k1
    | 2, hx9 => cases hx9; exact k2
    | 3, hx9 => cases hx9; exact k3
    | 4, hx9 => cases hx9; exact k4
    | 5, hx9 => cases hx9; exact k5
    | 6, hx9 => cases hx9; exact k6
    | 7, hx9 => cases hx9; exact k7
    | 8, hx9 => cases hx9; exact k8
    | 9, hx9 => cases hx9; exact k9
    | k + 10, hx9 => simp [vwCl] at hx9
  obtain ⟨y0, ya0, yr0⟩ := zk_tp (ty := .int) rfl (hts _ wq1206)
  obtain ⟨y1, ya1, yr1⟩ := zk_tp (ty := .long) rfl (hts _ wq587)
  obtain ⟨y2, ya2, yr2⟩ := zk_to (hts0 _ wr999)
  obtain ⟨yc, e_y⟩ : ∃ yc : Nat → ClassId, yc = fun k => if k = 0 then y0 else if k = 1 then y1 else y2 := ⟨_, rfl⟩
  have hK : va_K (dC, dI) vwCl (yT yc) s := by
    subst e_y
    refine ⟨hKc, fun k x hx9 => ?_⟩
    match k, hx9 with
    | 0, hx9 => cases hx9; exact ⟨ya0, yr0⟩
    | 1, hx9 => cases hx9; exact ⟨ya1, yr1⟩
    | 2, hx9 => cases hx9; exact ⟨ya2, yr2⟩
    | k + 3, hx9 => simp at hx9
  have hlen : (Term.length (.static "java/util/ArrayList" "DEFAULTCAPACITY_EMPTY_ELEMENTDATA" "[Ljava/lang/Object;")).eval #[Value.ref b] s none [] s = some (.int 0) := va_eqt (hfl _ (by decide +kernel))
  obtain ⟨e0, he0, hT⟩ := va_Tof (tm := .static "java/util/ArrayList" "DEFAULTCAPACITY_EMPTY_ELEMENTDATA" "[Ljava/lang/Object;") (ty := .object "java/lang/Object") (N := 0) (f := fun _ => .null) (A := fun q : Nat => s.heap.size ≤ q) (by decide) (hfl _ (by decide +kernel)) hlen (fun j hj => absurd hj (Nat.not_lt_zero j)) hno
  obtain ⟨mi, hmi⟩ := va_Mi.of (C := "[Ljava/lang/Object;") (hfl _ (by decide +kernel))
  exact ⟨(dC, dI), yc, e0, hK, zk_N0 hts0, va_Zof (hts0 _ wr54) (hts _ wq5) he0 hno, hT, mi, hmi⟩
set_option maxHeartbeats 4000000 in
set_option maxRecDepth 100000 in
theorem y_al {p : Program} {l : Launch} {e : Env} {s : State} {m : MethodId} {below : List Frame} {meth : Method} {c : Code} {D : va_G} {yc : Nat → ClassId} {e0 : Nat} {b L : Nat} {xs : Nat → Int32} {Q : State → Prop} (hx : p.tables.exec = Jvm.exec) (hb : c.code = cL_law) (hml : c.maxLocals = 12) (hown : s.vm.findClass RL = some m.cls) (hts : ∀ w ∈ lw_all, w.before #[Value.ref b] s = true) (hC : CX D yc e0 (A9 s) s) (hX : va_X b L xs s s.heap) (hbl : b < s.heap.size) (hL : L ≤ 260) {n : Nat} (hn : n ≤ 11) (c1 : 2000 ≤ room_1.cells) (c2 : 8000 ≤ room_1.slots) (kk : ∀ {S : TS} {pl : Nat → Nat → Int32} {so : Nat → Nat} {own : TO} {H : Heap} {ls : Array Slot}, GW S pl so → zn S = n → WX D yc e0 (A9 s) own (obS S pl) (rwS S) (lsS S) H → LSt s H → lv_has ls 12 [(3, .int (nI n)), (2, .int (nI n)), (1, .ref (zg S 7 0 0)), (0, .ref b)] → W p l e room_1 s m #[Value.ref b] below meth c H [] (5 + 87 * n) (27 + 549 * n) Q (F0 m 46 ls [])) : ∀ (j k : Nat), k + j = n → ∀ {S : TS} {pl : Nat → Nat → Int32} {so : Nat → Nat} {own : TO} {H : Heap} {ls : Array Slot}, GW S pl so → zn S = k → WX D yc e0 (A9 s) own (obS S pl) (rwS S) (lsS S) H → LSt s H → lv_has ls 12 [(3, .int (nI k)), (2, .int (nI n)), (1, .ref (zg S 7 0 0)), (0, .ref b)] → W p l e room_1 s m #[Value.ref b] below meth c H [] (5 + 87 * k) (27 + 549 * k) Q (F0 m 23 ls [])
  | 0, k, hj, S, pl, so, own, H, ls, hg, hzn, hW, hLS, hl => by
    have hj : k = n := hj
    subst hj
    refine lv_iload_n hx hb dL_law_23 rfl (lv_at hl 0 rfl) ?_
    refine lv_iload_n hx hb dL_law_24 rfl (lv_at hl 1 rfl) ?_
    refine lv_icmp_ge (tgt := 46) hx hb dL_law_25 (by decide) (fun _ => ?_) (fun h9 => absurd (nI_le (Nat.le_refl _) (by omega)) h9)
    exact kk hg hzn hW hLS hl
  | j + 1, k, hj, S, pl, so, own, H, ls, hg, hzn, hW, hLS, hl => by
    have hk : k < n := by omega
    refine lv_iload_n hx hb dL_law_23 rfl (lv_at hl 0 rfl) ?_
    refine lv_iload_n hx hb dL_law_24 rfl (lv_at hl 1 rfl) ?_
    refine lv_icmp_ge (tgt := 46) hx hb dL_law_25 (by decide) (fun h9 => absurd h9 (nI_ge hk (by omega))) (fun _ => ?_)
    refine lv_aload_n hx hb dL_law_28 rfl (lv_at hl 2 rfl) ?_
    refine lv_iload_n hx hb dL_law_29 rfl (lv_at hl 0 rfl) ?_
    refine lv_aload_n hx hb dL_law_30 rfl (lv_at hl 3 rfl) ?_
    refine lv_iconst (v := 1) hx hb dL_law_31 (by decide) ?_
    refine zk_ti (y := nI 1) (by decide) ?_
    refine lv_iload_n hx hb dL_law_32 rfl (lv_at hl 0 rfl) ?_
    refine lv_iadd hx hb dL_law_33 ?_
    refine zk_ti (y := nI (1 + k)) (nI_add _ _) ?_
    refine zr_i (va_runS (As := [.ref b, .int (nI (1 + k))]) (rest := [.int (nI k), .ref (zg S 7 0 0)]) ⟨hx, hb, hml, hown, hts⟩ (y_cell l (1 + k) (by omega) hL) (va_cwS 2 hts (lw_S wq798 wq799 wq0 wq800) rfl rfl rfl (by decide +kernel) ⟨(Nat.le_of_ble_eq_true rfl), (Nat.le_of_ble_eq_true rfl)⟩) (pc_S hX hbl (Nat.not_le.mpr hbl : ¬ A9 s b) hLS.va) rfl rfl hl.1 rfl (lv_room (Nat.le_of_ble_eq_true rfl)) dL_law_34 ⟨by omega, by omega⟩) ?_
    refine va_callv (va_runS (As := [.ref (zg S 7 0 0), .int (nI k), .int (vcell L xs (1 + k))]) (rest := []) ⟨hx, hb, hml, hown, hts⟩ (y_add l hg (by omega) hzn) (va_cwS 3 hts (lw_S wq813 wq814 wq0 wq815) rfl rfl rfl (by decide +kernel) ⟨(Nat.le_of_ble_eq_true rfl), (Nat.le_of_ble_eq_true rfl)⟩) (px_S hC hW hLS.va (fun _ h => h)) rfl rfl hl.1 rfl (lv_room (Nat.le_of_ble_eq_true rfl)) dL_law_37 ⟨by omega, by omega⟩) hLS.va (fun _ _ h => h) (fun _ h => h) (fun v t H1 locs1 ht _ _ hB hz1 hk1 hS1 => ?_)
    subst ht
    obtain ⟨⟨hg1, hn1, h71⟩, hW1⟩ := hB
    obtain ⟨hLS1, hf1⟩ := hS1.ls (fun _ h => h)
    refine va_forget hf1 ?_
    refine W.widen (k := 5 + 87 * (k + 1)) (n := 27 + 549 * (k + 1)) (by omega) (by omega) ?_
    refine lv_iinc (v := nI (k + 1)) (lv' := [(3, .int (nI (k + 1))), (2, .int (nI n)), (1, .ref (zg S 7 0 0)), (0, .ref b)]) hx hb dL_law_40 hl (k := 0) rfl (nI_1 k) (by decide) rfl (fun ls hl => ?_)
    refine lv_goto (tgt := 23) hx hb dL_law_43 (by decide) ?_
    rw [← h71] at hl
    exact y_al hx hb hml hown hts hC hX hbl hL hn c1 c2 kk j (k + 1) (by omega) hg1 (by omega) hW1 hLS1 (lv_sub hl [0, 1, 2, 3] rfl)
set_option maxHeartbeats 4000000 in
set_option maxRecDepth 100000 in
theorem y_run {p : Program} {l : Launch} {e : Env} {s : State} {m : MethodId} {below : List Frame} {meth : Method} {c : Code} {D : va_G} {yc : Nat → ClassId} {e0 : Nat} {b L : Nat} {xs : Nat → Int32} {Q : State → Prop} (hx : p.tables.exec = Jvm.exec) (hb : c.code = cL_law) (hml : c.maxLocals = 12) (hown : s.vm.findClass RL = some m.cls) (hts : ∀ w ∈ lw_all, w.before #[Value.ref b] s = true) (hC : CX D yc e0 (A9 s) s) (hX : va_X b L xs s s.heap) (hbl : b < s.heap.size) (hL : L ≤ 260) {S : TS} {so : Nat → Nat} {Z : Nat × Nat} {w : TW} {H : Heap} (hpos : 0 < zn S) (hW : LW s D yc e0 (A9 s) S Z w H) (hI : INV S so False 0 w) (hZ : ZI s Z 0) (h70 : w.1 7 0 0 2 = 0) (h64 : w.1 6 0 0 4 = nI 0) (hal0 : alf so w.2.2 (zn S) = 0) (kret : ∀ (H : Heap) (ls : Array Slot), W p l e room_1 s m #[Value.ref b] below meth c H [] room_1.cells room_1.slots Q (F0 m 740 ls [.int 1])) {ls : Array Slot} (hl : lv_has ls 12 [(1, .ref (zg S 7 0 0)), (0, .ref b)]) : W p l e room_1 s m #[Value.ref b] below meth c H [] room_1.cells room_1.slots Q (F0 m 46 ls []) := by
  have hn12 := hW.1.n12
  refine lv_aload_n hx hb dL_law_46 rfl (lv_at hl 0 rfl) ?_
  refine zr_i (va_runV (As := []) (rest := []) ⟨hx, hb, hml, hown, hts⟩ (k_X10_stages l D yc e0 _ S _ w.1 w.2.1 w.2.2) (cwV 0 hts (lw_V wq623 wq624 wq625 wq1 wq626) rfl rfl rfl (by decide +kernel) ⟨(Nat.le_of_ble_eq_true rfl), (Nat.le_of_ble_eq_true rfl)⟩) (lp_V hC hW 7 0 0 dm7 rfl rfl) rfl rfl hl.1 rfl (lv_room (Nat.le_of_ble_eq_true rfl)) dL_law_47 ⟨(Nat.le_of_ble_eq_true rfl), (Nat.le_of_ble_eq_true rfl)⟩) ?_
  refine zk_ti (y := nI (zn S)) rfl ?_
  refine lv_istore_n (lv' := [(2, .int (nI (zn S))), (1, .ref (zg S 7 0 0)), (0, .ref b)]) hx hb dL_law_50 rfl hl (by decide) rfl (fun ls hl => ?_)
  refine lv_aload_n hx hb dL_law_51 rfl (lv_at hl 1 rfl) ?_
  have hR := start_INV hI
  refine lw_i (w1 := (w_X10_start S w)) (hZ.zb (by omega) hR.1 (by omega)) hW (by have h9 := hZ.top (by omega) hI (by omega) hW; exact ⟨by omega, by omega⟩) (fun hle9 => va_runV (As := []) (rest := []) ⟨hx, hb, hml, hown, hts⟩ (k_X10_start l D yc e0 _ S Z _ _ w H.size (zh H) h70 hpos (hZ.zb (by omega) hR.1 (by omega))) (cwV 0 hts (lw_V wq111 wq112 wq113 wq1 wq114) rfl rfl rfl (by decide +kernel) ⟨(Nat.le_of_ble_eq_true rfl), (Nat.le_of_ble_eq_true rfl)⟩) (lq_V hC hW 7 0 0 dm7 rfl rfl) rfl rfl hl.1 rfl (lv_room (Nat.le_of_ble_eq_true rfl)) dL_law_52 hle9) (fun H1 hW1 hz1 hk1 => ?_)
  refine lv_pop hx hb dL_law_55 rfl ?_
  refine lv_aload_n hx hb dL_law_56 rfl (lv_at hl 1 rfl) ?_
  refine lv_iconst (v := 1) hx hb dL_law_57 (by decide) ?_
  refine zk_ti (y := nI 1) (by decide) ?_
  refine lv_aload_n hx hb dL_law_58 rfl (lv_at hl 2 rfl) ?_
  refine lv_bipush (v := 13) hx hb dL_law_59 (by decide) ?_
  refine zk_ti (y := nI 13) (by decide) ?_
  refine zr_i (va_runS (As := [.ref b, .int (nI 13)]) (rest := [.int (nI 1), .ref (zg S 7 0 0)]) ⟨hx, hb, hml, hown, hts⟩ (y_cell l 13 (by omega) hL) (va_cwS 2 hts (lw_S wq798 wq799 wq0 wq800) rfl rfl rfl (by decide +kernel) ⟨(Nat.le_of_ble_eq_true rfl), (Nat.le_of_ble_eq_true rfl)⟩) (pc_S hX hbl (Nat.not_le.mpr hbl : ¬ A9 s b) hW1.vs) rfl rfl hl.1 rfl (lv_room (Nat.le_of_ble_eq_true rfl)) dL_law_61 ⟨(Nat.le_of_ble_eq_true rfl), (Nat.le_of_ble_eq_true rfl)⟩) ?_
  refine lv_bipush (v := 9) hx hb dL_law_64 (by decide) ?_
  refine zk_ti (y := nI 9) (by decide) ?_
  refine zr_i (va_runS (As := [.int (vcell L xs 13), .int (nI 9)]) (rest := [.int (nI 1), .ref (zg S 7 0 0)]) ⟨hx, hb, hml, hown, hts⟩ (y_below l (vcell L xs 13) 9 (by omega) (by omega)) (va_cwS 2 hts (lw_S wq794 wq795 wq0 wq796) rfl rfl rfl (by decide +kernel) ⟨(Nat.le_of_ble_eq_true rfl), (Nat.le_of_ble_eq_true rfl)⟩) (tp_N) rfl rfl hl.1 rfl (lv_room (Nat.le_of_ble_eq_true rfl)) dL_law_66 ⟨(Nat.le_of_ble_eq_true rfl), (Nat.le_of_ble_eq_true rfl)⟩) ?_
  have b66 := bel_lt (v := (vcell L xs 13)) (n := 9) (by omega)
  refine lv_iadd hx hb dL_law_69 ?_
  refine zk_ti (y := nI (1 + bel (vcell L xs 13) 9)) (nI_add _ _) ?_
  have hR2 := setCapacity_INV (c := (1 + bel (vcell L xs 13) 9)) hR.1 (by omega) (by omega)
  refine lw_i (w1 := (w_X10_setCapacity S (w_X10_start S w).1 (1 + bel (vcell L xs 13) 9))) (hZ.zb (by omega) hR2 (by omega)) hW1 (by have h9 := hZ.top (by omega) hR.1 (by omega) hW1; exact ⟨by omega, by omega⟩) (fun hle9 => va_runV (As := [.int (nI (1 + bel (vcell L xs 13) 9))]) (rest := []) ⟨hx, hb, hml, hown, hts⟩ (k_X10_setCapacity l D yc e0 _ S Z _ _ (w_X10_start S w).1 H1.size (zh H1) (1 + bel (vcell L xs 13) 9) (by omega) (by omega) (hZ.zb (by omega) hR2 (by omega))) (cwV 1 hts (lw_V wq186 wq187 wq188 wq1 wq189) rfl rfl rfl (by decide +kernel) ⟨(Nat.le_of_ble_eq_true rfl), (Nat.le_of_ble_eq_true rfl)⟩) (lq_V hC hW1 7 0 0 dm7 rfl rfl) rfl rfl hl.1 rfl (lv_room (Nat.le_of_ble_eq_true rfl)) dL_law_70 hle9) (fun H2 hW2 hz2 hk2 => ?_)
  refine lv_pop hx hb dL_law_73 rfl ?_
  refine lv_iconst (v := 0) hx hb dL_law_74 (by decide) ?_
  refine zk_ti (y := nI 0) (by decide) ?_
  refine lv_istore_n (lv' := [(3, .int (nI 0)), (2, .int (nI (zn S))), (1, .ref (zg S 7 0 0)), (0, .ref b)]) hx hb dL_law_75 rfl hl (by decide) rfl (fun ls hl => ?_)
  refine lv_iconst (v := 0) hx hb dL_law_76 (by decide) ?_
  refine zk_ti (y := nI 0) (by decide) ?_
  refine lv_istore (lv' := [(4, .int (nI 0)), (3, .int (nI 0)), (2, .int (nI (zn S))), (1, .ref (zg S 7 0 0)), (0, .ref b)]) hx hb dL_law_77 hl (by decide) rfl (fun ls hl => ?_)
  refine lv_iconst (v := 0) hx hb dL_law_79 (by decide) ?_
  refine zk_ti (y := nI 0) (by decide) ?_
  refine lv_istore (lv' := [(5, .int (nI 0)), (4, .int (nI 0)), (3, .int (nI 0)), (2, .int (nI (zn S))), (1, .ref (zg S 7 0 0)), (0, .ref b)]) hx hb dL_law_80 hl (by decide) rfl (fun ls hl => ?_)
  have e2 : (w_X10_setCapacity S (w_X10_start S w).1 (1 + bel (vcell L xs 13) 9)).1 = zset (w_X10_start S w).1 6 0 0 2 (nI (1 + bel (vcell L xs 13) 9)) := by unfold w_X10_setCapacity; rw [zlet_eq]
  refine y_loop hx hb hml hown hts hC hX hbl hL hpos (fun w Z H at_ off ls hT hl => y_end hx hb hml hown hts hC hX hbl hL hpos hT kret hl) 45 0 rfl ⟨hW2, hR2, hZ, ⟨0, Nat.le_refl _, ?_⟩, ?_, ?_, Nat.le_refl _, Nat.zero_le _⟩ (lv_sub hl [0, 1, 2, 3, 4, 5] rfl)
  · rw [e2, z9j (by decide), hR.2.2.2.2 6 0 0 4 (by decide)]; exact h64
  · rw [e2, z9n (by omega), hR.2.1]; decide
  · rw [e2]; show alf so (w_X10_start S w).1.2.2 (zn S) = 0; rw [hR.2.2.2.1]; exact hal0
set_option maxHeartbeats 4000000 in
set_option maxRecDepth 100000 in
theorem y_law {p : Program} {l : Launch} {e : Env} {s : State} {m : MethodId} {below : List Frame} {meth : Method} {c : Code} {D : va_G} {yc : Nat → ClassId} {e0 : Nat} {b L : Nat} {xs : Nat → Int32} {Q : State → Prop} (hx : p.tables.exec = Jvm.exec) (hb : c.code = cL_law) (hml : c.maxLocals = 12) (hown : s.vm.findClass RL = some m.cls) (hts : ∀ w ∈ lw_all, w.before #[Value.ref b] s = true) (hC : CX D yc e0 (A9 s) s) (hX : va_X b L xs s s.heap) (hbl : b < s.heap.size) (hL : L ≤ 260) (kret : ∀ (H : Heap) (ls : Array Slot), W p l e room_1 s m #[Value.ref b] below meth c H [] room_1.cells room_1.slots Q (F0 m 740 ls [.int 1])) {ls : Array Slot} (hl : lv_has ls 12 [(0, .ref b)]) : W p l e room_1 s m #[Value.ref b] below meth c s.heap [] 0 0 Q (F0 m 0 ls []) := by
  have hA : ∀ q : Nat, s.heap.size ≤ q → A9 s q := fun _ h => h
  have hP0 : va_P D vwCl [] s.heap := fun k q h => by simp at h
  have hD0 : va_D (A9 s) [] := ⟨fun i j p q h => by simp at h, fun k q h => by simp at h⟩
  refine va_new (ci := 9) (fs := [.null, .null, .int 0, .int 0, .int 0]) (C := RX10) (T := TX10) (N := 5) hx hb hts iX10 tyX10 tyX10_ok hown (hts _ wq27) (hts _ wq28) (hts _ wq1) hC.1 hP0 hD0 va_S.rf hA rfl dfX10 (Nat.le_of_ble_eq_true rfl) (Nat.le_of_ble_eq_true rfl) dL_law_0 (fun q1 H hP hD hS => ?_)
  have hP : va_P D vwCl [(q1, .inr (9, [.null, .null, .int 0, .int 0, .int 0]))] H := hP
  have hD : va_D (A9 s) [(q1, .inr (9, [.null, .null, .int 0, .int 0, .int 0]))] := hD
  refine lv_dup hx hb dL_law_3 rfl ?_
  refine zk_v (wr := []) (va_runI (As := []) (rest := [.ref q1]) ⟨hx, hb, hml, hown, hts⟩ (kX10_init_0 l D yc e0 H.size q1) (cwI 0 hts (lw_C wq31) rfl rfl rfl (hts _ wq1) (hts _ wq29) (hts _ wq30) rfl (by decide +kernel) ⟨(Nat.le_of_ble_eq_true rfl), (Nat.le_of_ble_eq_true rfl)⟩) (zk_pS hC hP hD hS hA [0] rfl rfl) rfl rfl hl.1 rfl (lv_room (Nat.le_of_ble_eq_true rfl)) dL_law_4 ⟨(Nat.le_of_ble_eq_true rfl), (Nat.le_of_ble_eq_true rfl)⟩) hP hD hS hA [0] [] rfl rfl rfl (by decide) (fun u2 H locs hP hD hS => ?_)
  obtain ⟨own, hW⟩ := ws_S0 (pl := fun _ _ => 0) hP hD
  refine lv_astore_n (lv' := [(1, .ref q1), (0, .ref b)]) hx hb dL_law_7 rfl hl (by decide) rfl (fun ls hl => ?_)
  refine lv_iconst (v := 3) hx hb dL_law_8 (by decide) ?_
  refine zk_ti (y := nI 3) (by decide) ?_
  refine lv_aload_n hx hb dL_law_9 rfl (lv_at hl 1 rfl) ?_
  refine lv_iconst (v := 0) hx hb dL_law_10 (by decide) ?_
  refine zk_ti (y := nI 0) (by decide) ?_
  refine zr_i (va_runS (As := [.ref b, .int (nI 0)]) (rest := [.int (nI 3)]) ⟨hx, hb, hml, hown, hts⟩ (y_cell l 0 (by omega) hL) (va_cwS 2 hts (lw_S wq798 wq799 wq0 wq800) rfl rfl rfl (by decide +kernel) ⟨(Nat.le_of_ble_eq_true rfl), (Nat.le_of_ble_eq_true rfl)⟩) (pc_S hX hbl (Nat.not_le.mpr hbl : ¬ A9 s b) hS) rfl rfl hl.1 rfl (lv_room (Nat.le_of_ble_eq_true rfl)) dL_law_11 ⟨(Nat.le_of_ble_eq_true rfl), (Nat.le_of_ble_eq_true rfl)⟩) ?_
  refine lv_bipush (v := 9) hx hb dL_law_14 (by decide) ?_
  refine zk_ti (y := nI 9) (by decide) ?_
  refine zr_i (va_runS (As := [.int (vcell L xs 0), .int (nI 9)]) (rest := [.int (nI 3)]) ⟨hx, hb, hml, hown, hts⟩ (y_below l (vcell L xs 0) 9 (by omega) (by omega)) (va_cwS 2 hts (lw_S wq794 wq795 wq0 wq796) rfl rfl rfl (by decide +kernel) ⟨(Nat.le_of_ble_eq_true rfl), (Nat.le_of_ble_eq_true rfl)⟩) (tp_N) rfl rfl hl.1 rfl (lv_room (Nat.le_of_ble_eq_true rfl)) dL_law_16 ⟨(Nat.le_of_ble_eq_true rfl), (Nat.le_of_ble_eq_true rfl)⟩) ?_
  have b16 := bel_lt (v := (vcell L xs 0)) (n := 9) (by omega)
  refine lv_iadd hx hb dL_law_19 ?_
  refine zk_ti (y := nI (3 + bel (vcell L xs 0) 9)) (nI_add _ _) ?_
  refine lv_istore_n (lv' := [(2, .int (nI (3 + bel (vcell L xs 0) 9))), (1, .ref q1), (0, .ref b)]) hx hb dL_law_20 rfl hl (by decide) rfl (fun ls hl => ?_)
  refine lv_iconst (v := 0) hx hb dL_law_21 (by decide) ?_
  refine zk_ti (y := nI 0) (by decide) ?_
  refine lv_istore_n (lv' := [(3, .int (nI 0)), (2, .int (nI (3 + bel (vcell L xs 0) 9))), (1, .ref q1), (0, .ref b)]) hx hb dL_law_22 rfl hl (by decide) rfl (fun ls hl => ?_)
  obtain ⟨hLS, hf1⟩ := hS.ls (fun _ h => h)
  refine va_forget hf1 ?_
  have c1 : 2000 ≤ room_1.cells := (Nat.le_of_ble_eq_true rfl)
  have c2 : 8000 ≤ room_1.slots := (Nat.le_of_ble_eq_true rfl)
  refine y_al hx hb hml hown hts hC hX hbl hL (n := (3 + bel (vcell L xs 0) 9)) (by omega) c1 c2 (fun {S pl so own H ls} hg hzn hW hLS hl => ?_) (3 + bel (vcell L xs 0) 9) 0 (by omega) GW.zero rfl hW hLS (lv_sub hl [0, 1, 2, 3] rfl)
  refine W.know fun g1 g2 g3 g4 => W.widen (k := room_1.cells) (n := room_1.slots) (by omega) (by omega) ?_
  have hn12 : zn S ≤ 12 := by omega
  exact y_run (w := (F0p pl, G0, q0 S)) hx hb hml hown hts hC hX hbl hL (by omega) ⟨ws_WT hW hn12 hg.1, hLS, fun _ h => h, fun q hq => Nat.le_trans hLS.1 hq⟩ (hg.inv hn12) ⟨by show H.size ≤ _; omega, g4, by show zh H ≤ _; omega⟩ rfl rfl (alf_q0 _) kret (lv_sub hl [2, 3] rfl)
set_option maxHeartbeats 4000000 in
set_option maxRecDepth 100000 in
theorem whole_start {p : Program} {e : Env} {s : State} {m : MethodId} {below : List Frame} {meth : Method} {c : Code} (l : Launch) (hflags : l.flags = flags0) {b L : Nat} {xs : Nat → Int32} (hL : L ≤ 260) (C0 : lw_At p s m meth c b L xs) : W p l e room_1 s m #[Value.ref b] below meth c s.heap [] 0 0 (lw_Z below #[Value.ref b] s) (entryFrame m ([Value.ref b] : List Value).toArray 12) := by
  obtain ⟨D, yc, e0, hC0⟩ := law_cx C0
  obtain ⟨d0, e_d⟩ : ∃ d0, d0 = s.drawn := ⟨_, rfl⟩
  have hd0 : s.drawn.sameBut d0 lw_cs := by rw [e_d]; exact Drawn.sameBut.refl s.drawn lw_cs
  refine W.base ?_
  rw [← e_d]
  have hC : CX D yc e0 (A9 s) (s.setDrawn d0) := hC0.go (H := s.heap) (locs := []) va_S.rf (fun _ h => h) rfl (show s.WarmedH s.vm from State.WarmedH.refl s)
  obtain ⟨hx, hb, hr, hml, hown, hts0, hX, hbl, hlk, hgv⟩ := id C0
  have hts : ∀ w ∈ lw_all, w.before #[Value.ref b] (s.setDrawn d0) = true := dr_words (fun w h => hts0 w (lw_all_tbl h)) d0
  have hX : va_X b L xs (s.setDrawn d0) (s.setDrawn d0).heap := hX
  have hl := lv_entry ([.ref b]) (n := 12) (Nat.le_of_ble_eq_true rfl)
  rw [lg_entry_eq]
  generalize (lg_sl ([.ref b]) ++ List.replicate (12 - (lg_sl ([.ref b])).length) Slot.unset).toArray = ls at hl ⊢
  have hl : lv_has ls 12 [(0, .ref b)] := hl
  exact y_law (s := s.setDrawn d0) hx hb hml hown hts hC hX hbl hL (fun H ls => lw_ret hd0 hx hb hr hlk dL_law_740) hl
set_option maxHeartbeats 4000000 in
theorem lw_walk (l : Launch) (hflags : l.flags = flags0) (b : Addr) (xs : List Int32) : MetFree l x (headSpec (Jvm.Cond.code x code maxLocals ret :: tables_1) room_1) (lw_P b xs) (fun _ _ _ _ _ => True) lw_Q := by
  refine MetFree.of_bodyS (code := code) (maxLocals := maxLocals) (ret := ret) (by decide) ?_ ?_
  · intro args s m h hn
    obtain ⟨meth, c, h1, h2, h3, h4, h5, h6, -, -⟩ := Cond.code_spec hn (atoms_spec (ws := Jvm.Cond.code x code maxLocals ret :: tables_1) h _ List.mem_cons_self)
    exact ⟨meth, c, h1, h2, h3, h4, h5, h6⟩
  · intro p e s m args below meth c s₁ B hml0 hP _
    obtain ⟨rfl, hx, hbd, hgv⟩ := hP
    obtain ⟨scr, harrAt, hlist, hof, hsmall⟩ := hx
    obtain ⟨hcb, hkn, -, -⟩ := State.arrayAt?_spec harrAt
    have hown : s.vm.findClass R_law = some m.cls := findClass_of_methodNamed B.named
    have hts0 : ∀ c ∈ (Jvm.Cond.code x code maxLocals ret :: tables_1), c.before #[Value.ref b] s = true := atoms_spec (ws := Jvm.Cond.code x code maxLocals ret :: tables_1) B.pre
    have hts : ∀ w ∈ lw_tbl, w.before #[Value.ref b] s = true := k2_hts_sels lw_privs (fun w hw => hts0 w (List.mem_cons_of_mem _ hw)) lw_privs_ok
    have hml : c.maxLocals = 12 := B.maxLocals_eq (hts0 _ List.mem_cons_self)
    have X₀ : Stand p l e room_1 s m #[Value.ref b] below meth c s₁ [] 0 0 := Stand.of_body B
    have hh0 : s₁.heap = s.heap := by rw [B.state]; rfl
    have hsz : scr.slots.size = xs.length := by rw [← Array.length_toList, hlist, List.length_map]
    have hval : ∀ j : Nat, j < xs.length → scr.slots[j]? = some (.int (xs.getD j 0)) := fun j hj => by
      rw [← Array.getElem?_toList, hlist]
      simp [hj]
    have hbl : b < s.heap.size := (Array.getElem?_eq_some_iff.mp hcb).1
    have hX : va_X b xs.length (fun j => xs.getD j 0) s s.heap := ⟨scr, hcb, hof, hkn, hsz, hval⟩
    have K : W p l e room_1 s m #[Value.ref b] below meth c s₁.heap [] 0 0 (lw_Z below #[Value.ref b] s) (entryFrame m ([Value.ref b] : List Value).toArray 12) := by
      rw [hh0]
      exact whole_start l hflags hbd ⟨B.exec, B.bytes, B.returns, hml, hown, hts, hX, hbl, B.notSynchronized, hgv⟩
    obtain ⟨t, a1, o, b1, b2, b3⟩ := K s₁ rfl X₀
    exact ⟨t, o, a1, b1, b2, b3⟩
theorem lw_pre_spec {args : Array Value} {s : State} (h : (Jvm.Cond.and given_1 narrow_1).before args s = true) (hr : rest_1_c.before args s = true) : ∃ (b : Addr) (xs : List Int32), lw_P b xs args s := by
  have hs := flat_of_before _ h
  have hq := flat_of_before _ hr
  have hc : (Cond.count 1).before args s = true := hs _ (by decide +kernel)
  have harr : (Cond.arrayOf (.arg 0) .int).before args s = true := hs _ (by decide +kernel)
  have hle : (Cond.le (.length (.arg 0)) (.int 260)).before args s = true := hs _ (by decide +kernel)
  have hlen : (Cond.isInt (.length (.arg 0))).before args s = true := hq _ (by decide +kernel)
  have hall : (Cond.all (.arg 0) (.isInt (.elem (.arg 0) (.index 0)))).before args s = true := hq _ (by decide +kernel)
  obtain ⟨b, xs, hb, hx⟩ := State.ints_of_pre rfl harr hlen hall
  have hsm : xs.length < 2 ^ 31 := hx.choose_spec.2.2.2
  have hev : (Term.length (.arg 0)).eval args s none [] s = some (.int xs.length.toInt32) := hx.length_eval hb
  have hv := Cond.le_ints hev (show (Term.int 260).eval args s none [] s = some (.int 260) from rfl)
  have hd : xs.length.toInt32 ≤ 260 := by
    simpa [Cond.before, Cond.holds, hv] using hle
  have hN : xs.length ≤ 260 := (Int32.ofNat_le_ofNat hsm (by decide)).mp (show Int32.ofNat xs.length ≤ Int32.ofNat 260 from hd)
  exact ⟨b, xs, Cond.one_arg hc (show args[0]? = some (.ref b) from hb), hx, hN, h⟩
theorem lw_comes (l : Launch) (hflags : l.flags = flags0) : Comes l x (Jvm.Cond.code x code maxLocals ret :: tables_1) room_1 (fun tb e args s => Calls_1 tb e args s ∧ rest_1 tb e args s ∧ Pre_1 tb e args s)
    (fun _ _ args s o t => lw_Q args s o t) := by
  intro p e ha hc hk s m args below hf hfit hheap happ hpre
  obtain ⟨b, xs, hP⟩ := lw_pre_spec hpre.2.2 hpre.2.1
  obtain ⟨k, o, h1, h2, h3, hQ⟩ := lw_walk l hflags b xs p e ha hc hk s m args below hf ((Spec.applies_iff_loose hf).mp happ).1 hP trivial
  exact ⟨k, o, h1, h2, h3, hQ⟩
theorem lw_frame {s t : State} {o : Outcome} {args : Array Value} (h : State.butDraws s t lw_cs (fun t1 => Framed s o t1 [] room_1.cells room_1.slots)) :
    State.butDraws s t [Jvm.Choice.named "NaN.bits"] (fun t1 => Framed s o t1 (fieldLocs frame_1_writes args s ++ arrayLocs frame_1_arrays args s ++ staticLocs frame_1_statics s) room_1.cells room_1.slots) := h
theorem lw_limb (L : Cond) (hL : ∀ (args : Array Value) (s t : State), L.after args s (.returned (some (.int 1))) t = true) :
    ArmFor flags0 classFile x code maxLocals ret World_1 tables_1 room_1 Calls_1 rest_1 Pre_1
      (fun tb e a s o t => postC L tb e a s o t ∧ State.butDraws s t [Jvm.Choice.named "NaN.bits"] (fun t1 => Framed s o t1 (fieldLocs frame_1_writes a s ++ arrayLocs frame_1_arrays a s ++ staticLocs frame_1_statics s) room_1.cells room_1.slots)) := by
  intro l hflags _ _ p e ha hc hk s m args below hf hfit hheap happ hpre
  obtain ⟨k, o, h1, h2, h3, rfl, hF⟩ := lw_comes l hflags p e ha hc hk s m args below hf hfit hheap happ hpre
  exact ⟨k, _, h1, h2, h3, hL args s _, lw_frame hF⟩
theorem i_vc : Claimed_1_1 ∧ Claimed_1_2 := ⟨lw_limb limb_1_1 (fun args s t => by simp [limb_1_1, Cond.after, Cond.holds, Cond.value]), lw_limb limb_1_2 (fun args s t => Cond.after_iff.mpr (by
  first | (rw [show limb_1_2 = Cond.eq .result (.int 1) from rfl, Cond.eq_ints (x := 1) (y := 1) rfl rfl]; simp; done) | (simp [limb_1_2, Cond.value, Term.eval]; done)))⟩
