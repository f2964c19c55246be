/-! THE CLAIM OUT OF ONE WALK OF THE LAW'S BODY. Your part is whole_start (and what it stands on); all else here is the same for every law, but numbers. -/
def R_law : String := "WeirStreamLaw"
def lw_P (b : Addr) (xs : List Int32) (args : Array Value) (s : State) : Prop := args = #[.ref b] ∧ s.IntsAt b xs ∧ xs.length ≤ 6 ∧ (Jvm.Cond.and given_1 narrow_1).before args s = true
/-- what a walk over the start with the record d0 says of its end, said of the start itself -/
theorem lw_closed {s t : State} {o : Outcome} {d0 : Drawn} {L : List Loc} {k n : Nat} (hd0 : s.drawn.sameBut d0 lw_cs) (hv : ∃ v, o = .returned v) (hW : (s.setDrawn d0).WarmedH t.vm) (hs : (s.setDrawn d0).sameButNew ({ t with vm := s.vm } : State) L k n) : State.butDraws s t lw_cs (fun t1 => Framed s o t1 L k n) := by
  have h2 : t.drawn = d0 := congrArg State.drawn hs.1
  refine ⟨⟨hv, hW, State.sameButNew.setDrawn hs s.drawn⟩, ?_, by decide⟩
  rw [h2]
  exact hd0
def lw_Q (_ : Array Value) (s : State) (o : Outcome) (t : State) : Prop := o = .returned (some (.int 1)) ∧ State.butDraws s t lw_cs (fun t1 => Framed s o t1 [] 600002 7302232)
def lw_Z (below : List Frame) (a : Array Value) (s : State) : State → Prop := fun t => ∃ o, t.status = .running ∧ Ended t below o ∧ lw_Q a s o t
/-- the law's own end, with 1 on the stack, nothing written that was there before, its room as the claim has it; d0: the record of draws at this point (at the entry s.drawn: begin with 'refine W.base ?_' and 'have hd0 := Drawn.sameBut.refl s.drawn lw_cs') -/
theorem lw_ret {p : Program} {l : Launch} {e : Env} {s : State} {m : MethodId} {below : List Frame} {meth : Method} {c : Code} {b : Nat} {d0 : Drawn} (hd0 : s.drawn.sameBut d0 lw_cs) (hx : p.tables.exec = Jvm.exec) (hb : c.code = code) (hr : meth.sig.returnType = ret) (hlocks : meth.locks = false) {pc : Nat} {H : Heap} {ls : Array Slot} (hdg : decode code pc = .ok (.ireturn, 1)) : W p l e room_1 (s.setDrawn d0) m #[Value.ref b] below meth c H [] 600002 7302232 (lw_Z below #[Value.ref b] s) (F0 m pc ls [.int 1]) := by
  intro T hT X
  obtain ⟨fs, hret, hrun, hended, hW, hframe⟩ := X.leave (v := some (.int 1)) (hlocks := hlocks) (fun h => by rw [hr] at h; cases h)
  have hmeth' : T.vm.method? m = some meth := X.method'
  refine ⟨T.setFrames fs, ?_, .returned (some (.int 1)), hrun, hended, rfl, lw_closed hd0 ⟨_, rfl⟩ hW hframe⟩
  jvm_step X.here [X.here.top, hx, hb, hdg, hmeth', hr, ret, narrow_b1]
  (try refine ⟨rfl, ?_⟩); (try refine ⟨rfl, ?_⟩)
  first | (intro acts; rw [hret _ acts rfl rfl rfl]) | rw [hret _ _ rfl rfl rfl]
  exact Steps.refl _
/-- what holds at the law's entry: the machine, the code, the tables' words (any of lw_tbl by 'hts w (by decide +kernel)'), the script of L ints xs at the cell b, what the Statement gives of the start (any of its parts by flat_of_before) -/
def lw_At (p : Program) (s : State) (m : MethodId) (meth : Method) (c : Code) (b L : Nat) (xs : Nat → Int32) : Prop :=
  p.tables.exec = Jvm.exec ∧ c.code = code ∧ meth.sig.returnType = ret ∧ c.maxLocals = 9 ∧ s.vm.findClass R_law = some m.cls ∧ (∀ w ∈ lw_tbl, w.before #[Value.ref b] s = true) ∧ va_X b L xs s s.heap ∧ b < s.heap.size ∧ meth.locks = false ∧ (Jvm.Cond.and given_1 narrow_1).before #[Value.ref b] s = true

theorem zk_m1 {x : Int32} (h : ¬ x < 0) : (-1) < x := by
  rw [Int32.lt_iff_toInt_lt] at h ⊢
  have h0 : (0 : Int32).toInt = 0 := by decide
  have h1 : (-1 : Int32).toInt = -1 := by decide
  omega
theorem zk_ge {x y : Int32} (h : ¬ x < y) : y ≤ x := by
  rw [Int32.lt_iff_toInt_lt] at h
  rw [Int32.le_iff_toInt_le]
  omega
theorem zk_nge {x y : Int32} (h : x < y) : ¬ y ≤ x := by
  rw [Int32.lt_iff_toInt_lt] at h
  rw [Int32.le_iff_toInt_le]
  omega
theorem zk_pos {x : Int32} (h : ¬ x < 1) : ¬ x ≤ 0 := by
  rw [Int32.lt_iff_toInt_lt] at h
  rw [Int32.le_iff_toInt_le]
  have h0 : (0 : Int32).toInt = 0 := by decide
  have h1 : (1 : Int32).toInt = 1 := by decide
  omega
theorem law_out {p : Program} {l : Launch} {e : Env} {s : State} {m : MethodId} {below : List Frame} {meth : Method} {c : Code} {b L : Nat} {xs : Nat → Int32} (C0 : lw_At p s m meth c b L xs) {d0 : Drawn} (hd0 : s.drawn.sameBut d0 lw_cs) {v : Int32} (hv : v > Int32.ofNat L - 6) {H : Heap} {locs : List Loc} {cells slots : Nat} (hc : cells ≤ 600002) (hs : slots ≤ 7302232) (hS : va_S (fun q : Nat => s.heap.size ≤ q) s.heap H locs) {ls : Array Slot} (hl : lv_has ls 9 [(4, .int v), (0, .ref b)]) : W p l e room_1 (s.setDrawn d0) m #[Value.ref b] below meth c H locs cells slots (lw_Z below #[Value.ref b] s) (F0 m 23 ls []) := by
  obtain ⟨hx, hb, hr, hml, hown, hts0, hX, hbl, hlk, hgv⟩ := C0
  have hbA : ¬ (fun q : Nat => s.heap.size ≤ q) b := Nat.not_le.mpr hbl
  refine lv_iload hx hb dL_law_23 (lv_at hl 0 rfl) ?_
  refine lv_aload_n hx hb dL_law_25 rfl (lv_at hl 1 rfl) ?_
  refine va_slen hx hb hX hbl hbA hS dL_law_26 ?_
  refine lv_bipush (v := 6) hx hb dL_law_27 (by decide) ?_
  refine lv_isub hx hb dL_law_29 ?_
  refine lv_icmp_gt (tgt := 2956) hx hb dL_law_30 (by decide) (fun _ => ?_) (fun h9 => absurd hv h9)
  refine lv_iconst (v := 1) hx hb dL_law_2956 (by decide) ?_
  refine va_forget (fun q hq => hS.2.2 q hq) ?_
  refine W.widen (k := 600002) (n := 7302232) hc hs ?_
  exact lw_ret hd0 hx hb hr hlk dL_law_2957
theorem law_tail {p : Program} {l : Launch} {e : Env} {s : State} {m : MethodId} {below : List Frame} {meth : Method} {c : Code} {b : Nat} {xs : Nat → Int32} (C0 : lw_At p s m meth c b 6 xs) {d0 : Drawn} (hd0 : s.drawn.sameBut d0 lw_cs) {H : Heap} {locs : List Loc} {cells slots : Nat} (hc : cells ≤ 600002) (hs : slots ≤ 7302232) (hS : va_S (fun q : Nat => s.heap.size ≤ q) s.heap H locs) {ls : Array Slot} (hl : lv_has ls 9 [(4, .int 0), (0, .ref b)]) : W p l e room_1 (s.setDrawn d0) m #[Value.ref b] below meth c H locs cells slots (lw_Z below #[Value.ref b] s) (F0 m 2950 ls []) := by
  obtain ⟨hx, hb, hr, hml, hown, hts0, hX, hbl, hlk, hgv⟩ := id C0
  refine lv_iinc (v := 6) (lv' := [(4, .int 6), (0, .ref b)]) hx hb dL_law_2950 hl (k := 0) rfl (by decide) (by decide) rfl (fun ls hl => ?_)
  refine lv_goto (tgt := 23) hx hb dL_law_2953 (by decide) ?_
  exact law_out C0 hd0 (by decide) hc hs hS hl
theorem zk_N0 {s : State} {A : Array Value} (h : ∀ w ∈ lw_tbl, w.before A s = true) : zk_N s := by
  intro w hw hz
  have h0 := h w hw
  cases w with
  | fieldLinkNest a i b n d hh => exact va_tabs rfl rfl h0
  | methodLinkNest a i x hh => exact va_tabs rfl rfl h0
  | castable C T => exact va_tabs rfl rfl h0
  | declares x => exact va_tabs rfl rfl h0
  | arrayOver ty => exact h0
  | _ => exact (Bool.false_ne_true hz).elim
theorem zk_tp {args : Array Value} {s : State} {ty : FieldType} (hp : refKind ty = false) (h : (Cond.arrayClass ty).before args s = true) : ∃ c : ClassId, ArrOfT s c ty ∧ va_RA s c ty := by
  obtain ⟨c, k, comp, h1, h2, h3⟩ := Cond.arrayClass_spec h
  refine ⟨c, fun n z => ⟨fun k h => (by cases h), k, h2, comp, h3⟩, ?_⟩
  cases ty with
  | object C => exact absurd hp (by simp [refKind])
  | _ => exact h1
theorem zk_to {args : Array Value} {s : State} {C : String} (h : (Cond.arrayOver (.object C)).before args s = true) : ∃ c : ClassId, ArrOfT s c (.object C) ∧ va_RA s c (.object C) := by
  obtain ⟨comp, c, k, h1, h2, h3, h4, h5⟩ := Cond.arrayOver_spec h
  exact ⟨c, fun n z => ⟨fun k h => (by cases h), k, h3, comp, h4⟩, k, comp, h3, h4, h1, h5⟩
theorem zk_ta {args : Array Value} {s : State} {t : FieldType} (h : (Cond.arrayOver (.array t)).before args s = true) : ∃ c : ClassId, ArrOfT s c (.array t) ∧ va_RA s c (.array t) := by
  obtain ⟨comp, c, k, h1, h2, h3, h4⟩ := Cond.arrayOver_specA h
  exact ⟨c, fun n z => ⟨fun k h => (by cases h), k, h2, comp, h3⟩, h4⟩
set_option maxHeartbeats 4000000 in
set_option maxRecDepth 100000 in
theorem law_cx {p : Program} {s : State} {m : MethodId} {meth : Method} {c : Code} {b L : Nat} {xs : Nat → Int32} (C0 : lw_At p s m meth c b L xs) : ∃ (D : va_G) (yc : Nat → ClassId) (e0 : Nat), CX D yc e0 (fun q : Nat => s.heap.size ≤ q) s := by
  obtain ⟨hx, hb, hr, hml, hown, hts0, hX, hbl, hlk, hgv⟩ := C0
  have hts : ∀ w ∈ lw_all, w.before #[Value.ref b] s = true := fun w h => hts0 w (lw_all_tbl h)
  have hfl := flat_of_before _ hgv
  have hno : ∀ a : Nat, a < s.heap.size → ¬ (fun q : Nat => s.heap.size ≤ q) a := fun a h => Nat.not_le.mpr h
  obtain ⟨c0, j0, k0⟩ := u_known (C := RJx4a65c) (T := TJx4a65c) (N := 3) (n := 3) hts iJx4a65c (hts _ wq46)
  obtain ⟨c1, j1, k1⟩ := u_known (C := RX1) (T := TX1) (N := 3) (n := 3) hts iX1 (hts _ wq599)
  obtain ⟨c2, j2, k2⟩ := u_known (C := RX2) (T := TX2) (N := 8) (n := 8) hts iX2 (hts _ wq40)
  obtain ⟨c3, j3, k3⟩ := u_known (C := RX4) (T := TX4) (N := 2) (n := 2) hts iX4 (hts _ wq202)
  obtain ⟨c4, j4, k4⟩ := u_known (C := RX5) (T := TX5) (N := 15) (n := 15) hts iX5 (hts _ wq487)
  obtain ⟨c5, j5, k5⟩ := u_known (C := RX6) (T := TX6) (N := 2) (n := 2) hts iX6 (hts _ wq573)
  obtain ⟨c6, j6, k6⟩ := u_known (C := RX7) (T := TX7) (N := 2) (n := 2) hts iX7 (hts _ wq710)
  obtain ⟨c7, j7, k7⟩ := u_known (C := RX8) (T := TX8) (N := 12) (n := 12) hts iX8 (hts _ wq590)
  obtain ⟨c8, j8, k8⟩ := u_known (C := RX9) (T := TX9) (N := 11) (n := 11) hts iX9 (hts _ wq704)
  obtain ⟨c9, j9, k9⟩ := u_known (C := RX10) (T := TX10) (N := 5) (n := 5) hts iX10 (hts _ wq32)
  obtain ⟨c10, j10, k10⟩ := u_known (C := RX11) (T := TX11) (N := 12) (n := 12) hts iX11 (hts _ wq1376)
  obtain ⟨c11, j11, k11⟩ := u_known (C := RX12) (T := TX12) (N := 3) (n := 3) hts iX12 (hts _ wq1382)
  obtain ⟨c12, j12, k12⟩ := u_known (C := RX13) (T := TX13) (N := 17) (n := 17) hts iX13 (hts _ wq1364)
  obtain ⟨c13, j13, k13⟩ := u_known (C := RX14) (T := TX14) (N := 11) (n := 11) hts iX14 (hts _ wq1354)
  obtain ⟨dC, dI, hKc⟩ : ∃ (dC : Nat → ClassId) (dI : Nat → Nat → Nat), ∀ (k : Nat) (x : vw_C), vwCl[k]? = some x → u_Kn s x.1 x.2.1 x.2.2 (dC k) (dI k) := by
    refine ⟨fun k => if k = 0 then c0 else if k = 1 then c1 else if k = 2 then c2 else if k = 3 then c3 else if k = 4 then c4 else if k = 5 then c5 else if k = 6 then c6 else if k = 7 then c7 else if k = 8 then c8 else if k = 9 then c9 else if k = 10 then c10 else if k = 11 then c11 else if k = 12 then c12 else c13, fun k => if k = 0 then j0 else if k = 1 then j1 else if k = 2 then j2 else if k = 3 then j3 else if k = 4 then j4 else if k = 5 then j5 else if k = 6 then j6 else if k = 7 then j7 else if k = 8 then j8 else if k = 9 then j9 else if k = 10 then j10 else if k = 11 then j11 else if k = 12 then j12 else j13, ?_⟩
    intro k x hx9
    match k, hx9 with
    | 0, hx9 => cases hx9; exact k0
    | 1, hx9 => cases hx9; exact k1
    | 2, hx9 => cases hx9; exact k2
    | 3, hx9 => cases hx9; exact k3
    | 4, hx9 => cases hx9; exact k4
    | 5, hx9 => cases hx9; exact k5
    | 6, hx9 => cases hx9; exact k6
    | 7, hx9 => cases hx9; exact k7
    | 8, hx9 => cases hx9; exact k8
    | 9, hx9 => cases hx9; exact k9
    | 10, hx9 => cases hx9; exact k10
    | 11, hx9 => cases hx9; exact k11
    | 12, hx9 => cases hx9; exact k12
    | 13, hx9 => cases hx9; exact k13
    | k + 14, hx9 => simp [vwCl] at hx9
  obtain ⟨y0, ya0, yr0⟩ := zk_tp (ty := .int) rfl (hts _ wq1400)
  obtain ⟨y1, ya1, yr1⟩ := zk_tp (ty := .long) rfl (hts _ wq585)
  obtain ⟨y2, ya2, yr2⟩ := zk_tp (ty := .boolean) rfl (hts _ wq1401)
  obtain ⟨y3, ya3, yr3⟩ := zk_to (hts0 _ wr670)
  obtain ⟨y4, ya4, yr4⟩ := zk_to (hts0 _ wr1362)
  obtain ⟨y5, ya5, yr5⟩ := zk_to (hts0 _ wr1370)
  obtain ⟨y6, ya6, yr6⟩ := zk_ta (hts0 _ wr1360)
  obtain ⟨y7, ya7, yr7⟩ := zk_ta (hts0 _ wr1372)
  obtain ⟨y8, ya8, yr8⟩ := zk_ta (hts0 _ wr1374)
  obtain ⟨yc, e_y⟩ : ∃ yc : Nat → ClassId, yc = fun k => if k = 0 then y0 else if k = 1 then y1 else if k = 2 then y2 else if k = 3 then y3 else if k = 4 then y4 else if k = 5 then y5 else if k = 6 then y6 else if k = 7 then y7 else y8 := ⟨_, rfl⟩
  have hK : va_K (dC, dI) vwCl (yT yc) s := by
    subst e_y
    refine ⟨hKc, fun k x hx9 => ?_⟩
    match k, hx9 with
    | 0, hx9 => cases hx9; exact ⟨ya0, yr0⟩
    | 1, hx9 => cases hx9; exact ⟨ya1, yr1⟩
    | 2, hx9 => cases hx9; exact ⟨ya2, yr2⟩
    | 3, hx9 => cases hx9; exact ⟨ya3, yr3⟩
    | 4, hx9 => cases hx9; exact ⟨ya4, yr4⟩
    | 5, hx9 => cases hx9; exact ⟨ya5, yr5⟩
    | 6, hx9 => cases hx9; exact ⟨ya6, yr6⟩
    | 7, hx9 => cases hx9; exact ⟨ya7, yr7⟩
    | 8, hx9 => cases hx9; exact ⟨ya8, yr8⟩
    | k + 9, hx9 => simp at hx9
  have hlen : (Term.length (.static "java/util/ArrayList" "DEFAULTCAPACITY_EMPTY_ELEMENTDATA" "[Ljava/lang/Object;")).eval #[Value.ref b] s none [] s = some (.int 0) := va_eqt (hfl _ (by decide +kernel))
  obtain ⟨e0, he0, hT⟩ := va_Tof (tm := .static "java/util/ArrayList" "DEFAULTCAPACITY_EMPTY_ELEMENTDATA" "[Ljava/lang/Object;") (ty := .object "java/lang/Object") (N := 0) (f := fun _ => .null) (A := fun q : Nat => s.heap.size ≤ q) (by decide) (hfl _ (by decide +kernel)) hlen (fun j hj => absurd hj (Nat.not_lt_zero j)) hno
  refine ⟨(dC, dI), yc, e0, hK, zk_N0 hts0, ?_, ?_, ?_, ?_, hT⟩
  · refine List.forall_mem_cons.mpr ⟨va_Nc.of (hfl _ (by decide +kernel)), List.forall_mem_cons.mpr ⟨va_Nc.of (hfl _ (by decide +kernel)), List.forall_mem_cons.mpr ⟨va_Nc.of (hfl _ (by decide +kernel)), List.forall_mem_cons.mpr ⟨va_Nc.of (hfl _ (by decide +kernel)), List.forall_mem_cons.mpr ⟨va_Nc.of (hfl _ (by decide +kernel)), List.forall_mem_cons.mpr ⟨va_Nc.of (hfl _ (by decide +kernel)), fun _ h => absurd h List.not_mem_nil⟩⟩⟩⟩⟩⟩
  · exact vx_Zqof (hts0 _ wr286) (hts _ wq10) (hfl _ (by decide +kernel)) hno
  · exact vx_Zqof (hts0 _ wr288) (hts _ wq10) (hfl _ (by decide +kernel)) hno
  · exact va_Zof (hts0 _ wr58) (hts _ wq5) he0 hno
