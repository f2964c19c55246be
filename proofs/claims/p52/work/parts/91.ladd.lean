theorem isw {n lo hi : Nat} (h1 : lo ≤ n) (h2 : n ≤ hi) (h3 : hi < 2 ^ 31) : v_X10_isWithin (nI n) (nI lo) (nI hi) = 1 := by
  unfold v_X10_isWithin
  rw [if_neg (nI_nlt h1 (by omega)), if_neg (nI_nlt h2 (by omega))]
/-- what the law's add leaves -/
abbrev QA (D : va_G) (yc : Nat → ClassId) (e0 : Nat) (A : Nat → Prop) (S : TS) : Array Value → State → Outcome → State → Prop := va_Qv (fun _ : TS × (Nat → Nat → Int32) × TO × (Nat → Nat) => True) (fun v t => (GW v.1 v.2.1 v.2.2.2 ∧ zn v.1 = zn S + 1 ∧ zg v.1 7 0 0 = zg S 7 0 0) ∧ WX D yc e0 A v.2.2.1 (obS v.1 v.2.1) (rwS v.1) (lsS v.1) t.heap) A
set_option maxHeartbeats 4000000 in
set_option maxRecDepth 100000 in
theorem y_add_end {p : Program} {l : Launch} {e : Env} {R : Room} {s : State} {m : MethodId} {args : Array Value} {below : List Frame} {meth : Method} {c : Code} {H : Heap} {locs : List Jvm.Loc} {D : va_G} {yc : Nat → ClassId} {e0 : Nat} {A : Nat → Prop} {S : TS} {pl : Nat → Nat → Int32} {so : Nat → Nat} {ls : Array Slot} {in1 in2 : Option Nat} {pp : Nat → Int32} {v : TS × (Nat → Nat → Int32) × TO} {cells slots : Nat} (hx : p.tables.exec = Jvm.exec) (hb : c.code = cL_add) (hr : meth.sig.returnType = none) (hlk : meth.locks = false) (hS : va_S A s.heap H locs) (hg : GW S pl so) (hSX : SX S in1 in2 pl pp v.1 v.2.1) (hW : WX D yc e0 A v.2.2 (obS v.1 v.2.1) (rwS v.1) (lsS v.1) H) (sn : Nat) (hp : PLp pp sn) (h1 : ∀ q, in1 = some q → q < zn S) (h2 : ∀ q, in2 = some q → q < zn S) (hne : ∀ q, ¬ (in1 = some q ∧ in2 = some q)) (hs : sn = 0 ↔ in1 = none) (hs2 : in2.isSome = true ↔ sn = 5 ∨ sn = 6) (hf : zn S = 0 → sn = 0) (hc1 : cells ≤ 87) (hc2 : slots ≤ 549) {pc : Nat} (hdg : decode cL_add pc = .ok (.return_, 1)) :
    W p l e R s m args below meth c H locs cells slots (MQ below (QA D yc e0 A S) args s 87 549 A) (F0 m pc ls []) :=
  W.widen hc1 hc2 (W.vret hx hb hr (fun t ht _ => ⟨⟨(v.1, v.2.1, v.2.2, fun k => if k = zn S then sn else so k), rfl, trivial, GW.step hg hSX hp h1 h2 hne hs hs2 hf, by subst ht; exact hW⟩, hS.F ht⟩) hS.2.2 hdg hlk)
set_option maxHeartbeats 4000000 in
set_option maxRecDepth 100000 in
theorem y_skip3 {p : Program} {l : Launch} {e : Env} {R : Room} {s : State} {m : MethodId} {args : Array Value} {below : List Frame} {meth : Method} {c : Code} {H : Heap} {locs : List Jvm.Loc} {cells slots : Nat} {Q : State → Prop} {D : va_G} {yc : Nat → ClassId} {e0 : Nat} {A : Nat → Prop} {S : TS} {pl : Nat → Nat → Int32} {so : Nat → Nat} {k : Nat} {x : Int32} {B : Int32} {Z : Nat × Nat} (hx : p.tables.exec = Jvm.exec) (hb : c.code = cL_add) (hml : c.maxLocals = 5) (hown : s.vm.findClass RL = some m.cls) (hts : ∀ w ∈ lw_all, w.before args s = true) (hT : WT D yc e0 A S Z (F0p pl) G0 (q0 S) H) (hS : va_S A s.heap H locs) (hA : ∀ a, s.heap.size ≤ a → A a) (hC : CX D yc e0 A s) (hk : k ≤ zn S) (hk11 : zn S ≤ 11) (hpl : ∀ a, a < zn S → pl a 0 = nI (so a) ∧ so a < 8) (h0 : so 0 = 0) (hR : 6 ≤ R.frames ∧ 200 ≤ R.locals ∧ cells ≤ R.cells ∧ slots ≤ R.slots) (kk : ∀ (a : Nat) (ls : Array Slot), a < k → so a ≠ 7 → lv_has ls 5 [(3, .int (nI a)), (4, .int B), (0, .ref (zg S 7 0 0)), (1, .int (nI k)), (2, .int x)] → W p l e R s m args below meth c H locs cells slots Q (F0 m 77 ls [])) : ∀ (a : Nat) (ls : Array Slot), a < k → lv_has ls 5 [(3, .int (nI a)), (4, .int B), (0, .ref (zg S 7 0 0)), (1, .int (nI k)), (2, .int x)] → W p l e R s m args below meth c H locs cells slots Q (F0 m 61 ls []) := by
  have hK := hC.1
  intro a
  induction a with
  | zero =>
    intro ls ha hl
    refine lv_aload_n hx hb dL_add_61 rfl (lv_at hl 2 rfl) ?_
    refine lv_iload_n hx hb dL_add_62 rfl (lv_at hl 0 rfl) ?_
    refine zr_i (va_runV (As := [.int (nI 0)]) (rest := []) ⟨hx, hb, hml, hown, hts⟩ (k_X10_sortOf l D yc e0 A S _ (F0p pl) G0 (q0 S) 0 (by omega)) (cwV 1 hts (lw_V wq627 wq628 wq629 wq1 wq630) rfl rfl rfl (by decide +kernel) ⟨by dsimp only; omega, by dsimp only; omega⟩) (tp_V hC hT hS hA 7 0 0 dm7 rfl rfl) rfl rfl hl.1 rfl (lv_room (Nat.le_of_ble_eq_true rfl)) dL_add_63 ⟨by omega, by omega⟩) ?_
    refine zk_ti (y := nI (so 0)) (hpl 0 (by omega)).1 ?_
    refine lv_bipush (v := 7) hx hb dL_add_66 (by decide) ?_
    rw [h0]
    refine lv_icmp_ne (tgt := 77) hx hb dL_add_68 (by decide) (fun _ => kk 0 ls ha (by rw [h0]; decide) hl) (fun h9 => absurd h9 (by decide))
  | succ a ih =>
    intro ls ha hl
    refine lv_aload_n hx hb dL_add_61 rfl (lv_at hl 2 rfl) ?_
    refine lv_iload_n hx hb dL_add_62 rfl (lv_at hl 0 rfl) ?_
    refine zr_i (va_runV (As := [.int (nI (a + 1))]) (rest := []) ⟨hx, hb, hml, hown, hts⟩ (k_X10_sortOf l D yc e0 A S _ (F0p pl) G0 (q0 S) (a + 1) (by omega)) (cwV 1 hts (lw_V wq627 wq628 wq629 wq1 wq630) rfl rfl rfl (by decide +kernel) ⟨by dsimp only; omega, by dsimp only; omega⟩) (tp_V hC hT hS hA 7 0 0 dm7 rfl rfl) rfl rfl hl.1 rfl (lv_room (Nat.le_of_ble_eq_true rfl)) dL_add_63 ⟨by omega, by omega⟩) ?_
    obtain ⟨q1, q2⟩ := hpl (a + 1) (by omega)
    refine zk_ti (y := nI (so (a + 1))) q1 ?_
    refine lv_bipush (v := 7) hx hb dL_add_66 (by decide) ?_
    refine lv_icmp_ne (tgt := 77) hx hb dL_add_68 (by decide) (fun h9 => kk (a + 1) ls ha (fun h8 => h9 (by rw [h8]; rfl)) hl) (fun _ => ?_)
    refine lv_iinc (v := nI a) (lv' := [(3, .int (nI a)), (4, .int B), (0, .ref (zg S 7 0 0)), (1, .int (nI k)), (2, .int x)]) hx hb dL_add_71 hl (k := 0) rfl (pk_m1 a) (by decide) rfl (fun ls hl => ?_)
    refine lv_goto (tgt := 61) hx hb dL_add_74 (by decide) ?_
    exact ih ls (by omega) hl
set_option maxHeartbeats 4000000 in
set_option maxRecDepth 100000 in
theorem y_skip4 {p : Program} {l : Launch} {e : Env} {R : Room} {s : State} {m : MethodId} {args : Array Value} {below : List Frame} {meth : Method} {c : Code} {H : Heap} {locs : List Jvm.Loc} {cells slots : Nat} {Q : State → Prop} {D : va_G} {yc : Nat → ClassId} {e0 : Nat} {A : Nat → Prop} {S : TS} {pl : Nat → Nat → Int32} {so : Nat → Nat} {k : Nat} {x : Int32} {B : Int32} {Z : Nat × Nat} (hx : p.tables.exec = Jvm.exec) (hb : c.code = cL_add) (hml : c.maxLocals = 5) (hown : s.vm.findClass RL = some m.cls) (hts : ∀ w ∈ lw_all, w.before args s = true) (hT : WT D yc e0 A S Z (F0p pl) G0 (q0 S) H) (hS : va_S A s.heap H locs) (hA : ∀ a, s.heap.size ≤ a → A a) (hC : CX D yc e0 A s) (hk : k ≤ zn S) (hk11 : zn S ≤ 11) (hpl : ∀ a, a < zn S → pl a 0 = nI (so a) ∧ so a < 8) (h0 : so 0 = 0) (hR : 6 ≤ R.frames ∧ 200 ≤ R.locals ∧ cells ≤ R.cells ∧ slots ≤ R.slots) (kk : ∀ (a : Nat) (ls : Array Slot), a < k → so a ≠ 7 → lv_has ls 5 [(4, .int (nI a)), (3, .int B), (0, .ref (zg S 7 0 0)), (1, .int (nI k)), (2, .int x)] → W p l e R s m args below meth c H locs cells slots Q (F0 m 94 ls [])) : ∀ (a : Nat) (ls : Array Slot), a < k → lv_has ls 5 [(4, .int (nI a)), (3, .int B), (0, .ref (zg S 7 0 0)), (1, .int (nI k)), (2, .int x)] → W p l e R s m args below meth c H locs cells slots Q (F0 m 77 ls []) := by
  have hK := hC.1
  intro a
  induction a with
  | zero =>
    intro ls ha hl
    refine lv_aload_n hx hb dL_add_77 rfl (lv_at hl 2 rfl) ?_
    refine lv_iload hx hb dL_add_78 (lv_at hl 0 rfl) ?_
    refine zr_i (va_runV (As := [.int (nI 0)]) (rest := []) ⟨hx, hb, hml, hown, hts⟩ (k_X10_sortOf l D yc e0 A S _ (F0p pl) G0 (q0 S) 0 (by omega)) (cwV 1 hts (lw_V wq627 wq628 wq629 wq1 wq630) rfl rfl rfl (by decide +kernel) ⟨by dsimp only; omega, by dsimp only; omega⟩) (tp_V hC hT hS hA 7 0 0 dm7 rfl rfl) rfl rfl hl.1 rfl (lv_room (Nat.le_of_ble_eq_true rfl)) dL_add_80 ⟨by omega, by omega⟩) ?_
    refine zk_ti (y := nI (so 0)) (hpl 0 (by omega)).1 ?_
    refine lv_bipush (v := 7) hx hb dL_add_83 (by decide) ?_
    rw [h0]
    refine lv_icmp_ne (tgt := 94) hx hb dL_add_85 (by decide) (fun _ => kk 0 ls ha (by rw [h0]; decide) hl) (fun h9 => absurd h9 (by decide))
  | succ a ih =>
    intro ls ha hl
    refine lv_aload_n hx hb dL_add_77 rfl (lv_at hl 2 rfl) ?_
    refine lv_iload hx hb dL_add_78 (lv_at hl 0 rfl) ?_
    refine zr_i (va_runV (As := [.int (nI (a + 1))]) (rest := []) ⟨hx, hb, hml, hown, hts⟩ (k_X10_sortOf l D yc e0 A S _ (F0p pl) G0 (q0 S) (a + 1) (by omega)) (cwV 1 hts (lw_V wq627 wq628 wq629 wq1 wq630) rfl rfl rfl (by decide +kernel) ⟨by dsimp only; omega, by dsimp only; omega⟩) (tp_V hC hT hS hA 7 0 0 dm7 rfl rfl) rfl rfl hl.1 rfl (lv_room (Nat.le_of_ble_eq_true rfl)) dL_add_80 ⟨by omega, by omega⟩) ?_
    obtain ⟨q1, q2⟩ := hpl (a + 1) (by omega)
    refine zk_ti (y := nI (so (a + 1))) q1 ?_
    refine lv_bipush (v := 7) hx hb dL_add_83 (by decide) ?_
    refine lv_icmp_ne (tgt := 94) hx hb dL_add_85 (by decide) (fun h9 => kk (a + 1) ls ha (fun h8 => h9 (by rw [h8]; rfl)) hl) (fun _ => ?_)
    refine lv_iinc (v := nI a) (lv' := [(4, .int (nI a)), (3, .int B), (0, .ref (zg S 7 0 0)), (1, .int (nI k)), (2, .int x)]) hx hb dL_add_88 hl (k := 0) rfl (pk_m1 a) (by decide) rfl (fun ls hl => ?_)
    refine lv_goto (tgt := 77) hx hb dL_add_91 (by decide) ?_
    exact ih ls (by omega) hl
set_option maxHeartbeats 4000000 in
set_option maxRecDepth 100000 in
theorem y_src {p : Program} {l : Launch} {e : Env} {s : State} {m : MethodId} {args : Array Value} {below : List Frame} {meth : Method} {c : Code} {H : Heap} {locs : List Jvm.Loc} {D : va_G} {yc : Nat → ClassId} {e0 : Nat} {A : Nat → Prop} {S : TS} {pl : Nat → Nat → Int32} {so : Nat → Nat} {k : Nat} {x : Int32} {B : Int32} {own : TO} (hx : p.tables.exec = Jvm.exec) (hb : c.code = cL_add) (hml : c.maxLocals = 5) (hown : s.vm.findClass RL = some m.cls) (hts : ∀ w ∈ lw_all, w.before args s = true) (hW : WX D yc e0 A own (obS S pl) (rwS S) (lsS S) H) (hS : va_S A s.heap H locs) (hA : ∀ a, s.heap.size ≤ a → A a) (hC : CX D yc e0 A s) (hr : meth.sig.returnType = none) (hlk : meth.locks = false) (hg : GW S pl so) (hn : zn S ≤ 11) {ls : Array Slot} (hl : lv_has ls 5 [(0, .ref (zg S 7 0 0)), (2, .int x)]) : W p l e { frames := 12, cells := 87, slots := 549, locals := 430 } s m args below meth c H locs 0 0 (MQ below (QA D yc e0 A S) args s 87 549 A) (F0 m 47 ls []) := by
  have hK := hC.1
  refine lv_aload_n hx hb dL_add_47 rfl (lv_at hl 0 rfl) ?_
  refine lv_iload_n hx hb dL_add_48 rfl (lv_at hl 1 rfl) ?_
  refine lv_iconst (v := 3) hx hb dL_add_49 (by decide) ?_
  refine lv_ishr hx hb dL_add_50 ?_
  obtain ⟨y, hy⟩ : ∃ y, y = x >>> ((3 : Int32) &&& 31) := ⟨_, rfl⟩
  refine zk_ti (y := y) hy.symm ?_
  refine lv_bipush (v := 40) hx hb dL_add_51 (by decide) ?_
  refine zk_ti (y := nI 40) (by decide) ?_
  refine zr_i (va_runS (As := [.int y, .int (nI 40)]) (rest := [.ref (zg S 7 0 0)]) ⟨hx, hb, hml, hown, hts⟩ (y_below l y 40 (by omega) (by omega)) (va_cwS 2 hts (lw_S wq794 wq795 wq0 wq796) rfl rfl rfl (by decide +kernel) ⟨(Nat.le_of_ble_eq_true rfl), (Nat.le_of_ble_eq_true rfl)⟩) tp_N rfl rfl hl.1 rfl (lv_room (Nat.le_of_ble_eq_true rfl)) dL_add_53 ⟨(Nat.le_of_ble_eq_true rfl), (Nat.le_of_ble_eq_true rfl)⟩) ?_
  have hb9 := bel_lt (v := y) (n := 40) (by decide)
  refine va_calli (va_runV (As := [.int (nI (bel y 40))]) (rest := []) ⟨hx, hb, hml, hown, hts⟩ (x_addSource l hn hg.1 hg.2.1 (isw (n := bel y 40) (lo := 0) (hi := 1000) (by omega) (by omega) (by decide))) (cwV 1 hts (lw_V wq816 wq817 wq818 wq1 wq819) rfl rfl rfl (by decide +kernel) ⟨(Nat.le_of_ble_eq_true rfl), (Nat.le_of_ble_eq_true rfl)⟩) (px_V hC hW hS hA (hW.obj oS_ws) rfl) rfl rfl hl.1 rfl (lv_room (Nat.le_of_ble_eq_true rfl)) dL_add_56 ⟨(Nat.le_of_ble_eq_true rfl), (Nat.le_of_ble_eq_true rfl)⟩) hS (fun _ _ h => h) (fun _ h => h) (fun r v t9 H9 locs9 ht9 hvm9 hw9 hB9 hz9 hk9 hS9 => ?_)
  obtain ⟨hSX, hW9⟩ := hB9
  rw [ht9] at hW9
  refine lv_pop hx hb dL_add_59 rfl ?_
  exact y_add_end hx hb hr hlk hS9 hg hSX hW9 0 ⟨rfl, by decide, fun h => absurd h (by decide), fun h => absurd h (by decide), fun h => absurd h (by decide), fun h => absurd h (by decide), fun h => absurd h (by decide), fun _ => ⟨bel y 40, rfl, by omega⟩⟩ (fun q h => nomatch h) (fun q h => nomatch h) (fun q h => nomatch h.1) ⟨fun _ => rfl, fun _ => rfl⟩ ⟨(fun h => absurd h (by decide)), (fun h => absurd h (by decide))⟩ (fun _ => rfl) (Nat.le_of_ble_eq_true rfl) (Nat.le_of_ble_eq_true rfl) dL_add_60
set_option maxHeartbeats 4000000 in
set_option maxRecDepth 100000 in
theorem y_sw {p : Program} {l : Launch} {e : Env} {s : State} {m : MethodId} {args : Array Value} {below : List Frame} {meth : Method} {c : Code} {H : Heap} {locs : List Jvm.Loc} {D : va_G} {yc : Nat → ClassId} {e0 : Nat} {A : Nat → Prop} {S : TS} {pl : Nat → Nat → Int32} {so : Nat → Nat} {k : Nat} {x : Int32} {B : Int32} {own : TO} (hx : p.tables.exec = Jvm.exec) (hb : c.code = cL_add) (hml : c.maxLocals = 5) (hown : s.vm.findClass RL = some m.cls) (hts : ∀ w ∈ lw_all, w.before args s = true) (hW : WX D yc e0 A own (obS S pl) (rwS S) (lsS S) H) (hS : va_S A s.heap H locs) (hA : ∀ a, s.heap.size ≤ a → A a) (hC : CX D yc e0 A s) (hr : meth.sig.returnType = none) (hlk : meth.locks = false) (hg : GW S pl so) (hn : zn S ≤ 11) {a b : Nat} (hk : zn S = k) (ha : a < k) (hb0 : b < k) (hsa : ¬ pl a 0 = 7) (hsb : ¬ pl b 0 = 7) (haz : a < zn S) (hbz : b < zn S) {ls : Array Slot} (hl : lv_has ls 5 [(4, .int (nI b)), (3, .int (nI a)), (0, .ref (zg S 7 0 0)), (1, .int (nI k)), (2, .int x)]) : W p l e { frames := 12, cells := 87, slots := 549, locals := 430 } s m args below meth c H locs 0 0 (MQ below (QA D yc e0 A S) args s 87 549 A) (F0 m 94 ls []) := by
  have hK := hC.1
  refine lv_iload_n hx hb dL_add_94 rfl (lv_at hl 4 rfl) ?_
  refine lv_bipush (v := 7) hx hb dL_add_95 (by decide) ?_
  refine zk_ti (y := nI 7) (by decide) ?_
  refine zr_i (va_runS (As := [.int x, .int (nI 7)]) (rest := []) ⟨hx, hb, hml, hown, hts⟩ (y_below l x 7 (by omega) (by omega)) (va_cwS 2 hts (lw_S wq794 wq795 wq0 wq796) rfl rfl rfl (by decide +kernel) ⟨(Nat.le_of_ble_eq_true rfl), (Nat.le_of_ble_eq_true rfl)⟩) tp_N rfl rfl hl.1 rfl (lv_room (Nat.le_of_ble_eq_true rfl)) dL_add_97 ⟨(Nat.le_of_ble_eq_true rfl), (Nat.le_of_ble_eq_true rfl)⟩) ?_
  have bx := bel_lt (v := x) (n := 7) (by decide)
  generalize bel x 7 = j at bx ⊢
  rcases (show j = 0 ∨ j = 1 ∨ j = 2 ∨ j = 3 ∨ j = 4 ∨ j = 5 ∨ j = 6 by omega) with rfl | rfl | rfl | rfl | rfl | rfl | rfl
  · refine lv_tableOut (tgt := 313) hx hb dL_add_100 (Or.inl (by decide)) (by decide) ?_
    refine lv_aload_n hx hb dL_add_313 rfl (lv_at hl 2 rfl) ?_
    refine lv_iload_n hx hb dL_add_314 rfl (lv_at hl 1 rfl) ?_
    refine va_calli (va_runV (As := [.int (nI a)]) (rest := []) ⟨hx, hb, hml, hown, hts⟩ (x_addSink l hn hg.1 hg.2.1 haz hsa) (cwV 1 hts (lw_V wq1180 wq1181 wq1182 wq1 wq1183) rfl rfl rfl (by decide +kernel) ⟨(Nat.le_of_ble_eq_true rfl), (Nat.le_of_ble_eq_true rfl)⟩) (px_V hC hW hS hA (hW.obj oS_ws) rfl) rfl rfl hl.1 rfl (lv_room (Nat.le_of_ble_eq_true rfl)) dL_add_315 ⟨(Nat.le_of_ble_eq_true rfl), (Nat.le_of_ble_eq_true rfl)⟩) hS (fun _ _ h => h) (fun _ h => h) (fun r v t9 H9 locs9 ht9 hvm9 hw9 hB9 hz9 hk9 hS9 => ?_)
    obtain ⟨hSX, hW9⟩ := hB9
    rw [ht9] at hW9
    refine lv_pop hx hb dL_add_318 rfl ?_
    exact y_add_end hx hb hr hlk hS9 hg hSX hW9 7 ⟨rfl, by decide, (fun h => absurd h (by decide)), (fun h => absurd h (by decide)), (fun h => absurd h (by decide)), (fun h => absurd h (by decide)), (fun h => absurd h (by decide)), (fun h => absurd h (by decide))⟩ (fun q h => by cases h; omega) (fun q h => nomatch h) (fun q h => nomatch h.2) ⟨(fun h => absurd h (by decide)), (fun h => nomatch h)⟩ ⟨(fun h => absurd h (by decide)), (fun h => absurd h (by decide))⟩ (fun h => absurd h (by omega)) (Nat.le_of_ble_eq_true rfl) (Nat.le_of_ble_eq_true rfl) dL_add_319
  · refine lv_tableIn (off := 36) (tgt := 136) hx hb dL_add_100 (by decide) (by decide) (by decide) (by decide) ?_
    refine lv_aload_n hx hb dL_add_136 rfl (lv_at hl 2 rfl) ?_
    refine lv_iload_n hx hb dL_add_137 rfl (lv_at hl 1 rfl) ?_
    refine lv_iload_n hx hb dL_add_138 rfl (lv_at hl 4 rfl) ?_
    refine lv_iconst (v := 3) hx hb dL_add_139 (by decide) ?_
    refine lv_ishr hx hb dL_add_140 ?_
    obtain ⟨y3, hy3⟩ : ∃ y, y = x >>> ((3 : Int32) &&& 31) := ⟨_, rfl⟩
    refine zk_ti (y := y3) hy3.symm ?_
    refine lv_iconst (v := 4) hx hb dL_add_141 (by decide) ?_
    refine zk_ti (y := nI 4) (by decide) ?_
    refine zr_i (va_runS (As := [.int y3, .int (nI 4)]) (rest := [.int (nI a), .ref (zg S 7 0 0)]) ⟨hx, hb, hml, hown, hts⟩ (y_below l y3 4 (by omega) (by omega)) (va_cwS 2 hts (lw_S wq794 wq795 wq0 wq796) rfl rfl rfl (by decide +kernel) ⟨(Nat.le_of_ble_eq_true rfl), (Nat.le_of_ble_eq_true rfl)⟩) tp_N rfl rfl hl.1 rfl (lv_room (Nat.le_of_ble_eq_true rfl)) dL_add_142 ⟨(Nat.le_of_ble_eq_true rfl), (Nat.le_of_ble_eq_true rfl)⟩) ?_
    have by3 := bel_lt (v := y3) (n := 4) (by decide)
    refine lv_iconst (v := 1) hx hb dL_add_145 (by decide) ?_
    refine zk_ti (y := nI 1) (by decide) ?_
    refine lv_iload_n hx hb dL_add_146 rfl (lv_at hl 4 rfl) ?_
    refine lv_bipush (v := 6) hx hb dL_add_147 (by decide) ?_
    refine lv_ishr hx hb dL_add_149 ?_
    obtain ⟨y6, hy6⟩ : ∃ y, y = x >>> ((6 : Int32) &&& 31) := ⟨_, rfl⟩
    refine zk_ti (y := y6) hy6.symm ?_
    refine lv_bipush (v := 9) hx hb dL_add_150 (by decide) ?_
    refine zk_ti (y := nI 9) (by decide) ?_
    refine zr_i (va_runS (As := [.int y6, .int (nI 9)]) (rest := [.int (nI 1), .int (nI (bel y3 4)), .int (nI a), .ref (zg S 7 0 0)]) ⟨hx, hb, hml, hown, hts⟩ (y_below l y6 9 (by omega) (by omega)) (va_cwS 2 hts (lw_S wq794 wq795 wq0 wq796) rfl rfl rfl (by decide +kernel) ⟨(Nat.le_of_ble_eq_true rfl), (Nat.le_of_ble_eq_true rfl)⟩) tp_N rfl rfl hl.1 rfl (lv_room (Nat.le_of_ble_eq_true rfl)) dL_add_152 ⟨(Nat.le_of_ble_eq_true rfl), (Nat.le_of_ble_eq_true rfl)⟩) ?_
    have by6 := bel_lt (v := y6) (n := 9) (by decide)
    refine lv_iadd hx hb dL_add_155 ?_
    refine zk_ti (y := nI (1 + bel y6 9)) (nI_add _ _) ?_
    by_cases h2 : bel y3 4 = 2
    · rw [h2]
      refine va_calli (va_runV (As := [.int (nI a), .int (nI 2), .int (nI (1 + bel y6 9))]) (rest := []) ⟨hx, hb, hml, hown, hts⟩ (x_addMap2 l hn hg.1 hg.2.1 haz hsa (isw (n := 1 + bel y6 9) (lo := 1) (hi := 100) (by omega) (by omega) (by decide))) (cwV 3 hts (lw_V wq1155 wq1156 wq1157 wq1 wq1158) rfl rfl rfl (by decide +kernel) ⟨(Nat.le_of_ble_eq_true rfl), (Nat.le_of_ble_eq_true rfl)⟩) (px_V hC hW hS hA (hW.obj oS_ws) rfl) rfl rfl hl.1 rfl (lv_room (Nat.le_of_ble_eq_true rfl)) dL_add_156 ⟨(Nat.le_of_ble_eq_true rfl), (Nat.le_of_ble_eq_true rfl)⟩) hS (fun _ _ h => h) (fun _ h => h) (fun r v t9 H9 locs9 ht9 hvm9 hw9 hB9 hz9 hk9 hS9 => ?_)
      obtain ⟨hSX, hW9⟩ := hB9
      rw [ht9] at hW9
      refine lv_pop hx hb dL_add_159 rfl ?_
      refine lv_goto (tgt := 319) hx hb dL_add_160 (by decide) ?_
      exact y_add_end hx hb hr hlk hS9 hg hSX hW9 2 ⟨rfl, by decide, (fun h => absurd h (by decide)), (fun h => absurd h (by decide)), (fun h => absurd h (by decide)), (fun h => absurd h (by decide)), (fun _ => ⟨1 + bel y6 9, rfl, by omega, by omega⟩), (fun h => absurd h (by decide))⟩ (fun q h => by cases h; omega) (fun q h => nomatch h) (fun q h => nomatch h.2) ⟨(fun h => absurd h (by decide)), (fun h => nomatch h)⟩ ⟨(fun h => absurd h (by decide)), (fun h => absurd h (by decide))⟩ (fun h => absurd h (by omega)) (Nat.le_of_ble_eq_true rfl) (Nat.le_of_ble_eq_true rfl) dL_add_319
    · refine va_calli (va_runV (As := [.int (nI a), .int (nI (bel y3 4)), .int (nI (1 + bel y6 9))]) (rest := []) ⟨hx, hb, hml, hown, hts⟩ (x_addMap l hn hg.1 hg.2.1 haz hsa (isw (n := bel y3 4) (lo := 0) (hi := 3) (by omega) (by omega) (by decide)) (fun h => h2 ((nI_eq (by omega) (by decide)).mp h))) (cwV 3 hts (lw_V wq1155 wq1156 wq1157 wq1 wq1158) rfl rfl rfl (by decide +kernel) ⟨(Nat.le_of_ble_eq_true rfl), (Nat.le_of_ble_eq_true rfl)⟩) (px_V hC hW hS hA (hW.obj oS_ws) rfl) rfl rfl hl.1 rfl (lv_room (Nat.le_of_ble_eq_true rfl)) dL_add_156 ⟨(Nat.le_of_ble_eq_true rfl), (Nat.le_of_ble_eq_true rfl)⟩) hS (fun _ _ h => h) (fun _ h => h) (fun r v t9 H9 locs9 ht9 hvm9 hw9 hB9 hz9 hk9 hS9 => ?_)
      obtain ⟨hSX, hW9⟩ := hB9
      rw [ht9] at hW9
      refine lv_pop hx hb dL_add_159 rfl ?_
      refine lv_goto (tgt := 319) hx hb dL_add_160 (by decide) ?_
      exact y_add_end hx hb hr hlk hS9 hg hSX hW9 2 ⟨rfl, by decide, (fun h => absurd h (by decide)), (fun h => absurd h (by decide)), (fun h => absurd h (by decide)), (fun h => absurd h (by decide)), (fun _ => ⟨1 + bel y6 9, rfl, by omega, by omega⟩), (fun h => absurd h (by decide))⟩ (fun q h => by cases h; omega) (fun q h => nomatch h) (fun q h => nomatch h.2) ⟨(fun h => absurd h (by decide)), (fun h => nomatch h)⟩ ⟨(fun h => absurd h (by decide)), (fun h => absurd h (by decide))⟩ (fun h => absurd h (by omega)) (Nat.le_of_ble_eq_true rfl) (Nat.le_of_ble_eq_true rfl) dL_add_319
  · refine lv_tableIn (off := 63) (tgt := 163) hx hb dL_add_100 (by decide) (by decide) (by decide) (by decide) ?_
    refine lv_aload_n hx hb dL_add_163 rfl (lv_at hl 2 rfl) ?_
    refine lv_iload_n hx hb dL_add_164 rfl (lv_at hl 1 rfl) ?_
    refine lv_bipush (v := 12) hx hb dL_add_165 (by decide) ?_
    refine lv_iconst (v := 1) hx hb dL_add_167 (by decide) ?_
    refine zk_ti (y := nI 1) (by decide) ?_
    refine lv_iload_n hx hb dL_add_168 rfl (lv_at hl 4 rfl) ?_
    refine lv_iconst (v := 3) hx hb dL_add_169 (by decide) ?_
    refine lv_ishr hx hb dL_add_170 ?_
    obtain ⟨y3, hy3⟩ : ∃ y, y = x >>> ((3 : Int32) &&& 31) := ⟨_, rfl⟩
    refine zk_ti (y := y3) hy3.symm ?_
    refine lv_iconst (v := 2) hx hb dL_add_171 (by decide) ?_
    refine zk_ti (y := nI 2) (by decide) ?_
    refine zr_i (va_runS (As := [.int y3, .int (nI 2)]) (rest := [.int (nI 1), .int 12, .int (nI a), .ref (zg S 7 0 0)]) ⟨hx, hb, hml, hown, hts⟩ (y_below l y3 2 (by omega) (by omega)) (va_cwS 2 hts (lw_S wq794 wq795 wq0 wq796) rfl rfl rfl (by decide +kernel) ⟨(Nat.le_of_ble_eq_true rfl), (Nat.le_of_ble_eq_true rfl)⟩) tp_N rfl rfl hl.1 rfl (lv_room (Nat.le_of_ble_eq_true rfl)) dL_add_172 ⟨(Nat.le_of_ble_eq_true rfl), (Nat.le_of_ble_eq_true rfl)⟩) ?_
    have by3 := bel_lt (v := y3) (n := 2) (by decide)
    refine lv_iconst (v := 3) hx hb dL_add_175 (by decide) ?_
    refine zk_ti (y := nI 3) (by decide) ?_
    refine lv_imul hx hb dL_add_176 ?_
    refine zk_ti (y := nI (bel y3 2 * 3)) (pk_mul _ _) ?_
    refine lv_iadd hx hb dL_add_177 ?_
    refine zk_ti (y := nI (1 + bel y3 2 * 3)) (nI_add _ _) ?_
    refine lv_iconst (v := 1) hx hb dL_add_178 (by decide) ?_
    refine zk_ti (y := nI 1) (by decide) ?_
    refine lv_iadd hx hb dL_add_179 ?_
    refine zk_ti (y := nI (1 + bel y3 2 * 3 + 1)) (nI_add _ _) ?_
    refine lv_iload_n hx hb dL_add_180 rfl (lv_at hl 4 rfl) ?_
    refine lv_iconst (v := 5) hx hb dL_add_181 (by decide) ?_
    refine lv_ishr hx hb dL_add_182 ?_
    obtain ⟨y5, hy5⟩ : ∃ y, y = x >>> ((5 : Int32) &&& 31) := ⟨_, rfl⟩
    refine zk_ti (y := y5) hy5.symm ?_
    refine lv_bipush (v := 6) hx hb dL_add_183 (by decide) ?_
    refine zk_ti (y := nI 6) (by decide) ?_
    refine zr_i (va_runS (As := [.int y5, .int (nI 6)]) (rest := [.int (nI (1 + bel y3 2 * 3 + 1)), .int 12, .int (nI a), .ref (zg S 7 0 0)]) ⟨hx, hb, hml, hown, hts⟩ (y_below l y5 6 (by omega) (by omega)) (va_cwS 2 hts (lw_S wq794 wq795 wq0 wq796) rfl rfl rfl (by decide +kernel) ⟨(Nat.le_of_ble_eq_true rfl), (Nat.le_of_ble_eq_true rfl)⟩) tp_N rfl rfl hl.1 rfl (lv_room (Nat.le_of_ble_eq_true rfl)) dL_add_185 ⟨(Nat.le_of_ble_eq_true rfl), (Nat.le_of_ble_eq_true rfl)⟩) ?_
    have by5 := bel_lt (v := y5) (n := 6) (by decide)
    refine lv_iload_n hx hb dL_add_188 rfl (lv_at hl 4 rfl) ?_
    refine lv_bipush (v := 7) hx hb dL_add_189 (by decide) ?_
    refine lv_ishr hx hb dL_add_191 ?_
    obtain ⟨y7, hy7⟩ : ∃ y, y = x >>> ((7 : Int32) &&& 31) := ⟨_, rfl⟩
    refine zk_ti (y := y7) hy7.symm ?_
    refine lv_bipush (v := 20) hx hb dL_add_192 (by decide) ?_
    refine zk_ti (y := nI 20) (by decide) ?_
    refine zr_i (va_runS (As := [.int y7, .int (nI 20)]) (rest := [.int (nI (bel y5 6)), .int (nI (1 + bel y3 2 * 3 + 1)), .int 12, .int (nI a), .ref (zg S 7 0 0)]) ⟨hx, hb, hml, hown, hts⟩ (y_below l y7 20 (by omega) (by omega)) (va_cwS 2 hts (lw_S wq794 wq795 wq0 wq796) rfl rfl rfl (by decide +kernel) ⟨(Nat.le_of_ble_eq_true rfl), (Nat.le_of_ble_eq_true rfl)⟩) tp_N rfl rfl hl.1 rfl (lv_room (Nat.le_of_ble_eq_true rfl)) dL_add_194 ⟨(Nat.le_of_ble_eq_true rfl), (Nat.le_of_ble_eq_true rfl)⟩) ?_
    have by7 := bel_lt (v := y7) (n := 20) (by decide)
    have h8 : ¬ (8 : Int32) * nI (1 + bel y3 2 * 3 + 1) < 12 := by
      have e9 : (8 : Int32) * nI (1 + bel y3 2 * 3 + 1) = nI (8 * (1 + bel y3 2 * 3 + 1)) := pk_mul 8 _
      rw [e9]
      exact (show ¬ nI (8 * (1 + bel y3 2 * 3 + 1)) < nI 12 from nI_nlt (by omega) (by omega))
    refine va_calli (va_runV (As := [.int (nI a), .int 12, .int (nI (1 + bel y3 2 * 3 + 1)), .int (nI (bel y5 6)), .int (nI (bel y7 20))]) (rest := []) ⟨hx, hb, hml, hown, hts⟩ (x_addWindow l hn hg.1 hg.2.1 haz hsa (isw (n := (1 + bel y3 2 * 3 + 1)) (lo := 1) (hi := 12) (by omega) (by omega) (by decide)) h8 (isw (n := bel y5 6) (lo := 0) (hi := 5) (by omega) (by omega) (by decide)) (isw (n := bel y7 20) (lo := 0) (hi := 1000) (by omega) (by omega) (by decide))) (cwV 5 hts (lw_V wq1159 wq1160 wq1161 wq1 wq1162) rfl rfl rfl (by decide +kernel) ⟨(Nat.le_of_ble_eq_true rfl), (Nat.le_of_ble_eq_true rfl)⟩) (px_V hC hW hS hA (hW.obj oS_ws) rfl) rfl rfl hl.1 rfl (lv_room (Nat.le_of_ble_eq_true rfl)) dL_add_197 ⟨(Nat.le_of_ble_eq_true rfl), (Nat.le_of_ble_eq_true rfl)⟩) hS (fun _ _ h => h) (fun _ h => h) (fun r v t9 H9 locs9 ht9 hvm9 hw9 hB9 hz9 hk9 hS9 => ?_)
    obtain ⟨hSX, hW9⟩ := hB9
    rw [ht9] at hW9
    refine lv_pop hx hb dL_add_200 rfl ?_
    refine lv_goto (tgt := 319) hx hb dL_add_201 (by decide) ?_
    exact y_add_end hx hb hr hlk hS9 hg hSX hW9 3 ⟨rfl, by decide, (fun _ => ⟨(1 + bel y3 2 * 3 + 1), rfl, rfl, by omega, by omega⟩), (fun h => absurd h (by decide)), (fun _ => ⟨bel y7 20, rfl, by omega⟩), (fun h => absurd h (by decide)), (fun h => absurd h (by decide)), (fun h => absurd h (by decide))⟩ (fun q h => by cases h; omega) (fun q h => nomatch h) (fun q h => nomatch h.2) ⟨(fun h => absurd h (by decide)), (fun h => nomatch h)⟩ ⟨(fun h => absurd h (by decide)), (fun h => absurd h (by decide))⟩ (fun h => absurd h (by omega)) (Nat.le_of_ble_eq_true rfl) (Nat.le_of_ble_eq_true rfl) dL_add_319
  · refine lv_tableIn (off := 104) (tgt := 204) hx hb dL_add_100 (by decide) (by decide) (by decide) (by decide) ?_
    refine lv_aload_n hx hb dL_add_204 rfl (lv_at hl 2 rfl) ?_
    refine lv_iload_n hx hb dL_add_205 rfl (lv_at hl 1 rfl) ?_
    refine lv_iconst (v := 1) hx hb dL_add_206 (by decide) ?_
    refine zk_ti (y := nI 1) (by decide) ?_
    refine lv_iload_n hx hb dL_add_207 rfl (lv_at hl 4 rfl) ?_
    refine lv_iconst (v := 3) hx hb dL_add_208 (by decide) ?_
    refine lv_ishr hx hb dL_add_209 ?_
    obtain ⟨y3, hy3⟩ : ∃ y, y = x >>> ((3 : Int32) &&& 31) := ⟨_, rfl⟩
    refine zk_ti (y := y3) hy3.symm ?_
    refine lv_bipush (v := 20) hx hb dL_add_210 (by decide) ?_
    refine zk_ti (y := nI 20) (by decide) ?_
    refine zr_i (va_runS (As := [.int y3, .int (nI 20)]) (rest := [.int (nI 1), .int (nI a), .ref (zg S 7 0 0)]) ⟨hx, hb, hml, hown, hts⟩ (y_below l y3 20 (by omega) (by omega)) (va_cwS 2 hts (lw_S wq794 wq795 wq0 wq796) rfl rfl rfl (by decide +kernel) ⟨(Nat.le_of_ble_eq_true rfl), (Nat.le_of_ble_eq_true rfl)⟩) tp_N rfl rfl hl.1 rfl (lv_room (Nat.le_of_ble_eq_true rfl)) dL_add_212 ⟨(Nat.le_of_ble_eq_true rfl), (Nat.le_of_ble_eq_true rfl)⟩) ?_
    have by3 := bel_lt (v := y3) (n := 20) (by decide)
    refine lv_iadd hx hb dL_add_215 ?_
    refine zk_ti (y := nI (1 + bel y3 20)) (nI_add _ _) ?_
    refine lv_iload_n hx hb dL_add_216 rfl (lv_at hl 4 rfl) ?_
    refine lv_iconst (v := 5) hx hb dL_add_217 (by decide) ?_
    refine lv_ishr hx hb dL_add_218 ?_
    obtain ⟨y5, hy5⟩ : ∃ y, y = x >>> ((5 : Int32) &&& 31) := ⟨_, rfl⟩
    refine zk_ti (y := y5) hy5.symm ?_
    refine lv_bipush (v := 6) hx hb dL_add_219 (by decide) ?_
    refine zk_ti (y := nI 6) (by decide) ?_
    refine zr_i (va_runS (As := [.int y5, .int (nI 6)]) (rest := [.int (nI (1 + bel y3 20)), .int (nI a), .ref (zg S 7 0 0)]) ⟨hx, hb, hml, hown, hts⟩ (y_below l y5 6 (by omega) (by omega)) (va_cwS 2 hts (lw_S wq794 wq795 wq0 wq796) rfl rfl rfl (by decide +kernel) ⟨(Nat.le_of_ble_eq_true rfl), (Nat.le_of_ble_eq_true rfl)⟩) tp_N rfl rfl hl.1 rfl (lv_room (Nat.le_of_ble_eq_true rfl)) dL_add_221 ⟨(Nat.le_of_ble_eq_true rfl), (Nat.le_of_ble_eq_true rfl)⟩) ?_
    have by5 := bel_lt (v := y5) (n := 6) (by decide)
    refine va_calli (va_runV (As := [.int (nI a), .int (nI (1 + bel y3 20)), .int (nI (bel y5 6))]) (rest := []) ⟨hx, hb, hml, hown, hts⟩ (x_addSession l hn hg.1 hg.2.1 haz hsa (isw (n := (1 + bel y3 20)) (lo := 1) (hi := 1000) (by omega) (by omega) (by decide)) (isw (n := bel y5 6) (lo := 0) (hi := 5) (by omega) (by omega) (by decide))) (cwV 3 hts (lw_V wq1163 wq1164 wq1165 wq1 wq1166) rfl rfl rfl (by decide +kernel) ⟨(Nat.le_of_ble_eq_true rfl), (Nat.le_of_ble_eq_true rfl)⟩) (px_V hC hW hS hA (hW.obj oS_ws) rfl) rfl rfl hl.1 rfl (lv_room (Nat.le_of_ble_eq_true rfl)) dL_add_224 ⟨(Nat.le_of_ble_eq_true rfl), (Nat.le_of_ble_eq_true rfl)⟩) hS (fun _ _ h => h) (fun _ h => h) (fun r v t9 H9 locs9 ht9 hvm9 hw9 hB9 hz9 hk9 hS9 => ?_)
    obtain ⟨hSX, hW9⟩ := hB9
    rw [ht9] at hW9
    refine lv_pop hx hb dL_add_227 rfl ?_
    refine lv_goto (tgt := 319) hx hb dL_add_228 (by decide) ?_
    exact y_add_end hx hb hr hlk hS9 hg hSX hW9 4 ⟨rfl, by decide, (fun h => absurd h (by decide)), (fun _ => ⟨(1 + bel y3 20), rfl, by omega, by omega⟩), (fun _ => ⟨0, rfl, by omega⟩), (fun h => absurd h (by decide)), (fun h => absurd h (by decide)), (fun h => absurd h (by decide))⟩ (fun q h => by cases h; omega) (fun q h => nomatch h) (fun q h => nomatch h.2) ⟨(fun h => absurd h (by decide)), (fun h => nomatch h)⟩ ⟨(fun h => absurd h (by decide)), (fun h => absurd h (by decide))⟩ (fun h => absurd h (by omega)) (Nat.le_of_ble_eq_true rfl) (Nat.le_of_ble_eq_true rfl) dL_add_319
  · refine lv_tableIn (off := 131) (tgt := 231) hx hb dL_add_100 (by decide) (by decide) (by decide) (by decide) ?_
    refine lv_iload_n hx hb dL_add_231 rfl (lv_at hl 1 rfl) ?_
    refine lv_iload hx hb dL_add_232 (lv_at hl 0 rfl) ?_
    by_cases hab : a = b
    · subst hab
      refine lv_icmp_ne (tgt := 249) hx hb dL_add_234 (by decide) (fun h9 => absurd rfl h9) (fun _ => ?_)
      refine lv_aload_n hx hb dL_add_237 rfl (lv_at hl 2 rfl) ?_
      refine lv_iload_n hx hb dL_add_238 rfl (lv_at hl 1 rfl) ?_
      refine lv_iconst (v := 0) hx hb dL_add_239 (by decide) ?_
      refine lv_ldc hx hb hown (hts _ wq1167) dL_add_240 ?_
      refine va_calli (va_runV (As := [.int (nI a), .int 0, .int (-2147483648)]) (rest := []) ⟨hx, hb, hml, hown, hts⟩ (x_addFilter l hn hg.1 hg.2.1 haz hsa) (cwV 3 hts (lw_V wq1168 wq1169 wq1170 wq1 wq1171) rfl rfl rfl (by decide +kernel) ⟨(Nat.le_of_ble_eq_true rfl), (Nat.le_of_ble_eq_true rfl)⟩) (px_V hC hW hS hA (hW.obj oS_ws) rfl) rfl rfl hl.1 rfl (lv_room (Nat.le_of_ble_eq_true rfl)) dL_add_242 ⟨(Nat.le_of_ble_eq_true rfl), (Nat.le_of_ble_eq_true rfl)⟩) hS (fun _ _ h => h) (fun _ h => h) (fun r v t9 H9 locs9 ht9 hvm9 hw9 hB9 hz9 hk9 hS9 => ?_)
      obtain ⟨hSX, hW9⟩ := hB9
      rw [ht9] at hW9
      refine lv_pop hx hb dL_add_245 rfl ?_
      refine lv_goto (tgt := 319) hx hb dL_add_246 (by decide) ?_
      exact y_add_end hx hb hr hlk hS9 hg hSX hW9 1 ⟨rfl, by decide, (fun h => absurd h (by decide)), (fun h => absurd h (by decide)), (fun h => absurd h (by decide)), (fun h => absurd h (by decide)), (fun h => absurd h (by decide)), (fun h => absurd h (by decide))⟩ (fun q h => by cases h; omega) (fun q h => nomatch h) (fun q h => nomatch h.2) ⟨(fun h => absurd h (by decide)), (fun h => nomatch h)⟩ ⟨(fun h => absurd h (by decide)), (fun h => absurd h (by decide))⟩ (fun h => absurd h (by omega)) (Nat.le_of_ble_eq_true rfl) (Nat.le_of_ble_eq_true rfl) dL_add_319
    · refine lv_icmp_ne (tgt := 249) hx hb dL_add_234 (by decide) (fun _ => ?_) (fun h9 => absurd ((nI_eq (by omega) (by omega)).mp h9) hab)
      refine lv_aload_n hx hb dL_add_249 rfl (lv_at hl 2 rfl) ?_
      refine lv_iload_n hx hb dL_add_250 rfl (lv_at hl 1 rfl) ?_
      refine lv_iload hx hb dL_add_251 (lv_at hl 0 rfl) ?_
      refine lv_iload_n hx hb dL_add_253 rfl (lv_at hl 4 rfl) ?_
      refine lv_iconst (v := 3) hx hb dL_add_254 (by decide) ?_
      refine lv_ishr hx hb dL_add_255 ?_
      obtain ⟨y3, hy3⟩ : ∃ y, y = x >>> ((3 : Int32) &&& 31) := ⟨_, rfl⟩
      refine zk_ti (y := y3) hy3.symm ?_
      refine lv_bipush (v := 9) hx hb dL_add_256 (by decide) ?_
      refine zk_ti (y := nI 9) (by decide) ?_
      refine zr_i (va_runS (As := [.int y3, .int (nI 9)]) (rest := [.int (nI b), .int (nI a), .ref (zg S 7 0 0)]) ⟨hx, hb, hml, hown, hts⟩ (y_below l y3 9 (by omega) (by omega)) (va_cwS 2 hts (lw_S wq794 wq795 wq0 wq796) rfl rfl rfl (by decide +kernel) ⟨(Nat.le_of_ble_eq_true rfl), (Nat.le_of_ble_eq_true rfl)⟩) tp_N rfl rfl hl.1 rfl (lv_room (Nat.le_of_ble_eq_true rfl)) dL_add_258 ⟨(Nat.le_of_ble_eq_true rfl), (Nat.le_of_ble_eq_true rfl)⟩) ?_
      have by3 := bel_lt (v := y3) (n := 9) (by decide)
      refine lv_iload_n hx hb dL_add_261 rfl (lv_at hl 4 rfl) ?_
      refine lv_iconst (v := 5) hx hb dL_add_262 (by decide) ?_
      refine lv_ishr hx hb dL_add_263 ?_
      obtain ⟨y5, hy5⟩ : ∃ y, y = x >>> ((5 : Int32) &&& 31) := ⟨_, rfl⟩
      refine zk_ti (y := y5) hy5.symm ?_
      refine lv_bipush (v := 9) hx hb dL_add_264 (by decide) ?_
      refine zk_ti (y := nI 9) (by decide) ?_
      refine zr_i (va_runS (As := [.int y5, .int (nI 9)]) (rest := [.int (nI (bel y3 9)), .int (nI b), .int (nI a), .ref (zg S 7 0 0)]) ⟨hx, hb, hml, hown, hts⟩ (y_below l y5 9 (by omega) (by omega)) (va_cwS 2 hts (lw_S wq794 wq795 wq0 wq796) rfl rfl rfl (by decide +kernel) ⟨(Nat.le_of_ble_eq_true rfl), (Nat.le_of_ble_eq_true rfl)⟩) tp_N rfl rfl hl.1 rfl (lv_room (Nat.le_of_ble_eq_true rfl)) dL_add_266 ⟨(Nat.le_of_ble_eq_true rfl), (Nat.le_of_ble_eq_true rfl)⟩) ?_
      have by5 := bel_lt (v := y5) (n := 9) (by decide)
      refine lv_iload_n hx hb dL_add_269 rfl (lv_at hl 4 rfl) ?_
      refine lv_bipush (v := 7) hx hb dL_add_270 (by decide) ?_
      refine lv_ishr hx hb dL_add_272 ?_
      obtain ⟨y7, hy7⟩ : ∃ y, y = x >>> ((7 : Int32) &&& 31) := ⟨_, rfl⟩
      refine zk_ti (y := y7) hy7.symm ?_
      refine lv_iconst (v := 4) hx hb dL_add_273 (by decide) ?_
      refine zk_ti (y := nI 4) (by decide) ?_
      refine zr_i (va_runS (As := [.int y7, .int (nI 4)]) (rest := [.int (nI (bel y5 9)), .int (nI (bel y3 9)), .int (nI b), .int (nI a), .ref (zg S 7 0 0)]) ⟨hx, hb, hml, hown, hts⟩ (y_below l y7 4 (by omega) (by omega)) (va_cwS 2 hts (lw_S wq794 wq795 wq0 wq796) rfl rfl rfl (by decide +kernel) ⟨(Nat.le_of_ble_eq_true rfl), (Nat.le_of_ble_eq_true rfl)⟩) tp_N rfl rfl hl.1 rfl (lv_room (Nat.le_of_ble_eq_true rfl)) dL_add_274 ⟨(Nat.le_of_ble_eq_true rfl), (Nat.le_of_ble_eq_true rfl)⟩) ?_
      have by7 := bel_lt (v := y7) (n := 4) (by decide)
      refine va_calli (va_runV (As := [.int (nI a), .int (nI b), .int (nI (bel y3 9)), .int (nI (bel y5 9)), .int (nI (bel y7 4))]) (rest := []) ⟨hx, hb, hml, hown, hts⟩ (x_addJoin l hn hg.1 hg.2.1 haz hbz hab hsa hsb (isw (n := bel y3 9) (lo := 0) (hi := 1000) (by omega) (by omega) (by decide)) (isw (n := bel y5 9) (lo := 0) (hi := 1000) (by omega) (by omega) (by decide)) (isw (n := bel y7 4) (lo := 0) (hi := 3) (by omega) (by omega) (by decide))) (cwV 5 hts (lw_V wq1172 wq1173 wq1174 wq1 wq1175) rfl rfl rfl (by decide +kernel) ⟨(Nat.le_of_ble_eq_true rfl), (Nat.le_of_ble_eq_true rfl)⟩) (px_V hC hW hS hA (hW.obj oS_ws) rfl) rfl rfl hl.1 rfl (lv_room (Nat.le_of_ble_eq_true rfl)) dL_add_277 ⟨(Nat.le_of_ble_eq_true rfl), (Nat.le_of_ble_eq_true rfl)⟩) hS (fun _ _ h => h) (fun _ h => h) (fun r v t9 H9 locs9 ht9 hvm9 hw9 hB9 hz9 hk9 hS9 => ?_)
      obtain ⟨hSX, hW9⟩ := hB9
      rw [ht9] at hW9
      refine lv_pop hx hb dL_add_280 rfl ?_
      refine lv_goto (tgt := 319) hx hb dL_add_281 (by decide) ?_
      exact y_add_end hx hb hr hlk hS9 hg hSX hW9 5 ⟨rfl, by decide, (fun h => absurd h (by decide)), (fun h => absurd h (by decide)), (fun h => absurd h (by decide)), (fun _ => ⟨bel y3 9, bel y5 9, rfl, rfl, by omega, by omega⟩), (fun h => absurd h (by decide)), (fun h => absurd h (by decide))⟩ (fun q h => by cases h; omega) (fun q h => by cases h; omega) (fun q h => hab ((Option.some.inj h.1).trans (Option.some.inj h.2).symm)) ⟨(fun h => absurd h (by decide)), (fun h => nomatch h)⟩ ⟨(fun _ => Or.inl rfl), (fun _ => rfl)⟩ (fun h => absurd h (by omega)) (Nat.le_of_ble_eq_true rfl) (Nat.le_of_ble_eq_true rfl) dL_add_319
  · refine lv_tableIn (off := 184) (tgt := 284) hx hb dL_add_100 (by decide) (by decide) (by decide) (by decide) ?_
    refine lv_iload_n hx hb dL_add_284 rfl (lv_at hl 1 rfl) ?_
    refine lv_iload hx hb dL_add_285 (lv_at hl 0 rfl) ?_
    by_cases hab : a = b
    · subst hab
      refine lv_icmp_ne (tgt := 302) hx hb dL_add_287 (by decide) (fun h9 => absurd rfl h9) (fun _ => ?_)
      refine lv_aload_n hx hb dL_add_290 rfl (lv_at hl 2 rfl) ?_
      refine lv_iload_n hx hb dL_add_291 rfl (lv_at hl 1 rfl) ?_
      refine lv_iconst (v := 0) hx hb dL_add_292 (by decide) ?_
      refine lv_ldc hx hb hown (hts _ wq1167) dL_add_293 ?_
      refine va_calli (va_runV (As := [.int (nI a), .int 0, .int (-2147483648)]) (rest := []) ⟨hx, hb, hml, hown, hts⟩ (x_addFilter l hn hg.1 hg.2.1 haz hsa) (cwV 3 hts (lw_V wq1168 wq1169 wq1170 wq1 wq1171) rfl rfl rfl (by decide +kernel) ⟨(Nat.le_of_ble_eq_true rfl), (Nat.le_of_ble_eq_true rfl)⟩) (px_V hC hW hS hA (hW.obj oS_ws) rfl) rfl rfl hl.1 rfl (lv_room (Nat.le_of_ble_eq_true rfl)) dL_add_295 ⟨(Nat.le_of_ble_eq_true rfl), (Nat.le_of_ble_eq_true rfl)⟩) hS (fun _ _ h => h) (fun _ h => h) (fun r v t9 H9 locs9 ht9 hvm9 hw9 hB9 hz9 hk9 hS9 => ?_)
      obtain ⟨hSX, hW9⟩ := hB9
      rw [ht9] at hW9
      refine lv_pop hx hb dL_add_298 rfl ?_
      refine lv_goto (tgt := 319) hx hb dL_add_299 (by decide) ?_
      exact y_add_end hx hb hr hlk hS9 hg hSX hW9 1 ⟨rfl, by decide, (fun h => absurd h (by decide)), (fun h => absurd h (by decide)), (fun h => absurd h (by decide)), (fun h => absurd h (by decide)), (fun h => absurd h (by decide)), (fun h => absurd h (by decide))⟩ (fun q h => by cases h; omega) (fun q h => nomatch h) (fun q h => nomatch h.2) ⟨(fun h => absurd h (by decide)), (fun h => nomatch h)⟩ ⟨(fun h => absurd h (by decide)), (fun h => absurd h (by decide))⟩ (fun h => absurd h (by omega)) (Nat.le_of_ble_eq_true rfl) (Nat.le_of_ble_eq_true rfl) dL_add_319
    · refine lv_icmp_ne (tgt := 302) hx hb dL_add_287 (by decide) (fun _ => ?_) (fun h9 => absurd ((nI_eq (by omega) (by omega)).mp h9) hab)
      refine lv_aload_n hx hb dL_add_302 rfl (lv_at hl 2 rfl) ?_
      refine lv_iload_n hx hb dL_add_303 rfl (lv_at hl 1 rfl) ?_
      refine lv_iload hx hb dL_add_304 (lv_at hl 0 rfl) ?_
      refine va_calli (va_runV (As := [.int (nI a), .int (nI b)]) (rest := []) ⟨hx, hb, hml, hown, hts⟩ (x_addMerge l hn hg.1 hg.2.1 haz hbz hab hsa hsb) (cwV 2 hts (lw_V wq1176 wq1177 wq1178 wq1 wq1179) rfl rfl rfl (by decide +kernel) ⟨(Nat.le_of_ble_eq_true rfl), (Nat.le_of_ble_eq_true rfl)⟩) (px_V hC hW hS hA (hW.obj oS_ws) rfl) rfl rfl hl.1 rfl (lv_room (Nat.le_of_ble_eq_true rfl)) dL_add_306 ⟨(Nat.le_of_ble_eq_true rfl), (Nat.le_of_ble_eq_true rfl)⟩) hS (fun _ _ h => h) (fun _ h => h) (fun r v t9 H9 locs9 ht9 hvm9 hw9 hB9 hz9 hk9 hS9 => ?_)
      obtain ⟨hSX, hW9⟩ := hB9
      rw [ht9] at hW9
      refine lv_pop hx hb dL_add_309 rfl ?_
      refine lv_goto (tgt := 319) hx hb dL_add_310 (by decide) ?_
      exact y_add_end hx hb hr hlk hS9 hg hSX hW9 6 ⟨rfl, by decide, (fun h => absurd h (by decide)), (fun h => absurd h (by decide)), (fun h => absurd h (by decide)), (fun h => absurd h (by decide)), (fun h => absurd h (by decide)), (fun h => absurd h (by decide))⟩ (fun q h => by cases h; omega) (fun q h => by cases h; omega) (fun q h => hab ((Option.some.inj h.1).trans (Option.some.inj h.2).symm)) ⟨(fun h => absurd h (by decide)), (fun h => nomatch h)⟩ ⟨(fun _ => Or.inr rfl), (fun _ => rfl)⟩ (fun h => absurd h (by omega)) (Nat.le_of_ble_eq_true rfl) (Nat.le_of_ble_eq_true rfl) dL_add_319
  · refine lv_tableOut (tgt := 313) hx hb dL_add_100 (Or.inr (by decide)) (by decide) ?_
    refine lv_aload_n hx hb dL_add_313 rfl (lv_at hl 2 rfl) ?_
    refine lv_iload_n hx hb dL_add_314 rfl (lv_at hl 1 rfl) ?_
    refine va_calli (va_runV (As := [.int (nI a)]) (rest := []) ⟨hx, hb, hml, hown, hts⟩ (x_addSink l hn hg.1 hg.2.1 haz hsa) (cwV 1 hts (lw_V wq1180 wq1181 wq1182 wq1 wq1183) rfl rfl rfl (by decide +kernel) ⟨(Nat.le_of_ble_eq_true rfl), (Nat.le_of_ble_eq_true rfl)⟩) (px_V hC hW hS hA (hW.obj oS_ws) rfl) rfl rfl hl.1 rfl (lv_room (Nat.le_of_ble_eq_true rfl)) dL_add_315 ⟨(Nat.le_of_ble_eq_true rfl), (Nat.le_of_ble_eq_true rfl)⟩) hS (fun _ _ h => h) (fun _ h => h) (fun r v t9 H9 locs9 ht9 hvm9 hw9 hB9 hz9 hk9 hS9 => ?_)
    obtain ⟨hSX, hW9⟩ := hB9
    rw [ht9] at hW9
    refine lv_pop hx hb dL_add_318 rfl ?_
    exact y_add_end hx hb hr hlk hS9 hg hSX hW9 7 ⟨rfl, by decide, (fun h => absurd h (by decide)), (fun h => absurd h (by decide)), (fun h => absurd h (by decide)), (fun h => absurd h (by decide)), (fun h => absurd h (by decide)), (fun h => absurd h (by decide))⟩ (fun q h => by cases h; omega) (fun q h => nomatch h) (fun q h => nomatch h.2) ⟨(fun h => absurd h (by decide)), (fun h => nomatch h)⟩ ⟨(fun h => absurd h (by decide)), (fun h => absurd h (by decide))⟩ (fun h => absurd h (by omega)) (Nat.le_of_ble_eq_true rfl) (Nat.le_of_ble_eq_true rfl) dL_add_319
set_option maxHeartbeats 4000000 in
set_option maxRecDepth 100000 in
theorem y_add (l : Launch) {D : va_G} {yc : Nat → ClassId} {e0 : Nat} {A : Nat → Prop} {own : TO} {sz : Nat} {S : TS} {pl : Nat → Nat → Int32} {so : Nat → Nat} {k : Nat} {x : Int32} (hg : GW S pl so) (hn : zn S ≤ 11) (hk : zn S = k) : Met l yL_add (ws_ yL_add cL_add 5 none) { frames := 12, cells := 87, slots := 549, locals := 430 } (PX D yc e0 A own (obS S pl) (rwS S) (lsS S) sz [.ref (zg S 7 0 0), .int (nI k), .int x]) (QA D yc e0 A S) 87 549 A := by
  refine xk_M (by decide) (Nat.le_of_ble_eq_true rfl) ?_
  intro p e s m args below meth c ls hx hb hml hr hlk hown hts hW hz hS hA hC hl
  have hl : lv_has ls 5 [(0, .ref (zg S 7 0 0)), (1, .int (nI k)), (2, .int x)] := hl
  have hT := ws_WT hW (by omega) hg.1
  by_cases hk0 : k = 0
  · subst hk0
    refine lv_iload_n hx hb dL_add_0 rfl (lv_at hl 1 rfl) ?_
    refine lv_if_ne (tgt := 8) hx hb dL_add_1 (by decide) (fun h9 => absurd rfl h9) (fun _ => ?_)
    refine lv_iconst (v := 0) hx hb dL_add_4 (by decide) ?_
    refine lv_goto (tgt := 15) hx hb dL_add_5 (by decide) ?_
    refine lv_istore_n (lv' := [(3, .int 0), (0, .ref (zg S 7 0 0)), (1, .int (nI 0)), (2, .int x)]) hx hb dL_add_15 rfl hl (by decide) rfl (fun ls hl => ?_)
    refine lv_iload_n hx hb dL_add_16 rfl (lv_at hl 2 rfl) ?_
    refine lv_if_ne (tgt := 24) hx hb dL_add_17 (by decide) (fun h9 => absurd rfl h9) (fun _ => ?_)
    refine lv_iconst (v := 0) hx hb dL_add_20 (by decide) ?_
    refine lv_goto (tgt := 32) hx hb dL_add_21 (by decide) ?_
    refine lv_istore (lv' := [(4, .int 0), (3, .int 0), (0, .ref (zg S 7 0 0)), (1, .int (nI 0)), (2, .int x)]) hx hb dL_add_32 hl (by decide) rfl (fun ls hl => ?_)
    refine lv_iload_n hx hb dL_add_34 rfl (lv_at hl 3 rfl) ?_
    refine lv_if_eq (tgt := 47) hx hb dL_add_35 (by decide) (fun _ => ?_) (fun h9 => absurd rfl h9)
    exact y_src (k := 0) (B := 0) hx hb hml hown hts hW hS hA hC hr hlk hg hn (lv_sub hl [2, 4] rfl)
  · refine lv_iload_n hx hb dL_add_0 rfl (lv_at hl 1 rfl) ?_
    refine lv_if_ne (tgt := 8) hx hb dL_add_1 (by decide) (fun _ => ?_) (fun h9 => absurd h9 (nI_ne0 (by omega) (by omega)))
    refine lv_iload_n hx hb dL_add_8 rfl (lv_at hl 2 rfl) ?_
    refine lv_iconst (v := 4) hx hb dL_add_9 (by decide) ?_
    refine lv_ishr hx hb dL_add_10 ?_
    obtain ⟨y4, hy4⟩ : ∃ y, y = x >>> ((4 : Int32) &&& 31) := ⟨_, rfl⟩
    refine zk_ti (y := y4) hy4.symm ?_
    refine lv_iload_n hx hb dL_add_11 rfl (lv_at hl 1 rfl) ?_
    refine zr_i (va_runS (As := [.int y4, .int (nI k)]) (rest := []) ⟨hx, hb, hml, hown, hts⟩ (y_below l y4 k (by omega) (by omega)) (va_cwS 2 hts (lw_S wq794 wq795 wq0 wq796) rfl rfl rfl (by decide +kernel) ⟨(Nat.le_of_ble_eq_true rfl), (Nat.le_of_ble_eq_true rfl)⟩) tp_N rfl rfl hl.1 rfl (lv_room (Nat.le_of_ble_eq_true rfl)) dL_add_12 ⟨(Nat.le_of_ble_eq_true rfl), (Nat.le_of_ble_eq_true rfl)⟩) ?_
    refine lv_istore_n (lv' := [(3, .int (nI (bel y4 k))), (0, .ref (zg S 7 0 0)), (1, .int (nI k)), (2, .int x)]) hx hb dL_add_15 rfl hl (by decide) rfl (fun ls hl => ?_)
    refine lv_iload_n hx hb dL_add_16 rfl (lv_at hl 2 rfl) ?_
    refine lv_if_ne (tgt := 24) hx hb dL_add_17 (by decide) (fun _ => ?_) (fun h9 => absurd h9 (nI_ne0 (by omega) (by omega)))
    refine lv_iload_n hx hb dL_add_24 rfl (lv_at hl 3 rfl) ?_
    refine lv_bipush (v := 8) hx hb dL_add_25 (by decide) ?_
    refine lv_ishr hx hb dL_add_27 ?_
    obtain ⟨y8, hy8⟩ : ∃ y, y = x >>> ((8 : Int32) &&& 31) := ⟨_, rfl⟩
    refine zk_ti (y := y8) hy8.symm ?_
    refine lv_iload_n hx hb dL_add_28 rfl (lv_at hl 2 rfl) ?_
    refine zr_i (va_runS (As := [.int y8, .int (nI k)]) (rest := []) ⟨hx, hb, hml, hown, hts⟩ (y_below l y8 k (by omega) (by omega)) (va_cwS 2 hts (lw_S wq794 wq795 wq0 wq796) rfl rfl rfl (by decide +kernel) ⟨(Nat.le_of_ble_eq_true rfl), (Nat.le_of_ble_eq_true rfl)⟩) tp_N rfl rfl hl.1 rfl (lv_room (Nat.le_of_ble_eq_true rfl)) dL_add_29 ⟨(Nat.le_of_ble_eq_true rfl), (Nat.le_of_ble_eq_true rfl)⟩) ?_
    refine lv_istore (lv' := [(4, .int (nI (bel y8 k))), (3, .int (nI (bel y4 k))), (0, .ref (zg S 7 0 0)), (1, .int (nI k)), (2, .int x)]) hx hb dL_add_32 hl (by decide) rfl (fun ls hl => ?_)
    refine lv_iload_n hx hb dL_add_34 rfl (lv_at hl 3 rfl) ?_
    refine lv_if_eq (tgt := 47) hx hb dL_add_35 (by decide) (fun h9 => absurd h9 (nI_ne0 (by omega) (by omega))) (fun _ => ?_)
    refine lv_iload_n hx hb dL_add_38 rfl (lv_at hl 4 rfl) ?_
    refine lv_bipush (v := 7) hx hb dL_add_39 (by decide) ?_
    refine zk_ti (y := nI 7) (by decide) ?_
    refine zr_i (va_runS (As := [.int x, .int (nI 7)]) (rest := []) ⟨hx, hb, hml, hown, hts⟩ (y_below l x 7 (by omega) (by omega)) (va_cwS 2 hts (lw_S wq794 wq795 wq0 wq796) rfl rfl rfl (by decide +kernel) ⟨(Nat.le_of_ble_eq_true rfl), (Nat.le_of_ble_eq_true rfl)⟩) tp_N rfl rfl hl.1 rfl (lv_room (Nat.le_of_ble_eq_true rfl)) dL_add_41 ⟨(Nat.le_of_ble_eq_true rfl), (Nat.le_of_ble_eq_true rfl)⟩) ?_
    have b7 := bel_lt (v := x) (n := 7) (by decide)
    have q4 := bel_lt (v := y4) (n := k) (by omega)
    have q8 := bel_lt (v := y8) (n := k) (by omega)
    refine lv_if_ne (tgt := 61) hx hb dL_add_44 (by decide) (fun _ => ?_) (fun _ => y_src (k := 0) (B := 0) hx hb hml hown hts hW hS hA hC hr hlk hg hn (lv_sub hl [2, 4] rfl))
    have hpl : ∀ a, a < zn S → pl a 0 = nI (so a) ∧ so a < 8 := fun a ha => ⟨(hg.2.2.2 a ha).1.1, (hg.2.2.2 a ha).1.2.1⟩
    have h7 : ∀ a, a < zn S → so a ≠ 7 → ¬ pl a 0 = 7 := fun a ha h9 h8 => h9 ((nI_eq (by have := (hpl a ha).2; omega) (by decide)).mp ((hpl a ha).1.symm.trans h8))
    have hR : 6 ≤ 12 ∧ 200 ≤ 430 ∧ 0 ≤ 87 ∧ 0 ≤ 549 := by decide
    refine y_skip3 (B := nI (bel y8 k)) hx hb hml hown hts hT hS hA hC (by omega) hn hpl (hg.2.2.1 (by omega)) hR (fun a ls ha hsa hl => ?_) (bel y4 k) ls q4 (lv_sub hl [1, 0, 2, 3, 4] rfl)
    refine y_skip4 (B := nI a) hx hb hml hown hts hT hS hA hC (by omega) hn hpl (hg.2.2.1 (by omega)) hR (fun b ls hb0 hsb hl => ?_) (bel y8 k) ls q8 (lv_sub hl [1, 0, 2, 3, 4] rfl)
    exact y_sw (B := 0) hx hb hml hown hts hW hS hA hC hr hlk hg hn hk ha hb0 (h7 a (by omega) hsa) (h7 b (by omega) hsb) (by omega) (by omega) hl
