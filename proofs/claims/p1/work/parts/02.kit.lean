def zk_pairs : List (String × String) := [("java/lang/IllegalArgumentException", "java/lang/IllegalStateException"), ("java/lang/IllegalArgumentException", "java/lang/IndexOutOfBoundsException"), ("java/lang/IllegalStateException", "java/lang/IllegalArgumentException"), ("java/lang/IllegalStateException", "java/lang/IndexOutOfBoundsException"), ("java/lang/IndexOutOfBoundsException", "java/lang/IllegalArgumentException"), ("java/lang/IndexOutOfBoundsException", "java/lang/IllegalStateException")]
/-! ===== one list of words for all methods; the context that every contract carries; calls and ends, packed ===== -/
def lw_all : List Cond := lw_tbl.filter goodWord
theorem lw_in {w : Cond} (h : w ∈ lw_tbl) (g : goodWord w = true) : w ∈ lw_all := List.mem_filter.mpr ⟨h, g⟩
theorem lw_tb {w : Cond} (h : w ∈ tables_1) : w ∈ lw_tbl := List.mem_append_right _ h
theorem lw_ps {w : Cond} (h : w ∈ k2_sels lw_privs) : w ∈ lw_tbl := List.mem_append_left _ h
theorem lw_all_tbl {w : Cond} (h : w ∈ lw_all) : w ∈ lw_tbl := (List.mem_filter.mp h).1
theorem lw_good {w : Cond} (h : w ∈ lw_all) : w ∈ lw_all ∧ ((w.onTables && w.keeps) = true ∨ ∃ ty, w = .arrayClass ty) := ⟨h, good_of_word (List.mem_filter.mp h).2⟩
abbrev ws_ (y : MethodName) (c : ByteArray) (n : Nat) (r : Option FieldType) : List Cond := Cond.code y c n r :: lw_all
abbrev ww_ (y : MethodName) (c : ByteArray) (n : Nat) (r : Option FieldType) (hh : List (Nat × Nat × Nat × Nat)) : List Cond := Cond.codeWith y c n r hh :: lw_all
theorem lw_C {w : Cond} (h : w ∈ lw_all) : GoodIn lw_all (w :: lw_all) := fun w' hw => (List.mem_cons.mp hw).elim (fun e => by rw [e]; exact lw_good h) (fun h' => lw_good h')
theorem lw_app {l : List Cond} {w : Cond} (hl : ∀ w' ∈ l, w' ∈ lw_all) (h : w ∈ lw_all) : GoodIn lw_all (l ++ (w :: lw_all)) := fun w' hw => (List.mem_append.mp hw).elim (fun h' => lw_good (hl w' h')) (fun h' => lw_C h w' h')
theorem lw_V {own C : String} {i : Nat} {y : MethodName} {w : Cond} (h1 : Cond.methodLink own i y ∈ lw_all) (h2 : Cond.instanceMethod y ∈ lw_all) (h3 : Cond.selects C y y ∈ lw_all) (h4 : Cond.initialized C ∈ lw_all) (h : w ∈ lw_all) : GoodIn lw_all (wsV own i C y (w :: lw_all)) :=
  lw_app (List.forall_mem_cons.mpr ⟨h1, List.forall_mem_cons.mpr ⟨h2, List.forall_mem_cons.mpr ⟨h3, List.forall_mem_cons.mpr ⟨h4, fun _ h => absurd h List.not_mem_nil⟩⟩⟩⟩) h
theorem lw_S {own : String} {i : Nat} {y : MethodName} {w : Cond} (h1 : Cond.methodLink own i y ∈ lw_all) (h2 : Cond.static y ∈ lw_all) (h3 : Cond.initialized y.cls ∈ lw_all) (h : w ∈ lw_all) : GoodIn lw_all (va_wsS own i y (w :: lw_all)) :=
  lw_app (List.forall_mem_cons.mpr ⟨h1, List.forall_mem_cons.mpr ⟨h2, List.forall_mem_cons.mpr ⟨h3, fun _ h => absurd h List.not_mem_nil⟩⟩⟩) h
-- the words that aren't good, but stay: nest mates' links, castable, declares, arrayOver
def zk_n (w : Cond) : Bool := match w with
  | .fieldLinkNest .. => true
  | .methodLinkNest .. => true
  | .castable .. => true
  | .declares _ => true
  | .arrayOver _ => true
  | _ => false
def zk_N (U : State) : Prop := ∀ w ∈ lw_tbl, zk_n w = true → w.before #[] U = true
theorem zk_over {ty : FieldType} {s U : State} (hW : s.WarmedH U.vm) (h : (Cond.arrayOver ty).before #[] s = true) : (Cond.arrayOver ty).before #[] U = true := by
  have h2 : (Cond.arrayOver ty).before #[] (s.setVm U.vm) = true := by rw [Cond.arrayOver_setVmC hW.alike ty]; exact h
  exact h2
theorem zk_N.warm {s U : State} (hW : s.WarmedH U.vm) (h : zk_N s) : zk_N U := by
  intro w hw hz
  have h0 := h w hw hz
  cases w with
  | fieldLinkNest a i b n d hh => exact va_Nw.warmF hW h0
  | methodLinkNest a i x hh => exact va_Nw.warmM hW h0
  | castable C T => exact va_Nw.warmC hW h0
  | declares x => exact va_Nw.warmD hW h0
  | arrayOver ty => exact zk_over hW h0
  | _ => exact (Bool.false_ne_true hz).elim
theorem zk_tab {w : Cond} (hw : w.onTables = true) {s : State} {A : Array Value} (h : w.before #[] s = true) : w.before A s = true := va_tabs hw rfl h
/-- pairs of classes, the one no kind of the other -/
def zk_P (l : List (String × String)) (U : State) : Prop := ∀ q ∈ l, va_Nc q.1 q.2 U
-- the array classes, by their places in yT
abbrev yT (y : Nat → ClassId) : List (ClassId × FieldType) := [(y 0, .int), (y 1, .long), (y 2, .boolean), (y 3, .object "java/lang/Object"), (y 4, .object "WeirStreamModel$Rows"), (y 5, .object "WeirStreamModel$Kept"), (y 6, .array .int), (y 7, .array (.object "WeirStreamModel$Rows")), (y 8, .array .boolean)]
theorem zk_same {D : va_G} {cl : List vw_C} {tys : List (ClassId × FieldType)} {U : State} {c1 c2 : ClassId} {ty : FieldType} (h : va_K D cl tys U) (i j : Nat) (hi : tys[i]? = some (c1, ty)) (hj : tys[j]? = some (c2, ty)) : c1 = c2 := by
  have h1 := (h.2 i _ hi).2
  have h2 := (h.2 j _ hj).2
  cases ty with
  | object C =>
    obtain ⟨_, _, _, _, _, e1⟩ := h1
    obtain ⟨_, _, _, _, _, e2⟩ := h2
    exact Option.some.inj (e1.symm.trans e2)
  | _ =>
    have e1 : U.vm.findClass _ = some c1 := h1
    have e2 : U.vm.findClass _ = some c2 := h2
    exact Option.some.inj (e1.symm.trans e2)
/-- what every contract knows of its start: the classes, the words that stay, the statics; A: what the method may change -/
def CX (D : va_G) (y : Nat → ClassId) (e0 : Nat) (A : Nat → Prop) (U : State) : Prop :=
  va_K D vwCl (yT y) U ∧ zk_N U ∧ zk_P zk_pairs U ∧ vx_Zq Bundle.tN "UNASSIGNED_STACK" Bundle.steD A U U.heap ∧ vx_Zq Bundle.tN "SUPPRESSED_SENTINEL" Bundle.listD A U U.heap ∧
  va_Z "java/util/ArrayList" "DEFAULTCAPACITY_EMPTY_ELEMENTDATA" "[Ljava/lang/Object;" (.ref e0) A U U.heap ∧ va_T (.object "java/lang/Object") e0 0 (fun _ => .null) A U U.heap
theorem CX.go {D : va_G} {y : Nat → ClassId} {e0 : Nat} {A B : Nat → Prop} {s U : State} {H : Heap} {locs : List Loc} (h : CX D y e0 A s) (hS : va_S A s.heap H locs) (hB : ∀ q, B q → A q) (hU : U.heap = H) (hW : s.WarmedH U.vm) : CX D y e0 B U := by
  obtain ⟨h1, h2, h3, h4, h5, h6, h7⟩ := h
  rw [← hU] at hS
  refine ⟨va_K.moved hW.alike h1, zk_N.warm hW h2, fun q hq => va_Nc.moved hW.alike (h3 q hq), ?_, ?_, ?_, ?_⟩
  · exact ((h4.kept hS.2.1).moved hW.alike).narrow hB
  · exact ((h5.kept hS.2.1).moved hW.alike).narrow hB
  · exact ((h6.kept hS.2.1).moved hW.alike).narrow hB
  · exact ((h7.kept hS.2.1).moved hW.alike).narrow hB
theorem CX.calling {D : va_G} {y : Nat → ClassId} {e0 : Nat} {A : Nat → Prop} {U : State} (g : JFrame) (mk : MethodId) (a : Array Value) (h : CX D y e0 A U) : CX D y e0 A (U.calling g mk a) := by
  have hv : (U.calling g mk a).vm = U.vm := rfl
  have hW : U.WarmedH (U.calling g mk a).vm := by rw [hv]; exact State.WarmedH.refl U
  have hU : (U.calling g mk a).heap = U.heap := rfl
  exact h.go (H := U.heap) (locs := []) va_S.rf (fun _ h => h) hU hW
theorem CX.narrow {D : va_G} {y : Nat → ClassId} {e0 : Nat} {A B : Nat → Prop} {U : State} (hB : ∀ q, B q → A q) (h : CX D y e0 A U) : CX D y e0 B U := by
  obtain ⟨h1, h2, h3, h4, h5, h6, h7⟩ := h
  exact ⟨h1, h2, h3, h4.narrow hB, h5.narrow hB, h6.narrow hB, h7.narrow hB⟩
/-- a contract's start: the arguments, the world ws, the context -/
def PR (D : va_G) (y : Nat → ClassId) (e0 : Nat) (ws : va_W) (sz : Nat) (av : List Value) : Array Value → State → Prop := va_Pc av (fun U => U.heap.size = sz ∧ va_P D vwCl ws U.heap ∧ va_D (fun _ => True) ws ∧ CX D y e0 (va_A ws sz) U)
theorem PR.blind {D : va_G} {y : Nat → ClassId} {e0 : Nat} {ws : va_W} {sz : Nat} {av : List Value} : FrameBlind (PR D y e0 ws sz av) := fun a U g mk q => by
  obtain ⟨q0, q1, qP, qD, qC⟩ := q
  exact ⟨q0, q1, qP, qD, CX.calling g mk a qC⟩
/-- the world behind a method; u: the cells that it made -/
abbrev WD (D : va_G) (A : Nat → Prop) (w : (Nat → Nat → Nat) → va_W) (u : Nat → Nat → Nat) (t : State) : Prop := va_P D vwCl (w u) t.heap ∧ va_D A (w u)
theorem zk_sub {D : va_G} {cl : List vw_C} {ws wc : va_W} {H : Heap} (h : va_P D cl ws H) (is : List Nat) (hs : is.map (fun i => ws[i]?) = wc.map some) : va_P D cl wc H := by
  intro k q hk
  have h1 : (is.map (fun i => ws[i]?))[k]? = some (some q) := by rw [hs, List.getElem?_map, hk]; rfl
  rw [List.getElem?_map] at h1
  cases hi : is[k]? with
  | none => rw [hi] at h1; cases h1
  | some i => rw [hi] at h1; exact h i q (Option.some.inj h1)
section ZKC
variable {p : Program} {l : Launch} {e : Env} {R : Room} {s : State} {m : MethodId} {args : Array Value} {below : List Frame} {meth : Method} {c : Code} {H : Heap} {locs : List Loc} {cells slots : Nat} {Q : State → Prop}
variable {D : va_G} {y : Nat → ClassId} {e0 : Nat} {A : Nat → Prop} {ws wc wr : va_W} {As rest st0 : List Value} {mc ms pc : Nat} {ls : Array Slot} {a : Array Value}
theorem zk_pS (hC : CX D y e0 A s) (hP : va_P D vwCl ws H) (hD : va_D A ws) (hS : va_S A s.heap H locs) (hA : ∀ q, s.heap.size ≤ q → A q) (is : List Nat) (hc : is.map (fun i => ws[i]?) = wc.map some) (hn : va_nd is = true) : PreS s H (PR D y e0 wc H.size As) As :=
  ⟨PR.blind, fun U hU hW => ⟨rfl, by rw [hU], by rw [hU]; exact zk_sub hP is hc, (hD.sub is hn hc).weaken (fun _ _ _ _ => trivial), hC.go hS (va_free hD hS hA is hc) hU hW⟩⟩
theorem zk_pV {C : String} {b : Addr} (hC : CX D y e0 A s) (hP : va_P D vwCl ws H) (hD : va_D A ws) (hS : va_S A s.heap H locs) (hA : ∀ q, s.heap.size ≤ q → A q) (is : List Nat) (hc : is.map (fun i => ws[i]?) = wc.map some) (hn : va_nd is = true) (q0 ci : Nat) {fs : List Value} {T : u_T} {N : Nat} (he : ws[q0]? = some (b, .inr (ci, fs))) (hci : vwCl[ci]? = some (C, T, N)) : PreV s H C b (PR D y e0 wc H.size (.ref b :: As)) As :=
  ⟨PR.blind, va_recv hC.1 hP hci he, fun U hU hW => ⟨rfl, by rw [hU], by rw [hU]; exact zk_sub hP is hc, (hD.sub is hn hc).weaken (fun _ _ _ _ => trivial), hC.go hS (va_free hD hS hA is hc) hU hW⟩⟩
/-- the worlds put together behind a call -/
theorem zk_jn {w1 : va_W} {H1 : Heap} (hP : va_P D vwCl ws H) (hD : va_D A ws) (hS : va_S A s.heap H locs) (hA : ∀ q, s.heap.size ≤ q → A q) (is js : List Nat) (hc : is.map (fun i => ws[i]?) = wc.map some) (hr : js.map (fun i => ws[i]?) = wr.map some) (hn : va_nd js = true) (hdis : ∀ i ∈ js, i ∉ is)
    (hk : ∀ q : Nat, q < H.size → ¬ va_A wc H.size q → H1[q]? = H[q]?) (hP1 : va_P D vwCl w1 H1) (hD1 : va_D (va_A wc H.size) w1) : va_P D vwCl (wr ++ w1) H1 ∧ va_D A (wr ++ w1) :=
  va_join hP hD is js hc hr hn hdis hk (va_free hD hS hA is hc) hP1 hD1
theorem zk_i {r0 : (Nat → Nat → Nat) → Int32} {w1 : (Nat → Nat → Nat) → va_W} (hr : va_Run p l e R s m args below meth c H locs cells slots mc ms (F0 m pc ls st0) rest (va_Qi (fun r u => r = r0 u) (WD D (va_A wc H.size) w1) (va_A wc H.size) a) (va_A wc H.size))
    (hP : va_P D vwCl ws H) (hD : va_D A ws) (hS : va_S A s.heap H locs) (hA : ∀ q, s.heap.size ≤ q → A q) (is js : List Nat) (hc : is.map (fun i => ws[i]?) = wc.map some) (hj : js.map (fun i => ws[i]?) = wr.map some) (hn : va_nd js = true) (hdis : ∀ i ∈ js, i ∉ is)
    (kk : ∀ (u : Nat → Nat → Nat) (H1 : Heap) (locs1 : List Loc), va_P D vwCl (wr ++ w1 u) H1 → va_D A (wr ++ w1 u) → va_S A s.heap H1 locs1 → W p l e R s m args below meth c H1 locs1 (cells + mc) (slots + ms) Q (F0 m (pc + 3) ls (.int (r0 u) :: rest))) : W p l e R s m args below meth c H locs cells slots Q (F0 m pc ls st0) := by
  have hF := va_free hD hS hA is hc
  refine va_calli hr hS (fun q _ h => hF q h) hF (fun r u t H1 locs1 ht hvm hw hB hz1 hk1 hS1 => ?_)
  obtain ⟨hP1, hD1⟩ := hB
  rw [ht] at hP1
  obtain ⟨h1, h2⟩ := zk_jn hP hD hS hA is js hc hj hn hdis hk1 hP1 hD1
  rw [show r = r0 u from hw]
  exact kk u H1 locs1 h1 h2 hS1
theorem zk_l {r0 : (Nat → Nat → Nat) → Int64} {w1 : (Nat → Nat → Nat) → va_W} (hr : va_Run p l e R s m args below meth c H locs cells slots mc ms (F0 m pc ls st0) rest (va_Ql (fun r u => r = r0 u) (WD D (va_A wc H.size) w1) (va_A wc H.size) a) (va_A wc H.size))
    (hP : va_P D vwCl ws H) (hD : va_D A ws) (hS : va_S A s.heap H locs) (hA : ∀ q, s.heap.size ≤ q → A q) (is js : List Nat) (hc : is.map (fun i => ws[i]?) = wc.map some) (hj : js.map (fun i => ws[i]?) = wr.map some) (hn : va_nd js = true) (hdis : ∀ i ∈ js, i ∉ is)
    (kk : ∀ (u : Nat → Nat → Nat) (H1 : Heap) (locs1 : List Loc), va_P D vwCl (wr ++ w1 u) H1 → va_D A (wr ++ w1 u) → va_S A s.heap H1 locs1 → W p l e R s m args below meth c H1 locs1 (cells + mc) (slots + ms) Q (F0 m (pc + 3) ls (.long (r0 u) :: rest))) : W p l e R s m args below meth c H locs cells slots Q (F0 m pc ls st0) := by
  have hF := va_free hD hS hA is hc
  refine va_calll hr hS (fun q _ h => hF q h) hF (fun r u t H1 locs1 ht hvm hw hB hz1 hk1 hS1 => ?_)
  obtain ⟨hP1, hD1⟩ := hB
  rw [ht] at hP1
  obtain ⟨h1, h2⟩ := zk_jn hP hD hS hA is js hc hj hn hdis hk1 hP1 hD1
  rw [show r = r0 u from hw]
  exact kk u H1 locs1 h1 h2 hS1
theorem zk_d {r0 : (Nat → Nat → Nat) → UInt64} {w1 : (Nat → Nat → Nat) → va_W} (hr : va_Run p l e R s m args below meth c H locs cells slots mc ms (F0 m pc ls st0) rest (va_Qd (fun r u => r = r0 u) (WD D (va_A wc H.size) w1) (va_A wc H.size) a) (va_A wc H.size))
    (hP : va_P D vwCl ws H) (hD : va_D A ws) (hS : va_S A s.heap H locs) (hA : ∀ q, s.heap.size ≤ q → A q) (is js : List Nat) (hc : is.map (fun i => ws[i]?) = wc.map some) (hj : js.map (fun i => ws[i]?) = wr.map some) (hn : va_nd js = true) (hdis : ∀ i ∈ js, i ∉ is)
    (kk : ∀ (u : Nat → Nat → Nat) (H1 : Heap) (locs1 : List Loc), va_P D vwCl (wr ++ w1 u) H1 → va_D A (wr ++ w1 u) → va_S A s.heap H1 locs1 → W p l e R s m args below meth c H1 locs1 (cells + mc) (slots + ms) Q (F0 m (pc + 3) ls (.double (r0 u) :: rest))) : W p l e R s m args below meth c H locs cells slots Q (F0 m pc ls st0) := by
  have hF := va_free hD hS hA is hc
  refine va_calld hr hS (fun q _ h => hF q h) hF (fun r u t H1 locs1 ht hvm hw hB hz1 hk1 hS1 => ?_)
  obtain ⟨hP1, hD1⟩ := hB
  rw [ht] at hP1
  obtain ⟨h1, h2⟩ := zk_jn hP hD hS hA is js hc hj hn hdis hk1 hP1 hD1
  rw [show r = r0 u from hw]
  exact kk u H1 locs1 h1 h2 hS1
theorem zk_q {r0 : (Nat → Nat → Nat) → Option Nat} {w1 : (Nat → Nat → Nat) → va_W} (hr : va_Run p l e R s m args below meth c H locs cells slots mc ms (F0 m pc ls st0) rest (va_Qq (fun r u => r = r0 u) (WD D (va_A wc H.size) w1) (va_A wc H.size) a) (va_A wc H.size))
    (hP : va_P D vwCl ws H) (hD : va_D A ws) (hS : va_S A s.heap H locs) (hA : ∀ q, s.heap.size ≤ q → A q) (is js : List Nat) (hc : is.map (fun i => ws[i]?) = wc.map some) (hj : js.map (fun i => ws[i]?) = wr.map some) (hn : va_nd js = true) (hdis : ∀ i ∈ js, i ∉ is)
    (kk : ∀ (u : Nat → Nat → Nat) (H1 : Heap) (locs1 : List Loc), va_P D vwCl (wr ++ w1 u) H1 → va_D A (wr ++ w1 u) → va_S A s.heap H1 locs1 → W p l e R s m args below meth c H1 locs1 (cells + mc) (slots + ms) Q (F0 m (pc + 3) ls (va_rf (r0 u) :: rest))) : W p l e R s m args below meth c H locs cells slots Q (F0 m pc ls st0) := by
  have hF := va_free hD hS hA is hc
  refine va_callq hr hS (fun q _ h => hF q h) hF (fun r u t H1 locs1 ht hvm hw hB hz1 hk1 hS1 => ?_)
  obtain ⟨hP1, hD1⟩ := hB
  rw [ht] at hP1
  obtain ⟨h1, h2⟩ := zk_jn hP hD hS hA is js hc hj hn hdis hk1 hP1 hD1
  rw [show r = r0 u from hw]
  exact kk u H1 locs1 h1 h2 hS1
theorem zk_v {w1 : (Nat → Nat → Nat) → va_W} (hr : va_Run p l e R s m args below meth c H locs cells slots mc ms (F0 m pc ls st0) rest (va_Qv (fun _ => True) (WD D (va_A wc H.size) w1) (va_A wc H.size) a) (va_A wc H.size))
    (hP : va_P D vwCl ws H) (hD : va_D A ws) (hS : va_S A s.heap H locs) (hA : ∀ q, s.heap.size ≤ q → A q) (is js : List Nat) (hc : is.map (fun i => ws[i]?) = wc.map some) (hj : js.map (fun i => ws[i]?) = wr.map some) (hn : va_nd js = true) (hdis : ∀ i ∈ js, i ∉ is)
    (kk : ∀ (u : Nat → Nat → Nat) (H1 : Heap) (locs1 : List Loc), va_P D vwCl (wr ++ w1 u) H1 → va_D A (wr ++ w1 u) → va_S A s.heap H1 locs1 → W p l e R s m args below meth c H1 locs1 (cells + mc) (slots + ms) Q (F0 m (pc + 3) ls rest)) : W p l e R s m args below meth c H locs cells slots Q (F0 m pc ls st0) := by
  have hF := va_free hD hS hA is hc
  refine va_callv hr hS (fun q _ h => hF q h) hF (fun u t H1 locs1 ht hvm hw hB hz1 hk1 hS1 => ?_)
  obtain ⟨hP1, hD1⟩ := hB
  rw [ht] at hP1
  obtain ⟨h1, h2⟩ := zk_jn hP hD hS hA is js hc hj hn hdis hk1 hP1 hD1
  exact kk u H1 locs1 h1 h2 hS1
/-- a callee that only throws: E0 -/
abbrev zk_X (D : va_G) (A : Nat → Prop) (E0 : String) (w1 : (Nat → Nat → Nat) → va_W) : String → State → State → Prop := vx_X (fun _ : Nat → Nat → Nat => True) (fun E u t => E = E0 ∧ WD D A w1 u t) A
theorem zk_x {E0 : String} {w1 : (Nat → Nat → Nat) → va_W} (hr : vx_Run p l e R s m args below meth c H locs cells slots mc ms (F0 m pc ls st0) rest (fun _ _ _ => False) (zk_X D (va_A wc H.size) E0 w1) (va_A wc H.size))
    (hP : va_P D vwCl ws H) (hD : va_D A ws) (hS : va_S A s.heap H locs) (hA : ∀ q, s.heap.size ≤ q → A q) (is js : List Nat) (hc : is.map (fun i => ws[i]?) = wc.map some) (hj : js.map (fun i => ws[i]?) = wr.map some) (hn : va_nd js = true) (hdis : ∀ i ∈ js, i ∉ is)
    (kx : ∀ (u : Nat → Nat → Nat) (ce : Cell) (q9 : Addr) (H1 : Heap) (locs1 : List Loc), va_P D vwCl (wr ++ w1 u) H1 → va_D A (wr ++ w1 u) → va_S A s.heap H1 locs1 → H1[q9]? = some ce → ce.vm = .none → s.vm.findClass E0 = some ce.cls → vx_W p l e R s m args below meth c H1 locs1 (cells + mc) (slots + ms) Q (F0 m pc ls rest) q9) : W p l e R s m args below meth c H locs cells slots Q (F0 m pc ls st0) := by
  have hF := va_free hD hS hA is hc
  intro T hT X
  rcases hr T hT X with ⟨v, st₀, t, T', L, h0, X', hL, e1, e2, hf, st⟩ | ⟨q, st₀, t, T', L, E, ce, h0, X', hL, e1, e2, ⟨u, -, ⟨hE, hP1, hD1⟩, hFr⟩, hce, hcv, hcl, st⟩
  · exact hf.elim
  · subst hE
    obtain ⟨k1, k2, k3⟩ := vx_keep h0 e1 hS (fun q _ h => hF q h) hF hL hFr
    obtain ⟨h1, h2⟩ := zk_jn hP hD hS hA is js hc hj hn hdis k2 (by rw [e1]; exact hP1) hD1
    obtain ⟨t2, a1, b1⟩ := kx u ce q T'.heap (locs ++ L) h1 h2 k3 (by rw [e1]; exact hce) hcv hcl T' rfl X'
    exact ⟨t2, st.trans a1, b1⟩
-- known numbers on top of the stack
theorem zk_ti {x y : Int32} (h : x = y) (k : W p l e R s m args below meth c H locs cells slots Q (F0 m pc ls (.int y :: rest))) : W p l e R s m args below meth c H locs cells slots Q (F0 m pc ls (.int x :: rest)) := by rw [h]; exact k
theorem zk_tl {x y : Int64} (h : x = y) (k : W p l e R s m args below meth c H locs cells slots Q (F0 m pc ls (.long y :: rest))) : W p l e R s m args below meth c H locs cells slots Q (F0 m pc ls (.long x :: rest)) := by rw [h]; exact k
theorem zk_tv {x y : Value} (h : x = y) (k : W p l e R s m args below meth c H locs cells slots Q (F0 m pc ls (y :: rest))) : W p l e R s m args below meth c H locs cells slots Q (F0 m pc ls (x :: rest)) := by rw [h]; exact k
-- ends
theorem zk_ri {cc : ByteArray} {r0 : (Nat → Nat → Nat) → Int32} {w1 : (Nat → Nat → Nat) → va_W} {v : Int32} {ty : FieldType} (hx : p.tables.exec = Jvm.exec) (hb : c.code = cc) (hr : meth.sig.returnType = some ty) (hlocks : meth.locks = false) (hP : va_P D vwCl ws H) (hD : va_D A ws) (hS : va_S A s.heap H locs) (u : Nat → Nat → Nat) (hn0 : narrow ty (.int v) = .int v) (hv : v = r0 u) (is : List Nat) (hs : is.map (fun i => ws[i]?) = (w1 u).map some) (hn : va_nd is = true) (h1 : cells ≤ mc) (h2 : slots ≤ ms) (hdg : decode cc pc = .ok (.ireturn, 1)) :
    W p l e R s m args below meth c H locs cells slots (MQ below (va_Qi (fun r u => r = r0 u) (WD D A w1) A) args s mc ms A) (F0 m pc ls [.int v]) :=
  W.widen h1 h2 (W.zret hx hb hr hn0 (fun t ht hW => ⟨⟨v, u, rfl, hv, by rw [ht]; exact zk_sub hP is hs, hD.sub is hn hs⟩, hS.F ht⟩) hS.2.2 hdg hlocks)
theorem zk_rl {cc : ByteArray} {r0 : (Nat → Nat → Nat) → Int64} {w1 : (Nat → Nat → Nat) → va_W} {v : Int64} (hx : p.tables.exec = Jvm.exec) (hb : c.code = cc) (hr : meth.sig.returnType = some .long) (hlocks : meth.locks = false) (hP : va_P D vwCl ws H) (hD : va_D A ws) (hS : va_S A s.heap H locs) (u : Nat → Nat → Nat) (hv : v = r0 u) (is : List Nat) (hs : is.map (fun i => ws[i]?) = (w1 u).map some) (hn : va_nd is = true) (h1 : cells ≤ mc) (h2 : slots ≤ ms) (hdg : decode cc pc = .ok (.lreturn, 1)) :
    W p l e R s m args below meth c H locs cells slots (MQ below (va_Ql (fun r u => r = r0 u) (WD D A w1) A) args s mc ms A) (F0 m pc ls [.long v]) :=
  W.widen h1 h2 (W.lret hx hb hr (fun t ht hW => ⟨⟨v, u, rfl, hv, by rw [ht]; exact zk_sub hP is hs, hD.sub is hn hs⟩, hS.F ht⟩) hS.2.2 hdg hlocks)
theorem zk_rd {cc : ByteArray} {r0 : (Nat → Nat → Nat) → UInt64} {w1 : (Nat → Nat → Nat) → va_W} {v : UInt64} (hx : p.tables.exec = Jvm.exec) (hb : c.code = cc) (hr : meth.sig.returnType = some .double) (hlocks : meth.locks = false) (hP : va_P D vwCl ws H) (hD : va_D A ws) (hS : va_S A s.heap H locs) (u : Nat → Nat → Nat) (hv : v = r0 u) (is : List Nat) (hs : is.map (fun i => ws[i]?) = (w1 u).map some) (hn : va_nd is = true) (h1 : cells ≤ mc) (h2 : slots ≤ ms) (hdg : decode cc pc = .ok (.dreturn, 1)) :
    W p l e R s m args below meth c H locs cells slots (MQ below (va_Qd (fun r u => r = r0 u) (WD D A w1) A) args s mc ms A) (F0 m pc ls [.double v]) :=
  W.widen h1 h2 (W.dret hx hb hr (fun t ht hW => ⟨⟨v, u, rfl, hv, by rw [ht]; exact zk_sub hP is hs, hD.sub is hn hs⟩, hS.F ht⟩) hS.2.2 hdg hlocks)
theorem zk_rq {cc : ByteArray} {r0 : (Nat → Nat → Nat) → Option Nat} {w1 : (Nat → Nat → Nat) → va_W} {v : Value} {ty : FieldType} (hx : p.tables.exec = Jvm.exec) (hb : c.code = cc) (hr : meth.sig.returnType = some ty) (hty : (∃ n, ty = .object n) ∨ ∃ t, ty = .array t) (hlocks : meth.locks = false) (hP : va_P D vwCl ws H) (hD : va_D A ws) (hS : va_S A s.heap H locs) (u : Nat → Nat → Nat) (hv : v = va_rf (r0 u)) (is : List Nat) (hs : is.map (fun i => ws[i]?) = (w1 u).map some) (hn : va_nd is = true) (h1 : cells ≤ mc) (h2 : slots ≤ ms) (hdg : decode cc pc = .ok (.areturn, 1)) :
    W p l e R s m args below meth c H locs cells slots (MQ below (va_Qq (fun r u => r = r0 u) (WD D A w1) A) args s mc ms A) (F0 m pc ls [v]) :=
  W.widen h1 h2 (W.aret hx hb hr hty (by rw [hv]; cases r0 u with | none => exact Or.inl rfl | some z => exact Or.inr ⟨z, rfl⟩) (fun t ht hW => ⟨⟨r0 u, u, by rw [hv], rfl, by rw [ht]; exact zk_sub hP is hs, hD.sub is hn hs⟩, hS.F ht⟩) hS.2.2 hdg hlocks)
theorem zk_rv {cc : ByteArray} {w1 : (Nat → Nat → Nat) → va_W} (hx : p.tables.exec = Jvm.exec) (hb : c.code = cc) (hr : meth.sig.returnType = none) (hlocks : meth.locks = false) (hP : va_P D vwCl ws H) (hD : va_D A ws) (hS : va_S A s.heap H locs) (u : Nat → Nat → Nat) (is : List Nat) (hs : is.map (fun i => ws[i]?) = (w1 u).map some) (hn : va_nd is = true) (h1 : cells ≤ mc) (h2 : slots ≤ ms) (hdg : decode cc pc = .ok (.return_, 1)) :
    W p l e R s m args below meth c H locs cells slots (MQ below (va_Qv (fun _ => True) (WD D A w1) A) args s mc ms A) (F0 m pc ls []) :=
  W.widen h1 h2 (W.vret hx hb hr (fun t ht hW => ⟨⟨u, rfl, trivial, by rw [ht]; exact zk_sub hP is hs, hD.sub is hn hs⟩, hS.F ht⟩) hS.2.2 hdg hlocks)
end ZKC
/-- a contract from the walk of its body -/
theorem zk_M {l : Launch} {y : MethodName} {cc : ByteArray} {maxL : Nat} {ret : Option FieldType} {rm : Room} {D : va_G} {yc : Nat → ClassId} {e0 sz : Nat} {w : va_W} {av : List Value} {Qc : (Nat → Prop) → Array Value → State → Outcome → State → Prop} {mc ms : Nat} (hy : plainName y.cls = true) (hav : (lg_sl av).length ≤ maxL)
    (body : ∀ (p : Program) (e : Env) (s : State) (m : MethodId) (args : Array Value) (below : List Frame) (meth : Method) (c : Code) (A : Nat → Prop) (ls : Array Slot), p.tables.exec = Jvm.exec → c.code = cc → c.maxLocals = maxL → meth.sig.returnType = ret → meth.locks = false → s.vm.findClass y.cls = some m.cls → meth.name = y.name → (∀ w ∈ lw_all, w.before args s = true) → va_P D vwCl w s.heap → va_D A w → va_S A s.heap s.heap [] → (∀ q, s.heap.size ≤ q → A q) → CX D yc e0 A s → lv_has ls maxL (lv_args 0 av) →
      W p l e rm s m args below meth c s.heap [] 0 0 (MQ below (Qc A) args s mc ms A) (F0 m 0 ls [])) :
    Met l y (ws_ y cc maxL ret) rm (PR D yc e0 w sz av) (Qc (va_A w sz)) mc ms (va_A w sz) := by
  refine Met.ofW (cc := cc) (maxL := maxL) (ret := ret) hy rfl ?_
  intro p e s m args below meth c s₁ B hml hv
  obtain ⟨rfl, hsz, hP, hD0, hC⟩ := hv
  subst hsz
  have hts := atoms_spec (ws := ws_ y cc maxL ret) B.pre
  rw [lg_entry_eq]
  exact body p e s m _ below meth c _ _ B.exec B.bytes hml B.returns B.notSynchronized (findClass_of_methodNamed B.named) (name_of_methodNamed B.named B.method).1 (fun w h => hts w (List.mem_cons_of_mem _ h)) hP (hD0.self) va_S.rf (fun q h => Or.inr h) hC (lv_entry av hav)
theorem zk_MX {l : Launch} {y : MethodName} {cc : ByteArray} {maxL : Nat} {ret : Option FieldType} {rm : Room} {D : va_G} {yc : Nat → ClassId} {e0 sz : Nat} {w : va_W} {av : List Value} {E0 : String} {w1 : (Nat → Nat → Nat) → va_W} {mc ms : Nat} (hy : plainName y.cls = true) (hav : (lg_sl av).length ≤ maxL)
    (body : ∀ (p : Program) (e : Env) (s : State) (m : MethodId) (args : Array Value) (below : List Frame) (meth : Method) (c : Code) (A : Nat → Prop) (ls : Array Slot), p.tables.exec = Jvm.exec → c.code = cc → c.maxLocals = maxL → meth.sig.returnType = ret → meth.locks = false → s.vm.findClass y.cls = some m.cls → meth.name = y.name → (∀ w ∈ lw_all, w.before args s = true) → va_P D vwCl w s.heap → va_D A w → va_S A s.heap s.heap [] → (∀ q, s.heap.size ≤ q → A q) → CX D yc e0 A s → lv_has ls maxL (lv_args 0 av) → (∀ x ∈ c.exceptionTable.toList, False) →
      W p l e rm s m args below meth c s.heap [] 0 0 (vx_MQ below (fun _ _ _ _ => False) (zk_X D A E0 w1) args s mc ms A) (F0 m 0 ls [])) :
    vx_Met l y (ws_ y cc maxL ret) rm (PR D yc e0 w sz av) (fun _ _ _ _ => False) (zk_X D (va_A w sz) E0 w1) mc ms (va_A w sz) := by
  refine vx_ofW (cc := cc) (maxL := maxL) (ret := ret) hy rfl ?_
  intro p e s m args below meth c s₁ B hml hnx hv
  obtain ⟨rfl, hsz, hP, hD0, hC⟩ := hv
  subst hsz
  have hts := atoms_spec (ws := ws_ y cc maxL ret) B.pre
  rw [lg_entry_eq]
  exact body p e s m _ below meth c _ _ B.exec B.bytes hml B.returns B.notSynchronized (findClass_of_methodNamed B.named) (name_of_methodNamed B.named B.method).1 (fun w h => hts w (List.mem_cons_of_mem _ h)) hP (hD0.self) va_S.rf (fun q h => Or.inr h) hC (lv_entry av hav) hnx
/-- .. of a method with handlers -/
theorem zk_MW {l : Launch} {y : MethodName} {cc : ByteArray} {maxL : Nat} {ret : Option FieldType} {hh : List (Nat × Nat × Nat × Nat)} {rm : Room} {D : va_G} {yc : Nat → ClassId} {e0 sz : Nat} {w : va_W} {av : List Value} {Qc : (Nat → Prop) → Array Value → State → Outcome → State → Prop} {mc ms : Nat} (hy : plainName y.cls = true) (hav : (lg_sl av).length ≤ maxL)
    (body : ∀ (p : Program) (e : Env) (s : State) (m : MethodId) (args : Array Value) (below : List Frame) (meth : Method) (c : Code) (A : Nat → Prop) (ls : Array Slot), p.tables.exec = Jvm.exec → c.code = cc → c.maxLocals = maxL → meth.sig.returnType = ret → meth.locks = false → s.vm.findClass y.cls = some m.cls → (∀ w ∈ lw_all, w.before args s = true) → va_P D vwCl w s.heap → va_D A w → va_S A s.heap s.heap [] → (∀ q, s.heap.size ≤ q → A q) → CX D yc e0 A s → lv_has ls maxL (lv_args 0 av) → c.exceptionTable.toList = tableOf hh →
      W p l e rm s m args below meth c s.heap [] 0 0 (MQ below (Qc A) args s mc ms A) (F0 m 0 ls [])) :
    Met l y (ww_ y cc maxL ret hh) rm (PR D yc e0 w sz av) (Qc (va_A w sz)) mc ms (va_A w sz) := by
  refine va_MetW (cc := cc) (maxL := maxL) (ret := ret) hy rfl ?_
  intro p e s m args below meth c s₁ B hml hv
  obtain ⟨rfl, hsz, hP, hD0, hC⟩ := hv
  subst hsz
  have hts := atoms_spec (ws := ww_ y cc maxL ret hh) B.pre
  rw [lg_entry_eq]
  exact body p e s m _ below meth c _ _ B.exec B.bytes hml B.returns B.notSynchronized (findClass_of_methodNamed B.named) (fun w h => hts w (List.mem_cons_of_mem _ h)) hP (hD0.self) va_S.rf (fun q h => Or.inr h) hC (lv_entry av hav) (vx_table (x := y) B (hts _ List.mem_cons_self))
-- throwing, leaving, arrays of arrays
theorem zk_hat {args : Array Value} {s : State} {L : List Cond} (hts : ∀ w ∈ lw_all, w.before args s = true) (hN : zk_N s) (h : ∀ w ∈ L, w ∈ lw_tbl ∧ (goodWord w || (zk_n w && w.onTables)) = true) : ∀ w ∈ L, w.before args s = true := by
  intro w hw
  obtain ⟨h1, h2⟩ := h w hw
  rcases Bool.or_eq_true_iff.mp h2 with g | g
  · exact hts w (lw_in h1 g)
  · have g2 := (Bool.and_eq_true _ _).mp g
    exact zk_tab g2.2 (hN w h1 g2.1)
theorem zk_all {L : List Cond} (h : L.all (fun w => decide (w ∈ lw_tbl) && (goodWord w || (zk_n w && w.onTables))) = true) : ∀ w ∈ L, w ∈ lw_tbl ∧ (goodWord w || (zk_n w && w.onTables)) = true := by
  intro w hw
  have h1 := List.all_eq_true.mp h w hw
  simp only [Bool.and_eq_true, decide_eq_true_eq] at h1
  exact h1
theorem zk_thr {D : va_G} {A : Nat → Prop} {s : State} {H : Heap} {locs : List Loc} {ws : va_W} {E0 : String} {w1 : (Nat → Nat → Nat) → va_W} (hP : va_P D vwCl ws H) (hD : va_D A ws) (hS : va_S A s.heap H locs) (u : Nat → Nat → Nat) (is : List Nat) (hs : is.map (fun i => ws[i]?) = (w1 u).map some) (hn : va_nd is = true) :
    ∀ t : State, s.vm.Alike t.vm → H.size ≤ t.heap.size → (∀ q : Nat, q < H.size → t.heap[q]? = H[q]?) → zk_X D A E0 w1 E0 s t := by
  intro t _ hz hk
  have hP1 := zk_sub hP is hs
  exact ⟨u, trivial, ⟨rfl, hP1.kept (fun k q hq => hk q.1 ((hP1 k q hq).lt)), hD.sub is hn hs⟩, Nat.le_trans hS.1 hz, fun q h1 h2 => (hk q (Nat.lt_of_lt_of_le h1 hS.1)).trans (hS.2.1 q h1 h2)⟩
theorem zk_out {D : va_G} {A : Nat → Prop} {s : State} {H : Heap} {locs : List Loc} {ws : va_W} {E0 : String} {w1 : (Nat → Nat → Nat) → va_W} (hP : va_P D vwCl ws H) (hD : va_D A ws) (hS : va_S A s.heap H locs) (u : Nat → Nat → Nat) (is : List Nat) (hs : is.map (fun i => ws[i]?) = (w1 u).map some) (hn : va_nd is = true) :
    ∀ t : State, t.heap = H → s.vm.Alike t.vm → zk_X D A E0 w1 E0 s t := by
  intro t ht _
  exact ⟨u, trivial, ⟨rfl, by rw [ht]; exact zk_sub hP is hs, hD.sub is hn hs⟩, hS.F ht⟩
theorem zk_arrO {args : Array Value} {U : State} {c : ClassId} {C : String} (h : va_RA U c (.object C)) : (Cond.arrayClass (.object C)).before args U = true := by
  obtain ⟨kA, comp, h1, h2, h3, h4⟩ := h
  simp [Cond.before, Cond.holds, Cond.value, h4, h1, h2]
theorem zk_cy {D : va_G} {cl : List vw_C} {tys : List (ClassId × FieldType)} {U : State} {c : ClassId} {ty : FieldType} (h : va_K D cl tys U) (i : Nat) (hi : tys[i]? = some (c, ty)) : U.vm.findClass (FieldType.array ty).toString = some c := by
  have h2 := (h.2 i _ hi).2
  cases ty with
  | object C => exact h2.choose_spec.choose_spec.2.2.2
  | _ => exact h2
theorem zk_pool {r : Nat → Nat} {n : Nat} {f : Nat → va_E} {e : va_E} : va_pl ([] ++ (List.range n).map r) (vr_up f ((List.range n).map r) e) = (List.range n).map (fun i => (r i, e)) := by
  unfold va_pl
  rw [List.nil_append, List.map_map]
  apply List.map_congr_left
  intro a ha
  show (r a, vr_up f _ e (r a)) = (r a, e)
  rw [vr_up_in (List.mem_map.mpr ⟨a, ha, rfl⟩)]
section ZKA
variable {p : Program} {l : Launch} {e : Env} {R : Room} {s : State} {m : MethodId} {args : Array Value} {below : List Frame} {meth : Method} {c : Code} {H : Heap} {locs : List Loc} {cells slots : Nat} {Q : State → Prop}
variable {cc : ByteArray} {pc : Nat} {ls : Array Slot} {rest : List Value} {D : va_G} {cl : List vw_C} {A : Nat → Prop} {a : Nat} {tys : List (ClassId × FieldType)} {ws : va_W} {H0 : Heap}
theorem zk_mna (hexec : p.tables.exec = Jvm.exec) (hb : c.code = cc) {own : String} {index : Nat} {ty : FieldType} {cy : ClassId} (hown : s.vm.findClass own = some m.cls) (hclink : (Cond.classLink own index ("[" ++ (FieldType.array ty).toString)).before args s = true) (hover : (Cond.arrayOver (.array ty)).before #[] s = true) (i0 : Nat) (hi0 : tys[i0]? = some (cy, ty)) (harr : (Cond.arrayClass ty).before args s = true)
    (hK : va_K D cl tys s) (hP : va_P D cl ws H) (hD : va_D A ws) (hS : va_S A H0 H locs) (hA : ∀ q, H0.size ≤ q → A q) {n k : Int32} {N' K' : Nat} {z : vp_A} (hn : ¬ n < 0) (hk : ¬ k < 0) (hN : n.toNatClampNeg = N') (hM : k.toNatClampNeg = K')
    (hb1 : N' * 4 ≤ 536870912) (hb2 : K' * componentBytes ty ≤ 536870912) (hb3 : K' ≤ 536870912) (hdf : fits ty (defaultValue ty) = true) (hdd : (defaultValue ty).isDefault = true) (hcells : cells + (1 + N') ≤ R.cells) (hslots : slots + (N' + N' * K') ≤ R.slots) (hz : ∀ c : ClassId, Jvm.Free.Multi.innerC c K' (defaultValue ty) = vp_cell c z) (hdg : decode cc pc = .ok (.multianewarray index 2, 4))
    (kk : ∀ (q : Nat) (r : Nat → Nat) (cA : ClassId) (H1 : Heap), va_K D cl (tys ++ [(cA, .array ty)]) s →
      va_P D cl ((ws ++ [(q, .inl (cA, N', .inr (.inr (.inr (.inr (fun i => if i < N' then some (r i) else none))))))]) ++ (List.range N').map (fun i => (r i, .inl (cy, z)))) H1 → va_D A ((ws ++ [(q, .inl (cA, N', .inr (.inr (.inr (.inr (fun i => if i < N' then some (r i) else none))))))]) ++ (List.range N').map (fun i => (r i, .inl (cy, z)))) → va_S A H0 H1 locs →
      W p l e R s m args below meth c H1 locs (cells + 1 + N') (slots + N' + N' * K') Q (F0 m (pc + 4) ls (.ref q :: rest))) : W p l e R s m args below meth c H locs cells slots Q (F0 m pc ls (.int k :: .int n :: rest)) := by
  refine va_mna (X := ws) (L := []) (f := fun _ => .inr (0, [])) hexec hb hown hclink (show va_AOA ty s from hover) harr (zk_cy hK i0 hi0) hK (by show va_P D cl (ws ++ []) H; rw [List.append_nil]; exact hP) (by show va_D A (ws ++ []); rw [List.append_nil]; exact hD) hS hA hn hk hN hM hb1 hb2 hb3 hdf hdd hcells hslots hz hdg (fun q r cA H1 _ _ hK1 hP1 hD1 hS1 => ?_)
  rw [zk_pool] at hP1 hD1
  exact kk q r cA H1 hK1 hP1 hD1 hS1
theorem va_aldqA (hexec : p.tables.exec = Jvm.exec) (hb : c.code = cc) (hK : va_K D cl tys s) (hP : va_P D cl ws H) (q0 t0 : Nat) {cA : ClassId} {C : FieldType} {n : Nat} {f : Nat → Option Nat} (ha : ws[q0]? = some (a, .inl (cA, n, .inr (.inr (.inr (.inr f)))))) (ht : tys[t0]? = some (cA, .array C)) {i : Int32} (hin : vp_in i n) (hdg : decode cc pc = .ok (.aaload, 1))
    (kk : W p l e R s m args below meth c H locs cells slots Q (F0 m (pc + 1) ls (va_rf (f i.toNatClampNeg) :: rest))) : W p l e R s m args below meth c H locs cells slots Q (F0 m pc ls (.int i :: .ref a :: rest)) := by
  have hlt : i.toNatClampNeg < n := Nat.not_le.mp fun q => hin (Or.inr q)
  exact W.aald (v := va_rf (f i.toNatClampNeg)) (ty := .array C) hexec hb (hP q0 _ ha) ((hK.2 t0 _ ht).1 n (fun j => va_rf (f j))) rfl (fun q => by cases q) (by show ¬ (i < 0 ∨ (arrV _ _ _).slots.size ≤ _); rw [arrV_size]; exact hin) (by show (arrV _ _ _).slots[_]? = _; rw [arrV_read _ _ hlt]) rfl rfl hdg kk
end ZKA
