/-! ===== one list of words for all methods; the context that every contract carries; calls and ends, packed ===== -/
def lw_all : List Cond := lw_tbl.filter goodWord
theorem lw_in {w : Cond} (h : w ∈ lw_tbl) (g : goodWord w = true) : w ∈ lw_all := List.mem_filter.mpr ⟨h, g⟩
theorem lw_tb {w : Cond} (h : w ∈ tables_1) : w ∈ lw_tbl := List.mem_append_right _ h
theorem lw_ps {w : Cond} (h : w ∈ k2_sels lw_privs) : w ∈ lw_tbl := List.mem_append_left _ h
theorem lw_all_tbl {w : Cond} (h : w ∈ lw_all) : w ∈ lw_tbl := (List.mem_filter.mp h).1
theorem lw_good {w : Cond} (h : w ∈ lw_all) : w ∈ lw_all ∧ ((w.onTables && w.keeps) = true ∨ ∃ ty, w = .arrayClass ty) := ⟨h, good_of_word (List.mem_filter.mp h).2⟩
abbrev ws_ (y : MethodName) (c : ByteArray) (n : Nat) (r : Option FieldType) : List Cond := Cond.code y c n r :: lw_all
theorem lw_C {w : Cond} (h : w ∈ lw_all) : GoodIn lw_all (w :: lw_all) := fun w' hw => (List.mem_cons.mp hw).elim (fun e => by rw [e]; exact lw_good h) (fun h' => lw_good h')
theorem lw_app {l : List Cond} {w : Cond} (hl : ∀ w' ∈ l, w' ∈ lw_all) (h : w ∈ lw_all) : GoodIn lw_all (l ++ (w :: lw_all)) := fun w' hw => (List.mem_append.mp hw).elim (fun h' => lw_good (hl w' h')) (fun h' => lw_C h w' h')
theorem lw_V {own C : String} {i : Nat} {y : MethodName} {w : Cond} (h1 : Cond.methodLink own i y ∈ lw_all) (h2 : Cond.instanceMethod y ∈ lw_all) (h3 : Cond.selects C y y ∈ lw_all) (h4 : Cond.initialized C ∈ lw_all) (h : w ∈ lw_all) : GoodIn lw_all (wsV own i C y (w :: lw_all)) :=
  lw_app (List.forall_mem_cons.mpr ⟨h1, List.forall_mem_cons.mpr ⟨h2, List.forall_mem_cons.mpr ⟨h3, List.forall_mem_cons.mpr ⟨h4, fun _ h => absurd h List.not_mem_nil⟩⟩⟩⟩) h
theorem lw_S {own : String} {i : Nat} {y : MethodName} {w : Cond} (h1 : Cond.methodLink own i y ∈ lw_all) (h2 : Cond.static y ∈ lw_all) (h3 : Cond.initialized y.cls ∈ lw_all) (h : w ∈ lw_all) : GoodIn lw_all (va_wsS own i y (w :: lw_all)) :=
  lw_app (List.forall_mem_cons.mpr ⟨h1, List.forall_mem_cons.mpr ⟨h2, List.forall_mem_cons.mpr ⟨h3, fun _ h => absurd h List.not_mem_nil⟩⟩⟩) h
-- the words that aren't good, but stay: nest mates' links, castable, declares, arrayOver
def zk_n (w : Cond) : Bool := match w with
  | .fieldLinkNest .. => true
  | .methodLinkNest .. => true
  | .castable .. => true
  | .declares _ => true
  | .arrayOver _ => true
  | _ => false
def zk_N (U : State) : Prop := ∀ w ∈ lw_tbl, zk_n w = true → w.before #[] U = true
theorem zk_over {ty : FieldType} {s U : State} (hW : s.WarmedH U.vm) (h : (Cond.arrayOver ty).before #[] s = true) : (Cond.arrayOver ty).before #[] U = true := by
  have h2 : (Cond.arrayOver ty).before #[] (s.setVm U.vm) = true := by rw [Cond.arrayOver_setVmC hW.alike ty]; exact h
  exact h2
theorem zk_N.warm {s U : State} (hW : s.WarmedH U.vm) (h : zk_N s) : zk_N U := by
  intro w hw hz
  have h0 := h w hw hz
  cases w with
  | fieldLinkNest a i b n d hh => exact va_Nw.warmF hW h0
  | methodLinkNest a i x hh => exact va_Nw.warmM hW h0
  | castable C T => exact va_Nw.warmC hW h0
  | declares x => exact va_Nw.warmD hW h0
  | arrayOver ty => exact zk_over hW h0
  | _ => exact (Bool.false_ne_true hz).elim
theorem zk_tab {w : Cond} (hw : w.onTables = true) {s : State} {A : Array Value} (h : w.before #[] s = true) : w.before A s = true := va_tabs hw rfl h
-- the array classes, by their places in yT
abbrev yT (y : Nat → ClassId) : List (ClassId × FieldType) := [(y 0, .int), (y 1, .long), (y 2, .object "java/lang/Object")]
theorem zk_same {D : va_G} {cl : List vw_C} {tys : List (ClassId × FieldType)} {U : State} {c1 c2 : ClassId} {ty : FieldType} (h : va_K D cl tys U) (i j : Nat) (hi : tys[i]? = some (c1, ty)) (hj : tys[j]? = some (c2, ty)) : c1 = c2 := by
  have h1 := (h.2 i _ hi).2
  have h2 := (h.2 j _ hj).2
  cases ty with
  | object C =>
    obtain ⟨_, _, _, _, _, e1⟩ := h1
    obtain ⟨_, _, _, _, _, e2⟩ := h2
    exact Option.some.inj (e1.symm.trans e2)
  | _ =>
    have e1 : U.vm.findClass _ = some c1 := h1
    have e2 : U.vm.findClass _ = some c2 := h2
    exact Option.some.inj (e1.symm.trans e2)
/-- what every contract knows of its start: the classes, the words that stay, the empty lists' shared array; A: what the method may change -/
def CX (D : va_G) (y : Nat → ClassId) (e0 : Nat) (A : Nat → Prop) (U : State) : Prop :=
  va_K D vwCl (yT y) U ∧ zk_N U ∧ va_Z "java/util/ArrayList" "DEFAULTCAPACITY_EMPTY_ELEMENTDATA" "[Ljava/lang/Object;" (.ref e0) A U U.heap ∧ va_T (.object "java/lang/Object") e0 0 (fun _ => .null) A U U.heap ∧ ∃ mi : Nat, va_Mi "[Ljava/lang/Object;" mi U
theorem CX.go {D : va_G} {y : Nat → ClassId} {e0 : Nat} {A B : Nat → Prop} {s U : State} {H : Heap} {locs : List Loc} (h : CX D y e0 A s) (hS : va_S A s.heap H locs) (hB : ∀ q, B q → A q) (hU : U.heap = H) (hW : s.WarmedH U.vm) : CX D y e0 B U := by
  obtain ⟨h1, h2, h6, h7, mi, h8⟩ := h
  rw [← hU] at hS
  refine ⟨va_K.moved hW.alike h1, zk_N.warm hW h2, ?_, ?_, mi, h8.moved hW.alike⟩
  · exact ((h6.kept hS.2.1).moved hW.alike).narrow hB
  · exact ((h7.kept hS.2.1).moved hW.alike).narrow hB
theorem CX.calling {D : va_G} {y : Nat → ClassId} {e0 : Nat} {A : Nat → Prop} {U : State} (g : JFrame) (mk : MethodId) (a : Array Value) (h : CX D y e0 A U) : CX D y e0 A (U.calling g mk a) := by
  have hv : (U.calling g mk a).vm = U.vm := rfl
  have hW : U.WarmedH (U.calling g mk a).vm := by rw [hv]; exact State.WarmedH.refl U
  have hU : (U.calling g mk a).heap = U.heap := rfl
  exact h.go (H := U.heap) (locs := []) va_S.rf (fun _ h => h) hU hW
theorem CX.narrow {D : va_G} {y : Nat → ClassId} {e0 : Nat} {A B : Nat → Prop} {U : State} (hB : ∀ q, B q → A q) (h : CX D y e0 A U) : CX D y e0 B U := by
  obtain ⟨h1, h2, h6, h7, mi, h8⟩ := h
  exact ⟨h1, h2, h6.narrow hB, h7.narrow hB, mi, h8⟩
/-- a contract's start: the arguments, the world ws, the context -/
def PR (D : va_G) (y : Nat → ClassId) (e0 : Nat) (ws : va_W) (sz : Nat) (av : List Value) : Array Value → State → Prop := va_Pc av (fun U => U.heap.size = sz ∧ va_P D vwCl ws U.heap ∧ va_D (fun _ => True) ws ∧ CX D y e0 (va_A ws sz) U)
theorem PR.blind {D : va_G} {y : Nat → ClassId} {e0 : Nat} {ws : va_W} {sz : Nat} {av : List Value} : FrameBlind (PR D y e0 ws sz av) := fun a U g mk q => by
  obtain ⟨q0, q1, qP, qD, qC⟩ := q
  exact ⟨q0, q1, qP, qD, CX.calling g mk a qC⟩
/-- the world behind a method; u: the cells that it made -/
abbrev WD (D : va_G) (A : Nat → Prop) (w : (Nat → Nat → Nat) → va_W) (u : Nat → Nat → Nat) (t : State) : Prop := va_P D vwCl (w u) t.heap ∧ va_D A (w u)
theorem zk_sub {D : va_G} {cl : List vw_C} {ws wc : va_W} {H : Heap} (h : va_P D cl ws H) (is : List Nat) (hs : is.map (fun i => ws[i]?) = wc.map some) : va_P D cl wc H := by
  intro k q hk
  have h1 : (is.map (fun i => ws[i]?))[k]? = some (some q) := by rw [hs, List.getElem?_map, hk]; rfl
  rw [List.getElem?_map] at h1
  cases hi : is[k]? with
  | none => rw [hi] at h1; cases h1
  | some i => rw [hi] at h1; exact h i q (Option.some.inj h1)
section ZKC
variable {p : Program} {l : Launch} {e : Env} {R : Room} {s : State} {m : MethodId} {args : Array Value} {below : List Frame} {meth : Method} {c : Code} {H : Heap} {locs : List Loc} {cells slots : Nat} {Q : State → Prop}
variable {D : va_G} {y : Nat → ClassId} {e0 : Nat} {A : Nat → Prop} {ws wc wr : va_W} {As rest st0 : List Value} {mc ms pc : Nat} {ls : Array Slot} {a : Array Value}
theorem zk_pS (hC : CX D y e0 A s) (hP : va_P D vwCl ws H) (hD : va_D A ws) (hS : va_S A s.heap H locs) (hA : ∀ q, s.heap.size ≤ q → A q) (is : List Nat) (hc : is.map (fun i => ws[i]?) = wc.map some) (hn : va_nd is = true) : PreS s H (PR D y e0 wc H.size As) As :=
  ⟨PR.blind, fun U hU hW => ⟨rfl, by rw [hU], by rw [hU]; exact zk_sub hP is hc, (hD.sub is hn hc).weaken (fun _ _ _ _ => trivial), hC.go hS (va_free hD hS hA is hc) hU hW⟩⟩
theorem zk_pV {C : String} {b : Addr} (hC : CX D y e0 A s) (hP : va_P D vwCl ws H) (hD : va_D A ws) (hS : va_S A s.heap H locs) (hA : ∀ q, s.heap.size ≤ q → A q) (is : List Nat) (hc : is.map (fun i => ws[i]?) = wc.map some) (hn : va_nd is = true) (q0 ci : Nat) {fs : List Value} {T : u_T} {N : Nat} (he : ws[q0]? = some (b, .inr (ci, fs))) (hci : vwCl[ci]? = some (C, T, N)) : PreV s H C b (PR D y e0 wc H.size (.ref b :: As)) As :=
  ⟨PR.blind, va_recv hC.1 hP hci he, fun U hU hW => ⟨rfl, by rw [hU], by rw [hU]; exact zk_sub hP is hc, (hD.sub is hn hc).weaken (fun _ _ _ _ => trivial), hC.go hS (va_free hD hS hA is hc) hU hW⟩⟩
/-- the worlds put together behind a call -/
theorem zk_jn {w1 : va_W} {H1 : Heap} (hP : va_P D vwCl ws H) (hD : va_D A ws) (hS : va_S A s.heap H locs) (hA : ∀ q, s.heap.size ≤ q → A q) (is js : List Nat) (hc : is.map (fun i => ws[i]?) = wc.map some) (hr : js.map (fun i => ws[i]?) = wr.map some) (hn : va_nd js = true) (hdis : ∀ i ∈ js, i ∉ is)
    (hk : ∀ q : Nat, q < H.size → ¬ va_A wc H.size q → H1[q]? = H[q]?) (hP1 : va_P D vwCl w1 H1) (hD1 : va_D (va_A wc H.size) w1) : va_P D vwCl (wr ++ w1) H1 ∧ va_D A (wr ++ w1) :=
  va_join hP hD is js hc hr hn hdis hk (va_free hD hS hA is hc) hP1 hD1
theorem zk_i {r0 : (Nat → Nat → Nat) → Int32} {w1 : (Nat → Nat → Nat) → va_W} (hr : va_Run p l e R s m args below meth c H locs cells slots mc ms (F0 m pc ls st0) rest (va_Qi (fun r u => r = r0 u) (WD D (va_A wc H.size) w1) (va_A wc H.size) a) (va_A wc H.size))
    (hP : va_P D vwCl ws H) (hD : va_D A ws) (hS : va_S A s.heap H locs) (hA : ∀ q, s.heap.size ≤ q → A q) (is js : List Nat) (hc : is.map (fun i => ws[i]?) = wc.map some) (hj : js.map (fun i => ws[i]?) = wr.map some) (hn : va_nd js = true) (hdis : ∀ i ∈ js, i ∉ is)
    (kk : ∀ (u : Nat → Nat → Nat) (H1 : Heap) (locs1 : List Loc), va_P D vwCl (wr ++ w1 u) H1 → va_D A (wr ++ w1 u) → va_S A s.heap H1 locs1 → W p l e R s m args below meth c H1 locs1 (cells + mc) (slots + ms) Q (F0 m (pc + 3) ls (.int (r0 u) :: rest))) : W p l e R s m args below meth c H locs cells slots Q (F0 m pc ls st0) := by
  have hF := va_free hD hS hA is hc
  refine va_calli hr hS (fun q _ h => hF q h) hF (fun r u t H1 locs1 ht hvm hw hB hz1 hk1 hS1 => ?_)
  obtain ⟨hP1, hD1⟩ := hB
  rw [ht] at hP1
  obtain ⟨h1, h2⟩ := zk_jn hP hD hS hA is js hc hj hn hdis hk1 hP1 hD1
  rw [show r = r0 u from hw]
  exact kk u H1 locs1 h1 h2 hS1
theorem zk_l {r0 : (Nat → Nat → Nat) → Int64} {w1 : (Nat → Nat → Nat) → va_W} (hr : va_Run p l e R s m args below meth c H locs cells slots mc ms (F0 m pc ls st0) rest (va_Ql (fun r u => r = r0 u) (WD D (va_A wc H.size) w1) (va_A wc H.size) a) (va_A wc H.size))
    (hP : va_P D vwCl ws H) (hD : va_D A ws) (hS : va_S A s.heap H locs) (hA : ∀ q, s.heap.size ≤ q → A q) (is js : List Nat) (hc : is.map (fun i => ws[i]?) = wc.map some) (hj : js.map (fun i => ws[i]?) = wr.map some) (hn : va_nd js = true) (hdis : ∀ i ∈ js, i ∉ is)
    (kk : ∀ (u : Nat → Nat → Nat) (H1 : Heap) (locs1 : List Loc), va_P D vwCl (wr ++ w1 u) H1 → va_D A (wr ++ w1 u) → va_S A s.heap H1 locs1 → W p l e R s m args below meth c H1 locs1 (cells + mc) (slots + ms) Q (F0 m (pc + 3) ls (.long (r0 u) :: rest))) : W p l e R s m args below meth c H locs cells slots Q (F0 m pc ls st0) := by
  have hF := va_free hD hS hA is hc
  refine va_calll hr hS (fun q _ h => hF q h) hF (fun r u t H1 locs1 ht hvm hw hB hz1 hk1 hS1 => ?_)
  obtain ⟨hP1, hD1⟩ := hB
  rw [ht] at hP1
  obtain ⟨h1, h2⟩ := zk_jn hP hD hS hA is js hc hj hn hdis hk1 hP1 hD1
  rw [show r = r0 u from hw]
  exact kk u H1 locs1 h1 h2 hS1
theorem zk_d {r0 : (Nat → Nat → Nat) → UInt64} {w1 : (Nat → Nat → Nat) → va_W} (hr : va_Run p l e R s m args below meth c H locs cells slots mc ms (F0 m pc ls st0) rest (va_Qd (fun r u => r = r0 u) (WD D (va_A wc H.size) w1) (va_A wc H.size) a) (va_A wc H.size))
    (hP : va_P D vwCl ws H) (hD : va_D A ws) (hS : va_S A s.heap H locs) (hA : ∀ q, s.heap.size ≤ q → A q) (is js : List Nat) (hc : is.map (fun i => ws[i]?) = wc.map some) (hj : js.map (fun i => ws[i]?) = wr.map some) (hn : va_nd js = true) (hdis : ∀ i ∈ js, i ∉ is)
    (kk : ∀ (u : Nat → Nat → Nat) (H1 : Heap) (locs1 : List Loc), va_P D vwCl (wr ++ w1 u) H1 → va_D A (wr ++ w1 u) → va_S A s.heap H1 locs1 → W p l e R s m args below meth c H1 locs1 (cells + mc) (slots + ms) Q (F0 m (pc + 3) ls (.double (r0 u) :: rest))) : W p l e R s m args below meth c H locs cells slots Q (F0 m pc ls st0) := by
  have hF := va_free hD hS hA is hc
  refine va_calld hr hS (fun q _ h => hF q h) hF (fun r u t H1 locs1 ht hvm hw hB hz1 hk1 hS1 => ?_)
  obtain ⟨hP1, hD1⟩ := hB
  rw [ht] at hP1
  obtain ⟨h1, h2⟩ := zk_jn hP hD hS hA is js hc hj hn hdis hk1 hP1 hD1
  rw [show r = r0 u from hw]
  exact kk u H1 locs1 h1 h2 hS1
theorem zk_q {r0 : (Nat → Nat → Nat) → Option Nat} {w1 : (Nat → Nat → Nat) → va_W} (hr : va_Run p l e R s m args below meth c H locs cells slots mc ms (F0 m pc ls st0) rest (va_Qq (fun r u => r = r0 u) (WD D (va_A wc H.size) w1) (va_A wc H.size) a) (va_A wc H.size))
    (hP : va_P D vwCl ws H) (hD : va_D A ws) (hS : va_S A s.heap H locs) (hA : ∀ q, s.heap.size ≤ q → A q) (is js : List Nat) (hc : is.map (fun i => ws[i]?) = wc.map some) (hj : js.map (fun i => ws[i]?) = wr.map some) (hn : va_nd js = true) (hdis : ∀ i ∈ js, i ∉ is)
    (kk : ∀ (u : Nat → Nat → Nat) (H1 : Heap) (locs1 : List Loc), va_P D vwCl (wr ++ w1 u) H1 → va_D A (wr ++ w1 u) → va_S A s.heap H1 locs1 → W p l e R s m args below meth c H1 locs1 (cells + mc) (slots + ms) Q (F0 m (pc + 3) ls (va_rf (r0 u) :: rest))) : W p l e R s m args below meth c H locs cells slots Q (F0 m pc ls st0) := by
  have hF := va_free hD hS hA is hc
  refine va_callq hr hS (fun q _ h => hF q h) hF (fun r u t H1 locs1 ht hvm hw hB hz1 hk1 hS1 => ?_)
  obtain ⟨hP1, hD1⟩ := hB
  rw [ht] at hP1
  obtain ⟨h1, h2⟩ := zk_jn hP hD hS hA is js hc hj hn hdis hk1 hP1 hD1
  rw [show r = r0 u from hw]
  exact kk u H1 locs1 h1 h2 hS1
theorem zk_v {w1 : (Nat → Nat → Nat) → va_W} (hr : va_Run p l e R s m args below meth c H locs cells slots mc ms (F0 m pc ls st0) rest (va_Qv (fun _ => True) (WD D (va_A wc H.size) w1) (va_A wc H.size) a) (va_A wc H.size))
    (hP : va_P D vwCl ws H) (hD : va_D A ws) (hS : va_S A s.heap H locs) (hA : ∀ q, s.heap.size ≤ q → A q) (is js : List Nat) (hc : is.map (fun i => ws[i]?) = wc.map some) (hj : js.map (fun i => ws[i]?) = wr.map some) (hn : va_nd js = true) (hdis : ∀ i ∈ js, i ∉ is)
    (kk : ∀ (u : Nat → Nat → Nat) (H1 : Heap) (locs1 : List Loc), va_P D vwCl (wr ++ w1 u) H1 → va_D A (wr ++ w1 u) → va_S A s.heap H1 locs1 → W p l e R s m args below meth c H1 locs1 (cells + mc) (slots + ms) Q (F0 m (pc + 3) ls rest)) : W p l e R s m args below meth c H locs cells slots Q (F0 m pc ls st0) := by
  have hF := va_free hD hS hA is hc
  refine va_callv hr hS (fun q _ h => hF q h) hF (fun u t H1 locs1 ht hvm hw hB hz1 hk1 hS1 => ?_)
  obtain ⟨hP1, hD1⟩ := hB
  rw [ht] at hP1
  obtain ⟨h1, h2⟩ := zk_jn hP hD hS hA is js hc hj hn hdis hk1 hP1 hD1
  exact kk u H1 locs1 h1 h2 hS1
-- known numbers on top of the stack
theorem zk_ti {x y : Int32} (h : x = y) (k : W p l e R s m args below meth c H locs cells slots Q (F0 m pc ls (.int y :: rest))) : W p l e R s m args below meth c H locs cells slots Q (F0 m pc ls (.int x :: rest)) := by rw [h]; exact k
theorem zk_tl {x y : Int64} (h : x = y) (k : W p l e R s m args below meth c H locs cells slots Q (F0 m pc ls (.long y :: rest))) : W p l e R s m args below meth c H locs cells slots Q (F0 m pc ls (.long x :: rest)) := by rw [h]; exact k
theorem zk_tv {x y : Value} (h : x = y) (k : W p l e R s m args below meth c H locs cells slots Q (F0 m pc ls (y :: rest))) : W p l e R s m args below meth c H locs cells slots Q (F0 m pc ls (x :: rest)) := by rw [h]; exact k
-- ends
theorem zk_ri {cc : ByteArray} {r0 : (Nat → Nat → Nat) → Int32} {w1 : (Nat → Nat → Nat) → va_W} {v : Int32} {ty : FieldType} (hx : p.tables.exec = Jvm.exec) (hb : c.code = cc) (hr : meth.sig.returnType = some ty) (hlocks : meth.locks = false) (hP : va_P D vwCl ws H) (hD : va_D A ws) (hS : va_S A s.heap H locs) (u : Nat → Nat → Nat) (hn0 : narrow ty (.int v) = .int v) (hv : v = r0 u) (is : List Nat) (hs : is.map (fun i => ws[i]?) = (w1 u).map some) (hn : va_nd is = true) (h1 : cells ≤ mc) (h2 : slots ≤ ms) (hdg : decode cc pc = .ok (.ireturn, 1)) :
    W p l e R s m args below meth c H locs cells slots (MQ below (va_Qi (fun r u => r = r0 u) (WD D A w1) A) args s mc ms A) (F0 m pc ls [.int v]) :=
  W.widen h1 h2 (W.zret hx hb hr hn0 (fun t ht hW => ⟨⟨v, u, rfl, hv, by rw [ht]; exact zk_sub hP is hs, hD.sub is hn hs⟩, hS.F ht⟩) hS.2.2 hdg hlocks)
theorem zk_rl {cc : ByteArray} {r0 : (Nat → Nat → Nat) → Int64} {w1 : (Nat → Nat → Nat) → va_W} {v : Int64} (hx : p.tables.exec = Jvm.exec) (hb : c.code = cc) (hr : meth.sig.returnType = some .long) (hlocks : meth.locks = false) (hP : va_P D vwCl ws H) (hD : va_D A ws) (hS : va_S A s.heap H locs) (u : Nat → Nat → Nat) (hv : v = r0 u) (is : List Nat) (hs : is.map (fun i => ws[i]?) = (w1 u).map some) (hn : va_nd is = true) (h1 : cells ≤ mc) (h2 : slots ≤ ms) (hdg : decode cc pc = .ok (.lreturn, 1)) :
    W p l e R s m args below meth c H locs cells slots (MQ below (va_Ql (fun r u => r = r0 u) (WD D A w1) A) args s mc ms A) (F0 m pc ls [.long v]) :=
  W.widen h1 h2 (W.lret hx hb hr (fun t ht hW => ⟨⟨v, u, rfl, hv, by rw [ht]; exact zk_sub hP is hs, hD.sub is hn hs⟩, hS.F ht⟩) hS.2.2 hdg hlocks)
theorem zk_rd {cc : ByteArray} {r0 : (Nat → Nat → Nat) → UInt64} {w1 : (Nat → Nat → Nat) → va_W} {v : UInt64} (hx : p.tables.exec = Jvm.exec) (hb : c.code = cc) (hr : meth.sig.returnType = some .double) (hlocks : meth.locks = false) (hP : va_P D vwCl ws H) (hD : va_D A ws) (hS : va_S A s.heap H locs) (u : Nat → Nat → Nat) (hv : v = r0 u) (is : List Nat) (hs : is.map (fun i => ws[i]?) = (w1 u).map some) (hn : va_nd is = true) (h1 : cells ≤ mc) (h2 : slots ≤ ms) (hdg : decode cc pc = .ok (.dreturn, 1)) :
    W p l e R s m args below meth c H locs cells slots (MQ below (va_Qd (fun r u => r = r0 u) (WD D A w1) A) args s mc ms A) (F0 m pc ls [.double v]) :=
  W.widen h1 h2 (W.dret hx hb hr (fun t ht hW => ⟨⟨v, u, rfl, hv, by rw [ht]; exact zk_sub hP is hs, hD.sub is hn hs⟩, hS.F ht⟩) hS.2.2 hdg hlocks)
theorem zk_rq {cc : ByteArray} {r0 : (Nat → Nat → Nat) → Option Nat} {w1 : (Nat → Nat → Nat) → va_W} {v : Value} {ty : FieldType} (hx : p.tables.exec = Jvm.exec) (hb : c.code = cc) (hr : meth.sig.returnType = some ty) (hty : (∃ n, ty = .object n) ∨ ∃ t, ty = .array t) (hlocks : meth.locks = false) (hP : va_P D vwCl ws H) (hD : va_D A ws) (hS : va_S A s.heap H locs) (u : Nat → Nat → Nat) (hv : v = va_rf (r0 u)) (is : List Nat) (hs : is.map (fun i => ws[i]?) = (w1 u).map some) (hn : va_nd is = true) (h1 : cells ≤ mc) (h2 : slots ≤ ms) (hdg : decode cc pc = .ok (.areturn, 1)) :
    W p l e R s m args below meth c H locs cells slots (MQ below (va_Qq (fun r u => r = r0 u) (WD D A w1) A) args s mc ms A) (F0 m pc ls [v]) :=
  W.widen h1 h2 (W.aret hx hb hr hty (by rw [hv]; cases r0 u with | none => exact Or.inl rfl | some z => exact Or.inr ⟨z, rfl⟩) (fun t ht hW => ⟨⟨r0 u, u, by rw [hv], rfl, by rw [ht]; exact zk_sub hP is hs, hD.sub is hn hs⟩, hS.F ht⟩) hS.2.2 hdg hlocks)
theorem zk_rv {cc : ByteArray} {w1 : (Nat → Nat → Nat) → va_W} (hx : p.tables.exec = Jvm.exec) (hb : c.code = cc) (hr : meth.sig.returnType = none) (hlocks : meth.locks = false) (hP : va_P D vwCl ws H) (hD : va_D A ws) (hS : va_S A s.heap H locs) (u : Nat → Nat → Nat) (is : List Nat) (hs : is.map (fun i => ws[i]?) = (w1 u).map some) (hn : va_nd is = true) (h1 : cells ≤ mc) (h2 : slots ≤ ms) (hdg : decode cc pc = .ok (.return_, 1)) :
    W p l e R s m args below meth c H locs cells slots (MQ below (va_Qv (fun _ => True) (WD D A w1) A) args s mc ms A) (F0 m pc ls []) :=
  W.widen h1 h2 (W.vret hx hb hr (fun t ht hW => ⟨⟨u, rfl, trivial, by rw [ht]; exact zk_sub hP is hs, hD.sub is hn hs⟩, hS.F ht⟩) hS.2.2 hdg hlocks)
end ZKC
/-- a contract from the walk of its body -/
theorem zk_M {l : Launch} {y : MethodName} {cc : ByteArray} {maxL : Nat} {ret : Option FieldType} {rm : Room} {D : va_G} {yc : Nat → ClassId} {e0 sz : Nat} {w : va_W} {av : List Value} {Qc : (Nat → Prop) → Array Value → State → Outcome → State → Prop} {mc ms : Nat} (hy : plainName y.cls = true) (hav : (lg_sl av).length ≤ maxL)
    (body : ∀ (p : Program) (e : Env) (s : State) (m : MethodId) (args : Array Value) (below : List Frame) (meth : Method) (c : Code) (A : Nat → Prop) (ls : Array Slot), p.tables.exec = Jvm.exec → c.code = cc → c.maxLocals = maxL → meth.sig.returnType = ret → meth.locks = false → s.vm.findClass y.cls = some m.cls → meth.name = y.name → (∀ w ∈ lw_all, w.before args s = true) → va_P D vwCl w s.heap → va_D A w → va_S A s.heap s.heap [] → (∀ q, s.heap.size ≤ q → A q) → CX D yc e0 A s → lv_has ls maxL (lv_args 0 av) →
      W p l e rm s m args below meth c s.heap [] 0 0 (MQ below (Qc A) args s mc ms A) (F0 m 0 ls [])) :
    Met l y (ws_ y cc maxL ret) rm (PR D yc e0 w sz av) (Qc (va_A w sz)) mc ms (va_A w sz) := by
  refine Met.ofW (cc := cc) (maxL := maxL) (ret := ret) hy rfl ?_
  intro p e s m args below meth c s₁ B hml hv
  obtain ⟨rfl, hsz, hP, hD0, hC⟩ := hv
  subst hsz
  have hts := atoms_spec (ws := ws_ y cc maxL ret) B.pre
  rw [lg_entry_eq]
  exact body p e s m _ below meth c _ _ B.exec B.bytes hml B.returns B.notSynchronized (findClass_of_methodNamed B.named) (name_of_methodNamed B.named B.method).1 (fun w h => hts w (List.mem_cons_of_mem _ h)) hP (hD0.self) va_S.rf (fun q h => Or.inr h) hC (lv_entry av hav)
