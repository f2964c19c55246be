/-! ===== lists of objects: what a growing list needs: the class object of Object[], the elements' cells ===== -/
def PE (D : va_G) (y : Nat → ClassId) (e0 : Nat) (ws : va_W) (sz ci n : Nat) (f : Nat → Option Nat) (mi : Nat) (av : List Value) : Array Value → State → Prop := va_Pc av (fun U => (U.heap.size = sz ∧ va_P D vwCl ws U.heap ∧ va_D (fun _ => True) ws ∧ CX D y e0 (va_A ws sz) U) ∧ va_Mi "[Ljava/lang/Object;" mi U ∧ ∀ i, i < n → ∀ z, f i = some z → ¬ va_A ws sz z ∧ ∃ fs, va_at D vwCl (z, .inr (ci, fs)) U.heap)
theorem PE.blind {D : va_G} {y : Nat → ClassId} {e0 : Nat} {ws : va_W} {sz ci n : Nat} {f : Nat → Option Nat} {mi : Nat} {av : List Value} : FrameBlind (PE D y e0 ws sz ci n f mi av) := fun a U g mk q => by
  obtain ⟨q0, ⟨q1, qP, qD, qC⟩, qM, qE⟩ := q
  exact ⟨q0, ⟨q1, qP, qD, CX.calling g mk a qC⟩, qM, qE⟩
section ZE
variable {p : Program} {l : Launch} {e : Env} {R : Room} {s : State} {m : MethodId} {args : Array Value} {below : List Frame} {meth : Method} {c : Code} {H : Heap} {locs : List Jvm.Loc} {cells slots : Nat} {Q : State → Prop}
variable {D : va_G} {y : Nat → ClassId} {e0 : Nat} {A : Nat → Prop} {ws wc wr : va_W} {As rest st0 : List Value} {mc ms pc : Nat} {ls : Array Slot} {a : Array Value}
theorem pe_el {ci n mi : Nat} {f : Nat → Option Nat} {is : List Nat} (hD : va_D A ws) (hS : va_S A s.heap H locs) (hA : ∀ q, s.heap.size ≤ q → A q) (hc : is.map (fun i => ws[i]?) = wc.map some) (hE : ∀ i, i < n → ∀ z, f i = some z → ¬ A z ∧ ∃ fs, va_at D vwCl (z, .inr (ci, fs)) s.heap) : ∀ i, i < n → ∀ z, f i = some z → ¬ va_A wc H.size z ∧ ∃ fs, va_at D vwCl (z, .inr (ci, fs)) H := by
  intro i hi z hz
  obtain ⟨h1, fs, h2⟩ := hE i hi z hz
  have h3 : z < s.heap.size := Nat.lt_of_not_le (fun h => h1 (hA z h))
  exact ⟨fun h => h1 (va_free hD hS hA is hc z h), fs, h2.kept (hS.2.1 z h3 h1)⟩
theorem pe_S {ci n mi : Nat} {f : Nat → Option Nat} (hC : CX D y e0 A s) (hP : va_P D vwCl ws H) (hD : va_D A ws) (hS : va_S A s.heap H locs) (hA : ∀ q, s.heap.size ≤ q → A q) (hM : va_Mi "[Ljava/lang/Object;" mi s) (hE : ∀ i, i < n → ∀ z, f i = some z → ¬ A z ∧ ∃ fs, va_at D vwCl (z, .inr (ci, fs)) s.heap) (is : List Nat) (hc : is.map (fun i => ws[i]?) = wc.map some) (hn : va_nd is = true) : PreS s H (PE D y e0 wc H.size ci n f mi As) As :=
  ⟨PE.blind, fun U hU hW => ⟨rfl, ⟨by rw [hU], by rw [hU]; exact zk_sub hP is hc, (hD.sub is hn hc).weaken (fun _ _ _ _ => trivial), hC.go hS (va_free hD hS hA is hc) hU hW⟩, hM.moved hW.alike, by rw [hU]; exact pe_el (mi := mi) hD hS hA hc hE⟩⟩
theorem pe_V {ci n mi : Nat} {f : Nat → Option Nat} {C : String} {b : Addr} (hC : CX D y e0 A s) (hP : va_P D vwCl ws H) (hD : va_D A ws) (hS : va_S A s.heap H locs) (hA : ∀ q, s.heap.size ≤ q → A q) (hM : va_Mi "[Ljava/lang/Object;" mi s) (hE : ∀ i, i < n → ∀ z, f i = some z → ¬ A z ∧ ∃ fs, va_at D vwCl (z, .inr (ci, fs)) s.heap) (is : List Nat) (hc : is.map (fun i => ws[i]?) = wc.map some) (hn : va_nd is = true) (q0 cj : Nat) {fs : List Value} {T : u_T} {N : Nat} (he : ws[q0]? = some (b, .inr (cj, fs))) (hcj : vwCl[cj]? = some (C, T, N)) : PreV s H C b (PE D y e0 wc H.size ci n f mi (.ref b :: As)) As :=
  ⟨PE.blind, va_recv hC.1 hP hcj he, fun U hU hW => ⟨rfl, ⟨by rw [hU], by rw [hU]; exact zk_sub hP is hc, (hD.sub is hn hc).weaken (fun _ _ _ _ => trivial), hC.go hS (va_free hD hS hA is hc) hU hW⟩, hM.moved hW.alike, by rw [hU]; exact pe_el (mi := mi) hD hS hA hc hE⟩⟩
end ZE
theorem zk_ME {l : Launch} {y : MethodName} {cc : ByteArray} {maxL : Nat} {ret : Option FieldType} {rm : Room} {D : va_G} {yc : Nat → ClassId} {e0 sz ci n mi : Nat} {f : Nat → Option Nat} {w : va_W} {av : List Value} {Qc : (Nat → Prop) → Array Value → State → Outcome → State → Prop} {mc ms : Nat} (hy : plainName y.cls = true) (hav : (lg_sl av).length ≤ maxL)
    (body : ∀ (p : Program) (e : Env) (s : State) (m : MethodId) (args : Array Value) (below : List Frame) (meth : Method) (c : Code) (A : Nat → Prop) (ls : Array Slot), p.tables.exec = Jvm.exec → c.code = cc → c.maxLocals = maxL → meth.sig.returnType = ret → meth.locks = false → s.vm.findClass y.cls = some m.cls → (∀ w ∈ lw_all, w.before args s = true) → va_P D vwCl w s.heap → va_D A w → va_S A s.heap s.heap [] → (∀ q, s.heap.size ≤ q → A q) → CX D yc e0 A s → va_Mi "[Ljava/lang/Object;" mi s → (∀ i, i < n → ∀ z, f i = some z → ¬ A z ∧ ∃ fs, va_at D vwCl (z, .inr (ci, fs)) s.heap) → lv_has ls maxL (lv_args 0 av) →
      W p l e rm s m args below meth c s.heap [] 0 0 (MQ below (Qc A) args s mc ms A) (F0 m 0 ls [])) :
    Met l y (ws_ y cc maxL ret) rm (PE D yc e0 w sz ci n f mi av) (Qc (va_A w sz)) mc ms (va_A w sz) := by
  refine Met.ofW (cc := cc) (maxL := maxL) (ret := ret) hy rfl ?_
  intro p e s m args below meth c s₁ B hml hv
  obtain ⟨rfl, ⟨hsz, hP, hD0, hC⟩, hM, hE⟩ := hv
  subst hsz
  have hts := atoms_spec (ws := ws_ y cc maxL ret) B.pre
  rw [lg_entry_eq]
  exact body p e s m _ below meth c _ _ B.exec B.bytes hml B.returns B.notSynchronized (findClass_of_methodNamed B.named) (fun w h => hts w (List.mem_cons_of_mem _ h)) hP (hD0.self) va_S.rf (fun q h => Or.inr h) hC hM hE (lv_entry av hav)
def lgr (n : Nat) : Nat := n + (if 1 < n / 2 then n / 2 else 1)
theorem lgr_b {n : Nat} (h : n < 1024) : n < lgr n ∧ lgr n < 2048 := by
  unfold lgr
  split <;> omega
theorem lgr_i {n : Nat} (h : n < 1024) : nI n + (if nI 1 < nI (n / 2) then nI (n / 2) else nI 1) = nI (lgr n) := by
  unfold lgr
  by_cases c : 1 < n / 2
  · rw [if_pos (nI_lt c (by omega)), if_pos c, nI_add]
  · rw [if_neg (nI_nlt (by omega) (by decide)), if_neg c, nI_add]
theorem lshr {n : Nat} (h : n < 1024) : nI n >>> ((1 : Int32) &&& 31) = nI (n / 2) := by
  have k := pk_shrN (n := n) (by omega) ((1 : Int32) &&& 31) 1 (by decide)
  rw [Nat.pow_one] at k
  exact k
set_option maxHeartbeats 4000000 in
set_option maxRecDepth 100000 in
theorem ll_newLength (l : Launch) (n : Nat) (h1 : 1 ≤ n) (h2 : n < 1024) : Met l yJ8_newLength_cabcc (ws_ yJ8_newLength_cabcc cJ8_newLength_cabcc 4 (some .int)) { frames := 1, cells := 0, slots := 0, locals := 20 } (PN [.int (nI n), .int (nI 1), .int (nI (n / 2))]) (zQ (some (.int (nI (lgr n))))) 0 0 zno := by
  refine tk_N (by decide) (Nat.le_of_ble_eq_true rfl) ?_
  intro p e s m args below meth c ls hx hb hml hr hlk hown hts hl
  have hl : lv_has ls 4 [(0, .int (nI n)), (1, .int (nI 1)), (2, .int (nI (n / 2)))] := hl
  have hg := lgr_b h2
  refine lv_iload_n hx hb dJ8_newLength_cabcc_0 rfl (lv_at hl 0 rfl) ?_
  refine lv_iload_n hx hb dJ8_newLength_cabcc_1 rfl (lv_at hl 1 rfl) ?_
  refine lv_iload_n hx hb dJ8_newLength_cabcc_2 rfl (lv_at hl 2 rfl) ?_
  refine va_mmax hx hb (by rw [hml]; exact hl.1.symm) hown (hts _ wq970) (hts _ wq375) (hts _ wq14) (hts _ wq376) (Nat.le_of_ble_eq_true rfl) (Nat.le_of_ble_eq_true rfl) (Nat.le_of_ble_eq_true rfl) (Nat.le_of_ble_eq_true rfl) dJ8_newLength_cabcc_3 ?_
  refine lv_iadd hx hb dJ8_newLength_cabcc_6 ?_
  refine zk_ti (y := nI (lgr n)) (lgr_i h2) ?_
  refine lv_istore_n (lv' := [(3, .int (nI (lgr n))), (0, .int (nI n)), (1, .int (nI 1)), (2, .int (nI (n / 2)))]) hx hb dJ8_newLength_cabcc_7 rfl hl (by decide) rfl (fun ls hl => ?_)
  refine lv_iconst (v := 0) hx hb dJ8_newLength_cabcc_8 (by decide) ?_
  refine lv_iload_n hx hb dJ8_newLength_cabcc_9 rfl (lv_at hl 0 rfl) ?_
  refine lv_icmp_ge (tgt := 21) hx hb dJ8_newLength_cabcc_10 (by decide) (fun h9 => absurd h9 (nI_nle (by omega) (by omega))) (fun _ => ?_)
  refine lv_iload_n hx hb dJ8_newLength_cabcc_13 rfl (lv_at hl 0 rfl) ?_
  refine lv_ldc hx hb hown (hts _ wq971) dJ8_newLength_cabcc_14 ?_
  refine lv_icmp_gt (tgt := 21) hx hb dJ8_newLength_cabcc_16 (by decide) (fun h9 => absurd h9 (show ¬ nI 2147483639 < nI (lgr n) from nI_nlt (by omega) (by decide))) (fun _ => ?_)
  refine lv_iload_n hx hb dJ8_newLength_cabcc_19 rfl (lv_at hl 0 rfl) ?_
  exact ze_i hx hb hr hlk rfl rfl dJ8_newLength_cabcc_20
set_option maxHeartbeats 4000000 in
set_option maxRecDepth 100000 in
theorem ll_copyOf3 (l : Launch) (D : va_G) (yc : Nat → ClassId) (e0 : Nat) (x cp n : Nat) (f : Nat → Option Nat) (ci : Nat) (r : vw_C) (hci : vwCl[ci]? = some r) (hca : Cond.castable r.1 "java/lang/Object" ∈ lw_tbl) (mi sz : Nat) (h1 : cp < n) (h2 : n < 2048) : Met l yJ7_copyOf_6403c (ws_ yJ7_copyOf_6403c cJ7_copyOf_6403c 4 (some (.array (.object "java/lang/Object")))) { frames := 1, cells := 1, slots := n, locals := 40 } (PE D yc e0 [(x, .inl (yc 2, cp, .inr (.inr (.inr (.inr f)))))] sz ci cp f mi [.ref x, .int (nI n), .ref mi]) (va_Qq (fun r u => r = some (u 0 0)) (WD D (va_A [(x, .inl (yc 2, cp, .inr (.inr (.inr (.inr f)))))] sz) (fun u => [(x, .inl (yc 2, cp, .inr (.inr (.inr (.inr f))))), ((u 0 0), .inl (yc 2, n, .inr (.inr (.inr (.inr (va_cpy f (fun _ => none) 0 0 cp))))))])) (va_A [(x, .inl (yc 2, cp, .inr (.inr (.inr (.inr f)))))] sz)) 1 n (va_A [(x, .inl (yc 2, cp, .inr (.inr (.inr (.inr f)))))] sz) := by
  refine zk_ME (y := yJ7_copyOf_6403c) (cc := cJ7_copyOf_6403c) (maxL := 4) (w := [(x, .inl (yc 2, cp, .inr (.inr (.inr (.inr f)))))]) (av := [.ref x, .int (nI n), .ref mi]) (Qc := fun A => va_Qq (fun r u => r = some (u 0 0)) (WD D A (fun u => [(x, .inl (yc 2, cp, .inr (.inr (.inr (.inr f))))), ((u 0 0), .inl (yc 2, n, .inr (.inr (.inr (.inr (va_cpy f (fun _ => none) 0 0 cp))))))])) A) (by decide) (Nat.le_of_ble_eq_true rfl) ?_
  intro p e s m args below meth c A ls hx hb hml hr hlk hown hts hP hD hS hA hC hM hE hl
  have hK := hC.1
  have hN := hC.2.1
  have hl : lv_has ls 4 [(0, .ref x), (1, .int (nI n)), (2, .ref mi)] := hl
  generalize hHH : s.heap = H at hP ⊢
  have hS : va_S A s.heap H [] := by rw [← hHH]; exact hS
  refine lv_aload_n hx hb dJ7_copyOf_6403c_0 rfl (lv_at hl 2 rfl) ?_
  refine va_ldcM hx hb hown (hts _ wq998) hM dJ7_copyOf_6403c_1 ?_
  refine lv_acmp_ne (rx := some mi) (ry := some mi) (tgt := 13) hx hb dJ7_copyOf_6403c_3 (by decide) (fun h9 => absurd rfl h9) (fun _ => ?_)
  refine lv_iload_n hx hb dJ7_copyOf_6403c_6 rfl (lv_at hl 1 rfl) ?_
  refine va_newq (N' := n) hx hb hown (hts _ wq1000) (hN _ wr999 rfl) hK hP hD hS hA (nI_pos (by omega)) (nI_clamp (by omega)) (by omega) (by first | omega | (dsimp only; omega)) (by first | omega | (dsimp only; omega)) dJ7_copyOf_6403c_7 (fun q1 cA H hK1 hP hD hS => ?_)
  obtain rfl : cA = yc 2 := zk_same hK1 3 2 rfl rfl
  have hP : va_P D vwCl [(x, .inl (yc 2, cp, .inr (.inr (.inr (.inr f))))), (q1, .inl (yc 2, n, .inr (.inr (.inr (.inr (fun _ => none))))))] H := hP
  have hD : va_D A [(x, .inl (yc 2, cp, .inr (.inr (.inr (.inr f))))), (q1, .inl (yc 2, n, .inr (.inr (.inr (.inr (fun _ => none))))))] := hD
  refine lv_goto (tgt := 24) hx hb dJ7_copyOf_6403c_10 (by decide) ?_
  refine lv_astore_n (lv' := [(3, .ref q1), (0, .ref x), (1, .int (nI n)), (2, .ref mi)]) hx hb dJ7_copyOf_6403c_24 rfl hl (by decide) rfl (fun ls hl => ?_)
  refine lv_aload_n hx hb dJ7_copyOf_6403c_25 rfl (lv_at hl 1 rfl) ?_
  refine lv_iconst (v := 0) hx hb dJ7_copyOf_6403c_26 (by decide) ?_
  refine lv_aload_n hx hb dJ7_copyOf_6403c_27 rfl (lv_at hl 0 rfl) ?_
  refine lv_iconst (v := 0) hx hb dJ7_copyOf_6403c_28 (by decide) ?_
  refine lv_aload_n hx hb dJ7_copyOf_6403c_29 rfl (lv_at hl 1 rfl) ?_
  refine va_alen hx hb hK hP 0 2 rfl rfl (v := nI cp) rfl dJ7_copyOf_6403c_30 ?_
  refine lv_iload_n hx hb dJ7_copyOf_6403c_31 rfl (lv_at hl 2 rfl) ?_
  refine va_mmin hx hb (by rw [hml]; exact hl.1.symm) hown (hts _ wq359) (hts _ wq300) (hts _ wq14) (hts _ wq301) (Nat.le_of_ble_eq_true rfl) (Nat.le_of_ble_eq_true rfl) (by first | omega | (dsimp only; omega)) (by first | omega | (dsimp only; omega)) dJ7_copyOf_6403c_32 ?_
  refine zk_ti (y := zmin (nI cp) (nI n)) rfl ?_
  refine zk_ti (y := nI cp) (zmin_l (by omega) (by omega)) ?_
  have ec : (nI cp).toNatClampNeg = cp := nI_clamp (by omega)
  refine va_copyq (E0 := "java/lang/Object") (E1 := "java/lang/Object") (C := r.1) hx hb (by rw [hml]; exact hl.1.symm) hown (hts _ wq360) (hts _ wq327) (hts _ wq326) (hts _ wq20) hK hP hD hS 0 1 2 2 rfl rfl rfl rfl (by decide) (by decide) (nI_pos (by omega)) (by rw [zc0, ec]; omega) (by rw [zc0, ec]; omega) (fun i hi z hz => ?_) (fun comp c0 f1 f2 => ?_) (Nat.le_of_ble_eq_true rfl) (Nat.le_of_ble_eq_true rfl) dJ7_copyOf_6403c_35 (fun H locs hP hD hS => ?_)
  · rw [ec] at hi
    rw [zc0, Nat.zero_add] at hz
    obtain ⟨g1, fs, r', g3, cell, g4, g5, g6, -⟩ := hE i hi z hz
    obtain rfl : r = r' := Option.some.inj (hci.symm.trans g3)
    have g7 : z < s.heap.size := Nat.lt_of_not_le (fun h => g1 (hA z h))
    refine ⟨cell, by rw [hS.2.1 z g7 g1]; exact g4, by rw [g6]; rfl, ?_⟩
    rw [g5]
    exact (hK.1 ci r hci).2.1
  · obtain ⟨c3, t3, w1, w2, w3⟩ := Cond.castable_spec (va_Nw.use (A := args) rfl (hN _ hca rfl))
    cases w2.symm.trans f1
    cases w1.symm.trans f2
    exact w3
  rw [zc0, ec] at hP hD
  have hP : va_P D vwCl [(x, .inl (yc 2, cp, .inr (.inr (.inr (.inr f))))), (q1, .inl (yc 2, n, .inr (.inr (.inr (.inr (va_cpy f (fun _ => none) 0 0 cp))))))] H := hP
  have hD : va_D A [(x, .inl (yc 2, cp, .inr (.inr (.inr (.inr f))))), (q1, .inl (yc 2, n, .inr (.inr (.inr (.inr (va_cpy f (fun _ => none) 0 0 cp))))))] := hD
  refine lv_aload_n hx hb dJ7_copyOf_6403c_38 rfl (lv_at hl 0 rfl) ?_
  exact zk_rq (r0 := (fun u => some (u 0 0))) (w1 := (fun u => [(x, .inl (yc 2, cp, .inr (.inr (.inr (.inr f))))), ((u 0 0), .inl (yc 2, n, .inr (.inr (.inr (.inr (va_cpy f (fun _ => none) 0 0 cp))))))])) hx hb hr (Or.inr ⟨_, rfl⟩) hlk hP hD hS (fun _ _ => q1) rfl [0, 1] rfl rfl (by first | omega | (dsimp only; omega)) (by first | omega | (dsimp only; omega)) dJ7_copyOf_6403c_39
set_option maxHeartbeats 4000000 in
set_option maxRecDepth 100000 in
theorem ll_copyOf2 (l : Launch) (D : va_G) (yc : Nat → ClassId) (e0 : Nat) (x cp n : Nat) (f : Nat → Option Nat) (ci : Nat) (r : vw_C) (hci : vwCl[ci]? = some r) (hca : Cond.castable r.1 "java/lang/Object" ∈ lw_tbl) (mi sz : Nat) (h1 : cp < n) (h2 : n < 2048) : Met l yJ7_copyOf_1904c (ws_ yJ7_copyOf_1904c cJ7_copyOf_1904c 2 (some (.array (.object "java/lang/Object")))) { frames := 2, cells := 1, slots := n, locals := 70 } (PE D yc e0 [(x, .inl (yc 2, cp, .inr (.inr (.inr (.inr f)))))] sz ci cp f mi [.ref x, .int (nI n)]) (va_Qq (fun r u => r = some (u 0 0)) (WD D (va_A [(x, .inl (yc 2, cp, .inr (.inr (.inr (.inr f)))))] sz) (fun u => [(x, .inl (yc 2, cp, .inr (.inr (.inr (.inr f))))), ((u 0 0), .inl (yc 2, n, .inr (.inr (.inr (.inr (va_cpy f (fun _ => none) 0 0 cp))))))])) (va_A [(x, .inl (yc 2, cp, .inr (.inr (.inr (.inr f)))))] sz)) 1 n (va_A [(x, .inl (yc 2, cp, .inr (.inr (.inr (.inr f)))))] sz) := by
  refine zk_ME (y := yJ7_copyOf_1904c) (cc := cJ7_copyOf_1904c) (maxL := 2) (w := [(x, .inl (yc 2, cp, .inr (.inr (.inr (.inr f)))))]) (av := [.ref x, .int (nI n)]) (Qc := fun A => va_Qq (fun r u => r = some (u 0 0)) (WD D A (fun u => [(x, .inl (yc 2, cp, .inr (.inr (.inr (.inr f))))), ((u 0 0), .inl (yc 2, n, .inr (.inr (.inr (.inr (va_cpy f (fun _ => none) 0 0 cp))))))])) A) (by decide) (Nat.le_of_ble_eq_true rfl) ?_
  intro p e s m args below meth c A ls hx hb hml hr hlk hown hts hP hD hS hA hC hM hE hl
  have hK := hC.1
  have hN := hC.2.1
  have hl : lv_has ls 2 [(0, .ref x), (1, .int (nI n))] := hl
  generalize hHH : s.heap = H at hP ⊢
  have hS : va_S A s.heap H [] := by rw [← hHH]; exact hS
  refine lv_aload_n hx hb dJ7_copyOf_1904c_0 rfl (lv_at hl 0 rfl) ?_
  refine lv_iload_n hx hb dJ7_copyOf_1904c_1 rfl (lv_at hl 1 rfl) ?_
  refine lv_aload_n hx hb dJ7_copyOf_1904c_2 rfl (lv_at hl 0 rfl) ?_
  refine va_getC hx hb (by rw [hml]; exact hl.1.symm) hown (hts _ wq978) (va_Dc.use (hN _ wr1224 rfl)) (hts _ wq1223) (hts _ wq979) (hts _ wq994) hM ⟨_, hP 0 _ rfl, rfl, va_nmO (hK.2 2 _ rfl).2 (by decide)⟩ (Nat.le_of_ble_eq_true rfl) (Nat.le_of_ble_eq_true rfl) dJ7_copyOf_1904c_3 ?_
  refine zk_q (wr := []) (va_runS (As := [.ref x, .int (nI n), .ref mi]) (rest := []) ⟨hx, hb, hml, hown, hts⟩ (ll_copyOf3 l D yc e0 x cp n f ci r hci hca mi H.size h1 h2) (va_cwS 3 hts (lw_S wq995 wq996 wq19 wq997) rfl rfl rfl (by decide +kernel) ⟨(Nat.le_of_ble_eq_true rfl), (Nat.le_of_ble_eq_true rfl)⟩) (pe_S hC hP hD hS hA hM hE [0] rfl rfl) rfl rfl hl.1 rfl (lv_room (Nat.le_of_ble_eq_true rfl)) dJ7_copyOf_1904c_6 ⟨(by first | omega | (dsimp only; omega)), (by first | omega | (dsimp only; omega))⟩) hP hD hS hA [0] [] rfl rfl rfl (by decide) (fun u1 H locs hP hD hS => ?_)
  have hP : va_P D vwCl [(x, .inl (yc 2, cp, .inr (.inr (.inr (.inr f))))), ((u1 0 0), .inl (yc 2, n, .inr (.inr (.inr (.inr (va_cpy f (fun _ => none) 0 0 cp))))))] H := hP
  have hD : va_D A [(x, .inl (yc 2, cp, .inr (.inr (.inr (.inr f))))), ((u1 0 0), .inl (yc 2, n, .inr (.inr (.inr (.inr (va_cpy f (fun _ => none) 0 0 cp))))))] := hD
  refine zk_tv (y := .ref (u1 0 0)) rfl ?_
  exact zk_rq (r0 := (fun u => some (u 0 0))) (w1 := (fun u => [(x, .inl (yc 2, cp, .inr (.inr (.inr (.inr f))))), ((u 0 0), .inl (yc 2, n, .inr (.inr (.inr (.inr (va_cpy f (fun _ => none) 0 0 cp))))))])) hx hb hr (Or.inr ⟨_, rfl⟩) hlk hP hD hS (fun _ _ => u1 0 0) rfl [0, 1] rfl rfl (by first | omega | (dsimp only; omega)) (by first | omega | (dsimp only; omega)) dJ7_copyOf_1904c_9
set_option maxHeartbeats 4000000 in
set_option maxRecDepth 100000 in
theorem ll_growI (l : Launch) (D : va_G) (yc : Nat → ClassId) (e0 : Nat) (a x n : Nat) (mk : Int32) (f : Nat → Option Nat) (ci : Nat) (r : vw_C) (hci : vwCl[ci]? = some r) (hca : Cond.castable r.1 "java/lang/Object" ∈ lw_tbl) (mi : Nat) (sz : Nat) (h1 : 1 ≤ n) (h2 : n < 1024) : Met l yJx4a65c_grow_92f84 (ws_ yJx4a65c_grow_92f84 cJx4a65c_grow_92f84 4 (some (.array (.object "java/lang/Object")))) { frames := 3, cells := 1, slots := (lgr n), locals := 110 } (PE D yc e0 [(a, .inr (0, [.int mk, .ref x, .int (nI n)])), (x, .inl (yc 2, n, .inr (.inr (.inr (.inr f)))))] sz ci n f mi [.ref a, .int (nI (n + 1))]) (va_Qq (fun r u => r = some (u 0 0)) (WD D (va_A [(a, .inr (0, [.int mk, .ref x, .int (nI n)])), (x, .inl (yc 2, n, .inr (.inr (.inr (.inr f)))))] sz) (fun u => [(a, .inr (0, [.int mk, .ref (u 0 0), .int (nI n)])), ((u 0 0), .inl (yc 2, (lgr n), .inr (.inr (.inr (.inr (va_cpy f (fun _ => none) 0 0 n))))))])) (va_A [(a, .inr (0, [.int mk, .ref x, .int (nI n)])), (x, .inl (yc 2, n, .inr (.inr (.inr (.inr f)))))] sz)) 1 (lgr n) (va_A [(a, .inr (0, [.int mk, .ref x, .int (nI n)])), (x, .inl (yc 2, n, .inr (.inr (.inr (.inr f)))))] sz) := by
  refine zk_ME (y := yJx4a65c_grow_92f84) (cc := cJx4a65c_grow_92f84) (maxL := 4) (w := [(a, .inr (0, [.int mk, .ref x, .int (nI n)])), (x, .inl (yc 2, n, .inr (.inr (.inr (.inr f)))))]) (av := [.ref a, .int (nI (n + 1))]) (Qc := fun A => va_Qq (fun r u => r = some (u 0 0)) (WD D A (fun u => [(a, .inr (0, [.int mk, .ref (u 0 0), .int (nI n)])), ((u 0 0), .inl (yc 2, (lgr n), .inr (.inr (.inr (.inr (va_cpy f (fun _ => none) 0 0 n))))))])) A) (by decide) (Nat.le_of_ble_eq_true rfl) ?_
  intro p e s m args below meth c A ls hx hb hml hr hlk hown hts hP hD hS hA hC hM hE hl
  have hK := hC.1
  have hN := hC.2.1
  have hl : lv_has ls 4 [(0, .ref a), (1, .int (nI (n + 1)))] := hl
  generalize hHH : s.heap = H at hP ⊢
  have hS : va_S A s.heap H [] := by rw [← hHH]; exact hS
  have hg := lgr_b h2
  refine lv_aload_n hx hb dJx4a65c_grow_92f84_0 rfl (lv_at hl 0 rfl) ?_
  refine va_get (D := D) (ci := 0) (v := .ref x) (C := RJx4a65c) (T := TJx4a65c) (N := 3) hx hb hts iJx4a65c hown hK hP 0 rfl rfl 1 (by decide) (hts _ wq55) (fun _ h9 => h9) rfl dJx4a65c_grow_92f84_1 ?_
  refine va_alen hx hb hK hP 1 2 rfl rfl (v := nI n) rfl dJx4a65c_grow_92f84_4 ?_
  refine lv_istore_n (lv' := [(2, .int (nI n)), (0, .ref a), (1, .int (nI (n + 1)))]) hx hb dJx4a65c_grow_92f84_5 rfl hl (by decide) rfl (fun ls hl => ?_)
  refine lv_iload_n hx hb dJx4a65c_grow_92f84_6 rfl (lv_at hl 0 rfl) ?_
  refine lv_if_gt (tgt := 20) hx hb dJx4a65c_grow_92f84_7 (by decide) (fun _ => ?_) (fun h9 => absurd (show nI 0 < nI n from nI_lt (by omega) (by omega)) h9)
  refine lv_iload_n hx hb dJx4a65c_grow_92f84_20 rfl (lv_at hl 0 rfl) ?_
  refine lv_iload_n hx hb dJx4a65c_grow_92f84_21 rfl (lv_at hl 2 rfl) ?_
  refine lv_iload_n hx hb dJx4a65c_grow_92f84_22 rfl (lv_at hl 0 rfl) ?_
  refine lv_isub hx hb dJx4a65c_grow_92f84_23 ?_
  refine zk_ti (y := nI 1) (by rw [pk_sub (by omega), Nat.add_sub_cancel_left]) ?_
  refine lv_iload_n hx hb dJx4a65c_grow_92f84_24 rfl (lv_at hl 0 rfl) ?_
  refine lv_iconst (v := 1) hx hb dJx4a65c_grow_92f84_25 (by decide) ?_
  refine lv_ishr hx hb dJx4a65c_grow_92f84_26 ?_
  refine zk_ti (y := nI (n / 2)) (lshr h2) ?_
  refine zr_i (va_runS (As := [.int (nI n), .int (nI 1), .int (nI (n / 2))]) (rest := []) ⟨hx, hb, hml, hown, hts⟩ (ll_newLength l n h1 h2) (va_cwS 3 hts (lw_S wq967 wq968 wq18 wq969) rfl rfl rfl (by decide +kernel) ⟨(Nat.le_of_ble_eq_true rfl), (Nat.le_of_ble_eq_true rfl)⟩) tp_N rfl rfl hl.1 rfl (lv_room (Nat.le_of_ble_eq_true rfl)) dJx4a65c_grow_92f84_27 ⟨(by first | omega | (dsimp only; omega)), (by first | omega | (dsimp only; omega))⟩) ?_
  refine lv_istore_n (lv' := [(3, .int (nI (lgr n))), (2, .int (nI n)), (0, .ref a), (1, .int (nI (n + 1)))]) hx hb dJx4a65c_grow_92f84_30 rfl hl (by decide) rfl (fun ls hl => ?_)
  refine lv_aload_n hx hb dJx4a65c_grow_92f84_31 rfl (lv_at hl 2 rfl) ?_
  refine lv_aload_n hx hb dJx4a65c_grow_92f84_32 rfl (lv_at hl 2 rfl) ?_
  refine va_get (D := D) (ci := 0) (v := .ref x) (C := RJx4a65c) (T := TJx4a65c) (N := 3) hx hb hts iJx4a65c hown hK hP 0 rfl rfl 1 (by decide) (hts _ wq55) (fun _ h9 => h9) rfl dJx4a65c_grow_92f84_33 ?_
  refine lv_iload_n hx hb dJx4a65c_grow_92f84_36 rfl (lv_at hl 0 rfl) ?_
  refine zk_q (wr := [(a, .inr (0, [.int mk, .ref x, .int (nI n)]))]) (va_runS (As := [.ref x, .int (nI (lgr n))]) (rest := [.ref a]) ⟨hx, hb, hml, hown, hts⟩ (ll_copyOf2 l D yc e0 x n (lgr n) f ci r hci hca mi H.size hg.1 hg.2) (va_cwS 2 hts (lw_S wq975 wq976 wq19 wq977) rfl rfl rfl (by decide +kernel) ⟨(Nat.le_of_ble_eq_true rfl), (Nat.le_of_ble_eq_true rfl)⟩) (pe_S hC hP hD hS hA hM hE [1] rfl rfl) rfl rfl hl.1 rfl (lv_room (Nat.le_of_ble_eq_true rfl)) dJx4a65c_grow_92f84_37 ⟨(by first | omega | (dsimp only; omega)), (by first | omega | (dsimp only; omega))⟩) hP hD hS hA [1] [0] rfl rfl rfl (by decide) (fun u1 H locs hP hD hS => ?_)
  have hP : va_P D vwCl [(a, .inr (0, [.int mk, .ref x, .int (nI n)])), (x, .inl (yc 2, n, .inr (.inr (.inr (.inr f))))), ((u1 0 0), .inl (yc 2, (lgr n), .inr (.inr (.inr (.inr (va_cpy f (fun _ => none) 0 0 n))))))] H := hP
  have hD : va_D A [(a, .inr (0, [.int mk, .ref x, .int (nI n)])), (x, .inl (yc 2, n, .inr (.inr (.inr (.inr f))))), ((u1 0 0), .inl (yc 2, (lgr n), .inr (.inr (.inr (.inr (va_cpy f (fun _ => none) 0 0 n))))))] := hD
  refine zk_tv (y := .ref (u1 0 0)) rfl ?_
  refine lv_dup_x1 hx hb dJx4a65c_grow_92f84_40 rfl rfl ?_
  refine va_put (D := D) (ci := 0) (v := .ref (u1 0 0)) (ty := .array (.object "java/lang/Object")) (C := RJx4a65c) (T := TJx4a65c) (N := 3) hx hb hts iJx4a65c tyJx4a65c tyJx4a65c_ok nmJx4a65c hown hK hP hD hS 0 rfl rfl 1 (by decide) (hts _ wq55) (fun _ h9 => h9) rfl (by decide +kernel) rfl rfl (Nat.le_of_ble_eq_true rfl) dJx4a65c_grow_92f84_41 (fun H locs hP hD hS => ?_)
  have hP : va_P D vwCl [(a, .inr (0, [.int mk, .ref (u1 0 0), .int (nI n)])), (x, .inl (yc 2, n, .inr (.inr (.inr (.inr f))))), ((u1 0 0), .inl (yc 2, (lgr n), .inr (.inr (.inr (.inr (va_cpy f (fun _ => none) 0 0 n))))))] H := hP
  have hD : va_D A [(a, .inr (0, [.int mk, .ref (u1 0 0), .int (nI n)])), (x, .inl (yc 2, n, .inr (.inr (.inr (.inr f))))), ((u1 0 0), .inl (yc 2, (lgr n), .inr (.inr (.inr (.inr (va_cpy f (fun _ => none) 0 0 n))))))] := hD
  exact zk_rq (r0 := (fun u => some (u 0 0))) (w1 := (fun u => [(a, .inr (0, [.int mk, .ref (u 0 0), .int (nI n)])), ((u 0 0), .inl (yc 2, (lgr n), .inr (.inr (.inr (.inr (va_cpy f (fun _ => none) 0 0 n))))))])) hx hb hr (Or.inr ⟨_, rfl⟩) hlk hP hD hS (fun _ _ => u1 0 0) rfl [0, 2] rfl rfl (by first | omega | (dsimp only; omega)) (by first | omega | (dsimp only; omega)) dJx4a65c_grow_92f84_44
set_option maxHeartbeats 4000000 in
set_option maxRecDepth 100000 in
theorem ll_grow (l : Launch) (D : va_G) (yc : Nat → ClassId) (e0 : Nat) (a x n : Nat) (mk : Int32) (f : Nat → Option Nat) (ci : Nat) (r : vw_C) (hci : vwCl[ci]? = some r) (hca : Cond.castable r.1 "java/lang/Object" ∈ lw_tbl) (mi : Nat) (sz : Nat) (h1 : 1 ≤ n) (h2 : n < 1024) : Met l yJx4a65c_grow_d5877 (ws_ yJx4a65c_grow_d5877 cJx4a65c_grow_d5877 1 (some (.array (.object "java/lang/Object")))) { frames := 4, cells := 1, slots := (lgr n), locals := 140 } (PE D yc e0 [(a, .inr (0, [.int mk, .ref x, .int (nI n)])), (x, .inl (yc 2, n, .inr (.inr (.inr (.inr f)))))] sz ci n f mi [.ref a]) (va_Qq (fun r u => r = some (u 0 0)) (WD D (va_A [(a, .inr (0, [.int mk, .ref x, .int (nI n)])), (x, .inl (yc 2, n, .inr (.inr (.inr (.inr f)))))] sz) (fun u => [(a, .inr (0, [.int mk, .ref (u 0 0), .int (nI n)])), ((u 0 0), .inl (yc 2, (lgr n), .inr (.inr (.inr (.inr (va_cpy f (fun _ => none) 0 0 n))))))])) (va_A [(a, .inr (0, [.int mk, .ref x, .int (nI n)])), (x, .inl (yc 2, n, .inr (.inr (.inr (.inr f)))))] sz)) 1 (lgr n) (va_A [(a, .inr (0, [.int mk, .ref x, .int (nI n)])), (x, .inl (yc 2, n, .inr (.inr (.inr (.inr f)))))] sz) := by
  refine zk_ME (y := yJx4a65c_grow_d5877) (cc := cJx4a65c_grow_d5877) (maxL := 1) (w := [(a, .inr (0, [.int mk, .ref x, .int (nI n)])), (x, .inl (yc 2, n, .inr (.inr (.inr (.inr f)))))]) (av := [.ref a]) (Qc := fun A => va_Qq (fun r u => r = some (u 0 0)) (WD D A (fun u => [(a, .inr (0, [.int mk, .ref (u 0 0), .int (nI n)])), ((u 0 0), .inl (yc 2, (lgr n), .inr (.inr (.inr (.inr (va_cpy f (fun _ => none) 0 0 n))))))])) A) (by decide) (Nat.le_of_ble_eq_true rfl) ?_
  intro p e s m args below meth c A ls hx hb hml hr hlk hown hts hP hD hS hA hC hM hE hl
  have hK := hC.1
  have hN := hC.2.1
  have hl : lv_has ls 1 [(0, .ref a)] := hl
  generalize hHH : s.heap = H at hP ⊢
  have hS : va_S A s.heap H [] := by rw [← hHH]; exact hS
  refine lv_aload_n hx hb dJx4a65c_grow_d5877_0 rfl (lv_at hl 0 rfl) ?_
  refine lv_aload_n hx hb dJx4a65c_grow_d5877_1 rfl (lv_at hl 0 rfl) ?_
  refine va_get (D := D) (ci := 0) (v := .int (nI n)) (C := RJx4a65c) (T := TJx4a65c) (N := 3) hx hb hts iJx4a65c hown hK hP 0 rfl rfl 2 (by decide) (hts _ wq56) (fun _ h9 => h9) rfl dJx4a65c_grow_d5877_2 ?_
  refine lv_iconst (v := 1) hx hb dJx4a65c_grow_d5877_5 (by decide) ?_
  refine lv_iadd hx hb dJx4a65c_grow_d5877_6 ?_
  refine zk_ti (y := nI (n + 1)) (nI_1 n) ?_
  refine zk_q (wr := []) (va_runV (As := [.int (nI (n + 1))]) (rest := []) ⟨hx, hb, hml, hown, hts⟩ (ll_growI l D yc e0 a x n mk f ci r hci hca mi H.size h1 h2) (cwV 1 hts (lw_V wq963 wq965 ws31 wq5 wq966) rfl rfl rfl (by decide +kernel) ⟨(Nat.le_of_ble_eq_true rfl), (Nat.le_of_ble_eq_true rfl)⟩) (pe_V hC hP hD hS hA hM hE [0, 1] rfl rfl 0 0 rfl rfl) rfl rfl hl.1 rfl (lv_room (Nat.le_of_ble_eq_true rfl)) dJx4a65c_grow_d5877_7 ⟨(by first | omega | (dsimp only; omega)), (by first | omega | (dsimp only; omega))⟩) hP hD hS hA [0, 1] [] rfl rfl rfl (by decide) (fun u1 H locs hP hD hS => ?_)
  have hP : va_P D vwCl [(a, .inr (0, [.int mk, .ref (u1 0 0), .int (nI n)])), ((u1 0 0), .inl (yc 2, (lgr n), .inr (.inr (.inr (.inr (va_cpy f (fun _ => none) 0 0 n))))))] H := hP
  have hD : va_D A [(a, .inr (0, [.int mk, .ref (u1 0 0), .int (nI n)])), ((u1 0 0), .inl (yc 2, (lgr n), .inr (.inr (.inr (.inr (va_cpy f (fun _ => none) 0 0 n))))))] := hD
  refine zk_tv (y := .ref (u1 0 0)) rfl ?_
  exact zk_rq (r0 := (fun u => some (u 0 0))) (w1 := (fun u => [(a, .inr (0, [.int mk, .ref (u 0 0), .int (nI n)])), ((u 0 0), .inl (yc 2, (lgr n), .inr (.inr (.inr (.inr (va_cpy f (fun _ => none) 0 0 n))))))])) hx hb hr (Or.inr ⟨_, rfl⟩) hlk hP hD hS (fun _ _ => u1 0 0) rfl [0, 1] rfl rfl (by first | omega | (dsimp only; omega)) (by first | omega | (dsimp only; omega)) dJx4a65c_grow_d5877_10
set_option maxHeartbeats 4000000 in
set_option maxRecDepth 100000 in
theorem ll_growI0 (l : Launch) (D : va_G) (yc : Nat → ClassId) (e0 : Nat) (a : Nat) (mk : Int32) (sz : Nat) : Met l yJx4a65c_grow_92f84 (ws_ yJx4a65c_grow_92f84 cJx4a65c_grow_92f84 4 (some (.array (.object "java/lang/Object")))) { frames := 1, cells := 1, slots := 10, locals := 14 } (PR D yc e0 [(a, .inr (0, [.int mk, .ref e0, .int 0]))] sz [.ref a, .int 1]) (va_Qq (fun r u => r = some (u 0 0)) (WD D (va_A [(a, .inr (0, [.int mk, .ref e0, .int 0]))] sz) (fun u => [(a, .inr (0, [.int mk, .ref (u 0 0), .int 0])), ((u 0 0), .inl (yc 2, 10, .inr (.inr (.inr (.inr (fun _ => none))))))])) (va_A [(a, .inr (0, [.int mk, .ref e0, .int 0]))] sz)) 1 10 (va_A [(a, .inr (0, [.int mk, .ref e0, .int 0]))] sz) := by
  refine zk_M (y := yJx4a65c_grow_92f84) (cc := cJx4a65c_grow_92f84) (maxL := 4) (w := [(a, .inr (0, [.int mk, .ref e0, .int 0]))]) (av := [.ref a, .int 1]) (Qc := fun A => va_Qq (fun r u => r = some (u 0 0)) (WD D A (fun u => [(a, .inr (0, [.int mk, .ref (u 0 0), .int 0])), ((u 0 0), .inl (yc 2, 10, .inr (.inr (.inr (.inr (fun _ => none))))))])) A) (by decide) (Nat.le_of_ble_eq_true rfl) ?_
  intro p e s m args below meth c A ls hx hb hml hr hlk hown hnm hts hP hD hS hA hC hl
  have hK := hC.1
  have hN := hC.2.1
  have hl : lv_has ls 4 [(0, .ref a), (1, .int 1)] := hl
  generalize hHH : s.heap = H at hP ⊢
  have hS : va_S A s.heap H [] := by rw [← hHH]; exact hS
  refine lv_aload_n hx hb dJx4a65c_grow_92f84_0 rfl (lv_at hl 0 rfl) ?_
  refine va_get (D := D) (ci := 0) (v := .ref e0) (C := RJx4a65c) (T := TJx4a65c) (N := 3) hx hb hts iJx4a65c hown hK hP 0 rfl rfl 1 (by decide) (hts _ wq55) (fun _ h9 => h9) rfl dJx4a65c_grow_92f84_1 ?_
  refine va_tlen hx hb hC.2.2.2.1 hS (v := 0) (by decide) dJx4a65c_grow_92f84_4 ?_
  refine lv_istore_n (lv' := [(2, .int 0), (0, .ref a), (1, .int 1)]) hx hb dJx4a65c_grow_92f84_5 rfl hl (by decide) rfl (fun ls hl => ?_)
  refine lv_iload_n hx hb dJx4a65c_grow_92f84_6 rfl (lv_at hl 0 rfl) ?_
  refine lv_if_gt (tgt := 20) hx hb dJx4a65c_grow_92f84_7 (by decide) (fun h9 => absurd h9 (by decide)) (fun _ => ?_)
  refine lv_aload_n hx hb dJx4a65c_grow_92f84_10 rfl (lv_at hl 1 rfl) ?_
  refine va_get (D := D) (ci := 0) (v := .ref e0) (C := RJx4a65c) (T := TJx4a65c) (N := 3) hx hb hts iJx4a65c hown hK hP 0 rfl rfl 1 (by decide) (hts _ wq55) (fun _ h9 => h9) rfl dJx4a65c_grow_92f84_11 ?_
  refine va_gets hx hb hC.2.2.1 hS hown (hts _ wq53) (fun _ h9 => h9) dJx4a65c_grow_92f84_14 ?_
  refine lv_acmp_eq (rx := some e0) (ry := some e0) (tgt := 45) hx hb dJx4a65c_grow_92f84_17 (by decide) (fun _ => ?_) (fun h9 => absurd rfl h9)
  refine lv_aload_n hx hb dJx4a65c_grow_92f84_45 rfl (lv_at hl 1 rfl) ?_
  refine lv_bipush (v := 10) hx hb dJx4a65c_grow_92f84_46 (by decide) ?_
  refine lv_iload_n hx hb dJx4a65c_grow_92f84_48 rfl (lv_at hl 2 rfl) ?_
  refine va_mmax hx hb (by rw [hml]; exact hl.1.symm) hown (hts _ wq1001) (hts _ wq375) (hts _ wq14) (hts _ wq376) (Nat.le_of_ble_eq_true rfl) (Nat.le_of_ble_eq_true rfl) (Nat.le_of_ble_eq_true rfl) (Nat.le_of_ble_eq_true rfl) dJx4a65c_grow_92f84_49 ?_
  refine zk_ti (y := 10) (by decide) ?_
  refine va_newq (N' := 10) hx hb hown (hts _ wq1002) (hN _ wr999 rfl) hK hP hD hS hA (by decide) (by decide) (Nat.le_of_ble_eq_true rfl) (Nat.le_of_ble_eq_true rfl) (Nat.le_of_ble_eq_true rfl) dJx4a65c_grow_92f84_52 (fun q1 cA H hK1 hP hD hS => ?_)
  obtain rfl : cA = yc 2 := zk_same hK1 3 2 rfl rfl
  have hP : va_P D vwCl [(a, .inr (0, [.int mk, .ref e0, .int 0])), (q1, .inl (yc 2, 10, .inr (.inr (.inr (.inr (fun _ => none))))))] H := hP
  have hD : va_D A [(a, .inr (0, [.int mk, .ref e0, .int 0])), (q1, .inl (yc 2, 10, .inr (.inr (.inr (.inr (fun _ => none))))))] := hD
  refine lv_dup_x1 hx hb dJx4a65c_grow_92f84_55 rfl rfl ?_
  refine va_put (D := D) (ci := 0) (v := .ref q1) (ty := .array (.object "java/lang/Object")) (C := RJx4a65c) (T := TJx4a65c) (N := 3) hx hb hts iJx4a65c tyJx4a65c tyJx4a65c_ok nmJx4a65c hown hK hP hD hS 0 rfl rfl 1 (by decide) (hts _ wq55) (fun _ h9 => h9) rfl (by decide +kernel) rfl rfl (Nat.le_of_ble_eq_true rfl) dJx4a65c_grow_92f84_56 (fun H locs hP hD hS => ?_)
  have hP : va_P D vwCl [(a, .inr (0, [.int mk, .ref q1, .int 0])), (q1, .inl (yc 2, 10, .inr (.inr (.inr (.inr (fun _ => none))))))] H := hP
  have hD : va_D A [(a, .inr (0, [.int mk, .ref q1, .int 0])), (q1, .inl (yc 2, 10, .inr (.inr (.inr (.inr (fun _ => none))))))] := hD
  exact zk_rq (r0 := (fun u => some (u 0 0))) (w1 := (fun u => [(a, .inr (0, [.int mk, .ref (u 0 0), .int 0])), ((u 0 0), .inl (yc 2, 10, .inr (.inr (.inr (.inr (fun _ => none))))))])) hx hb hr (Or.inr ⟨_, rfl⟩) hlk hP hD hS (fun _ _ => q1) rfl [0, 1] rfl rfl (by first | omega | (dsimp only; omega)) (by first | omega | (dsimp only; omega)) dJx4a65c_grow_92f84_59
set_option maxHeartbeats 4000000 in
set_option maxRecDepth 100000 in
theorem ll_grow0 (l : Launch) (D : va_G) (yc : Nat → ClassId) (e0 : Nat) (a : Nat) (mk : Int32) (sz : Nat) : Met l yJx4a65c_grow_d5877 (ws_ yJx4a65c_grow_d5877 cJx4a65c_grow_d5877 1 (some (.array (.object "java/lang/Object")))) { frames := 2, cells := 1, slots := 10, locals := 40 } (PR D yc e0 [(a, .inr (0, [.int mk, .ref e0, .int 0]))] sz [.ref a]) (va_Qq (fun r u => r = some (u 0 0)) (WD D (va_A [(a, .inr (0, [.int mk, .ref e0, .int 0]))] sz) (fun u => [(a, .inr (0, [.int mk, .ref (u 0 0), .int 0])), ((u 0 0), .inl (yc 2, 10, .inr (.inr (.inr (.inr (fun _ => none))))))])) (va_A [(a, .inr (0, [.int mk, .ref e0, .int 0]))] sz)) 1 10 (va_A [(a, .inr (0, [.int mk, .ref e0, .int 0]))] sz) := by
  refine zk_M (y := yJx4a65c_grow_d5877) (cc := cJx4a65c_grow_d5877) (maxL := 1) (w := [(a, .inr (0, [.int mk, .ref e0, .int 0]))]) (av := [.ref a]) (Qc := fun A => va_Qq (fun r u => r = some (u 0 0)) (WD D A (fun u => [(a, .inr (0, [.int mk, .ref (u 0 0), .int 0])), ((u 0 0), .inl (yc 2, 10, .inr (.inr (.inr (.inr (fun _ => none))))))])) A) (by decide) (Nat.le_of_ble_eq_true rfl) ?_
  intro p e s m args below meth c A ls hx hb hml hr hlk hown hnm hts hP hD hS hA hC hl
  have hK := hC.1
  have hN := hC.2.1
  have hl : lv_has ls 1 [(0, .ref a)] := hl
  generalize hHH : s.heap = H at hP ⊢
  have hS : va_S A s.heap H [] := by rw [← hHH]; exact hS
  refine lv_aload_n hx hb dJx4a65c_grow_d5877_0 rfl (lv_at hl 0 rfl) ?_
  refine lv_aload_n hx hb dJx4a65c_grow_d5877_1 rfl (lv_at hl 0 rfl) ?_
  refine va_get (D := D) (ci := 0) (v := .int 0) (C := RJx4a65c) (T := TJx4a65c) (N := 3) hx hb hts iJx4a65c hown hK hP 0 rfl rfl 2 (by decide) (hts _ wq56) (fun _ h9 => h9) rfl dJx4a65c_grow_d5877_2 ?_
  refine lv_iconst (v := 1) hx hb dJx4a65c_grow_d5877_5 (by decide) ?_
  refine lv_iadd hx hb dJx4a65c_grow_d5877_6 ?_
  refine zk_ti (y := 1) (by decide) ?_
  refine zk_q (wr := []) (va_runV (As := [.int 1]) (rest := []) ⟨hx, hb, hml, hown, hts⟩ (ll_growI0 l D yc e0 a mk H.size) (cwV 1 hts (lw_V wq963 wq965 ws31 wq5 wq966) rfl rfl rfl (by decide +kernel) ⟨(Nat.le_of_ble_eq_true rfl), (Nat.le_of_ble_eq_true rfl)⟩) (zk_pV hC hP hD hS hA [0] rfl rfl 0 0 rfl rfl) rfl rfl hl.1 rfl (lv_room (Nat.le_of_ble_eq_true rfl)) dJx4a65c_grow_d5877_7 ⟨(Nat.le_of_ble_eq_true rfl), (Nat.le_of_ble_eq_true rfl)⟩) hP hD hS hA [0] [] rfl rfl rfl (by decide) (fun u1 H locs hP hD hS => ?_)
  have hP : va_P D vwCl [(a, .inr (0, [.int mk, .ref (u1 0 0), .int 0])), ((u1 0 0), .inl (yc 2, 10, .inr (.inr (.inr (.inr (fun _ => none))))))] H := hP
  have hD : va_D A [(a, .inr (0, [.int mk, .ref (u1 0 0), .int 0])), ((u1 0 0), .inl (yc 2, 10, .inr (.inr (.inr (.inr (fun _ => none))))))] := hD
  refine zk_tv (y := .ref (u1 0 0)) rfl ?_
  exact zk_rq (r0 := (fun u => some (u 0 0))) (w1 := (fun u => [(a, .inr (0, [.int mk, .ref (u 0 0), .int 0])), ((u 0 0), .inl (yc 2, 10, .inr (.inr (.inr (.inr (fun _ => none))))))])) hx hb hr (Or.inr ⟨_, rfl⟩) hlk hP hD hS (fun _ _ => u1 0 0) rfl [0, 1] rfl rfl (by first | omega | (dsimp only; omega)) (by first | omega | (dsimp only; omega)) dJx4a65c_grow_d5877_10
set_option maxHeartbeats 4000000 in
set_option maxRecDepth 100000 in
theorem ll_add3R_1 (l : Launch) (D : va_G) (yc : Nat → ClassId) (e0 : Nat) (a v x cap n : Nat) (mk : Int32) (f : Nat → Option Nat) (fs : List Value) (sz : Nat) (h1 : n < cap) (h2 : cap < 2048) : Met l yJx4a65c_add_72be8 (ws_ yJx4a65c_add_72be8 cJx4a65c_add_72be8 4 none) { frames := 0, cells := 0, slots := 0, locals := 0 } (PR D yc e0 [(a, .inr (0, [.int mk, .ref x, .int (nI n)])), (v, .inr (1, fs)), (x, .inl (yc 2, cap, .inr (.inr (.inr (.inr f)))))] sz [.ref a, .ref v, .ref x, .int (nI n)]) (va_Qv (fun _ => True) (WD D (va_A [(a, .inr (0, [.int mk, .ref x, .int (nI n)])), (v, .inr (1, fs)), (x, .inl (yc 2, cap, .inr (.inr (.inr (.inr f)))))] sz) (fun u => [(a, .inr (0, [.int mk, .ref x, .int (nI (n + 1))])), (v, .inr (1, fs)), (x, .inl (yc 2, cap, .inr (.inr (.inr (.inr (va_up f n (some v)))))))])) (va_A [(a, .inr (0, [.int mk, .ref x, .int (nI n)])), (v, .inr (1, fs)), (x, .inl (yc 2, cap, .inr (.inr (.inr (.inr f)))))] sz)) 0 0 (va_A [(a, .inr (0, [.int mk, .ref x, .int (nI n)])), (v, .inr (1, fs)), (x, .inl (yc 2, cap, .inr (.inr (.inr (.inr f)))))] sz) := by
  refine zk_M (y := yJx4a65c_add_72be8) (cc := cJx4a65c_add_72be8) (maxL := 4) (w := [(a, .inr (0, [.int mk, .ref x, .int (nI n)])), (v, .inr (1, fs)), (x, .inl (yc 2, cap, .inr (.inr (.inr (.inr f)))))]) (av := [.ref a, .ref v, .ref x, .int (nI n)]) (Qc := fun A => va_Qv (fun _ => True) (WD D A (fun u => [(a, .inr (0, [.int mk, .ref x, .int (nI (n + 1))])), (v, .inr (1, fs)), (x, .inl (yc 2, cap, .inr (.inr (.inr (.inr (va_up f n (some v)))))))])) A) (by decide) (Nat.le_of_ble_eq_true rfl) ?_
  intro p e s m args below meth c A ls hx hb hml hr hlk hown hnm hts hP hD hS hA hC hl
  have hK := hC.1
  have hN := hC.2.1
  have hl : lv_has ls 4 [(0, .ref a), (1, .ref v), (2, .ref x), (3, .int (nI n))] := hl
  generalize hHH : s.heap = H at hP ⊢
  have hS : va_S A s.heap H [] := by rw [← hHH]; exact hS
  refine lv_iload_n hx hb dJx4a65c_add_72be8_0 rfl (lv_at hl 3 rfl) ?_
  refine lv_aload_n hx hb dJx4a65c_add_72be8_1 rfl (lv_at hl 2 rfl) ?_
  refine va_alen hx hb hK hP 2 2 rfl rfl (v := nI cap) rfl dJx4a65c_add_72be8_2 ?_
  refine lv_icmp_ne (tgt := 11) hx hb dJx4a65c_add_72be8_3 (by decide) (fun _ => ?_) (fun h9 => absurd h9 (fun e9 => by have := (nI_eq (by omega) (by omega)).mp e9; omega))
  refine lv_aload_n hx hb dJx4a65c_add_72be8_11 rfl (lv_at hl 2 rfl) ?_
  refine lv_iload_n hx hb dJx4a65c_add_72be8_12 rfl (lv_at hl 3 rfl) ?_
  refine lv_aload_n hx hb dJx4a65c_add_72be8_13 rfl (lv_at hl 1 rfl) ?_
  refine va_astqO hx hb hK hP hD hS 2 2 1 1 rfl rfl (hN _ wr1216 rfl) rfl rfl (vp_in_nI (by omega) (by omega)) dJx4a65c_add_72be8_14 (fun H locs hP hD hS => ?_)
  have ef9 : va_up f (nI n : Int32).toNatClampNeg (some v) = (va_up f n (some v)) := by rw [nI_clamp (by omega)]
  rw [ef9] at hP hD
  have hP : va_P D vwCl [(a, .inr (0, [.int mk, .ref x, .int (nI n)])), (v, .inr (1, fs)), (x, .inl (yc 2, cap, .inr (.inr (.inr (.inr (va_up f n (some v)))))))] H := hP
  have hD : va_D A [(a, .inr (0, [.int mk, .ref x, .int (nI n)])), (v, .inr (1, fs)), (x, .inl (yc 2, cap, .inr (.inr (.inr (.inr (va_up f n (some v)))))))] := hD
  refine lv_aload_n hx hb dJx4a65c_add_72be8_15 rfl (lv_at hl 0 rfl) ?_
  refine lv_iload_n hx hb dJx4a65c_add_72be8_16 rfl (lv_at hl 3 rfl) ?_
  refine lv_iconst (v := 1) hx hb dJx4a65c_add_72be8_17 (by decide) ?_
  refine lv_iadd hx hb dJx4a65c_add_72be8_18 ?_
  refine zk_ti (y := nI (n + 1)) (nI_1 n) ?_
  refine va_put (D := D) (ci := 0) (v := .int (nI (n + 1))) (ty := .int) (C := RJx4a65c) (T := TJx4a65c) (N := 3) hx hb hts iJx4a65c tyJx4a65c tyJx4a65c_ok nmJx4a65c hown hK hP hD hS 0 rfl rfl 2 (by decide) (hts _ wq56) (fun _ h9 => h9) rfl (by decide +kernel) rfl rfl (Nat.le_of_ble_eq_true rfl) dJx4a65c_add_72be8_19 (fun H locs hP hD hS => ?_)
  have hP : va_P D vwCl [(a, .inr (0, [.int mk, .ref x, .int (nI (n + 1))])), (v, .inr (1, fs)), (x, .inl (yc 2, cap, .inr (.inr (.inr (.inr (va_up f n (some v)))))))] H := hP
  have hD : va_D A [(a, .inr (0, [.int mk, .ref x, .int (nI (n + 1))])), (v, .inr (1, fs)), (x, .inl (yc 2, cap, .inr (.inr (.inr (.inr (va_up f n (some v)))))))] := hD
  exact zk_rv (w1 := fun u => [(a, .inr (0, [.int mk, .ref x, .int (nI (n + 1))])), (v, .inr (1, fs)), (x, .inl (yc 2, cap, .inr (.inr (.inr (.inr (va_up f n (some v)))))))]) hx hb hr hlk hP hD hS (fun _ _ => 0) [0, 1, 2] rfl rfl (Nat.le_of_ble_eq_true rfl) (Nat.le_of_ble_eq_true rfl) dJx4a65c_add_72be8_22
set_option maxHeartbeats 4000000 in
set_option maxRecDepth 100000 in
theorem ll_add3E_1 (l : Launch) (D : va_G) (yc : Nat → ClassId) (e0 : Nat) (a v : Nat) (mk : Int32) (fs : List Value) (sz : Nat) : Met l yJx4a65c_add_72be8 (ws_ yJx4a65c_add_72be8 cJx4a65c_add_72be8 4 none) { frames := 3, cells := 1, slots := 10, locals := 70 } (PR D yc e0 [(a, .inr (0, [.int mk, .ref e0, .int 0])), (v, .inr (1, fs))] sz [.ref a, .ref v, .ref e0, .int 0]) (va_Qv (fun _ => True) (WD D (va_A [(a, .inr (0, [.int mk, .ref e0, .int 0])), (v, .inr (1, fs))] sz) (fun u => [(v, .inr (1, fs)), (a, .inr (0, [.int mk, .ref (u 0 0), .int 1])), ((u 0 0), .inl (yc 2, 10, .inr (.inr (.inr (.inr (va_up (fun _ => none) 0 (some v)))))))])) (va_A [(a, .inr (0, [.int mk, .ref e0, .int 0])), (v, .inr (1, fs))] sz)) 1 10 (va_A [(a, .inr (0, [.int mk, .ref e0, .int 0])), (v, .inr (1, fs))] sz) := by
  refine zk_M (y := yJx4a65c_add_72be8) (cc := cJx4a65c_add_72be8) (maxL := 4) (w := [(a, .inr (0, [.int mk, .ref e0, .int 0])), (v, .inr (1, fs))]) (av := [.ref a, .ref v, .ref e0, .int 0]) (Qc := fun A => va_Qv (fun _ => True) (WD D A (fun u => [(v, .inr (1, fs)), (a, .inr (0, [.int mk, .ref (u 0 0), .int 1])), ((u 0 0), .inl (yc 2, 10, .inr (.inr (.inr (.inr (va_up (fun _ => none) 0 (some v)))))))])) A) (by decide) (Nat.le_of_ble_eq_true rfl) ?_
  intro p e s m args below meth c A ls hx hb hml hr hlk hown hnm hts hP hD hS hA hC hl
  have hK := hC.1
  have hN := hC.2.1
  have hl : lv_has ls 4 [(0, .ref a), (1, .ref v), (2, .ref e0), (3, .int 0)] := hl
  generalize hHH : s.heap = H at hP ⊢
  have hS : va_S A s.heap H [] := by rw [← hHH]; exact hS
  refine lv_iload_n hx hb dJx4a65c_add_72be8_0 rfl (lv_at hl 3 rfl) ?_
  refine lv_aload_n hx hb dJx4a65c_add_72be8_1 rfl (lv_at hl 2 rfl) ?_
  refine va_tlen hx hb hC.2.2.2.1 hS (v := 0) (by decide) dJx4a65c_add_72be8_2 ?_
  refine lv_icmp_ne (tgt := 11) hx hb dJx4a65c_add_72be8_3 (by decide) (fun h9 => absurd (by decide) h9) (fun _ => ?_)
  refine lv_aload_n hx hb dJx4a65c_add_72be8_6 rfl (lv_at hl 0 rfl) ?_
  refine zk_q (wr := [(v, .inr (1, fs))]) (va_runV (As := []) (rest := []) ⟨hx, hb, hml, hown, hts⟩ (ll_grow0 l D yc e0 a mk H.size) (cwV 0 hts (lw_V wq959 wq961 ws30 wq5 wq962) rfl rfl rfl (by decide +kernel) ⟨(Nat.le_of_ble_eq_true rfl), (Nat.le_of_ble_eq_true rfl)⟩) (zk_pV hC hP hD hS hA [0] rfl rfl 0 0 rfl rfl) rfl rfl hl.1 rfl (lv_room (Nat.le_of_ble_eq_true rfl)) dJx4a65c_add_72be8_7 ⟨(by first | omega | (dsimp only; omega)), (by first | omega | (dsimp only; omega))⟩) hP hD hS hA [0] [1] rfl rfl rfl (by decide) (fun u1 H locs hP hD hS => ?_)
  have hP : va_P D vwCl [(v, .inr (1, fs)), (a, .inr (0, [.int mk, .ref (u1 0 0), .int 0])), ((u1 0 0), .inl (yc 2, 10, .inr (.inr (.inr (.inr (fun _ => none))))))] H := hP
  have hD : va_D A [(v, .inr (1, fs)), (a, .inr (0, [.int mk, .ref (u1 0 0), .int 0])), ((u1 0 0), .inl (yc 2, 10, .inr (.inr (.inr (.inr (fun _ => none))))))] := hD
  refine zk_tv (y := .ref (u1 0 0)) rfl ?_
  refine lv_astore_n (lv' := [(2, .ref (u1 0 0)), (0, .ref a), (1, .ref v), (3, .int 0)]) hx hb dJx4a65c_add_72be8_10 rfl hl (by decide) rfl (fun ls hl => ?_)
  refine lv_aload_n hx hb dJx4a65c_add_72be8_11 rfl (lv_at hl 0 rfl) ?_
  refine lv_iload_n hx hb dJx4a65c_add_72be8_12 rfl (lv_at hl 3 rfl) ?_
  refine lv_aload_n hx hb dJx4a65c_add_72be8_13 rfl (lv_at hl 2 rfl) ?_
  refine va_astqO hx hb hK hP hD hS 2 2 0 1 rfl rfl (hN _ wr1216 rfl) rfl rfl (by unfold vp_in; decide) dJx4a65c_add_72be8_14 (fun H locs hP hD hS => ?_)
  have ef9 : va_up (fun _ => none) (0 : Int32).toNatClampNeg (some v) = (va_up (fun _ => none) 0 (some v)) := by rw [zc0]
  rw [ef9] at hP hD
  have hP : va_P D vwCl [(v, .inr (1, fs)), (a, .inr (0, [.int mk, .ref (u1 0 0), .int 0])), ((u1 0 0), .inl (yc 2, 10, .inr (.inr (.inr (.inr (va_up (fun _ => none) 0 (some v)))))))] H := hP
  have hD : va_D A [(v, .inr (1, fs)), (a, .inr (0, [.int mk, .ref (u1 0 0), .int 0])), ((u1 0 0), .inl (yc 2, 10, .inr (.inr (.inr (.inr (va_up (fun _ => none) 0 (some v)))))))] := hD
  refine lv_aload_n hx hb dJx4a65c_add_72be8_15 rfl (lv_at hl 1 rfl) ?_
  refine lv_iload_n hx hb dJx4a65c_add_72be8_16 rfl (lv_at hl 3 rfl) ?_
  refine lv_iconst (v := 1) hx hb dJx4a65c_add_72be8_17 (by decide) ?_
  refine lv_iadd hx hb dJx4a65c_add_72be8_18 ?_
  refine zk_ti (y := 1) (by decide) ?_
  refine va_put (D := D) (ci := 0) (v := .int 1) (ty := .int) (C := RJx4a65c) (T := TJx4a65c) (N := 3) hx hb hts iJx4a65c tyJx4a65c tyJx4a65c_ok nmJx4a65c hown hK hP hD hS 1 rfl rfl 2 (by decide) (hts _ wq56) (fun _ h9 => h9) rfl (by decide +kernel) rfl rfl (Nat.le_of_ble_eq_true rfl) dJx4a65c_add_72be8_19 (fun H locs hP hD hS => ?_)
  have hP : va_P D vwCl [(v, .inr (1, fs)), (a, .inr (0, [.int mk, .ref (u1 0 0), .int 1])), ((u1 0 0), .inl (yc 2, 10, .inr (.inr (.inr (.inr (va_up (fun _ => none) 0 (some v)))))))] H := hP
  have hD : va_D A [(v, .inr (1, fs)), (a, .inr (0, [.int mk, .ref (u1 0 0), .int 1])), ((u1 0 0), .inl (yc 2, 10, .inr (.inr (.inr (.inr (va_up (fun _ => none) 0 (some v)))))))] := hD
  exact zk_rv (w1 := fun u => [(v, .inr (1, fs)), (a, .inr (0, [.int mk, .ref (u 0 0), .int 1])), ((u 0 0), .inl (yc 2, 10, .inr (.inr (.inr (.inr (va_up (fun _ => none) 0 (some v)))))))]) hx hb hr hlk hP hD hS (fun _ _ => u1 0 0) [0, 1, 2] rfl rfl (by first | omega | (dsimp only; omega)) (by first | omega | (dsimp only; omega)) dJx4a65c_add_72be8_22
set_option maxHeartbeats 4000000 in
set_option maxRecDepth 100000 in
theorem ll_add3G_1 (l : Launch) (D : va_G) (yc : Nat → ClassId) (e0 : Nat) (a v x n : Nat) (mk : Int32) (f : Nat → Option Nat) (fs : List Value) (mi : Nat) (sz : Nat) (h1 : 1 ≤ n) (h2 : n < 1024) : Met l yJx4a65c_add_72be8 (ws_ yJx4a65c_add_72be8 cJx4a65c_add_72be8 4 none) { frames := 5, cells := 1, slots := (lgr n), locals := 180 } (PE D yc e0 [(a, .inr (0, [.int mk, .ref x, .int (nI n)])), (v, .inr (1, fs)), (x, .inl (yc 2, n, .inr (.inr (.inr (.inr f)))))] sz 1 n f mi [.ref a, .ref v, .ref x, .int (nI n)]) (va_Qv (fun _ => True) (WD D (va_A [(a, .inr (0, [.int mk, .ref x, .int (nI n)])), (v, .inr (1, fs)), (x, .inl (yc 2, n, .inr (.inr (.inr (.inr f)))))] sz) (fun u => [(v, .inr (1, fs)), (a, .inr (0, [.int mk, .ref (u 0 0), .int (nI (n + 1))])), ((u 0 0), .inl (yc 2, (lgr n), .inr (.inr (.inr (.inr (va_up (va_cpy f (fun _ => none) 0 0 n) n (some v)))))))])) (va_A [(a, .inr (0, [.int mk, .ref x, .int (nI n)])), (v, .inr (1, fs)), (x, .inl (yc 2, n, .inr (.inr (.inr (.inr f)))))] sz)) 1 (lgr n) (va_A [(a, .inr (0, [.int mk, .ref x, .int (nI n)])), (v, .inr (1, fs)), (x, .inl (yc 2, n, .inr (.inr (.inr (.inr f)))))] sz) := by
  refine zk_ME (y := yJx4a65c_add_72be8) (cc := cJx4a65c_add_72be8) (maxL := 4) (w := [(a, .inr (0, [.int mk, .ref x, .int (nI n)])), (v, .inr (1, fs)), (x, .inl (yc 2, n, .inr (.inr (.inr (.inr f)))))]) (av := [.ref a, .ref v, .ref x, .int (nI n)]) (Qc := fun A => va_Qv (fun _ => True) (WD D A (fun u => [(v, .inr (1, fs)), (a, .inr (0, [.int mk, .ref (u 0 0), .int (nI (n + 1))])), ((u 0 0), .inl (yc 2, (lgr n), .inr (.inr (.inr (.inr (va_up (va_cpy f (fun _ => none) 0 0 n) n (some v)))))))])) A) (by decide) (Nat.le_of_ble_eq_true rfl) ?_
  intro p e s m args below meth c A ls hx hb hml hr hlk hown hts hP hD hS hA hC hM hE hl
  have hK := hC.1
  have hN := hC.2.1
  have hl : lv_has ls 4 [(0, .ref a), (1, .ref v), (2, .ref x), (3, .int (nI n))] := hl
  generalize hHH : s.heap = H at hP ⊢
  have hS : va_S A s.heap H [] := by rw [← hHH]; exact hS
  have hg := lgr_b h2
  refine lv_iload_n hx hb dJx4a65c_add_72be8_0 rfl (lv_at hl 3 rfl) ?_
  refine lv_aload_n hx hb dJx4a65c_add_72be8_1 rfl (lv_at hl 2 rfl) ?_
  refine va_alen hx hb hK hP 2 2 rfl rfl (v := nI n) rfl dJx4a65c_add_72be8_2 ?_
  refine lv_icmp_ne (tgt := 11) hx hb dJx4a65c_add_72be8_3 (by decide) (fun h9 => absurd rfl h9) (fun _ => ?_)
  refine lv_aload_n hx hb dJx4a65c_add_72be8_6 rfl (lv_at hl 0 rfl) ?_
  refine zk_q (wr := [(v, .inr (1, fs))]) (va_runV (As := []) (rest := []) ⟨hx, hb, hml, hown, hts⟩ (ll_grow l D yc e0 a x n mk f 1 _ rfl wr1216 mi H.size h1 h2) (cwV 0 hts (lw_V wq959 wq961 ws30 wq5 wq962) rfl rfl rfl (by decide +kernel) ⟨(Nat.le_of_ble_eq_true rfl), (Nat.le_of_ble_eq_true rfl)⟩) (pe_V hC hP hD hS hA hM hE [0, 2] rfl rfl 0 0 rfl rfl) rfl rfl hl.1 rfl (lv_room (Nat.le_of_ble_eq_true rfl)) dJx4a65c_add_72be8_7 ⟨(by first | omega | (dsimp only; omega)), (by first | omega | (dsimp only; omega))⟩) hP hD hS hA [0, 2] [1] rfl rfl rfl (by decide) (fun u1 H locs hP hD hS => ?_)
  have hP : va_P D vwCl [(v, .inr (1, fs)), (a, .inr (0, [.int mk, .ref (u1 0 0), .int (nI n)])), ((u1 0 0), .inl (yc 2, (lgr n), .inr (.inr (.inr (.inr (va_cpy f (fun _ => none) 0 0 n))))))] H := hP
  have hD : va_D A [(v, .inr (1, fs)), (a, .inr (0, [.int mk, .ref (u1 0 0), .int (nI n)])), ((u1 0 0), .inl (yc 2, (lgr n), .inr (.inr (.inr (.inr (va_cpy f (fun _ => none) 0 0 n))))))] := hD
  refine zk_tv (y := .ref (u1 0 0)) rfl ?_
  refine lv_astore_n (lv' := [(2, .ref (u1 0 0)), (0, .ref a), (1, .ref v), (3, .int (nI n))]) hx hb dJx4a65c_add_72be8_10 rfl hl (by decide) rfl (fun ls hl => ?_)
  refine lv_aload_n hx hb dJx4a65c_add_72be8_11 rfl (lv_at hl 0 rfl) ?_
  refine lv_iload_n hx hb dJx4a65c_add_72be8_12 rfl (lv_at hl 3 rfl) ?_
  refine lv_aload_n hx hb dJx4a65c_add_72be8_13 rfl (lv_at hl 2 rfl) ?_
  refine va_astqO hx hb hK hP hD hS 2 2 0 1 rfl rfl (hN _ wr1216 rfl) rfl rfl (vp_in_nI (by omega) (by omega)) dJx4a65c_add_72be8_14 (fun H locs hP hD hS => ?_)
  have ef9 : va_up (va_cpy f (fun _ => none) 0 0 n) (nI n : Int32).toNatClampNeg (some v) = (va_up (va_cpy f (fun _ => none) 0 0 n) n (some v)) := by rw [nI_clamp (by omega)]
  rw [ef9] at hP hD
  have hP : va_P D vwCl [(v, .inr (1, fs)), (a, .inr (0, [.int mk, .ref (u1 0 0), .int (nI n)])), ((u1 0 0), .inl (yc 2, (lgr n), .inr (.inr (.inr (.inr (va_up (va_cpy f (fun _ => none) 0 0 n) n (some v)))))))] H := hP
  have hD : va_D A [(v, .inr (1, fs)), (a, .inr (0, [.int mk, .ref (u1 0 0), .int (nI n)])), ((u1 0 0), .inl (yc 2, (lgr n), .inr (.inr (.inr (.inr (va_up (va_cpy f (fun _ => none) 0 0 n) n (some v)))))))] := hD
  refine lv_aload_n hx hb dJx4a65c_add_72be8_15 rfl (lv_at hl 1 rfl) ?_
  refine lv_iload_n hx hb dJx4a65c_add_72be8_16 rfl (lv_at hl 3 rfl) ?_
  refine lv_iconst (v := 1) hx hb dJx4a65c_add_72be8_17 (by decide) ?_
  refine lv_iadd hx hb dJx4a65c_add_72be8_18 ?_
  refine zk_ti (y := nI (n + 1)) (nI_1 n) ?_
  refine va_put (D := D) (ci := 0) (v := .int (nI (n + 1))) (ty := .int) (C := RJx4a65c) (T := TJx4a65c) (N := 3) hx hb hts iJx4a65c tyJx4a65c tyJx4a65c_ok nmJx4a65c hown hK hP hD hS 1 rfl rfl 2 (by decide) (hts _ wq56) (fun _ h9 => h9) rfl (by decide +kernel) rfl rfl (Nat.le_of_ble_eq_true rfl) dJx4a65c_add_72be8_19 (fun H locs hP hD hS => ?_)
  have hP : va_P D vwCl [(v, .inr (1, fs)), (a, .inr (0, [.int mk, .ref (u1 0 0), .int (nI (n + 1))])), ((u1 0 0), .inl (yc 2, (lgr n), .inr (.inr (.inr (.inr (va_up (va_cpy f (fun _ => none) 0 0 n) n (some v)))))))] H := hP
  have hD : va_D A [(v, .inr (1, fs)), (a, .inr (0, [.int mk, .ref (u1 0 0), .int (nI (n + 1))])), ((u1 0 0), .inl (yc 2, (lgr n), .inr (.inr (.inr (.inr (va_up (va_cpy f (fun _ => none) 0 0 n) n (some v)))))))] := hD
  exact zk_rv (w1 := fun u => [(v, .inr (1, fs)), (a, .inr (0, [.int mk, .ref (u 0 0), .int (nI (n + 1))])), ((u 0 0), .inl (yc 2, (lgr n), .inr (.inr (.inr (.inr (va_up (va_cpy f (fun _ => none) 0 0 n) n (some v)))))))]) hx hb hr hlk hP hD hS (fun _ _ => u1 0 0) [0, 1, 2] rfl rfl (by first | omega | (dsimp only; omega)) (by first | omega | (dsimp only; omega)) dJx4a65c_add_72be8_22
set_option maxHeartbeats 4000000 in
set_option maxRecDepth 100000 in
theorem ll_addR_1 (l : Launch) (D : va_G) (yc : Nat → ClassId) (e0 : Nat) (a v x cap n : Nat) (mk : Int32) (f : Nat → Option Nat) (fs : List Value) (sz : Nat) (h1 : n < cap) (h2 : cap < 2048) : Met l yJx4a65c_add_9ea2d (ws_ yJx4a65c_add_9ea2d cJx4a65c_add_9ea2d 2 (some .boolean)) { frames := 1, cells := 0, slots := 0, locals := 23 } (PR D yc e0 [(a, .inr (0, [.int mk, .ref x, .int (nI n)])), (v, .inr (1, fs)), (x, .inl (yc 2, cap, .inr (.inr (.inr (.inr f)))))] sz [.ref a, .ref v]) (va_Qi (fun r u => r = 1) (WD D (va_A [(a, .inr (0, [.int mk, .ref x, .int (nI n)])), (v, .inr (1, fs)), (x, .inl (yc 2, cap, .inr (.inr (.inr (.inr f)))))] sz) (fun u => [(a, .inr (0, [.int (mk + 1), .ref x, .int (nI (n + 1))])), (v, .inr (1, fs)), (x, .inl (yc 2, cap, .inr (.inr (.inr (.inr (va_up f n (some v)))))))])) (va_A [(a, .inr (0, [.int mk, .ref x, .int (nI n)])), (v, .inr (1, fs)), (x, .inl (yc 2, cap, .inr (.inr (.inr (.inr f)))))] sz)) 0 0 (va_A [(a, .inr (0, [.int mk, .ref x, .int (nI n)])), (v, .inr (1, fs)), (x, .inl (yc 2, cap, .inr (.inr (.inr (.inr f)))))] sz) := by
  refine zk_M (y := yJx4a65c_add_9ea2d) (cc := cJx4a65c_add_9ea2d) (maxL := 2) (w := [(a, .inr (0, [.int mk, .ref x, .int (nI n)])), (v, .inr (1, fs)), (x, .inl (yc 2, cap, .inr (.inr (.inr (.inr f)))))]) (av := [.ref a, .ref v]) (Qc := fun A => va_Qi (fun r u => r = 1) (WD D A (fun u => [(a, .inr (0, [.int (mk + 1), .ref x, .int (nI (n + 1))])), (v, .inr (1, fs)), (x, .inl (yc 2, cap, .inr (.inr (.inr (.inr (va_up f n (some v)))))))])) A) (by decide) (Nat.le_of_ble_eq_true rfl) ?_
  intro p e s m args below meth c A ls hx hb hml hr hlk hown hnm hts hP hD hS hA hC hl
  have hK := hC.1
  have hN := hC.2.1
  have hl : lv_has ls 2 [(0, .ref a), (1, .ref v)] := hl
  generalize hHH : s.heap = H at hP ⊢
  have hS : va_S A s.heap H [] := by rw [← hHH]; exact hS
  refine lv_aload_n hx hb dJx4a65c_add_9ea2d_0 rfl (lv_at hl 0 rfl) ?_
  refine lv_dup hx hb dJx4a65c_add_9ea2d_1 rfl ?_
  refine va_get (D := D) (ci := 0) (v := .int mk) (C := RJx4a65c) (T := TJx4a65c) (N := 3) hx hb hts iJx4a65c hown hK hP 0 rfl rfl 0 (by decide) (hts _ wq58) (u_same (hts _ wq59)) rfl dJx4a65c_add_9ea2d_2 ?_
  refine lv_iconst (v := 1) hx hb dJx4a65c_add_9ea2d_5 (by decide) ?_
  refine lv_iadd hx hb dJx4a65c_add_9ea2d_6 ?_
  refine va_put (D := D) (ci := 0) (v := .int (mk + 1)) (ty := .int) (C := RJx4a65c) (T := TJx4a65c) (N := 3) hx hb hts iJx4a65c tyJx4a65c tyJx4a65c_ok nmJx4a65c hown hK hP hD hS 0 rfl rfl 0 (by decide) (hts _ wq58) (u_same (hts _ wq59)) rfl (by decide +kernel) rfl rfl (Nat.le_of_ble_eq_true rfl) dJx4a65c_add_9ea2d_7 (fun H locs hP hD hS => ?_)
  have hP : va_P D vwCl [(a, .inr (0, [.int (mk + 1), .ref x, .int (nI n)])), (v, .inr (1, fs)), (x, .inl (yc 2, cap, .inr (.inr (.inr (.inr f)))))] H := hP
  have hD : va_D A [(a, .inr (0, [.int (mk + 1), .ref x, .int (nI n)])), (v, .inr (1, fs)), (x, .inl (yc 2, cap, .inr (.inr (.inr (.inr f)))))] := hD
  refine lv_aload_n hx hb dJx4a65c_add_9ea2d_10 rfl (lv_at hl 0 rfl) ?_
  refine lv_aload_n hx hb dJx4a65c_add_9ea2d_11 rfl (lv_at hl 1 rfl) ?_
  refine lv_aload_n hx hb dJx4a65c_add_9ea2d_12 rfl (lv_at hl 0 rfl) ?_
  refine va_get (D := D) (ci := 0) (v := .ref x) (C := RJx4a65c) (T := TJx4a65c) (N := 3) hx hb hts iJx4a65c hown hK hP 0 rfl rfl 1 (by decide) (hts _ wq55) (fun _ h9 => h9) rfl dJx4a65c_add_9ea2d_13 ?_
  refine lv_aload_n hx hb dJx4a65c_add_9ea2d_16 rfl (lv_at hl 0 rfl) ?_
  refine va_get (D := D) (ci := 0) (v := .int (nI n)) (C := RJx4a65c) (T := TJx4a65c) (N := 3) hx hb hts iJx4a65c hown hK hP 0 rfl rfl 2 (by decide) (hts _ wq56) (fun _ h9 => h9) rfl dJx4a65c_add_9ea2d_17 ?_
  refine zk_v (wr := []) (va_runV (As := [.ref v, .ref x, .int (nI n)]) (rest := []) ⟨hx, hb, hml, hown, hts⟩ (ll_add3R_1 l D yc e0 a v x cap n (mk + 1) f fs H.size h1 h2) (cwV 3 hts (lw_V wq955 wq957 ws29 wq5 wq958) rfl rfl rfl (by decide +kernel) ⟨(Nat.le_of_ble_eq_true rfl), (Nat.le_of_ble_eq_true rfl)⟩) (zk_pV hC hP hD hS hA [0, 1, 2] rfl rfl 0 0 rfl rfl) rfl rfl hl.1 rfl (lv_room (Nat.le_of_ble_eq_true rfl)) dJx4a65c_add_9ea2d_20 ⟨(by first | omega | (dsimp only; omega)), (by first | omega | (dsimp only; omega))⟩) hP hD hS hA [0, 1, 2] [] rfl rfl rfl (by decide) (fun u1 H locs hP hD hS => ?_)
  have hP : va_P D vwCl [(a, .inr (0, [.int (mk + 1), .ref x, .int (nI (n + 1))])), (v, .inr (1, fs)), (x, .inl (yc 2, cap, .inr (.inr (.inr (.inr (va_up f n (some v)))))))] H := hP
  have hD : va_D A [(a, .inr (0, [.int (mk + 1), .ref x, .int (nI (n + 1))])), (v, .inr (1, fs)), (x, .inl (yc 2, cap, .inr (.inr (.inr (.inr (va_up f n (some v)))))))] := hD
  refine lv_iconst (v := 1) hx hb dJx4a65c_add_9ea2d_23 (by decide) ?_
  exact zk_ri (r0 := fun u => 1) (w1 := fun u => [(a, .inr (0, [.int (mk + 1), .ref x, .int (nI (n + 1))])), (v, .inr (1, fs)), (x, .inl (yc 2, cap, .inr (.inr (.inr (.inr (va_up f n (some v)))))))]) hx hb hr hlk hP hD hS (fun _ _ => 0) rfl rfl [0, 1, 2] rfl rfl (by first | omega | (dsimp only; omega)) (by first | omega | (dsimp only; omega)) dJx4a65c_add_9ea2d_24
set_option maxHeartbeats 4000000 in
set_option maxRecDepth 100000 in
theorem ll_addE_1 (l : Launch) (D : va_G) (yc : Nat → ClassId) (e0 : Nat) (a v : Nat) (mk : Int32) (fs : List Value) (sz : Nat) : Met l yJx4a65c_add_9ea2d (ws_ yJx4a65c_add_9ea2d cJx4a65c_add_9ea2d 2 (some .boolean)) { frames := 4, cells := 1, slots := 10, locals := 93 } (PR D yc e0 [(a, .inr (0, [.int mk, .ref e0, .int 0])), (v, .inr (1, fs))] sz [.ref a, .ref v]) (va_Qi (fun r u => r = 1) (WD D (va_A [(a, .inr (0, [.int mk, .ref e0, .int 0])), (v, .inr (1, fs))] sz) (fun u => [(v, .inr (1, fs)), (a, .inr (0, [.int (mk + 1), .ref (u 0 0), .int 1])), ((u 0 0), .inl (yc 2, 10, .inr (.inr (.inr (.inr (va_up (fun _ => none) 0 (some v)))))))])) (va_A [(a, .inr (0, [.int mk, .ref e0, .int 0])), (v, .inr (1, fs))] sz)) 1 10 (va_A [(a, .inr (0, [.int mk, .ref e0, .int 0])), (v, .inr (1, fs))] sz) := by
  refine zk_M (y := yJx4a65c_add_9ea2d) (cc := cJx4a65c_add_9ea2d) (maxL := 2) (w := [(a, .inr (0, [.int mk, .ref e0, .int 0])), (v, .inr (1, fs))]) (av := [.ref a, .ref v]) (Qc := fun A => va_Qi (fun r u => r = 1) (WD D A (fun u => [(v, .inr (1, fs)), (a, .inr (0, [.int (mk + 1), .ref (u 0 0), .int 1])), ((u 0 0), .inl (yc 2, 10, .inr (.inr (.inr (.inr (va_up (fun _ => none) 0 (some v)))))))])) A) (by decide) (Nat.le_of_ble_eq_true rfl) ?_
  intro p e s m args below meth c A ls hx hb hml hr hlk hown hnm hts hP hD hS hA hC hl
  have hK := hC.1
  have hN := hC.2.1
  have hl : lv_has ls 2 [(0, .ref a), (1, .ref v)] := hl
  generalize hHH : s.heap = H at hP ⊢
  have hS : va_S A s.heap H [] := by rw [← hHH]; exact hS
  refine lv_aload_n hx hb dJx4a65c_add_9ea2d_0 rfl (lv_at hl 0 rfl) ?_
  refine lv_dup hx hb dJx4a65c_add_9ea2d_1 rfl ?_
  refine va_get (D := D) (ci := 0) (v := .int mk) (C := RJx4a65c) (T := TJx4a65c) (N := 3) hx hb hts iJx4a65c hown hK hP 0 rfl rfl 0 (by decide) (hts _ wq58) (u_same (hts _ wq59)) rfl dJx4a65c_add_9ea2d_2 ?_
  refine lv_iconst (v := 1) hx hb dJx4a65c_add_9ea2d_5 (by decide) ?_
  refine lv_iadd hx hb dJx4a65c_add_9ea2d_6 ?_
  refine va_put (D := D) (ci := 0) (v := .int (mk + 1)) (ty := .int) (C := RJx4a65c) (T := TJx4a65c) (N := 3) hx hb hts iJx4a65c tyJx4a65c tyJx4a65c_ok nmJx4a65c hown hK hP hD hS 0 rfl rfl 0 (by decide) (hts _ wq58) (u_same (hts _ wq59)) rfl (by decide +kernel) rfl rfl (Nat.le_of_ble_eq_true rfl) dJx4a65c_add_9ea2d_7 (fun H locs hP hD hS => ?_)
  have hP : va_P D vwCl [(a, .inr (0, [.int (mk + 1), .ref e0, .int 0])), (v, .inr (1, fs))] H := hP
  have hD : va_D A [(a, .inr (0, [.int (mk + 1), .ref e0, .int 0])), (v, .inr (1, fs))] := hD
  refine lv_aload_n hx hb dJx4a65c_add_9ea2d_10 rfl (lv_at hl 0 rfl) ?_
  refine lv_aload_n hx hb dJx4a65c_add_9ea2d_11 rfl (lv_at hl 1 rfl) ?_
  refine lv_aload_n hx hb dJx4a65c_add_9ea2d_12 rfl (lv_at hl 0 rfl) ?_
  refine va_get (D := D) (ci := 0) (v := .ref e0) (C := RJx4a65c) (T := TJx4a65c) (N := 3) hx hb hts iJx4a65c hown hK hP 0 rfl rfl 1 (by decide) (hts _ wq55) (fun _ h9 => h9) rfl dJx4a65c_add_9ea2d_13 ?_
  refine lv_aload_n hx hb dJx4a65c_add_9ea2d_16 rfl (lv_at hl 0 rfl) ?_
  refine va_get (D := D) (ci := 0) (v := .int 0) (C := RJx4a65c) (T := TJx4a65c) (N := 3) hx hb hts iJx4a65c hown hK hP 0 rfl rfl 2 (by decide) (hts _ wq56) (fun _ h9 => h9) rfl dJx4a65c_add_9ea2d_17 ?_
  refine zk_v (wr := []) (va_runV (As := [.ref v, .ref e0, .int 0]) (rest := []) ⟨hx, hb, hml, hown, hts⟩ (ll_add3E_1 l D yc e0 a v (mk + 1) fs H.size) (cwV 3 hts (lw_V wq955 wq957 ws29 wq5 wq958) rfl rfl rfl (by decide +kernel) ⟨(Nat.le_of_ble_eq_true rfl), (Nat.le_of_ble_eq_true rfl)⟩) (zk_pV hC hP hD hS hA [0, 1] rfl rfl 0 0 rfl rfl) rfl rfl hl.1 rfl (lv_room (Nat.le_of_ble_eq_true rfl)) dJx4a65c_add_9ea2d_20 ⟨(by first | omega | (dsimp only; omega)), (by first | omega | (dsimp only; omega))⟩) hP hD hS hA [0, 1] [] rfl rfl rfl (by decide) (fun u1 H locs hP hD hS => ?_)
  have hP : va_P D vwCl [(v, .inr (1, fs)), (a, .inr (0, [.int (mk + 1), .ref (u1 0 0), .int 1])), ((u1 0 0), .inl (yc 2, 10, .inr (.inr (.inr (.inr (va_up (fun _ => none) 0 (some v)))))))] H := hP
  have hD : va_D A [(v, .inr (1, fs)), (a, .inr (0, [.int (mk + 1), .ref (u1 0 0), .int 1])), ((u1 0 0), .inl (yc 2, 10, .inr (.inr (.inr (.inr (va_up (fun _ => none) 0 (some v)))))))] := hD
  refine lv_iconst (v := 1) hx hb dJx4a65c_add_9ea2d_23 (by decide) ?_
  exact zk_ri (r0 := fun u => 1) (w1 := fun u => [(v, .inr (1, fs)), (a, .inr (0, [.int (mk + 1), .ref (u 0 0), .int 1])), ((u 0 0), .inl (yc 2, 10, .inr (.inr (.inr (.inr (va_up (fun _ => none) 0 (some v)))))))]) hx hb hr hlk hP hD hS (fun _ _ => u1 0 0) rfl rfl [0, 1, 2] rfl rfl (by first | omega | (dsimp only; omega)) (by first | omega | (dsimp only; omega)) dJx4a65c_add_9ea2d_24
set_option maxHeartbeats 4000000 in
set_option maxRecDepth 100000 in
theorem ll_addG_1 (l : Launch) (D : va_G) (yc : Nat → ClassId) (e0 : Nat) (a v x n : Nat) (mk : Int32) (f : Nat → Option Nat) (fs : List Value) (mi : Nat) (sz : Nat) (h1 : 1 ≤ n) (h2 : n < 1024) : Met l yJx4a65c_add_9ea2d (ws_ yJx4a65c_add_9ea2d cJx4a65c_add_9ea2d 2 (some .boolean)) { frames := 6, cells := 1, slots := (lgr n), locals := 210 } (PE D yc e0 [(a, .inr (0, [.int mk, .ref x, .int (nI n)])), (v, .inr (1, fs)), (x, .inl (yc 2, n, .inr (.inr (.inr (.inr f)))))] sz 1 n f mi [.ref a, .ref v]) (va_Qi (fun r u => r = 1) (WD D (va_A [(a, .inr (0, [.int mk, .ref x, .int (nI n)])), (v, .inr (1, fs)), (x, .inl (yc 2, n, .inr (.inr (.inr (.inr f)))))] sz) (fun u => [(v, .inr (1, fs)), (a, .inr (0, [.int (mk + 1), .ref (u 0 0), .int (nI (n + 1))])), ((u 0 0), .inl (yc 2, (lgr n), .inr (.inr (.inr (.inr (va_up (va_cpy f (fun _ => none) 0 0 n) n (some v)))))))])) (va_A [(a, .inr (0, [.int mk, .ref x, .int (nI n)])), (v, .inr (1, fs)), (x, .inl (yc 2, n, .inr (.inr (.inr (.inr f)))))] sz)) 1 (lgr n) (va_A [(a, .inr (0, [.int mk, .ref x, .int (nI n)])), (v, .inr (1, fs)), (x, .inl (yc 2, n, .inr (.inr (.inr (.inr f)))))] sz) := by
  refine zk_ME (y := yJx4a65c_add_9ea2d) (cc := cJx4a65c_add_9ea2d) (maxL := 2) (w := [(a, .inr (0, [.int mk, .ref x, .int (nI n)])), (v, .inr (1, fs)), (x, .inl (yc 2, n, .inr (.inr (.inr (.inr f)))))]) (av := [.ref a, .ref v]) (Qc := fun A => va_Qi (fun r u => r = 1) (WD D A (fun u => [(v, .inr (1, fs)), (a, .inr (0, [.int (mk + 1), .ref (u 0 0), .int (nI (n + 1))])), ((u 0 0), .inl (yc 2, (lgr n), .inr (.inr (.inr (.inr (va_up (va_cpy f (fun _ => none) 0 0 n) n (some v)))))))])) A) (by decide) (Nat.le_of_ble_eq_true rfl) ?_
  intro p e s m args below meth c A ls hx hb hml hr hlk hown hts hP hD hS hA hC hM hE hl
  have hK := hC.1
  have hN := hC.2.1
  have hl : lv_has ls 2 [(0, .ref a), (1, .ref v)] := hl
  generalize hHH : s.heap = H at hP ⊢
  have hS : va_S A s.heap H [] := by rw [← hHH]; exact hS
  have hg := lgr_b h2
  refine lv_aload_n hx hb dJx4a65c_add_9ea2d_0 rfl (lv_at hl 0 rfl) ?_
  refine lv_dup hx hb dJx4a65c_add_9ea2d_1 rfl ?_
  refine va_get (D := D) (ci := 0) (v := .int mk) (C := RJx4a65c) (T := TJx4a65c) (N := 3) hx hb hts iJx4a65c hown hK hP 0 rfl rfl 0 (by decide) (hts _ wq58) (u_same (hts _ wq59)) rfl dJx4a65c_add_9ea2d_2 ?_
  refine lv_iconst (v := 1) hx hb dJx4a65c_add_9ea2d_5 (by decide) ?_
  refine lv_iadd hx hb dJx4a65c_add_9ea2d_6 ?_
  refine va_put (D := D) (ci := 0) (v := .int (mk + 1)) (ty := .int) (C := RJx4a65c) (T := TJx4a65c) (N := 3) hx hb hts iJx4a65c tyJx4a65c tyJx4a65c_ok nmJx4a65c hown hK hP hD hS 0 rfl rfl 0 (by decide) (hts _ wq58) (u_same (hts _ wq59)) rfl (by decide +kernel) rfl rfl (Nat.le_of_ble_eq_true rfl) dJx4a65c_add_9ea2d_7 (fun H locs hP hD hS => ?_)
  have hP : va_P D vwCl [(a, .inr (0, [.int (mk + 1), .ref x, .int (nI n)])), (v, .inr (1, fs)), (x, .inl (yc 2, n, .inr (.inr (.inr (.inr f)))))] H := hP
  have hD : va_D A [(a, .inr (0, [.int (mk + 1), .ref x, .int (nI n)])), (v, .inr (1, fs)), (x, .inl (yc 2, n, .inr (.inr (.inr (.inr f)))))] := hD
  refine lv_aload_n hx hb dJx4a65c_add_9ea2d_10 rfl (lv_at hl 0 rfl) ?_
  refine lv_aload_n hx hb dJx4a65c_add_9ea2d_11 rfl (lv_at hl 1 rfl) ?_
  refine lv_aload_n hx hb dJx4a65c_add_9ea2d_12 rfl (lv_at hl 0 rfl) ?_
  refine va_get (D := D) (ci := 0) (v := .ref x) (C := RJx4a65c) (T := TJx4a65c) (N := 3) hx hb hts iJx4a65c hown hK hP 0 rfl rfl 1 (by decide) (hts _ wq55) (fun _ h9 => h9) rfl dJx4a65c_add_9ea2d_13 ?_
  refine lv_aload_n hx hb dJx4a65c_add_9ea2d_16 rfl (lv_at hl 0 rfl) ?_
  refine va_get (D := D) (ci := 0) (v := .int (nI n)) (C := RJx4a65c) (T := TJx4a65c) (N := 3) hx hb hts iJx4a65c hown hK hP 0 rfl rfl 2 (by decide) (hts _ wq56) (fun _ h9 => h9) rfl dJx4a65c_add_9ea2d_17 ?_
  refine zk_v (wr := []) (va_runV (As := [.ref v, .ref x, .int (nI n)]) (rest := []) ⟨hx, hb, hml, hown, hts⟩ (ll_add3G_1 l D yc e0 a v x n (mk + 1) f fs mi H.size h1 h2) (cwV 3 hts (lw_V wq955 wq957 ws29 wq5 wq958) rfl rfl rfl (by decide +kernel) ⟨(Nat.le_of_ble_eq_true rfl), (Nat.le_of_ble_eq_true rfl)⟩) (pe_V hC hP hD hS hA hM hE [0, 1, 2] rfl rfl 0 0 rfl rfl) rfl rfl hl.1 rfl (lv_room (Nat.le_of_ble_eq_true rfl)) dJx4a65c_add_9ea2d_20 ⟨(by first | omega | (dsimp only; omega)), (by first | omega | (dsimp only; omega))⟩) hP hD hS hA [0, 1, 2] [] rfl rfl rfl (by decide) (fun u1 H locs hP hD hS => ?_)
  have hP : va_P D vwCl [(v, .inr (1, fs)), (a, .inr (0, [.int (mk + 1), .ref (u1 0 0), .int (nI (n + 1))])), ((u1 0 0), .inl (yc 2, (lgr n), .inr (.inr (.inr (.inr (va_up (va_cpy f (fun _ => none) 0 0 n) n (some v)))))))] H := hP
  have hD : va_D A [(v, .inr (1, fs)), (a, .inr (0, [.int (mk + 1), .ref (u1 0 0), .int (nI (n + 1))])), ((u1 0 0), .inl (yc 2, (lgr n), .inr (.inr (.inr (.inr (va_up (va_cpy f (fun _ => none) 0 0 n) n (some v)))))))] := hD
  refine lv_iconst (v := 1) hx hb dJx4a65c_add_9ea2d_23 (by decide) ?_
  exact zk_ri (r0 := fun u => 1) (w1 := fun u => [(v, .inr (1, fs)), (a, .inr (0, [.int (mk + 1), .ref (u 0 0), .int (nI (n + 1))])), ((u 0 0), .inl (yc 2, (lgr n), .inr (.inr (.inr (.inr (va_up (va_cpy f (fun _ => none) 0 0 n) n (some v)))))))]) hx hb hr hlk hP hD hS (fun _ _ => u1 0 0) rfl rfl [0, 1, 2] rfl rfl (by first | omega | (dsimp only; omega)) (by first | omega | (dsimp only; omega)) dJx4a65c_add_9ea2d_24
set_option maxHeartbeats 4000000 in
set_option maxRecDepth 100000 in
theorem ll_add3R_7 (l : Launch) (D : va_G) (yc : Nat → ClassId) (e0 : Nat) (a v x cap n : Nat) (mk : Int32) (f : Nat → Option Nat) (fs : List Value) (sz : Nat) (h1 : n < cap) (h2 : cap < 2048) : Met l yJx4a65c_add_72be8 (ws_ yJx4a65c_add_72be8 cJx4a65c_add_72be8 4 none) { frames := 0, cells := 0, slots := 0, locals := 0 } (PR D yc e0 [(a, .inr (0, [.int mk, .ref x, .int (nI n)])), (v, .inr (7, fs)), (x, .inl (yc 2, cap, .inr (.inr (.inr (.inr f)))))] sz [.ref a, .ref v, .ref x, .int (nI n)]) (va_Qv (fun _ => True) (WD D (va_A [(a, .inr (0, [.int mk, .ref x, .int (nI n)])), (v, .inr (7, fs)), (x, .inl (yc 2, cap, .inr (.inr (.inr (.inr f)))))] sz) (fun u => [(a, .inr (0, [.int mk, .ref x, .int (nI (n + 1))])), (v, .inr (7, fs)), (x, .inl (yc 2, cap, .inr (.inr (.inr (.inr (va_up f n (some v)))))))])) (va_A [(a, .inr (0, [.int mk, .ref x, .int (nI n)])), (v, .inr (7, fs)), (x, .inl (yc 2, cap, .inr (.inr (.inr (.inr f)))))] sz)) 0 0 (va_A [(a, .inr (0, [.int mk, .ref x, .int (nI n)])), (v, .inr (7, fs)), (x, .inl (yc 2, cap, .inr (.inr (.inr (.inr f)))))] sz) := by
  refine zk_M (y := yJx4a65c_add_72be8) (cc := cJx4a65c_add_72be8) (maxL := 4) (w := [(a, .inr (0, [.int mk, .ref x, .int (nI n)])), (v, .inr (7, fs)), (x, .inl (yc 2, cap, .inr (.inr (.inr (.inr f)))))]) (av := [.ref a, .ref v, .ref x, .int (nI n)]) (Qc := fun A => va_Qv (fun _ => True) (WD D A (fun u => [(a, .inr (0, [.int mk, .ref x, .int (nI (n + 1))])), (v, .inr (7, fs)), (x, .inl (yc 2, cap, .inr (.inr (.inr (.inr (va_up f n (some v)))))))])) A) (by decide) (Nat.le_of_ble_eq_true rfl) ?_
  intro p e s m args below meth c A ls hx hb hml hr hlk hown hnm hts hP hD hS hA hC hl
  have hK := hC.1
  have hN := hC.2.1
  have hl : lv_has ls 4 [(0, .ref a), (1, .ref v), (2, .ref x), (3, .int (nI n))] := hl
  generalize hHH : s.heap = H at hP ⊢
  have hS : va_S A s.heap H [] := by rw [← hHH]; exact hS
  refine lv_iload_n hx hb dJx4a65c_add_72be8_0 rfl (lv_at hl 3 rfl) ?_
  refine lv_aload_n hx hb dJx4a65c_add_72be8_1 rfl (lv_at hl 2 rfl) ?_
  refine va_alen hx hb hK hP 2 2 rfl rfl (v := nI cap) rfl dJx4a65c_add_72be8_2 ?_
  refine lv_icmp_ne (tgt := 11) hx hb dJx4a65c_add_72be8_3 (by decide) (fun _ => ?_) (fun h9 => absurd h9 (fun e9 => by have := (nI_eq (by omega) (by omega)).mp e9; omega))
  refine lv_aload_n hx hb dJx4a65c_add_72be8_11 rfl (lv_at hl 2 rfl) ?_
  refine lv_iload_n hx hb dJx4a65c_add_72be8_12 rfl (lv_at hl 3 rfl) ?_
  refine lv_aload_n hx hb dJx4a65c_add_72be8_13 rfl (lv_at hl 1 rfl) ?_
  refine va_astqO hx hb hK hP hD hS 2 2 1 7 rfl rfl (hN _ wr1215 rfl) rfl rfl (vp_in_nI (by omega) (by omega)) dJx4a65c_add_72be8_14 (fun H locs hP hD hS => ?_)
  have ef9 : va_up f (nI n : Int32).toNatClampNeg (some v) = (va_up f n (some v)) := by rw [nI_clamp (by omega)]
  rw [ef9] at hP hD
  have hP : va_P D vwCl [(a, .inr (0, [.int mk, .ref x, .int (nI n)])), (v, .inr (7, fs)), (x, .inl (yc 2, cap, .inr (.inr (.inr (.inr (va_up f n (some v)))))))] H := hP
  have hD : va_D A [(a, .inr (0, [.int mk, .ref x, .int (nI n)])), (v, .inr (7, fs)), (x, .inl (yc 2, cap, .inr (.inr (.inr (.inr (va_up f n (some v)))))))] := hD
  refine lv_aload_n hx hb dJx4a65c_add_72be8_15 rfl (lv_at hl 0 rfl) ?_
  refine lv_iload_n hx hb dJx4a65c_add_72be8_16 rfl (lv_at hl 3 rfl) ?_
  refine lv_iconst (v := 1) hx hb dJx4a65c_add_72be8_17 (by decide) ?_
  refine lv_iadd hx hb dJx4a65c_add_72be8_18 ?_
  refine zk_ti (y := nI (n + 1)) (nI_1 n) ?_
  refine va_put (D := D) (ci := 0) (v := .int (nI (n + 1))) (ty := .int) (C := RJx4a65c) (T := TJx4a65c) (N := 3) hx hb hts iJx4a65c tyJx4a65c tyJx4a65c_ok nmJx4a65c hown hK hP hD hS 0 rfl rfl 2 (by decide) (hts _ wq56) (fun _ h9 => h9) rfl (by decide +kernel) rfl rfl (Nat.le_of_ble_eq_true rfl) dJx4a65c_add_72be8_19 (fun H locs hP hD hS => ?_)
  have hP : va_P D vwCl [(a, .inr (0, [.int mk, .ref x, .int (nI (n + 1))])), (v, .inr (7, fs)), (x, .inl (yc 2, cap, .inr (.inr (.inr (.inr (va_up f n (some v)))))))] H := hP
  have hD : va_D A [(a, .inr (0, [.int mk, .ref x, .int (nI (n + 1))])), (v, .inr (7, fs)), (x, .inl (yc 2, cap, .inr (.inr (.inr (.inr (va_up f n (some v)))))))] := hD
  exact zk_rv (w1 := fun u => [(a, .inr (0, [.int mk, .ref x, .int (nI (n + 1))])), (v, .inr (7, fs)), (x, .inl (yc 2, cap, .inr (.inr (.inr (.inr (va_up f n (some v)))))))]) hx hb hr hlk hP hD hS (fun _ _ => 0) [0, 1, 2] rfl rfl (Nat.le_of_ble_eq_true rfl) (Nat.le_of_ble_eq_true rfl) dJx4a65c_add_72be8_22
set_option maxHeartbeats 4000000 in
set_option maxRecDepth 100000 in
theorem ll_add3E_7 (l : Launch) (D : va_G) (yc : Nat → ClassId) (e0 : Nat) (a v : Nat) (mk : Int32) (fs : List Value) (sz : Nat) : Met l yJx4a65c_add_72be8 (ws_ yJx4a65c_add_72be8 cJx4a65c_add_72be8 4 none) { frames := 3, cells := 1, slots := 10, locals := 70 } (PR D yc e0 [(a, .inr (0, [.int mk, .ref e0, .int 0])), (v, .inr (7, fs))] sz [.ref a, .ref v, .ref e0, .int 0]) (va_Qv (fun _ => True) (WD D (va_A [(a, .inr (0, [.int mk, .ref e0, .int 0])), (v, .inr (7, fs))] sz) (fun u => [(v, .inr (7, fs)), (a, .inr (0, [.int mk, .ref (u 0 0), .int 1])), ((u 0 0), .inl (yc 2, 10, .inr (.inr (.inr (.inr (va_up (fun _ => none) 0 (some v)))))))])) (va_A [(a, .inr (0, [.int mk, .ref e0, .int 0])), (v, .inr (7, fs))] sz)) 1 10 (va_A [(a, .inr (0, [.int mk, .ref e0, .int 0])), (v, .inr (7, fs))] sz) := by
  refine zk_M (y := yJx4a65c_add_72be8) (cc := cJx4a65c_add_72be8) (maxL := 4) (w := [(a, .inr (0, [.int mk, .ref e0, .int 0])), (v, .inr (7, fs))]) (av := [.ref a, .ref v, .ref e0, .int 0]) (Qc := fun A => va_Qv (fun _ => True) (WD D A (fun u => [(v, .inr (7, fs)), (a, .inr (0, [.int mk, .ref (u 0 0), .int 1])), ((u 0 0), .inl (yc 2, 10, .inr (.inr (.inr (.inr (va_up (fun _ => none) 0 (some v)))))))])) A) (by decide) (Nat.le_of_ble_eq_true rfl) ?_
  intro p e s m args below meth c A ls hx hb hml hr hlk hown hnm hts hP hD hS hA hC hl
  have hK := hC.1
  have hN := hC.2.1
  have hl : lv_has ls 4 [(0, .ref a), (1, .ref v), (2, .ref e0), (3, .int 0)] := hl
  generalize hHH : s.heap = H at hP ⊢
  have hS : va_S A s.heap H [] := by rw [← hHH]; exact hS
  refine lv_iload_n hx hb dJx4a65c_add_72be8_0 rfl (lv_at hl 3 rfl) ?_
  refine lv_aload_n hx hb dJx4a65c_add_72be8_1 rfl (lv_at hl 2 rfl) ?_
  refine va_tlen hx hb hC.2.2.2.1 hS (v := 0) (by decide) dJx4a65c_add_72be8_2 ?_
  refine lv_icmp_ne (tgt := 11) hx hb dJx4a65c_add_72be8_3 (by decide) (fun h9 => absurd (by decide) h9) (fun _ => ?_)
  refine lv_aload_n hx hb dJx4a65c_add_72be8_6 rfl (lv_at hl 0 rfl) ?_
  refine zk_q (wr := [(v, .inr (7, fs))]) (va_runV (As := []) (rest := []) ⟨hx, hb, hml, hown, hts⟩ (ll_grow0 l D yc e0 a mk H.size) (cwV 0 hts (lw_V wq959 wq961 ws30 wq5 wq962) rfl rfl rfl (by decide +kernel) ⟨(Nat.le_of_ble_eq_true rfl), (Nat.le_of_ble_eq_true rfl)⟩) (zk_pV hC hP hD hS hA [0] rfl rfl 0 0 rfl rfl) rfl rfl hl.1 rfl (lv_room (Nat.le_of_ble_eq_true rfl)) dJx4a65c_add_72be8_7 ⟨(by first | omega | (dsimp only; omega)), (by first | omega | (dsimp only; omega))⟩) hP hD hS hA [0] [1] rfl rfl rfl (by decide) (fun u1 H locs hP hD hS => ?_)
  have hP : va_P D vwCl [(v, .inr (7, fs)), (a, .inr (0, [.int mk, .ref (u1 0 0), .int 0])), ((u1 0 0), .inl (yc 2, 10, .inr (.inr (.inr (.inr (fun _ => none))))))] H := hP
  have hD : va_D A [(v, .inr (7, fs)), (a, .inr (0, [.int mk, .ref (u1 0 0), .int 0])), ((u1 0 0), .inl (yc 2, 10, .inr (.inr (.inr (.inr (fun _ => none))))))] := hD
  refine zk_tv (y := .ref (u1 0 0)) rfl ?_
  refine lv_astore_n (lv' := [(2, .ref (u1 0 0)), (0, .ref a), (1, .ref v), (3, .int 0)]) hx hb dJx4a65c_add_72be8_10 rfl hl (by decide) rfl (fun ls hl => ?_)
  refine lv_aload_n hx hb dJx4a65c_add_72be8_11 rfl (lv_at hl 0 rfl) ?_
  refine lv_iload_n hx hb dJx4a65c_add_72be8_12 rfl (lv_at hl 3 rfl) ?_
  refine lv_aload_n hx hb dJx4a65c_add_72be8_13 rfl (lv_at hl 2 rfl) ?_
  refine va_astqO hx hb hK hP hD hS 2 2 0 7 rfl rfl (hN _ wr1215 rfl) rfl rfl (by unfold vp_in; decide) dJx4a65c_add_72be8_14 (fun H locs hP hD hS => ?_)
  have ef9 : va_up (fun _ => none) (0 : Int32).toNatClampNeg (some v) = (va_up (fun _ => none) 0 (some v)) := by rw [zc0]
  rw [ef9] at hP hD
  have hP : va_P D vwCl [(v, .inr (7, fs)), (a, .inr (0, [.int mk, .ref (u1 0 0), .int 0])), ((u1 0 0), .inl (yc 2, 10, .inr (.inr (.inr (.inr (va_up (fun _ => none) 0 (some v)))))))] H := hP
  have hD : va_D A [(v, .inr (7, fs)), (a, .inr (0, [.int mk, .ref (u1 0 0), .int 0])), ((u1 0 0), .inl (yc 2, 10, .inr (.inr (.inr (.inr (va_up (fun _ => none) 0 (some v)))))))] := hD
  refine lv_aload_n hx hb dJx4a65c_add_72be8_15 rfl (lv_at hl 1 rfl) ?_
  refine lv_iload_n hx hb dJx4a65c_add_72be8_16 rfl (lv_at hl 3 rfl) ?_
  refine lv_iconst (v := 1) hx hb dJx4a65c_add_72be8_17 (by decide) ?_
  refine lv_iadd hx hb dJx4a65c_add_72be8_18 ?_
  refine zk_ti (y := 1) (by decide) ?_
  refine va_put (D := D) (ci := 0) (v := .int 1) (ty := .int) (C := RJx4a65c) (T := TJx4a65c) (N := 3) hx hb hts iJx4a65c tyJx4a65c tyJx4a65c_ok nmJx4a65c hown hK hP hD hS 1 rfl rfl 2 (by decide) (hts _ wq56) (fun _ h9 => h9) rfl (by decide +kernel) rfl rfl (Nat.le_of_ble_eq_true rfl) dJx4a65c_add_72be8_19 (fun H locs hP hD hS => ?_)
  have hP : va_P D vwCl [(v, .inr (7, fs)), (a, .inr (0, [.int mk, .ref (u1 0 0), .int 1])), ((u1 0 0), .inl (yc 2, 10, .inr (.inr (.inr (.inr (va_up (fun _ => none) 0 (some v)))))))] H := hP
  have hD : va_D A [(v, .inr (7, fs)), (a, .inr (0, [.int mk, .ref (u1 0 0), .int 1])), ((u1 0 0), .inl (yc 2, 10, .inr (.inr (.inr (.inr (va_up (fun _ => none) 0 (some v)))))))] := hD
  exact zk_rv (w1 := fun u => [(v, .inr (7, fs)), (a, .inr (0, [.int mk, .ref (u 0 0), .int 1])), ((u 0 0), .inl (yc 2, 10, .inr (.inr (.inr (.inr (va_up (fun _ => none) 0 (some v)))))))]) hx hb hr hlk hP hD hS (fun _ _ => u1 0 0) [0, 1, 2] rfl rfl (by first | omega | (dsimp only; omega)) (by first | omega | (dsimp only; omega)) dJx4a65c_add_72be8_22
set_option maxHeartbeats 4000000 in
set_option maxRecDepth 100000 in
theorem ll_add3G_7 (l : Launch) (D : va_G) (yc : Nat → ClassId) (e0 : Nat) (a v x n : Nat) (mk : Int32) (f : Nat → Option Nat) (fs : List Value) (mi : Nat) (sz : Nat) (h1 : 1 ≤ n) (h2 : n < 1024) : Met l yJx4a65c_add_72be8 (ws_ yJx4a65c_add_72be8 cJx4a65c_add_72be8 4 none) { frames := 5, cells := 1, slots := (lgr n), locals := 180 } (PE D yc e0 [(a, .inr (0, [.int mk, .ref x, .int (nI n)])), (v, .inr (7, fs)), (x, .inl (yc 2, n, .inr (.inr (.inr (.inr f)))))] sz 7 n f mi [.ref a, .ref v, .ref x, .int (nI n)]) (va_Qv (fun _ => True) (WD D (va_A [(a, .inr (0, [.int mk, .ref x, .int (nI n)])), (v, .inr (7, fs)), (x, .inl (yc 2, n, .inr (.inr (.inr (.inr f)))))] sz) (fun u => [(v, .inr (7, fs)), (a, .inr (0, [.int mk, .ref (u 0 0), .int (nI (n + 1))])), ((u 0 0), .inl (yc 2, (lgr n), .inr (.inr (.inr (.inr (va_up (va_cpy f (fun _ => none) 0 0 n) n (some v)))))))])) (va_A [(a, .inr (0, [.int mk, .ref x, .int (nI n)])), (v, .inr (7, fs)), (x, .inl (yc 2, n, .inr (.inr (.inr (.inr f)))))] sz)) 1 (lgr n) (va_A [(a, .inr (0, [.int mk, .ref x, .int (nI n)])), (v, .inr (7, fs)), (x, .inl (yc 2, n, .inr (.inr (.inr (.inr f)))))] sz) := by
  refine zk_ME (y := yJx4a65c_add_72be8) (cc := cJx4a65c_add_72be8) (maxL := 4) (w := [(a, .inr (0, [.int mk, .ref x, .int (nI n)])), (v, .inr (7, fs)), (x, .inl (yc 2, n, .inr (.inr (.inr (.inr f)))))]) (av := [.ref a, .ref v, .ref x, .int (nI n)]) (Qc := fun A => va_Qv (fun _ => True) (WD D A (fun u => [(v, .inr (7, fs)), (a, .inr (0, [.int mk, .ref (u 0 0), .int (nI (n + 1))])), ((u 0 0), .inl (yc 2, (lgr n), .inr (.inr (.inr (.inr (va_up (va_cpy f (fun _ => none) 0 0 n) n (some v)))))))])) A) (by decide) (Nat.le_of_ble_eq_true rfl) ?_
  intro p e s m args below meth c A ls hx hb hml hr hlk hown hts hP hD hS hA hC hM hE hl
  have hK := hC.1
  have hN := hC.2.1
  have hl : lv_has ls 4 [(0, .ref a), (1, .ref v), (2, .ref x), (3, .int (nI n))] := hl
  generalize hHH : s.heap = H at hP ⊢
  have hS : va_S A s.heap H [] := by rw [← hHH]; exact hS
  have hg := lgr_b h2
  refine lv_iload_n hx hb dJx4a65c_add_72be8_0 rfl (lv_at hl 3 rfl) ?_
  refine lv_aload_n hx hb dJx4a65c_add_72be8_1 rfl (lv_at hl 2 rfl) ?_
  refine va_alen hx hb hK hP 2 2 rfl rfl (v := nI n) rfl dJx4a65c_add_72be8_2 ?_
  refine lv_icmp_ne (tgt := 11) hx hb dJx4a65c_add_72be8_3 (by decide) (fun h9 => absurd rfl h9) (fun _ => ?_)
  refine lv_aload_n hx hb dJx4a65c_add_72be8_6 rfl (lv_at hl 0 rfl) ?_
  refine zk_q (wr := [(v, .inr (7, fs))]) (va_runV (As := []) (rest := []) ⟨hx, hb, hml, hown, hts⟩ (ll_grow l D yc e0 a x n mk f 7 _ rfl wr1215 mi H.size h1 h2) (cwV 0 hts (lw_V wq959 wq961 ws30 wq5 wq962) rfl rfl rfl (by decide +kernel) ⟨(Nat.le_of_ble_eq_true rfl), (Nat.le_of_ble_eq_true rfl)⟩) (pe_V hC hP hD hS hA hM hE [0, 2] rfl rfl 0 0 rfl rfl) rfl rfl hl.1 rfl (lv_room (Nat.le_of_ble_eq_true rfl)) dJx4a65c_add_72be8_7 ⟨(by first | omega | (dsimp only; omega)), (by first | omega | (dsimp only; omega))⟩) hP hD hS hA [0, 2] [1] rfl rfl rfl (by decide) (fun u1 H locs hP hD hS => ?_)
  have hP : va_P D vwCl [(v, .inr (7, fs)), (a, .inr (0, [.int mk, .ref (u1 0 0), .int (nI n)])), ((u1 0 0), .inl (yc 2, (lgr n), .inr (.inr (.inr (.inr (va_cpy f (fun _ => none) 0 0 n))))))] H := hP
  have hD : va_D A [(v, .inr (7, fs)), (a, .inr (0, [.int mk, .ref (u1 0 0), .int (nI n)])), ((u1 0 0), .inl (yc 2, (lgr n), .inr (.inr (.inr (.inr (va_cpy f (fun _ => none) 0 0 n))))))] := hD
  refine zk_tv (y := .ref (u1 0 0)) rfl ?_
  refine lv_astore_n (lv' := [(2, .ref (u1 0 0)), (0, .ref a), (1, .ref v), (3, .int (nI n))]) hx hb dJx4a65c_add_72be8_10 rfl hl (by decide) rfl (fun ls hl => ?_)
  refine lv_aload_n hx hb dJx4a65c_add_72be8_11 rfl (lv_at hl 0 rfl) ?_
  refine lv_iload_n hx hb dJx4a65c_add_72be8_12 rfl (lv_at hl 3 rfl) ?_
  refine lv_aload_n hx hb dJx4a65c_add_72be8_13 rfl (lv_at hl 2 rfl) ?_
  refine va_astqO hx hb hK hP hD hS 2 2 0 7 rfl rfl (hN _ wr1215 rfl) rfl rfl (vp_in_nI (by omega) (by omega)) dJx4a65c_add_72be8_14 (fun H locs hP hD hS => ?_)
  have ef9 : va_up (va_cpy f (fun _ => none) 0 0 n) (nI n : Int32).toNatClampNeg (some v) = (va_up (va_cpy f (fun _ => none) 0 0 n) n (some v)) := by rw [nI_clamp (by omega)]
  rw [ef9] at hP hD
  have hP : va_P D vwCl [(v, .inr (7, fs)), (a, .inr (0, [.int mk, .ref (u1 0 0), .int (nI n)])), ((u1 0 0), .inl (yc 2, (lgr n), .inr (.inr (.inr (.inr (va_up (va_cpy f (fun _ => none) 0 0 n) n (some v)))))))] H := hP
  have hD : va_D A [(v, .inr (7, fs)), (a, .inr (0, [.int mk, .ref (u1 0 0), .int (nI n)])), ((u1 0 0), .inl (yc 2, (lgr n), .inr (.inr (.inr (.inr (va_up (va_cpy f (fun _ => none) 0 0 n) n (some v)))))))] := hD
  refine lv_aload_n hx hb dJx4a65c_add_72be8_15 rfl (lv_at hl 1 rfl) ?_
  refine lv_iload_n hx hb dJx4a65c_add_72be8_16 rfl (lv_at hl 3 rfl) ?_
  refine lv_iconst (v := 1) hx hb dJx4a65c_add_72be8_17 (by decide) ?_
  refine lv_iadd hx hb dJx4a65c_add_72be8_18 ?_
  refine zk_ti (y := nI (n + 1)) (nI_1 n) ?_
  refine va_put (D := D) (ci := 0) (v := .int (nI (n + 1))) (ty := .int) (C := RJx4a65c) (T := TJx4a65c) (N := 3) hx hb hts iJx4a65c tyJx4a65c tyJx4a65c_ok nmJx4a65c hown hK hP hD hS 1 rfl rfl 2 (by decide) (hts _ wq56) (fun _ h9 => h9) rfl (by decide +kernel) rfl rfl (Nat.le_of_ble_eq_true rfl) dJx4a65c_add_72be8_19 (fun H locs hP hD hS => ?_)
  have hP : va_P D vwCl [(v, .inr (7, fs)), (a, .inr (0, [.int mk, .ref (u1 0 0), .int (nI (n + 1))])), ((u1 0 0), .inl (yc 2, (lgr n), .inr (.inr (.inr (.inr (va_up (va_cpy f (fun _ => none) 0 0 n) n (some v)))))))] H := hP
  have hD : va_D A [(v, .inr (7, fs)), (a, .inr (0, [.int mk, .ref (u1 0 0), .int (nI (n + 1))])), ((u1 0 0), .inl (yc 2, (lgr n), .inr (.inr (.inr (.inr (va_up (va_cpy f (fun _ => none) 0 0 n) n (some v)))))))] := hD
  exact zk_rv (w1 := fun u => [(v, .inr (7, fs)), (a, .inr (0, [.int mk, .ref (u 0 0), .int (nI (n + 1))])), ((u 0 0), .inl (yc 2, (lgr n), .inr (.inr (.inr (.inr (va_up (va_cpy f (fun _ => none) 0 0 n) n (some v)))))))]) hx hb hr hlk hP hD hS (fun _ _ => u1 0 0) [0, 1, 2] rfl rfl (by first | omega | (dsimp only; omega)) (by first | omega | (dsimp only; omega)) dJx4a65c_add_72be8_22
set_option maxHeartbeats 4000000 in
set_option maxRecDepth 100000 in
theorem ll_addR_7 (l : Launch) (D : va_G) (yc : Nat → ClassId) (e0 : Nat) (a v x cap n : Nat) (mk : Int32) (f : Nat → Option Nat) (fs : List Value) (sz : Nat) (h1 : n < cap) (h2 : cap < 2048) : Met l yJx4a65c_add_9ea2d (ws_ yJx4a65c_add_9ea2d cJx4a65c_add_9ea2d 2 (some .boolean)) { frames := 1, cells := 0, slots := 0, locals := 23 } (PR D yc e0 [(a, .inr (0, [.int mk, .ref x, .int (nI n)])), (v, .inr (7, fs)), (x, .inl (yc 2, cap, .inr (.inr (.inr (.inr f)))))] sz [.ref a, .ref v]) (va_Qi (fun r u => r = 1) (WD D (va_A [(a, .inr (0, [.int mk, .ref x, .int (nI n)])), (v, .inr (7, fs)), (x, .inl (yc 2, cap, .inr (.inr (.inr (.inr f)))))] sz) (fun u => [(a, .inr (0, [.int (mk + 1), .ref x, .int (nI (n + 1))])), (v, .inr (7, fs)), (x, .inl (yc 2, cap, .inr (.inr (.inr (.inr (va_up f n (some v)))))))])) (va_A [(a, .inr (0, [.int mk, .ref x, .int (nI n)])), (v, .inr (7, fs)), (x, .inl (yc 2, cap, .inr (.inr (.inr (.inr f)))))] sz)) 0 0 (va_A [(a, .inr (0, [.int mk, .ref x, .int (nI n)])), (v, .inr (7, fs)), (x, .inl (yc 2, cap, .inr (.inr (.inr (.inr f)))))] sz) := by
  refine zk_M (y := yJx4a65c_add_9ea2d) (cc := cJx4a65c_add_9ea2d) (maxL := 2) (w := [(a, .inr (0, [.int mk, .ref x, .int (nI n)])), (v, .inr (7, fs)), (x, .inl (yc 2, cap, .inr (.inr (.inr (.inr f)))))]) (av := [.ref a, .ref v]) (Qc := fun A => va_Qi (fun r u => r = 1) (WD D A (fun u => [(a, .inr (0, [.int (mk + 1), .ref x, .int (nI (n + 1))])), (v, .inr (7, fs)), (x, .inl (yc 2, cap, .inr (.inr (.inr (.inr (va_up f n (some v)))))))])) A) (by decide) (Nat.le_of_ble_eq_true rfl) ?_
  intro p e s m args below meth c A ls hx hb hml hr hlk hown hnm hts hP hD hS hA hC hl
  have hK := hC.1
  have hN := hC.2.1
  have hl : lv_has ls 2 [(0, .ref a), (1, .ref v)] := hl
  generalize hHH : s.heap = H at hP ⊢
  have hS : va_S A s.heap H [] := by rw [← hHH]; exact hS
  refine lv_aload_n hx hb dJx4a65c_add_9ea2d_0 rfl (lv_at hl 0 rfl) ?_
  refine lv_dup hx hb dJx4a65c_add_9ea2d_1 rfl ?_
  refine va_get (D := D) (ci := 0) (v := .int mk) (C := RJx4a65c) (T := TJx4a65c) (N := 3) hx hb hts iJx4a65c hown hK hP 0 rfl rfl 0 (by decide) (hts _ wq58) (u_same (hts _ wq59)) rfl dJx4a65c_add_9ea2d_2 ?_
  refine lv_iconst (v := 1) hx hb dJx4a65c_add_9ea2d_5 (by decide) ?_
  refine lv_iadd hx hb dJx4a65c_add_9ea2d_6 ?_
  refine va_put (D := D) (ci := 0) (v := .int (mk + 1)) (ty := .int) (C := RJx4a65c) (T := TJx4a65c) (N := 3) hx hb hts iJx4a65c tyJx4a65c tyJx4a65c_ok nmJx4a65c hown hK hP hD hS 0 rfl rfl 0 (by decide) (hts _ wq58) (u_same (hts _ wq59)) rfl (by decide +kernel) rfl rfl (Nat.le_of_ble_eq_true rfl) dJx4a65c_add_9ea2d_7 (fun H locs hP hD hS => ?_)
  have hP : va_P D vwCl [(a, .inr (0, [.int (mk + 1), .ref x, .int (nI n)])), (v, .inr (7, fs)), (x, .inl (yc 2, cap, .inr (.inr (.inr (.inr f)))))] H := hP
  have hD : va_D A [(a, .inr (0, [.int (mk + 1), .ref x, .int (nI n)])), (v, .inr (7, fs)), (x, .inl (yc 2, cap, .inr (.inr (.inr (.inr f)))))] := hD
  refine lv_aload_n hx hb dJx4a65c_add_9ea2d_10 rfl (lv_at hl 0 rfl) ?_
  refine lv_aload_n hx hb dJx4a65c_add_9ea2d_11 rfl (lv_at hl 1 rfl) ?_
  refine lv_aload_n hx hb dJx4a65c_add_9ea2d_12 rfl (lv_at hl 0 rfl) ?_
  refine va_get (D := D) (ci := 0) (v := .ref x) (C := RJx4a65c) (T := TJx4a65c) (N := 3) hx hb hts iJx4a65c hown hK hP 0 rfl rfl 1 (by decide) (hts _ wq55) (fun _ h9 => h9) rfl dJx4a65c_add_9ea2d_13 ?_
  refine lv_aload_n hx hb dJx4a65c_add_9ea2d_16 rfl (lv_at hl 0 rfl) ?_
  refine va_get (D := D) (ci := 0) (v := .int (nI n)) (C := RJx4a65c) (T := TJx4a65c) (N := 3) hx hb hts iJx4a65c hown hK hP 0 rfl rfl 2 (by decide) (hts _ wq56) (fun _ h9 => h9) rfl dJx4a65c_add_9ea2d_17 ?_
  refine zk_v (wr := []) (va_runV (As := [.ref v, .ref x, .int (nI n)]) (rest := []) ⟨hx, hb, hml, hown, hts⟩ (ll_add3R_7 l D yc e0 a v x cap n (mk + 1) f fs H.size h1 h2) (cwV 3 hts (lw_V wq955 wq957 ws29 wq5 wq958) rfl rfl rfl (by decide +kernel) ⟨(Nat.le_of_ble_eq_true rfl), (Nat.le_of_ble_eq_true rfl)⟩) (zk_pV hC hP hD hS hA [0, 1, 2] rfl rfl 0 0 rfl rfl) rfl rfl hl.1 rfl (lv_room (Nat.le_of_ble_eq_true rfl)) dJx4a65c_add_9ea2d_20 ⟨(by first | omega | (dsimp only; omega)), (by first | omega | (dsimp only; omega))⟩) hP hD hS hA [0, 1, 2] [] rfl rfl rfl (by decide) (fun u1 H locs hP hD hS => ?_)
  have hP : va_P D vwCl [(a, .inr (0, [.int (mk + 1), .ref x, .int (nI (n + 1))])), (v, .inr (7, fs)), (x, .inl (yc 2, cap, .inr (.inr (.inr (.inr (va_up f n (some v)))))))] H := hP
  have hD : va_D A [(a, .inr (0, [.int (mk + 1), .ref x, .int (nI (n + 1))])), (v, .inr (7, fs)), (x, .inl (yc 2, cap, .inr (.inr (.inr (.inr (va_up f n (some v)))))))] := hD
  refine lv_iconst (v := 1) hx hb dJx4a65c_add_9ea2d_23 (by decide) ?_
  exact zk_ri (r0 := fun u => 1) (w1 := fun u => [(a, .inr (0, [.int (mk + 1), .ref x, .int (nI (n + 1))])), (v, .inr (7, fs)), (x, .inl (yc 2, cap, .inr (.inr (.inr (.inr (va_up f n (some v)))))))]) hx hb hr hlk hP hD hS (fun _ _ => 0) rfl rfl [0, 1, 2] rfl rfl (by first | omega | (dsimp only; omega)) (by first | omega | (dsimp only; omega)) dJx4a65c_add_9ea2d_24
set_option maxHeartbeats 4000000 in
set_option maxRecDepth 100000 in
theorem ll_addE_7 (l : Launch) (D : va_G) (yc : Nat → ClassId) (e0 : Nat) (a v : Nat) (mk : Int32) (fs : List Value) (sz : Nat) : Met l yJx4a65c_add_9ea2d (ws_ yJx4a65c_add_9ea2d cJx4a65c_add_9ea2d 2 (some .boolean)) { frames := 4, cells := 1, slots := 10, locals := 93 } (PR D yc e0 [(a, .inr (0, [.int mk, .ref e0, .int 0])), (v, .inr (7, fs))] sz [.ref a, .ref v]) (va_Qi (fun r u => r = 1) (WD D (va_A [(a, .inr (0, [.int mk, .ref e0, .int 0])), (v, .inr (7, fs))] sz) (fun u => [(v, .inr (7, fs)), (a, .inr (0, [.int (mk + 1), .ref (u 0 0), .int 1])), ((u 0 0), .inl (yc 2, 10, .inr (.inr (.inr (.inr (va_up (fun _ => none) 0 (some v)))))))])) (va_A [(a, .inr (0, [.int mk, .ref e0, .int 0])), (v, .inr (7, fs))] sz)) 1 10 (va_A [(a, .inr (0, [.int mk, .ref e0, .int 0])), (v, .inr (7, fs))] sz) := by
  refine zk_M (y := yJx4a65c_add_9ea2d) (cc := cJx4a65c_add_9ea2d) (maxL := 2) (w := [(a, .inr (0, [.int mk, .ref e0, .int 0])), (v, .inr (7, fs))]) (av := [.ref a, .ref v]) (Qc := fun A => va_Qi (fun r u => r = 1) (WD D A (fun u => [(v, .inr (7, fs)), (a, .inr (0, [.int (mk + 1), .ref (u 0 0), .int 1])), ((u 0 0), .inl (yc 2, 10, .inr (.inr (.inr (.inr (va_up (fun _ => none) 0 (some v)))))))])) A) (by decide) (Nat.le_of_ble_eq_true rfl) ?_
  intro p e s m args below meth c A ls hx hb hml hr hlk hown hnm hts hP hD hS hA hC hl
  have hK := hC.1
  have hN := hC.2.1
  have hl : lv_has ls 2 [(0, .ref a), (1, .ref v)] := hl
  generalize hHH : s.heap = H at hP ⊢
  have hS : va_S A s.heap H [] := by rw [← hHH]; exact hS
  refine lv_aload_n hx hb dJx4a65c_add_9ea2d_0 rfl (lv_at hl 0 rfl) ?_
  refine lv_dup hx hb dJx4a65c_add_9ea2d_1 rfl ?_
  refine va_get (D := D) (ci := 0) (v := .int mk) (C := RJx4a65c) (T := TJx4a65c) (N := 3) hx hb hts iJx4a65c hown hK hP 0 rfl rfl 0 (by decide) (hts _ wq58) (u_same (hts _ wq59)) rfl dJx4a65c_add_9ea2d_2 ?_
  refine lv_iconst (v := 1) hx hb dJx4a65c_add_9ea2d_5 (by decide) ?_
  refine lv_iadd hx hb dJx4a65c_add_9ea2d_6 ?_
  refine va_put (D := D) (ci := 0) (v := .int (mk + 1)) (ty := .int) (C := RJx4a65c) (T := TJx4a65c) (N := 3) hx hb hts iJx4a65c tyJx4a65c tyJx4a65c_ok nmJx4a65c hown hK hP hD hS 0 rfl rfl 0 (by decide) (hts _ wq58) (u_same (hts _ wq59)) rfl (by decide +kernel) rfl rfl (Nat.le_of_ble_eq_true rfl) dJx4a65c_add_9ea2d_7 (fun H locs hP hD hS => ?_)
  have hP : va_P D vwCl [(a, .inr (0, [.int (mk + 1), .ref e0, .int 0])), (v, .inr (7, fs))] H := hP
  have hD : va_D A [(a, .inr (0, [.int (mk + 1), .ref e0, .int 0])), (v, .inr (7, fs))] := hD
  refine lv_aload_n hx hb dJx4a65c_add_9ea2d_10 rfl (lv_at hl 0 rfl) ?_
  refine lv_aload_n hx hb dJx4a65c_add_9ea2d_11 rfl (lv_at hl 1 rfl) ?_
  refine lv_aload_n hx hb dJx4a65c_add_9ea2d_12 rfl (lv_at hl 0 rfl) ?_
  refine va_get (D := D) (ci := 0) (v := .ref e0) (C := RJx4a65c) (T := TJx4a65c) (N := 3) hx hb hts iJx4a65c hown hK hP 0 rfl rfl 1 (by decide) (hts _ wq55) (fun _ h9 => h9) rfl dJx4a65c_add_9ea2d_13 ?_
  refine lv_aload_n hx hb dJx4a65c_add_9ea2d_16 rfl (lv_at hl 0 rfl) ?_
  refine va_get (D := D) (ci := 0) (v := .int 0) (C := RJx4a65c) (T := TJx4a65c) (N := 3) hx hb hts iJx4a65c hown hK hP 0 rfl rfl 2 (by decide) (hts _ wq56) (fun _ h9 => h9) rfl dJx4a65c_add_9ea2d_17 ?_
  refine zk_v (wr := []) (va_runV (As := [.ref v, .ref e0, .int 0]) (rest := []) ⟨hx, hb, hml, hown, hts⟩ (ll_add3E_7 l D yc e0 a v (mk + 1) fs H.size) (cwV 3 hts (lw_V wq955 wq957 ws29 wq5 wq958) rfl rfl rfl (by decide +kernel) ⟨(Nat.le_of_ble_eq_true rfl), (Nat.le_of_ble_eq_true rfl)⟩) (zk_pV hC hP hD hS hA [0, 1] rfl rfl 0 0 rfl rfl) rfl rfl hl.1 rfl (lv_room (Nat.le_of_ble_eq_true rfl)) dJx4a65c_add_9ea2d_20 ⟨(by first | omega | (dsimp only; omega)), (by first | omega | (dsimp only; omega))⟩) hP hD hS hA [0, 1] [] rfl rfl rfl (by decide) (fun u1 H locs hP hD hS => ?_)
  have hP : va_P D vwCl [(v, .inr (7, fs)), (a, .inr (0, [.int (mk + 1), .ref (u1 0 0), .int 1])), ((u1 0 0), .inl (yc 2, 10, .inr (.inr (.inr (.inr (va_up (fun _ => none) 0 (some v)))))))] H := hP
  have hD : va_D A [(v, .inr (7, fs)), (a, .inr (0, [.int (mk + 1), .ref (u1 0 0), .int 1])), ((u1 0 0), .inl (yc 2, 10, .inr (.inr (.inr (.inr (va_up (fun _ => none) 0 (some v)))))))] := hD
  refine lv_iconst (v := 1) hx hb dJx4a65c_add_9ea2d_23 (by decide) ?_
  exact zk_ri (r0 := fun u => 1) (w1 := fun u => [(v, .inr (7, fs)), (a, .inr (0, [.int (mk + 1), .ref (u 0 0), .int 1])), ((u 0 0), .inl (yc 2, 10, .inr (.inr (.inr (.inr (va_up (fun _ => none) 0 (some v)))))))]) hx hb hr hlk hP hD hS (fun _ _ => u1 0 0) rfl rfl [0, 1, 2] rfl rfl (by first | omega | (dsimp only; omega)) (by first | omega | (dsimp only; omega)) dJx4a65c_add_9ea2d_24
set_option maxHeartbeats 4000000 in
set_option maxRecDepth 100000 in
theorem ll_addG_7 (l : Launch) (D : va_G) (yc : Nat → ClassId) (e0 : Nat) (a v x n : Nat) (mk : Int32) (f : Nat → Option Nat) (fs : List Value) (mi : Nat) (sz : Nat) (h1 : 1 ≤ n) (h2 : n < 1024) : Met l yJx4a65c_add_9ea2d (ws_ yJx4a65c_add_9ea2d cJx4a65c_add_9ea2d 2 (some .boolean)) { frames := 6, cells := 1, slots := (lgr n), locals := 210 } (PE D yc e0 [(a, .inr (0, [.int mk, .ref x, .int (nI n)])), (v, .inr (7, fs)), (x, .inl (yc 2, n, .inr (.inr (.inr (.inr f)))))] sz 7 n f mi [.ref a, .ref v]) (va_Qi (fun r u => r = 1) (WD D (va_A [(a, .inr (0, [.int mk, .ref x, .int (nI n)])), (v, .inr (7, fs)), (x, .inl (yc 2, n, .inr (.inr (.inr (.inr f)))))] sz) (fun u => [(v, .inr (7, fs)), (a, .inr (0, [.int (mk + 1), .ref (u 0 0), .int (nI (n + 1))])), ((u 0 0), .inl (yc 2, (lgr n), .inr (.inr (.inr (.inr (va_up (va_cpy f (fun _ => none) 0 0 n) n (some v)))))))])) (va_A [(a, .inr (0, [.int mk, .ref x, .int (nI n)])), (v, .inr (7, fs)), (x, .inl (yc 2, n, .inr (.inr (.inr (.inr f)))))] sz)) 1 (lgr n) (va_A [(a, .inr (0, [.int mk, .ref x, .int (nI n)])), (v, .inr (7, fs)), (x, .inl (yc 2, n, .inr (.inr (.inr (.inr f)))))] sz) := by
  refine zk_ME (y := yJx4a65c_add_9ea2d) (cc := cJx4a65c_add_9ea2d) (maxL := 2) (w := [(a, .inr (0, [.int mk, .ref x, .int (nI n)])), (v, .inr (7, fs)), (x, .inl (yc 2, n, .inr (.inr (.inr (.inr f)))))]) (av := [.ref a, .ref v]) (Qc := fun A => va_Qi (fun r u => r = 1) (WD D A (fun u => [(v, .inr (7, fs)), (a, .inr (0, [.int (mk + 1), .ref (u 0 0), .int (nI (n + 1))])), ((u 0 0), .inl (yc 2, (lgr n), .inr (.inr (.inr (.inr (va_up (va_cpy f (fun _ => none) 0 0 n) n (some v)))))))])) A) (by decide) (Nat.le_of_ble_eq_true rfl) ?_
  intro p e s m args below meth c A ls hx hb hml hr hlk hown hts hP hD hS hA hC hM hE hl
  have hK := hC.1
  have hN := hC.2.1
  have hl : lv_has ls 2 [(0, .ref a), (1, .ref v)] := hl
  generalize hHH : s.heap = H at hP ⊢
  have hS : va_S A s.heap H [] := by rw [← hHH]; exact hS
  have hg := lgr_b h2
  refine lv_aload_n hx hb dJx4a65c_add_9ea2d_0 rfl (lv_at hl 0 rfl) ?_
  refine lv_dup hx hb dJx4a65c_add_9ea2d_1 rfl ?_
  refine va_get (D := D) (ci := 0) (v := .int mk) (C := RJx4a65c) (T := TJx4a65c) (N := 3) hx hb hts iJx4a65c hown hK hP 0 rfl rfl 0 (by decide) (hts _ wq58) (u_same (hts _ wq59)) rfl dJx4a65c_add_9ea2d_2 ?_
  refine lv_iconst (v := 1) hx hb dJx4a65c_add_9ea2d_5 (by decide) ?_
  refine lv_iadd hx hb dJx4a65c_add_9ea2d_6 ?_
  refine va_put (D := D) (ci := 0) (v := .int (mk + 1)) (ty := .int) (C := RJx4a65c) (T := TJx4a65c) (N := 3) hx hb hts iJx4a65c tyJx4a65c tyJx4a65c_ok nmJx4a65c hown hK hP hD hS 0 rfl rfl 0 (by decide) (hts _ wq58) (u_same (hts _ wq59)) rfl (by decide +kernel) rfl rfl (Nat.le_of_ble_eq_true rfl) dJx4a65c_add_9ea2d_7 (fun H locs hP hD hS => ?_)
  have hP : va_P D vwCl [(a, .inr (0, [.int (mk + 1), .ref x, .int (nI n)])), (v, .inr (7, fs)), (x, .inl (yc 2, n, .inr (.inr (.inr (.inr f)))))] H := hP
  have hD : va_D A [(a, .inr (0, [.int (mk + 1), .ref x, .int (nI n)])), (v, .inr (7, fs)), (x, .inl (yc 2, n, .inr (.inr (.inr (.inr f)))))] := hD
  refine lv_aload_n hx hb dJx4a65c_add_9ea2d_10 rfl (lv_at hl 0 rfl) ?_
  refine lv_aload_n hx hb dJx4a65c_add_9ea2d_11 rfl (lv_at hl 1 rfl) ?_
  refine lv_aload_n hx hb dJx4a65c_add_9ea2d_12 rfl (lv_at hl 0 rfl) ?_
  refine va_get (D := D) (ci := 0) (v := .ref x) (C := RJx4a65c) (T := TJx4a65c) (N := 3) hx hb hts iJx4a65c hown hK hP 0 rfl rfl 1 (by decide) (hts _ wq55) (fun _ h9 => h9) rfl dJx4a65c_add_9ea2d_13 ?_
  refine lv_aload_n hx hb dJx4a65c_add_9ea2d_16 rfl (lv_at hl 0 rfl) ?_
  refine va_get (D := D) (ci := 0) (v := .int (nI n)) (C := RJx4a65c) (T := TJx4a65c) (N := 3) hx hb hts iJx4a65c hown hK hP 0 rfl rfl 2 (by decide) (hts _ wq56) (fun _ h9 => h9) rfl dJx4a65c_add_9ea2d_17 ?_
  refine zk_v (wr := []) (va_runV (As := [.ref v, .ref x, .int (nI n)]) (rest := []) ⟨hx, hb, hml, hown, hts⟩ (ll_add3G_7 l D yc e0 a v x n (mk + 1) f fs mi H.size h1 h2) (cwV 3 hts (lw_V wq955 wq957 ws29 wq5 wq958) rfl rfl rfl (by decide +kernel) ⟨(Nat.le_of_ble_eq_true rfl), (Nat.le_of_ble_eq_true rfl)⟩) (pe_V hC hP hD hS hA hM hE [0, 1, 2] rfl rfl 0 0 rfl rfl) rfl rfl hl.1 rfl (lv_room (Nat.le_of_ble_eq_true rfl)) dJx4a65c_add_9ea2d_20 ⟨(by first | omega | (dsimp only; omega)), (by first | omega | (dsimp only; omega))⟩) hP hD hS hA [0, 1, 2] [] rfl rfl rfl (by decide) (fun u1 H locs hP hD hS => ?_)
  have hP : va_P D vwCl [(v, .inr (7, fs)), (a, .inr (0, [.int (mk + 1), .ref (u1 0 0), .int (nI (n + 1))])), ((u1 0 0), .inl (yc 2, (lgr n), .inr (.inr (.inr (.inr (va_up (va_cpy f (fun _ => none) 0 0 n) n (some v)))))))] H := hP
  have hD : va_D A [(v, .inr (7, fs)), (a, .inr (0, [.int (mk + 1), .ref (u1 0 0), .int (nI (n + 1))])), ((u1 0 0), .inl (yc 2, (lgr n), .inr (.inr (.inr (.inr (va_up (va_cpy f (fun _ => none) 0 0 n) n (some v)))))))] := hD
  refine lv_iconst (v := 1) hx hb dJx4a65c_add_9ea2d_23 (by decide) ?_
  exact zk_ri (r0 := fun u => 1) (w1 := fun u => [(v, .inr (7, fs)), (a, .inr (0, [.int (mk + 1), .ref (u 0 0), .int (nI (n + 1))])), ((u 0 0), .inl (yc 2, (lgr n), .inr (.inr (.inr (.inr (va_up (va_cpy f (fun _ => none) 0 0 n) n (some v)))))))]) hx hb hr hlk hP hD hS (fun _ _ => u1 0 0) rfl rfl [0, 1, 2] rfl rfl (by first | omega | (dsimp only; omega)) (by first | omega | (dsimp only; omega)) dJx4a65c_add_9ea2d_24
