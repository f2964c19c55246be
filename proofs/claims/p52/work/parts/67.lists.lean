/-! ===== lists of objects: what a growing list needs: the class object of Object[], the elements' cells ===== -/
def PE (D : va_G) (y : Nat → ClassId) (e0 : Nat) (ws : va_W) (sz ci n : Nat) (f : Nat → Option Nat) (mi : Nat) (av : List Value) : Array Value → State → Prop := va_Pc av (fun U => (U.heap.size = sz ∧ va_P D vwCl ws U.heap ∧ va_D (fun _ => True) ws ∧ CX D y e0 (va_A ws sz) U) ∧ va_Mi "[Ljava/lang/Object;" mi U ∧ ∀ i, i < n → ∀ z, f i = some z → ¬ va_A ws sz z ∧ ∃ fs, va_at D vwCl (z, .inr (ci, fs)) U.heap)
theorem PE.blind {D : va_G} {y : Nat → ClassId} {e0 : Nat} {ws : va_W} {sz ci n : Nat} {f : Nat → Option Nat} {mi : Nat} {av : List Value} : FrameBlind (PE D y e0 ws sz ci n f mi av) := fun a U g mk q => by
  obtain ⟨q0, ⟨q1, qP, qD, qC⟩, qM, qE⟩ := q
  exact ⟨q0, ⟨q1, qP, qD, CX.calling g mk a qC⟩, qM, qE⟩
section ZE
variable {p : Program} {l : Launch} {e : Env} {R : Room} {s : State} {m : MethodId} {args : Array Value} {below : List Frame} {meth : Method} {c : Code} {H : Heap} {locs : List Jvm.Loc} {cells slots : Nat} {Q : State → Prop}
variable {D : va_G} {y : Nat → ClassId} {e0 : Nat} {A : Nat → Prop} {ws wc wr : va_W} {As rest st0 : List Value} {mc ms pc : Nat} {ls : Array Slot} {a : Array Value}
theorem pe_el {ci n mi : Nat} {f : Nat → Option Nat} {is : List Nat} (hD : va_D A ws) (hS : va_S A s.heap H locs) (hA : ∀ q, s.heap.size ≤ q → A q) (hc : is.map (fun i => ws[i]?) = wc.map some) (hE : ∀ i, i < n → ∀ z, f i = some z → ¬ A z ∧ ∃ fs, va_at D vwCl (z, .inr (ci, fs)) s.heap) : ∀ i, i < n → ∀ z, f i = some z → ¬ va_A wc H.size z ∧ ∃ fs, va_at D vwCl (z, .inr (ci, fs)) H := by
  intro i hi z hz
  obtain ⟨h1, fs, h2⟩ := hE i hi z hz
  have h3 : z < s.heap.size := Nat.lt_of_not_le (fun h => h1 (hA z h))
  exact ⟨fun h => h1 (va_free hD hS hA is hc z h), fs, h2.kept (hS.2.1 z h3 h1)⟩
theorem pe_S {ci n mi : Nat} {f : Nat → Option Nat} (hC : CX D y e0 A s) (hP : va_P D vwCl ws H) (hD : va_D A ws) (hS : va_S A s.heap H locs) (hA : ∀ q, s.heap.size ≤ q → A q) (hM : va_Mi "[Ljava/lang/Object;" mi s) (hE : ∀ i, i < n → ∀ z, f i = some z → ¬ A z ∧ ∃ fs, va_at D vwCl (z, .inr (ci, fs)) s.heap) (is : List Nat) (hc : is.map (fun i => ws[i]?) = wc.map some) (hn : va_nd is = true) : PreS s H (PE D y e0 wc H.size ci n f mi As) As :=
  ⟨PE.blind, fun U hU hW => ⟨rfl, ⟨by rw [hU], by rw [hU]; exact zk_sub hP is hc, (hD.sub is hn hc).weaken (fun _ _ _ _ => trivial), hC.go hS (va_free hD hS hA is hc) hU hW⟩, hM.moved hW.alike, by rw [hU]; exact pe_el (mi := mi) hD hS hA hc hE⟩⟩
theorem pe_V {ci n mi : Nat} {f : Nat → Option Nat} {C : String} {b : Addr} (hC : CX D y e0 A s) (hP : va_P D vwCl ws H) (hD : va_D A ws) (hS : va_S A s.heap H locs) (hA : ∀ q, s.heap.size ≤ q → A q) (hM : va_Mi "[Ljava/lang/Object;" mi s) (hE : ∀ i, i < n → ∀ z, f i = some z → ¬ A z ∧ ∃ fs, va_at D vwCl (z, .inr (ci, fs)) s.heap) (is : List Nat) (hc : is.map (fun i => ws[i]?) = wc.map some) (hn : va_nd is = true) (q0 cj : Nat) {fs : List Value} {T : u_T} {N : Nat} (he : ws[q0]? = some (b, .inr (cj, fs))) (hcj : vwCl[cj]? = some (C, T, N)) : PreV s H C b (PE D y e0 wc H.size ci n f mi (.ref b :: As)) As :=
  ⟨PE.blind, va_recv hC.1 hP hcj he, fun U hU hW => ⟨rfl, ⟨by rw [hU], by rw [hU]; exact zk_sub hP is hc, (hD.sub is hn hc).weaken (fun _ _ _ _ => trivial), hC.go hS (va_free hD hS hA is hc) hU hW⟩, hM.moved hW.alike, by rw [hU]; exact pe_el (mi := mi) hD hS hA hc hE⟩⟩
end ZE
theorem zk_ME {l : Launch} {y : MethodName} {cc : ByteArray} {maxL : Nat} {ret : Option FieldType} {rm : Room} {D : va_G} {yc : Nat → ClassId} {e0 sz ci n mi : Nat} {f : Nat → Option Nat} {w : va_W} {av : List Value} {Qc : (Nat → Prop) → Array Value → State → Outcome → State → Prop} {mc ms : Nat} (hy : plainName y.cls = true) (hav : (lg_sl av).length ≤ maxL)
    (body : ∀ (p : Program) (e : Env) (s : State) (m : MethodId) (args : Array Value) (below : List Frame) (meth : Method) (c : Code) (A : Nat → Prop) (ls : Array Slot), p.tables.exec = Jvm.exec → c.code = cc → c.maxLocals = maxL → meth.sig.returnType = ret → meth.locks = false → s.vm.findClass y.cls = some m.cls → (∀ w ∈ lw_all, w.before args s = true) → va_P D vwCl w s.heap → va_D A w → va_S A s.heap s.heap [] → (∀ q, s.heap.size ≤ q → A q) → CX D yc e0 A s → va_Mi "[Ljava/lang/Object;" mi s → (∀ i, i < n → ∀ z, f i = some z → ¬ A z ∧ ∃ fs, va_at D vwCl (z, .inr (ci, fs)) s.heap) → lv_has ls maxL (lv_args 0 av) →
      W p l e rm s m args below meth c s.heap [] 0 0 (MQ below (Qc A) args s mc ms A) (F0 m 0 ls [])) :
    Met l y (ws_ y cc maxL ret) rm (PE D yc e0 w sz ci n f mi av) (Qc (va_A w sz)) mc ms (va_A w sz) := by
  refine Met.ofW (cc := cc) (maxL := maxL) (ret := ret) hy rfl ?_
  intro p e s m args below meth c s₁ B hml hv
  obtain ⟨rfl, ⟨hsz, hP, hD0, hC⟩, hM, hE⟩ := hv
  subst hsz
  have hts := atoms_spec (ws := ws_ y cc maxL ret) B.pre
  rw [lg_entry_eq]
  exact body p e s m _ below meth c _ _ B.exec B.bytes hml B.returns B.notSynchronized (findClass_of_methodNamed B.named) (fun w h => hts w (List.mem_cons_of_mem _ h)) hP (hD0.self) va_S.rf (fun q h => Or.inr h) hC hM hE (lv_entry av hav)
def lgr (n : Nat) : Nat := n + (if 1 < n / 2 then n / 2 else 1)
theorem lgr_b {n : Nat} (h : n < 1024) : n < lgr n ∧ lgr n < 2048 := by
  unfold lgr
  split <;> omega
theorem lgr_i {n : Nat} (h : n < 1024) : nI n + (if nI 1 < nI (n / 2) then nI (n / 2) else nI 1) = nI (lgr n) := by
  unfold lgr
  by_cases c : 1 < n / 2
  · rw [if_pos (nI_lt c (by omega)), if_pos c, nI_add]
  · rw [if_neg (nI_nlt (by omega) (by decide)), if_neg c, nI_add]
theorem lshr {n : Nat} (h : n < 1024) : nI n >>> ((1 : Int32) &&& 31) = nI (n / 2) := by
  have k := pk_shrN (n := n) (by omega) ((1 : Int32) &&& 31) 1 (by decide)
  rw [Nat.pow_one] at k
  exact k
set_option maxHeartbeats 4000000 in
set_option maxRecDepth 100000 in
theorem ll_newLength (l : Launch) (n : Nat) (h1 : 1 ≤ n) (h2 : n < 1024) : Met l yJ8_newLength_cabcc (ws_ yJ8_newLength_cabcc cJ8_newLength_cabcc 4 (some .int)) { frames := 1, cells := 0, slots := 0, locals := 20 } (PN [.int (nI n), .int (nI 1), .int (nI (n / 2))]) (zQ (some (.int (nI (lgr n))))) 0 0 zno := by
  refine tk_N (by decide) (Nat.le_of_ble_eq_true rfl) ?_
  intro p e s m args below meth c ls hx hb hml hr hlk hown hts hl
  have hl : lv_has ls 4 [(0, .int (nI n)), (1, .int (nI 1)), (2, .int (nI (n / 2)))] := hl
  have hg := lgr_b h2
  refine lv_iload_n hx hb dJ8_newLength_cabcc_0 rfl (lv_at hl 0 rfl) ?_
  refine lv_iload_n hx hb dJ8_newLength_cabcc_1 rfl (lv_at hl 1 rfl) ?_
  refine lv_iload_n hx hb dJ8_newLength_cabcc_2 rfl (lv_at hl 2 rfl) ?_
  refine va_mmax hx hb (by rw [hml]; exact hl.1.symm) hown (hts _ wq970) (hts _ wq375) (hts _ wq14) (hts _ wq376) (Nat.le_of_ble_eq_true rfl) (Nat.le_of_ble_eq_true rfl) (Nat.le_of_ble_eq_true rfl) (Nat.le_of_ble_eq_true rfl) dJ8_newLength_cabcc_3 ?_
  refine lv_iadd hx hb dJ8_newLength_cabcc_6 ?_
  refine zk_ti (y := nI (lgr n)) (lgr_i h2) ?_
  refine lv_istore_n (lv' := [(3, .int (nI (lgr n))), (0, .int (nI n)), (1, .int (nI 1)), (2, .int (nI (n / 2)))]) hx hb dJ8_newLength_cabcc_7 rfl hl (by decide) rfl (fun ls hl => ?_)
  refine lv_iconst (v := 0) hx hb dJ8_newLength_cabcc_8 (by decide) ?_
  refine lv_iload_n hx hb dJ8_newLength_cabcc_9 rfl (lv_at hl 0 rfl) ?_
  refine lv_icmp_ge (tgt := 21) hx hb dJ8_newLength_cabcc_10 (by decide) (fun h9 => absurd h9 (nI_nle (by omega) (by omega))) (fun _ => ?_)
  refine lv_iload_n hx hb dJ8_newLength_cabcc_13 rfl (lv_at hl 0 rfl) ?_
  refine lv_ldc hx hb hown (hts _ wq971) dJ8_newLength_cabcc_14 ?_
  refine lv_icmp_gt (tgt := 21) hx hb dJ8_newLength_cabcc_16 (by decide) (fun h9 => absurd h9 (show ¬ nI 2147483639 < nI (lgr n) from nI_nlt (by omega) (by decide))) (fun _ => ?_)
  refine lv_iload_n hx hb dJ8_newLength_cabcc_19 rfl (lv_at hl 0 rfl) ?_
  exact ze_i hx hb hr hlk rfl rfl dJ8_newLength_cabcc_20
set_option maxHeartbeats 4000000 in
set_option maxRecDepth 100000 in
theorem ll_copyOf3 (l : Launch) (D : va_G) (yc : Nat → ClassId) (e0 : Nat) (x cp n : Nat) (f : Nat → Option Nat) (ci : Nat) (r : vw_C) (hci : vwCl[ci]? = some r) (hca : Cond.castable r.1 "java/lang/Object" ∈ lw_tbl) (mi sz : Nat) (h1 : cp < n) (h2 : n < 2048) : Met l yJ7_copyOf_6403c (ws_ yJ7_copyOf_6403c cJ7_copyOf_6403c 4 (some (.array (.object "java/lang/Object")))) { frames := 1, cells := 1, slots := n, locals := 40 } (PE D yc e0 [(x, .inl (yc 2, cp, .inr (.inr (.inr (.inr f)))))] sz ci cp f mi [.ref x, .int (nI n), .ref mi]) (va_Qq (fun r u => r = some (u 0 0)) (WD D (va_A [(x, .inl (yc 2, cp, .inr (.inr (.inr (.inr f)))))] sz) (fun u => [(x, .inl (yc 2, cp, .inr (.inr (.inr (.inr f))))), ((u 0 0), .inl (yc 2, n, .inr (.inr (.inr (.inr (va_cpy f (fun _ => none) 0 0 cp))))))])) (va_A [(x, .inl (yc 2, cp, .inr (.inr (.inr (.inr f)))))] sz)) 1 n (va_A [(x, .inl (yc 2, cp, .inr (.inr (.inr (.inr f)))))] sz) := by
  refine zk_ME (y := yJ7_copyOf_6403c) (cc := cJ7_copyOf_6403c) (maxL := 4) (w := [(x, .inl (yc 2, cp, .inr (.inr (.inr (.inr f)))))]) (av := [.ref x, .int (nI n), .ref mi]) (Qc := fun A => va_Qq (fun r u => r = some (u 0 0)) (WD D A (fun u => [(x, .inl (yc 2, cp, .inr (.inr (.inr (.inr f))))), ((u 0 0), .inl (yc 2, n, .inr (.inr (.inr (.inr (va_cpy f (fun _ => none) 0 0 cp))))))])) A) (by decide) (Nat.le_of_ble_eq_true rfl) ?_
  intro p e s m args below meth c A ls hx hb hml hr hlk hown hts hP hD hS hA hC hM hE hl
  have hK := hC.1
  have hN := hC.2.1
  have hl : lv_has ls 4 [(0, .ref x), (1, .int (nI n)), (2, .ref mi)] := hl
  generalize hHH : s.heap = H at hP ⊢
  have hS : va_S A s.heap H [] := by rw [← hHH]; exact hS
  refine lv_aload_n hx hb dJ7_copyOf_6403c_0 rfl (lv_at hl 2 rfl) ?_
  refine va_ldcM hx hb hown (hts _ wq998) hM dJ7_copyOf_6403c_1 ?_
  refine lv_acmp_ne (rx := some mi) (ry := some mi) (tgt := 13) hx hb dJ7_copyOf_6403c_3 (by decide) (fun h9 => absurd rfl h9) (fun _ => ?_)
  refine lv_iload_n hx hb dJ7_copyOf_6403c_6 rfl (lv_at hl 1 rfl) ?_
  refine va_newq (N' := n) hx hb hown (hts _ wq1000) (hN _ wr999 rfl) hK hP hD hS hA (nI_pos (by omega)) (nI_clamp (by omega)) (by omega) (by first | omega | (dsimp only; omega)) (by first | omega | (dsimp only; omega)) dJ7_copyOf_6403c_7 (fun q1 cA H hK1 hP hD hS => ?_)
  obtain rfl : cA = yc 2 := zk_same hK1 3 2 rfl rfl
  have hP : va_P D vwCl [(x, .inl (yc 2, cp, .inr (.inr (.inr (.inr f))))), (q1, .inl (yc 2, n, .inr (.inr (.inr (.inr (fun _ => none))))))] H := hP
  have hD : va_D A [(x, .inl (yc 2, cp, .inr (.inr (.inr (.inr f))))), (q1, .inl (yc 2, n, .inr (.inr (.inr (.inr (fun _ => none))))))] := hD
  refine lv_goto (tgt := 24) hx hb dJ7_copyOf_6403c_10 (by decide) ?_
  refine lv_astore_n (lv' := [(3, .ref q1), (0, .ref x), (1, .int (nI n)), (2, .ref mi)]) hx hb dJ7_copyOf_6403c_24 rfl hl (by decide) rfl (fun ls hl => ?_)
  refine lv_aload_n hx hb dJ7_copyOf_6403c_25 rfl (lv_at hl 1 rfl) ?_
  refine lv_iconst (v := 0) hx hb dJ7_copyOf_6403c_26 (by decide) ?_
  refine lv_aload_n hx hb dJ7_copyOf_6403c_27 rfl (lv_at hl 0 rfl) ?_
  refine lv_iconst (v := 0) hx hb dJ7_copyOf_6403c_28 (by decide) ?_
  refine lv_aload_n hx hb dJ7_copyOf_6403c_29 rfl (lv_at hl 1 rfl) ?_
  refine va_alen hx hb hK hP 0 2 rfl rfl (v := nI cp) rfl dJ7_copyOf_6403c_30 ?_
  refine lv_iload_n hx hb dJ7_copyOf_6403c_31 rfl (lv_at hl 2 rfl) ?_
  refine va_mmin hx hb (by rw [hml]; exact hl.1.symm) hown (hts _ wq359) (hts _ wq300) (hts _ wq14) (hts _ wq301) (Nat.le_of_ble_eq_true rfl) (Nat.le_of_ble_eq_true rfl) (by first | omega | (dsimp only; omega)) (by first | omega | (dsimp only; omega)) dJ7_copyOf_6403c_32 ?_
  refine zk_ti (y := zmin (nI cp) (nI n)) rfl ?_
  refine zk_ti (y := nI cp) (zmin_l (by omega) (by omega)) ?_
  have ec : (nI cp).toNatClampNeg = cp := nI_clamp (by omega)
  refine va_copyq (E0 := "java/lang/Object") (E1 := "java/lang/Object") (C := r.1) hx hb (by rw [hml]; exact hl.1.symm) hown (hts _ wq360) (hts _ wq327) (hts _ wq326) (hts _ wq20) hK hP hD hS 0 1 2 2 rfl rfl rfl rfl (by decide) (by decide) (nI_pos (by omega)) (by rw [zc0, ec]; omega) (by rw [zc0, ec]; omega) (fun i hi z hz => ?_) (fun comp c0 f1 f2 => ?_) (Nat.le_of_ble_eq_true rfl) (Nat.le_of_ble_eq_true rfl) dJ7_copyOf_6403c_35 (fun H locs hP hD hS => ?_)
  · rw [ec] at hi
    rw [zc0, Nat.zero_add] at hz
    obtain ⟨g1, fs, r', g3, cell, g4, g5, g6, -⟩ := hE i hi z hz
    obtain rfl : r = r' := Option.some.inj (hci.symm.trans g3)
    have g7 : z < s.heap.size := Nat.lt_of_not_le (fun h => g1 (hA z h))
    refine ⟨cell, by rw [hS.2.1 z g7 g1]; exact g4, by rw [g6]; rfl, ?_⟩
    rw [g5]
    exact (hK.1 ci r hci).2.1
  · obtain ⟨c3, t3, w1, w2, w3⟩ := Cond.castable_spec (va_Nw.use (A := args) rfl (hN _ hca rfl))
    cases w2.symm.trans f1
    cases w1.symm.trans f2
    exact w3
  rw [zc0, ec] at hP hD
  have hP : va_P D vwCl [(x, .inl (yc 2, cp, .inr (.inr (.inr (.inr f))))), (q1, .inl (yc 2, n, .inr (.inr (.inr (.inr (va_cpy f (fun _ => none) 0 0 cp))))))] H := hP
  have hD : va_D A [(x, .inl (yc 2, cp, .inr (.inr (.inr (.inr f))))), (q1, .inl (yc 2, n, .inr (.inr (.inr (.inr (va_cpy f (fun _ => none) 0 0 cp))))))] := hD
  refine lv_aload_n hx hb dJ7_copyOf_6403c_38 rfl (lv_at hl 0 rfl) ?_
  exact zk_rq (r0 := (fun u => some (u 0 0))) (w1 := (fun u => [(x, .inl (yc 2, cp, .inr (.inr (.inr (.inr f))))), ((u 0 0), .inl (yc 2, n, .inr (.inr (.inr (.inr (va_cpy f (fun _ => none) 0 0 cp))))))])) hx hb hr (Or.inr ⟨_, rfl⟩) hlk hP hD hS (fun _ _ => q1) rfl [0, 1] rfl rfl (by first | omega | (dsimp only; omega)) (by first | omega | (dsimp only; omega)) dJ7_copyOf_6403c_39
set_option maxHeartbeats 4000000 in
set_option maxRecDepth 100000 in
theorem ll_copyOf2 (l : Launch) (D : va_G) (yc : Nat → ClassId) (e0 : Nat) (x cp n : Nat) (f : Nat → Option Nat) (ci : Nat) (r : vw_C) (hci : vwCl[ci]? = some r) (hca : Cond.castable r.1 "java/lang/Object" ∈ lw_tbl) (mi sz : Nat) (h1 : cp < n) (h2 : n < 2048) : Met l yJ7_copyOf_1904c (ws_ yJ7_copyOf_1904c cJ7_copyOf_1904c 2 (some (.array (.object "java/lang/Object")))) { frames := 2, cells := 1, slots := n, locals := 70 } (PE D yc e0 [(x, .inl (yc 2, cp, .inr (.inr (.inr (.inr f)))))] sz ci cp f mi [.ref x, .int (nI n)]) (va_Qq (fun r u => r = some (u 0 0)) (WD D (va_A [(x, .inl (yc 2, cp, .inr (.inr (.inr (.inr f)))))] sz) (fun u => [(x, .inl (yc 2, cp, .inr (.inr (.inr (.inr f))))), ((u 0 0), .inl (yc 2, n, .inr (.inr (.inr (.inr (va_cpy f (fun _ => none) 0 0 cp))))))])) (va_A [(x, .inl (yc 2, cp, .inr (.inr (.inr (.inr f)))))] sz)) 1 n (va_A [(x, .inl (yc 2, cp, .inr (.inr (.inr (.inr f)))))] sz) := by
  refine zk_ME (y := yJ7_copyOf_1904c) (cc := cJ7_copyOf_1904c) (maxL := 2) (w := [(x, .inl (yc 2, cp, .inr (.inr (.inr (.inr f)))))]) (av := [.ref x, .int (nI n)]) (Qc := fun A => va_Qq (fun r u => r = some (u 0 0)) (WD D A (fun u => [(x, .inl (yc 2, cp, .inr (.inr (.inr (.inr f))))), ((u 0 0), .inl (yc 2, n, .inr (.inr (.inr (.inr (va_cpy f (fun _ => none) 0 0 cp))))))])) A) (by decide) (Nat.le_of_ble_eq_true rfl) ?_
  intro p e s m args below meth c A ls hx hb hml hr hlk hown hts hP hD hS hA hC hM hE hl
  have hK := hC.1
  have hN := hC.2.1
  have hl : lv_has ls 2 [(0, .ref x), (1, .int (nI n))] := hl
  generalize hHH : s.heap = H at hP ⊢
  have hS : va_S A s.heap H [] := by rw [← hHH]; exact hS
  refine lv_aload_n hx hb dJ7_copyOf_1904c_0 rfl (lv_at hl 0 rfl) ?_
  refine lv_iload_n hx hb dJ7_copyOf_1904c_1 rfl (lv_at hl 1 rfl) ?_
  refine lv_aload_n hx hb dJ7_copyOf_1904c_2 rfl (lv_at hl 0 rfl) ?_
  refine va_getC hx hb (by rw [hml]; exact hl.1.symm) hown (hts _ wq978) (va_Dc.use (hN _ wr1224 rfl)) (hts _ wq1223) (hts _ wq979) (hts _ wq994) hM ⟨_, hP 0 _ rfl, rfl, va_nmO (hK.2 2 _ rfl).2 (by decide)⟩ (Nat.le_of_ble_eq_true rfl) (Nat.le_of_ble_eq_true rfl) dJ7_copyOf_1904c_3 ?_
  refine zk_q (wr := []) (va_runS (As := [.ref x, .int (nI n), .ref mi]) (rest := []) ⟨hx, hb, hml, hown, hts⟩ (ll_copyOf3 l D yc e0 x cp n f ci r hci hca mi H.size h1 h2) (va_cwS 3 hts (lw_S wq995 wq996 wq19 wq997) rfl rfl rfl (by decide +kernel) ⟨(Nat.le_of_ble_eq_true rfl), (Nat.le_of_ble_eq_true rfl)⟩) (pe_S hC hP hD hS hA hM hE [0] rfl rfl) rfl rfl hl.1 rfl (lv_room (Nat.le_of_ble_eq_true rfl)) dJ7_copyOf_1904c_6 ⟨(by first | omega | (dsimp only; omega)), (by first | omega | (dsimp only; omega))⟩) hP hD hS hA [0] [] rfl rfl rfl (by decide) (fun u1 H locs hP hD hS => ?_)
  have hP : va_P D vwCl [(x, .inl (yc 2, cp, .inr (.inr (.inr (.inr f))))), ((u1 0 0), .inl (yc 2, n, .inr (.inr (.inr (.inr (va_cpy f (fun _ => none) 0 0 cp))))))] H := hP
  have hD : va_D A [(x, .inl (yc 2, cp, .inr (.inr (.inr (.inr f))))), ((u1 0 0), .inl (yc 2, n, .inr (.inr (.inr (.inr (va_cpy f (fun _ => none) 0 0 cp))))))] := hD
  refine zk_tv (y := .ref (u1 0 0)) rfl ?_
  exact zk_rq (r0 := (fun u => some (u 0 0))) (w1 := (fun u => [(x, .inl (yc 2, cp, .inr (.inr (.inr (.inr f))))), ((u 0 0), .inl (yc 2, n, .inr (.inr (.inr (.inr (va_cpy f (fun _ => none) 0 0 cp))))))])) hx hb hr (Or.inr ⟨_, rfl⟩) hlk hP hD hS (fun _ _ => u1 0 0) rfl [0, 1] rfl rfl (by first | omega | (dsimp only; omega)) (by first | omega | (dsimp only; omega)) dJ7_copyOf_1904c_9
