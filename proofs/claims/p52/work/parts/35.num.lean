/-! ===== numbers: out of the kit's texts to paste ===== -/
theorem wb_tb (n : Nat) : (lN n).toBitVec = BitVec.ofNat 64 n := rfl
theorem wb_inj {a b : Int64} (h : a.toBitVec = b.toBitVec) : a = b := Int64.toBitVec_inj.mp h
theorem wb_tn {n : Nat} (h : n < 2 ^ 64) : (lN n).toBitVec.toNat = n := by rw [wb_tb, BitVec.toNat_ofNat, Nat.mod_eq_of_lt h]
theorem wb_of (x : Int64) : ∃ n, n < 2 ^ 64 ∧ x = lN n := ⟨x.toBitVec.toNat, x.toBitVec.isLt, wb_inj (by rw [wb_tb]; simp)⟩
theorem wb_of32 (x : Int32) : ∃ n, n < 2 ^ 32 ∧ x = nI n := ⟨x.toBitVec.toNat, x.toBitVec.isLt, Int32.toBitVec_inj.mp (by show _ = BitVec.ofNat 32 _; simp)⟩
theorem wb_c : ∀ k, k < 64 → ((nI k).toInt64 &&& 63) = lN k := by decide +kernel
theorem wb_cu : ∀ k, k < 64 → ((nI k).toInt64.toUInt64 &&& Int64.toUInt64 63) = UInt64.ofNat k := by decide +kernel
theorem wb_sm : ∀ k, k < 64 → (BitVec.ofNat 64 k).smod 64 = BitVec.ofNat 64 k := by decide +kernel
theorem wb_pw {a b : Nat} (h : a ≤ b) : 2 ^ b = 2 ^ a * 2 ^ (b - a) := by rw [← Nat.pow_add]; congr 1; omega
theorem wb_lt2 {a b : Nat} (h : a < b) : 2 ^ a < 2 ^ b := Nat.pow_lt_pow_right (by decide) h
theorem wb_mod (n : Nat) : lN n = lN (n % 2 ^ 64) := wb_inj (by rw [wb_tb, wb_tb]; apply BitVec.eq_of_toNat_eq; rw [BitVec.toNat_ofNat, BitVec.toNat_ofNat, Nat.mod_mod])
theorem wb_shr {n k : Nat} (hn : n < 2 ^ 64) (hk : k < 64) : ((lN n).toUInt64 >>> ((nI k).toInt64.toUInt64 &&& Int64.toUInt64 63)).toInt64 = lN (n / 2 ^ k) := by
  rw [wb_cu k hk]
  apply wb_inj
  apply BitVec.eq_of_toNat_eq
  show ((lN n).toUInt64 >>> UInt64.ofNat k).toNat = (BitVec.ofNat 64 _).toNat
  have h1 : (UInt64.ofNat k).toNat = k := by
    show (BitVec.ofNat 64 k).toNat = k
    rw [BitVec.toNat_ofNat, Nat.mod_eq_of_lt (by omega)]
  have h2 : (lN n).toUInt64.toNat = n := wb_tn hn
  rw [UInt64.toNat_shiftRight, h1, h2, Nat.mod_eq_of_lt hk, Nat.shiftRight_eq_div_pow, BitVec.toNat_ofNat, Nat.mod_eq_of_lt (Nat.lt_of_le_of_lt (Nat.div_le_self _ _) hn)]
theorem wb_shl (n : Nat) {k : Nat} (hk : k < 64) : lN n <<< ((nI k).toInt64 &&& 63) = lN (n * 2 ^ k) := by
  rw [wb_c k hk]
  apply wb_inj
  rw [Int64.toBitVec_shiftLeft, wb_tb, wb_tb, wb_tb, wb_sm k hk]
  apply BitVec.eq_of_toNat_eq
  rw [BitVec.shiftLeft_eq', BitVec.toNat_shiftLeft, BitVec.toNat_ofNat, BitVec.toNat_ofNat, BitVec.toNat_ofNat, Nat.mod_eq_of_lt (show k < 2 ^ 64 by omega), Nat.shiftLeft_eq, Nat.mul_mod, Nat.mod_mod, ← Nat.mul_mod]
theorem wb_and {a b : Nat} (ha : a < 2 ^ 64) (hb : b < 2 ^ 64) : lN a &&& lN b = lN (a &&& b) := by
  apply wb_inj
  rw [Int64.toBitVec_and, wb_tb, wb_tb, wb_tb]
  apply BitVec.eq_of_toNat_eq
  rw [BitVec.toNat_and, BitVec.toNat_ofNat, BitVec.toNat_ofNat, BitVec.toNat_ofNat, Nat.mod_eq_of_lt ha, Nat.mod_eq_of_lt hb, Nat.mod_eq_of_lt (Nat.and_lt_two_pow _ hb)]
theorem wb_or {a b : Nat} (ha : a < 2 ^ 64) (hb : b < 2 ^ 64) : lN a ||| lN b = lN (a ||| b) := by
  apply wb_inj
  rw [Int64.toBitVec_or, wb_tb, wb_tb, wb_tb]
  apply BitVec.eq_of_toNat_eq
  rw [BitVec.toNat_or, BitVec.toNat_ofNat, BitVec.toNat_ofNat, BitVec.toNat_ofNat, Nat.mod_eq_of_lt ha, Nat.mod_eq_of_lt hb, Nat.mod_eq_of_lt (Nat.or_lt_two_pow ha hb)]
theorem wb_mask {n k : Nat} (hn : n < 2 ^ 64) (hk : k < 64) : lN n &&& lN (2 ^ k - 1) = lN (n % 2 ^ k) := by
  rw [wb_and hn (by have := wb_lt2 hk; omega), Nat.and_two_pow_sub_one_eq_mod]
theorem u_tn {n : Nat} (h : n < 2 ^ 64) : (UInt64.ofNat n).toNat = n := Nat.mod_eq_of_lt h
theorem g_or {k p a b : Nat} (hp : 2 ^ k = p) (ha : a < p) (h : b * p + a < 2 ^ 64) : lN (b * p) ||| lN a = lN (b * p + a) := by
  subst hp
  have h1 : b * 2 ^ k ||| a = b * 2 ^ k + a := by rw [← Nat.shiftLeft_eq, Nat.shiftLeft_add_eq_or_of_lt ha]
  have h3 : UInt64.ofNat (b * 2 ^ k) ||| UInt64.ofNat a = UInt64.ofNat (b * 2 ^ k + a) := UInt64.toNat_inj.mp (by rw [UInt64.toNat_or, u_tn (by omega), u_tn (by omega), u_tn h, h1])
  have h2 := congrArg UInt64.toInt64 h3
  exact h2
theorem pf_lI {a : Nat} (h : a < 2 ^ 63) : (lN a).toInt = (a : Int) := lg_ofNat_toInt h
theorem pf_shr {a d : Nat} {D : Int64} (hD : (D.toBitVec.smod 64).toNat = d) (h : a < 2 ^ 62) : lN a >>> D = lN (a / 2 ^ d) := by
  have hd : a / 2 ^ d ≤ a := Nat.div_le_self _ _
  apply Int64.toInt_inj.mp
  have e : (lN a >>> D).toInt = (lN a).toInt >>> d := by
    rw [← hD]
    exact BitVec.toInt_sshiftRight ..
  rw [e, Int.shiftRight_eq_div_pow, pf_lI (by omega), pf_lI (by omega)]
  rfl
theorem pf_andw (x : Int64) : ∃ m, m < 2 ^ 32 ∧ x &&& 4294967295 = lN m := ⟨x.toBitVec.toNat % 2 ^ 32, Nat.mod_lt _ (by decide), Int64.toBitVec_inj.mp (BitVec.eq_of_toNat_eq (by
  show (x.toBitVec &&& 4294967295#64).toNat = (BitVec.ofNat 64 (x.toBitVec.toNat % 2 ^ 32)).toNat
  rw [BitVec.toNat_and, show (4294967295#64).toNat = 2 ^ 32 - 1 from by decide, Nat.and_two_pow_sub_one_eq_mod, BitVec.toNat_ofNat]
  omega))⟩
theorem fb_rng (x : Int32) : -2147483648 ≤ x.toInt ∧ x.toInt < 2147483648 := by
  have h1 := Int32.le_toInt x
  have h2 := Int32.toInt_lt x
  omega
theorem fb_bmod {z : Int} (h1 : -2147483648 ≤ z) (h2 : z < 2147483648) : z.bmod (2 ^ 32) = z := by
  rw [Int.bmod_eq_of_le (by omega) (by omega)]
theorem fb_addI {x y : Int32} (h1 : -2147483648 ≤ x.toInt + y.toInt) (h2 : x.toInt + y.toInt < 2147483648) : (x + y).toInt = x.toInt + y.toInt := by
  rw [Int32.toInt_add, fb_bmod h1 h2]
theorem fb_subI {x y : Int32} (h1 : -2147483648 ≤ x.toInt - y.toInt) (h2 : x.toInt - y.toInt < 2147483648) : (x - y).toInt = x.toInt - y.toInt := by
  rw [Int32.toInt_sub, fb_bmod h1 h2]
theorem fb_mulI {x y : Int32} (h1 : -2147483648 ≤ x.toInt * y.toInt) (h2 : x.toInt * y.toInt < 2147483648) : (x * y).toInt = x.toInt * y.toInt := by
  rw [Int32.toInt_mul, fb_bmod h1 h2]
/-! ===== items as numbers ===== -/
theorem it_time (n : Nat) (hn : n < 2 ^ 64) : v_X3_time (lN n) = nI (n / 2 ^ 40 % 2 ^ 20) := by
  unfold v_X3_time
  rw [show (40 : Int32) = nI 40 from rfl, wb_shr hn (by decide), show (1048575 : Int64) = lN (2 ^ 20 - 1) from rfl, wb_mask (Nat.lt_of_le_of_lt (Nat.div_le_self _ _) hn) (by decide), lN_i]
theorem it_key (n : Nat) (hn : n < 2 ^ 64) : v_X3_key (lN n) = nI (n / 2 ^ 32 % 2 ^ 8) := by
  unfold v_X3_key
  rw [show (32 : Int32) = nI 32 from rfl, wb_shr hn (by decide), show (255 : Int64) = lN (2 ^ 8 - 1) from rfl, wb_mask (Nat.lt_of_le_of_lt (Nat.div_le_self _ _) hn) (by decide), lN_i]
theorem it_kind (n : Nat) (hn : n < 2 ^ 64) : v_X3_kind (lN n) = nI (n / 2 ^ 60) := by
  unfold v_X3_kind
  rw [show (60 : Int32) = nI 60 from rfl, wb_shr hn (by decide), lN_i]
/-- a time is a number of 20 bits, a key one of 8 -/
theorem it_timeE (x : Int64) : ∃ t : Nat, t < 2 ^ 20 ∧ v_X3_time x = nI t := by
  obtain ⟨n, hn, rfl⟩ := wb_of x
  exact ⟨_, Nat.mod_lt _ (by decide), it_time n hn⟩
theorem it_keyE (x : Int64) : ∃ k : Nat, k < 2 ^ 8 ∧ v_X3_key x = nI k := by
  obtain ⟨n, hn, rfl⟩ := wb_of x
  exact ⟨_, Nat.mod_lt _ (by decide), it_key n hn⟩
/-- what an event is as a number -/
theorem it_ev (k t : Nat) (v : Int32) (hk : k < 2 ^ 8) (ht : t < 2 ^ 20) : ∃ m, m < 2 ^ 32 ∧ v_X3_event (nI k) v (nI t) = lN ((t * 2 ^ 8 + k) * 2 ^ 32 + m) := by
  obtain ⟨m, hm, e⟩ := pf_andw v.toInt64
  refine ⟨m, hm, ?_⟩
  unfold v_X3_event
  rw [e, nI_l (by omega), nI_l (by omega), show (40 : Int32) = nI 40 from rfl, show (32 : Int32) = nI 32 from rfl, wb_shl _ (by decide), wb_shl _ (by decide), g_or (k := 40) rfl (by omega) (by omega), show t * 2 ^ 40 + k * 2 ^ 32 = (t * 2 ^ 8 + k) * 2 ^ 32 by omega, g_or (k := 32) rfl (by omega) (by omega)]
theorem ev_time (k t : Nat) (v : Int32) (hk : k < 2 ^ 8) (ht : t < 2 ^ 20) : v_X3_time (v_X3_event (nI k) v (nI t)) = nI t := by
  obtain ⟨m, hm, e⟩ := it_ev k t v hk ht
  rw [e, it_time _ (by omega)]
  congr 1
  omega
theorem ev_kind (k t : Nat) (v : Int32) (hk : k < 2 ^ 8) (ht : t < 2 ^ 20) : v_X3_kind (v_X3_event (nI k) v (nI t)) = 0 := by
  obtain ⟨m, hm, e⟩ := it_ev k t v hk ht
  rw [e, it_kind _ (by omega), show (0 : Int32) = nI 0 from rfl]
  congr 1
  omega
theorem it_mark (t : Nat) (ht : t < 2 ^ 20) : v_X3_mark (nI t) = lN (2 ^ 60 + t * 2 ^ 40) := by
  unfold v_X3_mark
  rw [nI_l (by omega), show (40 : Int32) = nI 40 from rfl, wb_shl _ (by decide), show (1152921504606846976 : Int64) = lN (1 * 2 ^ 60) from rfl, g_or (k := 60) rfl (by omega) (by omega), Nat.one_mul]
theorem mk_time (t : Nat) (ht : t < 2 ^ 20) : v_X3_time (v_X3_mark (nI t)) = nI t := by
  rw [it_mark t ht, it_time _ (by omega)]
  congr 1
  omega
theorem mk_kind (t : Nat) (ht : t < 2 ^ 20) : v_X3_kind (v_X3_mark (nI t)) = 1 := by
  rw [it_mark t ht, it_kind _ (by omega), show (1 : Int32) = nI 1 from rfl]
  congr 1
  omega
theorem ba_kind : v_X3_kind v_X3_barrier = 2 := by
  have e : v_X3_barrier = lN 2305843009213693952 := rfl
  rw [e, it_kind _ (by decide +kernel)]
  decide +kernel
/-! ===== names of spans ===== -/
/-- a span's name: its end e, key k, begin b - 1000 -/
def nmv (e k b : Nat) : Nat := e * 2 ^ 29 + k * 2 ^ 21 + b
theorem nm_of (e k b : Nat) {bb : Int32} (he : e < 2 ^ 30) (hk : k < 2 ^ 8) (hb : b < 2 ^ 21) (hbb : bb + 1000 = nI b) : v_X7_name (nI e) (nI k) bb = lN (nmv e k b) := by
  unfold v_X7_name nmv
  rw [hbb, nI_l (by omega), nI_l (by omega), nI_l (by omega), show (29 : Int32) = nI 29 from rfl, show (21 : Int32) = nI 21 from rfl, wb_shl _ (by decide), wb_shl _ (by decide), g_or (k := 29) rfl (by omega) (by omega), show e * 2 ^ 29 + k * 2 ^ 21 = (e * 2 ^ 8 + k) * 2 ^ 21 by omega, g_or (k := 21) rfl (by omega) (by omega)]
theorem nm_end (e k b : Nat) (he : e < 2 ^ 30) (hk : k < 2 ^ 8) (hb : b < 2 ^ 21) : ((lN (nmv e k b)) >>> ((29 : Int32).toInt64 &&& 63)).toInt32 = nI e := by
  unfold nmv
  rw [pf_shr (d := 29) (by decide) (by omega), lN_i]
  congr 1
  omega
theorem nm_key (e k b : Nat) (he : e < 2 ^ 30) (hk : k < 2 ^ 8) (hb : b < 2 ^ 21) : (((lN (nmv e k b)) >>> ((21 : Int32).toInt64 &&& 63)) &&& 255).toInt32 = nI k := by
  unfold nmv
  rw [pf_shr (d := 21) (by decide) (by omega), show (255 : Int64) = lN (2 ^ 8 - 1) from rfl, wb_mask (by omega) (by decide), lN_i]
  congr 1
  omega
theorem nm_begin (e k b : Nat) (he : e < 2 ^ 30) (hk : k < 2 ^ 8) (hb : b < 2 ^ 21) : (((lN (nmv e k b)) &&& 2097151).toInt32) - 1000 = nI b - 1000 := by
  unfold nmv
  rw [show (2097151 : Int64) = lN (2 ^ 21 - 1) from rfl, wb_mask (by omega) (by decide), lN_i]
  congr 2
  omega
theorem nm_lt (e k b t : Nat) (he : e < 2 ^ 30) (hk : k < 2 ^ 8) (hb : b < 2 ^ 21) (ht : t < 2 ^ 30) : lN (nmv e k b) < lN (t * 2 ^ 29) ↔ e < t := by
  rw [pk_lLT (by unfold nmv; omega) (by omega)]
  unfold nmv
  omega
theorem nm_at {t : Int32} {j : Nat} (h : t + 1 = nI j) (hj : j < 2 ^ 30) : ((t + 1).toInt64) <<< ((29 : Int32).toInt64 &&& 63) = lN (j * 2 ^ 29) := by
  rw [h, nI_l (by omega), show (29 : Int32) = nI 29 from rfl, wb_shl _ (by decide)]
/-! ===== whole numbers behind Int32 ===== -/
theorem zi_lt {a b : Int32} : a < b ↔ a.toInt < b.toInt := Int32.lt_iff_toInt_lt
theorem zi_le {a b : Int32} : a ≤ b ↔ a.toInt ≤ b.toInt := Int32.le_iff_toInt_le
theorem zi_eq {a b : Int32} : a = b ↔ a.toInt = b.toInt := Int32.toInt_inj.symm
theorem zi_max (a b : Int32) : (zmax a b).toInt = max a.toInt b.toInt := by
  unfold zmax
  by_cases h : a < b
  · rw [if_pos h]; have := zi_lt.mp h; omega
  · rw [if_neg h]; have : ¬ a.toInt < b.toInt := fun h2 => h (zi_lt.mpr h2); omega
theorem zi_min (a b : Int32) : (zmin a b).toInt = min a.toInt b.toInt := by
  unfold zmin
  by_cases h : b < a
  · rw [if_pos h]; have := zi_lt.mp h; omega
  · rw [if_neg h]; have : ¬ b.toInt < a.toInt := fun h2 => h (zi_lt.mpr h2); omega
theorem zi_nI {n : Nat} (h : n < 2147483648) : (nI n).toInt = (n : Int) := nI_toInt h
theorem zi_of {x : Int32} (h : 0 ≤ x.toInt) : x = nI x.toInt.toNat := by
  apply Int32.toInt_inj.mp
  have := fb_rng x
  rw [zi_nI (by omega)]
  omega
theorem zi_clamp (x : Int32) : x.toNatClampNeg = x.toInt.toNat := rfl
theorem zi_0 : (0 : Int32).toInt = 0 := by decide
theorem zi_1 : (1 : Int32).toInt = 1 := by decide
theorem zi_m1 : (-1 : Int32).toInt = -1 := by decide
theorem zi_L : (1000000 : Int32).toInt = 1000000 := by decide
theorem zi_inc {x : Int32} (h : x.toInt < 2147483647) : (x + 1).toInt = x.toInt + 1 := by
  have := fb_rng x
  rw [fb_addI (by rw [zi_1]; omega) (by rw [zi_1]; omega), zi_1]
